theorem dL_law_28 : decode cL_law 28 = .ok (.iload 5, 2) := by decide +kernel
theorem dL_law_30 : decode cL_law 30 = .ok (.aload_n 0, 1) := by decide +kernel
theorem dL_law_31 : decode cL_law 31 = .ok (.arraylength, 1) := by decide +kernel
theorem dL_law_32 : decode cL_law 32 = .ok (.bipush 6, 2) := by decide +kernel
theorem dL_law_34 : decode cL_law 34 = .ok (.isub, 1) := by decide +kernel
theorem dL_law_35 : decode cL_law 35 = .ok (.if_icmp .gt 4228, 3) := by decide +kernel
theorem dL_law_38 : decode cL_law 38 = .ok (.aload_n 0, 1) := by decide +kernel
theorem dL_law_39 : decode cL_law 39 = .ok (.iload 5, 2) := by decide +kernel
theorem dL_law_41 : decode cL_law 41 = .ok (.iaload, 1) := by decide +kernel
theorem dL_law_42 : decode cL_law 42 = .ok (.bipush 63, 2) := by decide +kernel
theorem dL_law_44 : decode cL_law 44 = .ok (.iand, 1) := by decide +kernel
theorem dL_law_45 : decode cL_law 45 = .ok (.tableswitch 4212 0 59 #[255, 323, 398, 473, 541, 609, 684, 752, 832, 900, 968, 1043, 1111, 1167, 1223, 1279, 1347, 1415, 1511, 1631, 1699, 1779, 1835, 1891, 1947, 2015, 2071, 2127, 2195, 2251, 2319, 2375, 2438, 2520, 2588, 2651, 2719, 2799, 2867, 2973, 3048, 3104, 3172, 3228, 3324, 3411, 3479, 3547, 3603, 3659, 3749, 3805, 3861, 3917, 3985, 4041, 4054, 4068, 4134, 4199], 255) := by decide +kernel
theorem dL_law_300 : decode cL_law 300 = .ok (.aload_n 1, 1) := by decide +kernel
theorem dL_law_301 : decode cL_law 301 = .ok (.aload_n 0, 1) := by decide +kernel
theorem dL_law_302 : decode cL_law 302 = .ok (.iload 5, 2) := by decide +kernel
theorem dL_law_304 : decode cL_law 304 = .ok (.iconst 1, 1) := by decide +kernel
theorem dL_law_305 : decode cL_law 305 = .ok (.iadd, 1) := by decide +kernel
theorem dL_law_306 : decode cL_law 306 = .ok (.iaload, 1) := by decide +kernel
theorem dL_law_307 : decode cL_law 307 = .ok (.aload_n 0, 1) := by decide +kernel
theorem dL_law_308 : decode cL_law 308 = .ok (.iload 5, 2) := by decide +kernel
theorem dL_law_310 : decode cL_law 310 = .ok (.iconst 2, 1) := by decide +kernel
theorem dL_law_311 : decode cL_law 311 = .ok (.iadd, 1) := by decide +kernel
theorem dL_law_312 : decode cL_law 312 = .ok (.iaload, 1) := by decide +kernel
theorem dL_law_313 : decode cL_law 313 = .ok (.aload_n 3, 1) := by decide +kernel
theorem dL_law_314 : decode cL_law 314 = .ok (.invokestatic 212, 3) := by decide +kernel
theorem dL_law_317 : decode cL_law 317 = .ok (.istore 6, 2) := by decide +kernel
theorem dL_law_319 : decode cL_law 319 = .ok (.aload_n 2, 1) := by decide +kernel
theorem dL_law_320 : decode cL_law 320 = .ok (.aload_n 0, 1) := by decide +kernel
theorem dL_law_321 : decode cL_law 321 = .ok (.iload 5, 2) := by decide +kernel
theorem dL_law_323 : decode cL_law 323 = .ok (.iconst 1, 1) := by decide +kernel
theorem dL_law_324 : decode cL_law 324 = .ok (.iadd, 1) := by decide +kernel
theorem dL_law_325 : decode cL_law 325 = .ok (.iaload, 1) := by decide +kernel
theorem dL_law_326 : decode cL_law 326 = .ok (.aload_n 0, 1) := by decide +kernel
theorem dL_law_327 : decode cL_law 327 = .ok (.iload 5, 2) := by decide +kernel
theorem dL_law_329 : decode cL_law 329 = .ok (.iconst 2, 1) := by decide +kernel
theorem dL_law_330 : decode cL_law 330 = .ok (.iadd, 1) := by decide +kernel
theorem dL_law_331 : decode cL_law 331 = .ok (.iaload, 1) := by decide +kernel
theorem dL_law_332 : decode cL_law 332 = .ok (.invokevirtual 217, 3) := by decide +kernel
theorem dL_law_335 : decode cL_law 335 = .ok (.istore 7, 2) := by decide +kernel
theorem dL_law_337 : decode cL_law 337 = .ok (.aload_n 2, 1) := by decide +kernel
theorem dL_law_338 : decode cL_law 338 = .ok (.invokevirtual 218, 3) := by decide +kernel
theorem dL_law_341 : decode cL_law 341 = .ok (.iload 6, 2) := by decide +kernel
theorem dL_law_343 : decode cL_law 343 = .ok (.if_icmp .eq 5, 3) := by decide +kernel
theorem dL_law_348 : decode cL_law 348 = .ok (.iload 6, 2) := by decide +kernel
theorem dL_law_350 : decode cL_law 350 = .ok (.ifCond .ne 15, 3) := by decide +kernel
theorem dL_law_353 : decode cL_law 353 = .ok (.aload_n 3, 1) := by decide +kernel
theorem dL_law_354 : decode cL_law 354 = .ok (.iconst 0, 1) := by decide +kernel
theorem dL_law_355 : decode cL_law 355 = .ok (.laload, 1) := by decide +kernel
theorem dL_law_356 : decode cL_law 356 = .ok (.iload 7, 2) := by decide +kernel
theorem dL_law_358 : decode cL_law 358 = .ok (.i2l, 1) := by decide +kernel
theorem dL_law_359 : decode cL_law 359 = .ok (.lcmp, 1) := by decide +kernel
theorem dL_law_360 : decode cL_law 360 = .ok (.ifCond .eq 5, 3) := by decide +kernel
theorem dL_law_365 : decode cL_law 365 = .ok (.goto 3892, 3) := by decide +kernel
theorem dL_law_4257 : decode cL_law 4257 = .ok (.iinc 5 6, 3) := by decide +kernel
theorem dL_law_4260 : decode cL_law 4260 = .ok (.goto (-4232), 3) := by decide +kernel
theorem dL_law_797 : decode cL_law 797 = .ok (.aload_n 1, 1) := by decide +kernel
theorem dL_law_798 : decode cL_law 798 = .ok (.aload_n 0, 1) := by decide +kernel
theorem dL_law_799 : decode cL_law 799 = .ok (.iload 5, 2) := by decide +kernel
theorem dL_law_801 : decode cL_law 801 = .ok (.iconst 1, 1) := by decide +kernel
theorem dL_law_802 : decode cL_law 802 = .ok (.iadd, 1) := by decide +kernel
theorem dL_law_803 : decode cL_law 803 = .ok (.iaload, 1) := by decide +kernel
theorem dL_law_804 : decode cL_law 804 = .ok (.aload_n 0, 1) := by decide +kernel
theorem dL_law_805 : decode cL_law 805 = .ok (.iload 5, 2) := by decide +kernel
theorem dL_law_807 : decode cL_law 807 = .ok (.iconst 2, 1) := by decide +kernel
theorem dL_law_808 : decode cL_law 808 = .ok (.iadd, 1) := by decide +kernel
theorem dL_law_809 : decode cL_law 809 = .ok (.iaload, 1) := by decide +kernel
theorem dL_law_810 : decode cL_law 810 = .ok (.aload_n 0, 1) := by decide +kernel
theorem dL_law_811 : decode cL_law 811 = .ok (.iload 5, 2) := by decide +kernel
theorem dL_law_813 : decode cL_law 813 = .ok (.iconst 3, 1) := by decide +kernel
theorem dL_law_814 : decode cL_law 814 = .ok (.iadd, 1) := by decide +kernel
theorem dL_law_815 : decode cL_law 815 = .ok (.iaload, 1) := by decide +kernel
theorem dL_law_816 : decode cL_law 816 = .ok (.aload_n 3, 1) := by decide +kernel
theorem dL_law_817 : decode cL_law 817 = .ok (.invokestatic 240, 3) := by decide +kernel
theorem dL_law_820 : decode cL_law 820 = .ok (.istore 6, 2) := by decide +kernel
theorem dL_law_822 : decode cL_law 822 = .ok (.aload_n 2, 1) := by decide +kernel
theorem dL_law_823 : decode cL_law 823 = .ok (.aload_n 0, 1) := by decide +kernel
theorem dL_law_824 : decode cL_law 824 = .ok (.iload 5, 2) := by decide +kernel
theorem dL_law_826 : decode cL_law 826 = .ok (.iconst 1, 1) := by decide +kernel
theorem dL_law_827 : decode cL_law 827 = .ok (.iadd, 1) := by decide +kernel
theorem dL_law_828 : decode cL_law 828 = .ok (.iaload, 1) := by decide +kernel
theorem dL_law_829 : decode cL_law 829 = .ok (.aload_n 0, 1) := by decide +kernel
theorem dL_law_830 : decode cL_law 830 = .ok (.iload 5, 2) := by decide +kernel
theorem dL_law_832 : decode cL_law 832 = .ok (.iconst 2, 1) := by decide +kernel
theorem dL_law_833 : decode cL_law 833 = .ok (.iadd, 1) := by decide +kernel
theorem dL_law_834 : decode cL_law 834 = .ok (.iaload, 1) := by decide +kernel
theorem dL_law_835 : decode cL_law 835 = .ok (.aload_n 0, 1) := by decide +kernel
theorem dL_law_836 : decode cL_law 836 = .ok (.iload 5, 2) := by decide +kernel
theorem dL_law_838 : decode cL_law 838 = .ok (.iconst 3, 1) := by decide +kernel
theorem dL_law_839 : decode cL_law 839 = .ok (.iadd, 1) := by decide +kernel
theorem dL_law_840 : decode cL_law 840 = .ok (.iaload, 1) := by decide +kernel
theorem dL_law_841 : decode cL_law 841 = .ok (.invokevirtual 243, 3) := by decide +kernel
theorem dL_law_844 : decode cL_law 844 = .ok (.istore 7, 2) := by decide +kernel
theorem dL_law_846 : decode cL_law 846 = .ok (.aload_n 2, 1) := by decide +kernel
theorem dL_law_847 : decode cL_law 847 = .ok (.invokevirtual 218, 3) := by decide +kernel
theorem dL_law_850 : decode cL_law 850 = .ok (.iload 6, 2) := by decide +kernel
theorem dL_law_852 : decode cL_law 852 = .ok (.if_icmp .eq 5, 3) := by decide +kernel
theorem dL_law_857 : decode cL_law 857 = .ok (.iload 6, 2) := by decide +kernel
theorem dL_law_859 : decode cL_law 859 = .ok (.ifCond .ne 15, 3) := by decide +kernel
theorem dL_law_862 : decode cL_law 862 = .ok (.aload_n 3, 1) := by decide +kernel
theorem dL_law_863 : decode cL_law 863 = .ok (.iconst 0, 1) := by decide +kernel
theorem dL_law_864 : decode cL_law 864 = .ok (.laload, 1) := by decide +kernel
theorem dL_law_865 : decode cL_law 865 = .ok (.iload 7, 2) := by decide +kernel
theorem dL_law_867 : decode cL_law 867 = .ok (.i2l, 1) := by decide +kernel
theorem dL_law_868 : decode cL_law 868 = .ok (.lcmp, 1) := by decide +kernel
theorem dL_law_869 : decode cL_law 869 = .ok (.ifCond .eq 5, 3) := by decide +kernel
theorem dL_law_874 : decode cL_law 874 = .ok (.goto 3383, 3) := by decide +kernel
theorem dL_law_4086 : decode cL_law 4086 = .ok (.aload_n 1, 1) := by decide +kernel
theorem dL_law_4087 : decode cL_law 4087 = .ok (.invokevirtual 391, 3) := by decide +kernel
theorem dL_law_4090 : decode cL_law 4090 = .ok (.aload_n 2, 1) := by decide +kernel
theorem dL_law_4091 : decode cL_law 4091 = .ok (.invokevirtual 394, 3) := by decide +kernel
theorem dL_law_4094 : decode cL_law 4094 = .ok (.if_icmp .eq 163, 3) := by decide +kernel
theorem mm_70 : (.initialized RL : Cond) ∈ zx_G := zx_wi 70 (by decide +kernel) (by decide +kernel)
theorem mm_244 : (.methodLink RL 391 yX8_rings : Cond) ∈ zx_G := zx_wi 244 (by decide +kernel) (by decide +kernel)
theorem mm_245 : (.instanceMethod yX8_rings : Cond) ∈ zx_G := zx_wi 245 (by decide +kernel) (by decide +kernel)
theorem mm_246 : (.selects RX8 yX8_rings yX8_rings : Cond) ∈ zx_G := zx_wi 246 (by decide +kernel) (by decide +kernel)
theorem mm_247 : (.code yX8_rings cX8_rings 4 (some .int) : Cond) ∈ zx_G := zx_wi 247 (by decide +kernel) (by decide +kernel)
theorem mm_329 : (.methodLink RL 212 yL_addPerson : Cond) ∈ zx_G := zx_wi 329 (by decide +kernel) (by decide +kernel)
theorem mm_330 : (.static yL_addPerson : Cond) ∈ zx_G := zx_wi 330 (by decide +kernel) (by decide +kernel)
theorem mm_331 : (.codeWith yL_addPerson cL_addPerson 5 (some .int) [(0, 10, 13, 13), (0, 10, 17, 15)] : Cond) ∈ zx_G := zx_wi 331 (by decide +kernel) (by decide +kernel)
theorem mm_565 : (.methodLink RL 240 yL_begin : Cond) ∈ zx_G := zx_wi 565 (by decide +kernel) (by decide +kernel)
theorem mm_566 : (.static yL_begin : Cond) ∈ zx_G := zx_wi 566 (by decide +kernel) (by decide +kernel)
theorem mm_567 : (.codeWith yL_begin cL_begin 6 (some .int) [(0, 12, 15, 21), (0, 12, 19, 13), (0, 12, 23, 15)] : Cond) ∈ zx_G := zx_wi 567 (by decide +kernel) (by decide +kernel)
theorem mm_1599 : (.methodLink RL 218 yX15_thrown : Cond) ∈ zx_G := zx_wi 1599 (by decide +kernel) (by decide +kernel)
theorem mm_1600 : (.instanceMethod yX15_thrown : Cond) ∈ zx_G := zx_wi 1600 (by decide +kernel) (by decide +kernel)
theorem mm_1601 : (.selects RX15 yX15_thrown yX15_thrown : Cond) ∈ zx_G := zx_wi 1601 (by decide +kernel) (by decide +kernel)
theorem mm_1602 : (.code yX15_thrown cX15_thrown 1 (some .int) : Cond) ∈ zx_G := zx_wi 1602 (by decide +kernel) (by decide +kernel)
theorem mm_1603 : (.methodLink RL 217 yX15_addPerson : Cond) ∈ zx_G := zx_wi 1603 (by decide +kernel) (by decide +kernel)
theorem mm_1604 : (.instanceMethod yX15_addPerson : Cond) ∈ zx_G := zx_wi 1604 (by decide +kernel) (by decide +kernel)
theorem mm_1605 : (.selects RX15 yX15_addPerson yX15_addPerson : Cond) ∈ zx_G := zx_wi 1605 (by decide +kernel) (by decide +kernel)
theorem mm_1606 : (.code yX15_addPerson cX15_addPerson 3 (some .int) : Cond) ∈ zx_G := zx_wi 1606 (by decide +kernel) (by decide +kernel)
theorem mm_1783 : (.methodLink RL 243 yX15_begin : Cond) ∈ zx_G := zx_wi 1783 (by decide +kernel) (by decide +kernel)
theorem mm_1784 : (.instanceMethod yX15_begin : Cond) ∈ zx_G := zx_wi 1784 (by decide +kernel) (by decide +kernel)
theorem mm_1785 : (.selects RX15 yX15_begin yX15_begin : Cond) ∈ zx_G := zx_wi 1785 (by decide +kernel) (by decide +kernel)
theorem mm_1786 : (.code yX15_begin cX15_begin 5 (some .int) : Cond) ∈ zx_G := zx_wi 1786 (by decide +kernel) (by decide +kernel)
theorem mm_2425 : (.methodLink RL 394 yX15_rings : Cond) ∈ zx_G := zx_wi 2425 (by decide +kernel) (by decide +kernel)
theorem mm_2426 : (.instanceMethod yX15_rings : Cond) ∈ zx_G := zx_wi 2426 (by decide +kernel) (by decide +kernel)
theorem mm_2427 : (.selects RX15 yX15_rings yX15_rings : Cond) ∈ zx_G := zx_wi 2427 (by decide +kernel) (by decide +kernel)
theorem mm_2428 : (.code yX15_rings cX15_rings 4 (some .int) : Cond) ∈ zx_G := zx_wi 2428 (by decide +kernel) (by decide +kernel)
/-- the room of a start that is roomy -/
def zx_R : Room := { frames := 22, cells := 2000000, slots := 20000000, locals := 10936 }
/-- the script: twenty people, six papers, then rings again and again -/
def zx_bad (j : Nat) : Int32 := if j % 6 = 0 then (if j < 120 then 0 else if j < 156 then 7 else 55) else 0
theorem zx_nI6 (i : Nat) : nI i + 6 = nI (i + 6) := nI_add i 6
theorem zx_lcmpe {x y : Int64} (h : x = y) : lg_cmp x y = 0 := by
  subst h
  unfold lg_cmp
  rw [if_neg (by simp), if_pos rfl]
/-- what holds all along the law's walk -/
def zx_LW (p : Program) (l : Launch) (s : State) (m : MethodId) (c : Code) (D : va_G) (cy : Nat → ClassId) (ed b : Nat) (A : Nat → Prop) : Prop :=
  p.tables.exec = Jvm.exec ∧ c.code = code ∧ c.maxLocals = 9 ∧ l.stackTraces = false ∧ s.vm.findClass RL = some m.cls ∧ (∀ w ∈ Cond.initialized RX8 :: zx_G, w.before #[Value.ref b] s = true) ∧ va_X b 3072 zx_bad s s.heap ∧ b < s.heap.size ∧ ¬ A b ∧ (∀ q : Nat, s.heap.size ≤ q → A q) ∧ va_K D vwCl (zx_T cy) s ∧ zx_St ed A s s.heap ∧ zx_Nn (cy 6) s

def zx_S0 (D : va_G) (cy : Nat → ClassId) (ed : Nat) (A : Nat → Prop) (h m0 oa : Nat) (H : Heap) : Prop := ∃ (pe : Nat) (ne : Nat) (pa : Nat) (ro : Nat) (a1 : Nat) (a2 : Nat) (a3 : Nat) (a4 : Nat) (a5 : Nat) (a6 : Nat) (a7 : Nat) (a8 : Nat) (a9 : Nat) (mp : Nat) (mq : Nat) (b1 : Nat) (b2 : Nat) (b3 : Nat) (b4 : Nat) (b5 : Nat) (mc : Int32) (mm : Int32) (mn : Int32) (f1 : Nat → Int32) (f2 : Nat → Int32) (f0 : Nat → Int32) (og : Nat → Int64), va_P D vwCl [(h, .inr (13, [.ref pe, .ref ne, .ref pa, .ref ro, .int 0])), (pe, .inr (9, [.int 0, .ref a1, .ref a2, .ref a3, .ref a4, .ref a5, .ref a6, .ref a7, .ref a8, .ref a9])), (a1, .inl (cy 0, 20, .inl f1)), (a2, .inl (cy 0, 20, .inl f2)), (ro, .inl (cy 0, 20, .inl f0)), (pa, .inr (4, [.int mc, .ref ed, .int 0])), (m0, .inr (20, [.int 0, .ref mp, .int 0, .ref b1, .ref b2, .ref b3, .ref b4, .ref b5, .ref mq])), (mp, .inr (4, [.int mm, .ref ed, .int 0])), (mq, .inr (4, [.int mn, .ref ed, .int 0])), (oa, .inl (cy 3, 1, .inr (.inl og)))] H ∧ va_D A [(h, .inr (13, [.ref pe, .ref ne, .ref pa, .ref ro, .int 0])), (pe, .inr (9, [.int 0, .ref a1, .ref a2, .ref a3, .ref a4, .ref a5, .ref a6, .ref a7, .ref a8, .ref a9])), (a1, .inl (cy 0, 20, .inl f1)), (a2, .inl (cy 0, 20, .inl f2)), (ro, .inl (cy 0, 20, .inl f0)), (pa, .inr (4, [.int mc, .ref ed, .int 0])), (m0, .inr (20, [.int 0, .ref mp, .int 0, .ref b1, .ref b2, .ref b3, .ref b4, .ref b5, .ref mq])), (mp, .inr (4, [.int mm, .ref ed, .int 0])), (mq, .inr (4, [.int mn, .ref ed, .int 0])), (oa, .inl (cy 3, 1, .inr (.inl og)))]
def zx_S1 (D : va_G) (cy : Nat → ClassId) (ed : Nat) (A : Nat → Prop) (h m0 oa : Nat) (H : Heap) : Prop := ∃ (pe : Nat) (ne : Nat) (pa : Nat) (ro : Nat) (a1 : Nat) (a2 : Nat) (a3 : Nat) (a4 : Nat) (a5 : Nat) (a6 : Nat) (a7 : Nat) (a8 : Nat) (a9 : Nat) (mp : Nat) (mq : Nat) (b1 : Nat) (b2 : Nat) (b3 : Nat) (b4 : Nat) (b5 : Nat) (ep : Nat) (mc : Int32) (mm : Int32) (mn : Int32) (f1 : Nat → Int32) (f2 : Nat → Int32) (f0 : Nat → Int32) (og : Nat → Int64) (gp : Nat → Option Nat) (p0 : Nat) (t0 : List Value), va_P D vwCl [(h, .inr (13, [.ref pe, .ref ne, .ref pa, .ref ro, .int 0])), (pe, .inr (9, [.int 1, .ref a1, .ref a2, .ref a3, .ref a4, .ref a5, .ref a6, .ref a7, .ref a8, .ref a9])), (a1, .inl (cy 0, 20, .inl f1)), (a2, .inl (cy 0, 20, .inl f2)), (ro, .inl (cy 0, 20, .inl f0)), (pa, .inr (4, [.int mc, .ref ed, .int 0])), (m0, .inr (20, [.int 0, .ref mp, .int 0, .ref b1, .ref b2, .ref b3, .ref b4, .ref b5, .ref mq])), (mp, .inr (4, [.int mm, .ref ep, .int 1])), (ep, .inl (cy 2, 10, .inr (.inr (.inr (.inr gp))))), (mq, .inr (4, [.int mn, .ref ed, .int 0])), (oa, .inl (cy 3, 1, .inr (.inl og))), (p0, .inr (17, t0))] H ∧ va_D A [(h, .inr (13, [.ref pe, .ref ne, .ref pa, .ref ro, .int 0])), (pe, .inr (9, [.int 1, .ref a1, .ref a2, .ref a3, .ref a4, .ref a5, .ref a6, .ref a7, .ref a8, .ref a9])), (a1, .inl (cy 0, 20, .inl f1)), (a2, .inl (cy 0, 20, .inl f2)), (ro, .inl (cy 0, 20, .inl f0)), (pa, .inr (4, [.int mc, .ref ed, .int 0])), (m0, .inr (20, [.int 0, .ref mp, .int 0, .ref b1, .ref b2, .ref b3, .ref b4, .ref b5, .ref mq])), (mp, .inr (4, [.int mm, .ref ep, .int 1])), (ep, .inl (cy 2, 10, .inr (.inr (.inr (.inr gp))))), (mq, .inr (4, [.int mn, .ref ed, .int 0])), (oa, .inl (cy 3, 1, .inr (.inl og))), (p0, .inr (17, t0))] ∧ gp 0 = some p0
def zx_S2 (D : va_G) (cy : Nat → ClassId) (ed : Nat) (A : Nat → Prop) (h m0 oa : Nat) (H : Heap) : Prop := ∃ (pe : Nat) (ne : Nat) (pa : Nat) (ro : Nat) (a1 : Nat) (a2 : Nat) (a3 : Nat) (a4 : Nat) (a5 : Nat) (a6 : Nat) (a7 : Nat) (a8 : Nat) (a9 : Nat) (mp : Nat) (mq : Nat) (b1 : Nat) (b2 : Nat) (b3 : Nat) (b4 : Nat) (b5 : Nat) (ep : Nat) (mc : Int32) (mm : Int32) (mn : Int32) (f1 : Nat → Int32) (f2 : Nat → Int32) (f0 : Nat → Int32) (og : Nat → Int64) (gp : Nat → Option Nat) (p0 : Nat) (p1 : Nat) (t0 : List Value) (t1 : List Value), va_P D vwCl [(h, .inr (13, [.ref pe, .ref ne, .ref pa, .ref ro, .int 0])), (pe, .inr (9, [.int 2, .ref a1, .ref a2, .ref a3, .ref a4, .ref a5, .ref a6, .ref a7, .ref a8, .ref a9])), (a1, .inl (cy 0, 20, .inl f1)), (a2, .inl (cy 0, 20, .inl f2)), (ro, .inl (cy 0, 20, .inl f0)), (pa, .inr (4, [.int mc, .ref ed, .int 0])), (m0, .inr (20, [.int 0, .ref mp, .int 0, .ref b1, .ref b2, .ref b3, .ref b4, .ref b5, .ref mq])), (mp, .inr (4, [.int mm, .ref ep, .int 2])), (ep, .inl (cy 2, 10, .inr (.inr (.inr (.inr gp))))), (mq, .inr (4, [.int mn, .ref ed, .int 0])), (oa, .inl (cy 3, 1, .inr (.inl og))), (p0, .inr (17, t0)), (p1, .inr (17, t1))] H ∧ va_D A [(h, .inr (13, [.ref pe, .ref ne, .ref pa, .ref ro, .int 0])), (pe, .inr (9, [.int 2, .ref a1, .ref a2, .ref a3, .ref a4, .ref a5, .ref a6, .ref a7, .ref a8, .ref a9])), (a1, .inl (cy 0, 20, .inl f1)), (a2, .inl (cy 0, 20, .inl f2)), (ro, .inl (cy 0, 20, .inl f0)), (pa, .inr (4, [.int mc, .ref ed, .int 0])), (m0, .inr (20, [.int 0, .ref mp, .int 0, .ref b1, .ref b2, .ref b3, .ref b4, .ref b5, .ref mq])), (mp, .inr (4, [.int mm, .ref ep, .int 2])), (ep, .inl (cy 2, 10, .inr (.inr (.inr (.inr gp))))), (mq, .inr (4, [.int mn, .ref ed, .int 0])), (oa, .inl (cy 3, 1, .inr (.inl og))), (p0, .inr (17, t0)), (p1, .inr (17, t1))] ∧ gp 0 = some p0 ∧ gp 1 = some p1
def zx_S3 (D : va_G) (cy : Nat → ClassId) (ed : Nat) (A : Nat → Prop) (h m0 oa : Nat) (H : Heap) : Prop := ∃ (pe : Nat) (ne : Nat) (pa : Nat) (ro : Nat) (a1 : Nat) (a2 : Nat) (a3 : Nat) (a4 : Nat) (a5 : Nat) (a6 : Nat) (a7 : Nat) (a8 : Nat) (a9 : Nat) (mp : Nat) (mq : Nat) (b1 : Nat) (b2 : Nat) (b3 : Nat) (b4 : Nat) (b5 : Nat) (ep : Nat) (mc : Int32) (mm : Int32) (mn : Int32) (f1 : Nat → Int32) (f2 : Nat → Int32) (f0 : Nat → Int32) (og : Nat → Int64) (gp : Nat → Option Nat) (p0 : Nat) (p1 : Nat) (p2 : Nat) (t0 : List Value) (t1 : List Value) (t2 : List Value), va_P D vwCl [(h, .inr (13, [.ref pe, .ref ne, .ref pa, .ref ro, .int 0])), (pe, .inr (9, [.int 3, .ref a1, .ref a2, .ref a3, .ref a4, .ref a5, .ref a6, .ref a7, .ref a8, .ref a9])), (a1, .inl (cy 0, 20, .inl f1)), (a2, .inl (cy 0, 20, .inl f2)), (ro, .inl (cy 0, 20, .inl f0)), (pa, .inr (4, [.int mc, .ref ed, .int 0])), (m0, .inr (20, [.int 0, .ref mp, .int 0, .ref b1, .ref b2, .ref b3, .ref b4, .ref b5, .ref mq])), (mp, .inr (4, [.int mm, .ref ep, .int 3])), (ep, .inl (cy 2, 10, .inr (.inr (.inr (.inr gp))))), (mq, .inr (4, [.int mn, .ref ed, .int 0])), (oa, .inl (cy 3, 1, .inr (.inl og))), (p0, .inr (17, t0)), (p1, .inr (17, t1)), (p2, .inr (17, t2))] H ∧ va_D A [(h, .inr (13, [.ref pe, .ref ne, .ref pa, .ref ro, .int 0])), (pe, .inr (9, [.int 3, .ref a1, .ref a2, .ref a3, .ref a4, .ref a5, .ref a6, .ref a7, .ref a8, .ref a9])), (a1, .inl (cy 0, 20, .inl f1)), (a2, .inl (cy 0, 20, .inl f2)), (ro, .inl (cy 0, 20, .inl f0)), (pa, .inr (4, [.int mc, .ref ed, .int 0])), (m0, .inr (20, [.int 0, .ref mp, .int 0, .ref b1, .ref b2, .ref b3, .ref b4, .ref b5, .ref mq])), (mp, .inr (4, [.int mm, .ref ep, .int 3])), (ep, .inl (cy 2, 10, .inr (.inr (.inr (.inr gp))))), (mq, .inr (4, [.int mn, .ref ed, .int 0])), (oa, .inl (cy 3, 1, .inr (.inl og))), (p0, .inr (17, t0)), (p1, .inr (17, t1)), (p2, .inr (17, t2))] ∧ gp 0 = some p0 ∧ gp 1 = some p1 ∧ gp 2 = some p2
def zx_S4 (D : va_G) (cy : Nat → ClassId) (ed : Nat) (A : Nat → Prop) (h m0 oa : Nat) (H : Heap) : Prop := ∃ (pe : Nat) (ne : Nat) (pa : Nat) (ro : Nat) (a1 : Nat) (a2 : Nat) (a3 : Nat) (a4 : Nat) (a5 : Nat) (a6 : Nat) (a7 : Nat) (a8 : Nat) (a9 : Nat) (mp : Nat) (mq : Nat) (b1 : Nat) (b2 : Nat) (b3 : Nat) (b4 : Nat) (b5 : Nat) (ep : Nat) (mc : Int32) (mm : Int32) (mn : Int32) (f1 : Nat → Int32) (f2 : Nat → Int32) (f0 : Nat → Int32) (og : Nat → Int64) (gp : Nat → Option Nat) (p0 : Nat) (p1 : Nat) (p2 : Nat) (p3 : Nat) (t0 : List Value) (t1 : List Value) (t2 : List Value) (t3 : List Value), va_P D vwCl [(h, .inr (13, [.ref pe, .ref ne, .ref pa, .ref ro, .int 0])), (pe, .inr (9, [.int 4, .ref a1, .ref a2, .ref a3, .ref a4, .ref a5, .ref a6, .ref a7, .ref a8, .ref a9])), (a1, .inl (cy 0, 20, .inl f1)), (a2, .inl (cy 0, 20, .inl f2)), (ro, .inl (cy 0, 20, .inl f0)), (pa, .inr (4, [.int mc, .ref ed, .int 0])), (m0, .inr (20, [.int 0, .ref mp, .int 0, .ref b1, .ref b2, .ref b3, .ref b4, .ref b5, .ref mq])), (mp, .inr (4, [.int mm, .ref ep, .int 4])), (ep, .inl (cy 2, 10, .inr (.inr (.inr (.inr gp))))), (mq, .inr (4, [.int mn, .ref ed, .int 0])), (oa, .inl (cy 3, 1, .inr (.inl og))), (p0, .inr (17, t0)), (p1, .inr (17, t1)), (p2, .inr (17, t2)), (p3, .inr (17, t3))] H ∧ va_D A [(h, .inr (13, [.ref pe, .ref ne, .ref pa, .ref ro, .int 0])), (pe, .inr (9, [.int 4, .ref a1, .ref a2, .ref a3, .ref a4, .ref a5, .ref a6, .ref a7, .ref a8, .ref a9])), (a1, .inl (cy 0, 20, .inl f1)), (a2, .inl (cy 0, 20, .inl f2)), (ro, .inl (cy 0, 20, .inl f0)), (pa, .inr (4, [.int mc, .ref ed, .int 0])), (m0, .inr (20, [.int 0, .ref mp, .int 0, .ref b1, .ref b2, .ref b3, .ref b4, .ref b5, .ref mq])), (mp, .inr (4, [.int mm, .ref ep, .int 4])), (ep, .inl (cy 2, 10, .inr (.inr (.inr (.inr gp))))), (mq, .inr (4, [.int mn, .ref ed, .int 0])), (oa, .inl (cy 3, 1, .inr (.inl og))), (p0, .inr (17, t0)), (p1, .inr (17, t1)), (p2, .inr (17, t2)), (p3, .inr (17, t3))] ∧ gp 0 = some p0 ∧ gp 1 = some p1 ∧ gp 2 = some p2 ∧ gp 3 = some p3
def zx_S5 (D : va_G) (cy : Nat → ClassId) (ed : Nat) (A : Nat → Prop) (h m0 oa : Nat) (H : Heap) : Prop := ∃ (pe : Nat) (ne : Nat) (pa : Nat) (ro : Nat) (a1 : Nat) (a2 : Nat) (a3 : Nat) (a4 : Nat) (a5 : Nat) (a6 : Nat) (a7 : Nat) (a8 : Nat) (a9 : Nat) (mp : Nat) (mq : Nat) (b1 : Nat) (b2 : Nat) (b3 : Nat) (b4 : Nat) (b5 : Nat) (ep : Nat) (mc : Int32) (mm : Int32) (mn : Int32) (f1 : Nat → Int32) (f2 : Nat → Int32) (f0 : Nat → Int32) (og : Nat → Int64) (gp : Nat → Option Nat) (p0 : Nat) (p1 : Nat) (p2 : Nat) (p3 : Nat) (p4 : Nat) (t0 : List Value) (t1 : List Value) (t2 : List Value) (t3 : List Value) (t4 : List Value), va_P D vwCl [(h, .inr (13, [.ref pe, .ref ne, .ref pa, .ref ro, .int 0])), (pe, .inr (9, [.int 5, .ref a1, .ref a2, .ref a3, .ref a4, .ref a5, .ref a6, .ref a7, .ref a8, .ref a9])), (a1, .inl (cy 0, 20, .inl f1)), (a2, .inl (cy 0, 20, .inl f2)), (ro, .inl (cy 0, 20, .inl f0)), (pa, .inr (4, [.int mc, .ref ed, .int 0])), (m0, .inr (20, [.int 0, .ref mp, .int 0, .ref b1, .ref b2, .ref b3, .ref b4, .ref b5, .ref mq])), (mp, .inr (4, [.int mm, .ref ep, .int 5])), (ep, .inl (cy 2, 10, .inr (.inr (.inr (.inr gp))))), (mq, .inr (4, [.int mn, .ref ed, .int 0])), (oa, .inl (cy 3, 1, .inr (.inl og))), (p0, .inr (17, t0)), (p1, .inr (17, t1)), (p2, .inr (17, t2)), (p3, .inr (17, t3)), (p4, .inr (17, t4))] H ∧ va_D A [(h, .inr (13, [.ref pe, .ref ne, .ref pa, .ref ro, .int 0])), (pe, .inr (9, [.int 5, .ref a1, .ref a2, .ref a3, .ref a4, .ref a5, .ref a6, .ref a7, .ref a8, .ref a9])), (a1, .inl (cy 0, 20, .inl f1)), (a2, .inl (cy 0, 20, .inl f2)), (ro, .inl (cy 0, 20, .inl f0)), (pa, .inr (4, [.int mc, .ref ed, .int 0])), (m0, .inr (20, [.int 0, .ref mp, .int 0, .ref b1, .ref b2, .ref b3, .ref b4, .ref b5, .ref mq])), (mp, .inr (4, [.int mm, .ref ep, .int 5])), (ep, .inl (cy 2, 10, .inr (.inr (.inr (.inr gp))))), (mq, .inr (4, [.int mn, .ref ed, .int 0])), (oa, .inl (cy 3, 1, .inr (.inl og))), (p0, .inr (17, t0)), (p1, .inr (17, t1)), (p2, .inr (17, t2)), (p3, .inr (17, t3)), (p4, .inr (17, t4))] ∧ gp 0 = some p0 ∧ gp 1 = some p1 ∧ gp 2 = some p2 ∧ gp 3 = some p3 ∧ gp 4 = some p4
def zx_S6 (D : va_G) (cy : Nat → ClassId) (ed : Nat) (A : Nat → Prop) (h m0 oa : Nat) (H : Heap) : Prop := ∃ (pe : Nat) (ne : Nat) (pa : Nat) (ro : Nat) (a1 : Nat) (a2 : Nat) (a3 : Nat) (a4 : Nat) (a5 : Nat) (a6 : Nat) (a7 : Nat) (a8 : Nat) (a9 : Nat) (mp : Nat) (mq : Nat) (b1 : Nat) (b2 : Nat) (b3 : Nat) (b4 : Nat) (b5 : Nat) (ep : Nat) (mc : Int32) (mm : Int32) (mn : Int32) (f1 : Nat → Int32) (f2 : Nat → Int32) (f0 : Nat → Int32) (og : Nat → Int64) (gp : Nat → Option Nat) (p0 : Nat) (p1 : Nat) (p2 : Nat) (p3 : Nat) (p4 : Nat) (p5 : Nat) (t0 : List Value) (t1 : List Value) (t2 : List Value) (t3 : List Value) (t4 : List Value) (t5 : List Value), va_P D vwCl [(h, .inr (13, [.ref pe, .ref ne, .ref pa, .ref ro, .int 0])), (pe, .inr (9, [.int 6, .ref a1, .ref a2, .ref a3, .ref a4, .ref a5, .ref a6, .ref a7, .ref a8, .ref a9])), (a1, .inl (cy 0, 20, .inl f1)), (a2, .inl (cy 0, 20, .inl f2)), (ro, .inl (cy 0, 20, .inl f0)), (pa, .inr (4, [.int mc, .ref ed, .int 0])), (m0, .inr (20, [.int 0, .ref mp, .int 0, .ref b1, .ref b2, .ref b3, .ref b4, .ref b5, .ref mq])), (mp, .inr (4, [.int mm, .ref ep, .int 6])), (ep, .inl (cy 2, 10, .inr (.inr (.inr (.inr gp))))), (mq, .inr (4, [.int mn, .ref ed, .int 0])), (oa, .inl (cy 3, 1, .inr (.inl og))), (p0, .inr (17, t0)), (p1, .inr (17, t1)), (p2, .inr (17, t2)), (p3, .inr (17, t3)), (p4, .inr (17, t4)), (p5, .inr (17, t5))] H ∧ va_D A [(h, .inr (13, [.ref pe, .ref ne, .ref pa, .ref ro, .int 0])), (pe, .inr (9, [.int 6, .ref a1, .ref a2, .ref a3, .ref a4, .ref a5, .ref a6, .ref a7, .ref a8, .ref a9])), (a1, .inl (cy 0, 20, .inl f1)), (a2, .inl (cy 0, 20, .inl f2)), (ro, .inl (cy 0, 20, .inl f0)), (pa, .inr (4, [.int mc, .ref ed, .int 0])), (m0, .inr (20, [.int 0, .ref mp, .int 0, .ref b1, .ref b2, .ref b3, .ref b4, .ref b5, .ref mq])), (mp, .inr (4, [.int mm, .ref ep, .int 6])), (ep, .inl (cy 2, 10, .inr (.inr (.inr (.inr gp))))), (mq, .inr (4, [.int mn, .ref ed, .int 0])), (oa, .inl (cy 3, 1, .inr (.inl og))), (p0, .inr (17, t0)), (p1, .inr (17, t1)), (p2, .inr (17, t2)), (p3, .inr (17, t3)), (p4, .inr (17, t4)), (p5, .inr (17, t5))] ∧ gp 0 = some p0 ∧ gp 1 = some p1 ∧ gp 2 = some p2 ∧ gp 3 = some p3 ∧ gp 4 = some p4 ∧ gp 5 = some p5
def zx_S7 (D : va_G) (cy : Nat → ClassId) (ed : Nat) (A : Nat → Prop) (h m0 oa : Nat) (H : Heap) : Prop := ∃ (pe : Nat) (ne : Nat) (pa : Nat) (ro : Nat) (a1 : Nat) (a2 : Nat) (a3 : Nat) (a4 : Nat) (a5 : Nat) (a6 : Nat) (a7 : Nat) (a8 : Nat) (a9 : Nat) (mp : Nat) (mq : Nat) (b1 : Nat) (b2 : Nat) (b3 : Nat) (b4 : Nat) (b5 : Nat) (ep : Nat) (mc : Int32) (mm : Int32) (mn : Int32) (f1 : Nat → Int32) (f2 : Nat → Int32) (f0 : Nat → Int32) (og : Nat → Int64) (gp : Nat → Option Nat) (p0 : Nat) (p1 : Nat) (p2 : Nat) (p3 : Nat) (p4 : Nat) (p5 : Nat) (p6 : Nat) (t0 : List Value) (t1 : List Value) (t2 : List Value) (t3 : List Value) (t4 : List Value) (t5 : List Value) (t6 : List Value), va_P D vwCl [(h, .inr (13, [.ref pe, .ref ne, .ref pa, .ref ro, .int 0])), (pe, .inr (9, [.int 7, .ref a1, .ref a2, .ref a3, .ref a4, .ref a5, .ref a6, .ref a7, .ref a8, .ref a9])), (a1, .inl (cy 0, 20, .inl f1)), (a2, .inl (cy 0, 20, .inl f2)), (ro, .inl (cy 0, 20, .inl f0)), (pa, .inr (4, [.int mc, .ref ed, .int 0])), (m0, .inr (20, [.int 0, .ref mp, .int 0, .ref b1, .ref b2, .ref b3, .ref b4, .ref b5, .ref mq])), (mp, .inr (4, [.int mm, .ref ep, .int 7])), (ep, .inl (cy 2, 10, .inr (.inr (.inr (.inr gp))))), (mq, .inr (4, [.int mn, .ref ed, .int 0])), (oa, .inl (cy 3, 1, .inr (.inl og))), (p0, .inr (17, t0)), (p1, .inr (17, t1)), (p2, .inr (17, t2)), (p3, .inr (17, t3)), (p4, .inr (17, t4)), (p5, .inr (17, t5)), (p6, .inr (17, t6))] H ∧ va_D A [(h, .inr (13, [.ref pe, .ref ne, .ref pa, .ref ro, .int 0])), (pe, .inr (9, [.int 7, .ref a1, .ref a2, .ref a3, .ref a4, .ref a5, .ref a6, .ref a7, .ref a8, .ref a9])), (a1, .inl (cy 0, 20, .inl f1)), (a2, .inl (cy 0, 20, .inl f2)), (ro, .inl (cy 0, 20, .inl f0)), (pa, .inr (4, [.int mc, .ref ed, .int 0])), (m0, .inr (20, [.int 0, .ref mp, .int 0, .ref b1, .ref b2, .ref b3, .ref b4, .ref b5, .ref mq])), (mp, .inr (4, [.int mm, .ref ep, .int 7])), (ep, .inl (cy 2, 10, .inr (.inr (.inr (.inr gp))))), (mq, .inr (4, [.int mn, .ref ed, .int 0])), (oa, .inl (cy 3, 1, .inr (.inl og))), (p0, .inr (17, t0)), (p1, .inr (17, t1)), (p2, .inr (17, t2)), (p3, .inr (17, t3)), (p4, .inr (17, t4)), (p5, .inr (17, t5)), (p6, .inr (17, t6))] ∧ gp 0 = some p0 ∧ gp 1 = some p1 ∧ gp 2 = some p2 ∧ gp 3 = some p3 ∧ gp 4 = some p4 ∧ gp 5 = some p5 ∧ gp 6 = some p6
def zx_S8 (D : va_G) (cy : Nat → ClassId) (ed : Nat) (A : Nat → Prop) (h m0 oa : Nat) (H : Heap) : Prop := ∃ (pe : Nat) (ne : Nat) (pa : Nat) (ro : Nat) (a1 : Nat) (a2 : Nat) (a3 : Nat) (a4 : Nat) (a5 : Nat) (a6 : Nat) (a7 : Nat) (a8 : Nat) (a9 : Nat) (mp : Nat) (mq : Nat) (b1 : Nat) (b2 : Nat) (b3 : Nat) (b4 : Nat) (b5 : Nat) (ep : Nat) (mc : Int32) (mm : Int32) (mn : Int32) (f1 : Nat → Int32) (f2 : Nat → Int32) (f0 : Nat → Int32) (og : Nat → Int64) (gp : Nat → Option Nat) (p0 : Nat) (p1 : Nat) (p2 : Nat) (p3 : Nat) (p4 : Nat) (p5 : Nat) (p6 : Nat) (p7 : Nat) (t0 : List Value) (t1 : List Value) (t2 : List Value) (t3 : List Value) (t4 : List Value) (t5 : List Value) (t6 : List Value) (t7 : List Value), va_P D vwCl [(h, .inr (13, [.ref pe, .ref ne, .ref pa, .ref ro, .int 0])), (pe, .inr (9, [.int 8, .ref a1, .ref a2, .ref a3, .ref a4, .ref a5, .ref a6, .ref a7, .ref a8, .ref a9])), (a1, .inl (cy 0, 20, .inl f1)), (a2, .inl (cy 0, 20, .inl f2)), (ro, .inl (cy 0, 20, .inl f0)), (pa, .inr (4, [.int mc, .ref ed, .int 0])), (m0, .inr (20, [.int 0, .ref mp, .int 0, .ref b1, .ref b2, .ref b3, .ref b4, .ref b5, .ref mq])), (mp, .inr (4, [.int mm, .ref ep, .int 8])), (ep, .inl (cy 2, 10, .inr (.inr (.inr (.inr gp))))), (mq, .inr (4, [.int mn, .ref ed, .int 0])), (oa, .inl (cy 3, 1, .inr (.inl og))), (p0, .inr (17, t0)), (p1, .inr (17, t1)), (p2, .inr (17, t2)), (p3, .inr (17, t3)), (p4, .inr (17, t4)), (p5, .inr (17, t5)), (p6, .inr (17, t6)), (p7, .inr (17, t7))] H ∧ va_D A [(h, .inr (13, [.ref pe, .ref ne, .ref pa, .ref ro, .int 0])), (pe, .inr (9, [.int 8, .ref a1, .ref a2, .ref a3, .ref a4, .ref a5, .ref a6, .ref a7, .ref a8, .ref a9])), (a1, .inl (cy 0, 20, .inl f1)), (a2, .inl (cy 0, 20, .inl f2)), (ro, .inl (cy 0, 20, .inl f0)), (pa, .inr (4, [.int mc, .ref ed, .int 0])), (m0, .inr (20, [.int 0, .ref mp, .int 0, .ref b1, .ref b2, .ref b3, .ref b4, .ref b5, .ref mq])), (mp, .inr (4, [.int mm, .ref ep, .int 8])), (ep, .inl (cy 2, 10, .inr (.inr (.inr (.inr gp))))), (mq, .inr (4, [.int mn, .ref ed, .int 0])), (oa, .inl (cy 3, 1, .inr (.inl og))), (p0, .inr (17, t0)), (p1, .inr (17, t1)), (p2, .inr (17, t2)), (p3, .inr (17, t3)), (p4, .inr (17, t4)), (p5, .inr (17, t5)), (p6, .inr (17, t6)), (p7, .inr (17, t7))] ∧ gp 0 = some p0 ∧ gp 1 = some p1 ∧ gp 2 = some p2 ∧ gp 3 = some p3 ∧ gp 4 = some p4 ∧ gp 5 = some p5 ∧ gp 6 = some p6 ∧ gp 7 = some p7
def zx_S9 (D : va_G) (cy : Nat → ClassId) (ed : Nat) (A : Nat → Prop) (h m0 oa : Nat) (H : Heap) : Prop := ∃ (pe : Nat) (ne : Nat) (pa : Nat) (ro : Nat) (a1 : Nat) (a2 : Nat) (a3 : Nat) (a4 : Nat) (a5 : Nat) (a6 : Nat) (a7 : Nat) (a8 : Nat) (a9 : Nat) (mp : Nat) (mq : Nat) (b1 : Nat) (b2 : Nat) (b3 : Nat) (b4 : Nat) (b5 : Nat) (ep : Nat) (mc : Int32) (mm : Int32) (mn : Int32) (f1 : Nat → Int32) (f2 : Nat → Int32) (f0 : Nat → Int32) (og : Nat → Int64) (gp : Nat → Option Nat) (p0 : Nat) (p1 : Nat) (p2 : Nat) (p3 : Nat) (p4 : Nat) (p5 : Nat) (p6 : Nat) (p7 : Nat) (p8 : Nat) (t0 : List Value) (t1 : List Value) (t2 : List Value) (t3 : List Value) (t4 : List Value) (t5 : List Value) (t6 : List Value) (t7 : List Value) (t8 : List Value), va_P D vwCl [(h, .inr (13, [.ref pe, .ref ne, .ref pa, .ref ro, .int 0])), (pe, .inr (9, [.int 9, .ref a1, .ref a2, .ref a3, .ref a4, .ref a5, .ref a6, .ref a7, .ref a8, .ref a9])), (a1, .inl (cy 0, 20, .inl f1)), (a2, .inl (cy 0, 20, .inl f2)), (ro, .inl (cy 0, 20, .inl f0)), (pa, .inr (4, [.int mc, .ref ed, .int 0])), (m0, .inr (20, [.int 0, .ref mp, .int 0, .ref b1, .ref b2, .ref b3, .ref b4, .ref b5, .ref mq])), (mp, .inr (4, [.int mm, .ref ep, .int 9])), (ep, .inl (cy 2, 10, .inr (.inr (.inr (.inr gp))))), (mq, .inr (4, [.int mn, .ref ed, .int 0])), (oa, .inl (cy 3, 1, .inr (.inl og))), (p0, .inr (17, t0)), (p1, .inr (17, t1)), (p2, .inr (17, t2)), (p3, .inr (17, t3)), (p4, .inr (17, t4)), (p5, .inr (17, t5)), (p6, .inr (17, t6)), (p7, .inr (17, t7)), (p8, .inr (17, t8))] H ∧ va_D A [(h, .inr (13, [.ref pe, .ref ne, .ref pa, .ref ro, .int 0])), (pe, .inr (9, [.int 9, .ref a1, .ref a2, .ref a3, .ref a4, .ref a5, .ref a6, .ref a7, .ref a8, .ref a9])), (a1, .inl (cy 0, 20, .inl f1)), (a2, .inl (cy 0, 20, .inl f2)), (ro, .inl (cy 0, 20, .inl f0)), (pa, .inr (4, [.int mc, .ref ed, .int 0])), (m0, .inr (20, [.int 0, .ref mp, .int 0, .ref b1, .ref b2, .ref b3, .ref b4, .ref b5, .ref mq])), (mp, .inr (4, [.int mm, .ref ep, .int 9])), (ep, .inl (cy 2, 10, .inr (.inr (.inr (.inr gp))))), (mq, .inr (4, [.int mn, .ref ed, .int 0])), (oa, .inl (cy 3, 1, .inr (.inl og))), (p0, .inr (17, t0)), (p1, .inr (17, t1)), (p2, .inr (17, t2)), (p3, .inr (17, t3)), (p4, .inr (17, t4)), (p5, .inr (17, t5)), (p6, .inr (17, t6)), (p7, .inr (17, t7)), (p8, .inr (17, t8))] ∧ gp 0 = some p0 ∧ gp 1 = some p1 ∧ gp 2 = some p2 ∧ gp 3 = some p3 ∧ gp 4 = some p4 ∧ gp 5 = some p5 ∧ gp 6 = some p6 ∧ gp 7 = some p7 ∧ gp 8 = some p8
def zx_S10 (D : va_G) (cy : Nat → ClassId) (ed : Nat) (A : Nat → Prop) (h m0 oa : Nat) (H : Heap) : Prop := ∃ (pe : Nat) (ne : Nat) (pa : Nat) (ro : Nat) (a1 : Nat) (a2 : Nat) (a3 : Nat) (a4 : Nat) (a5 : Nat) (a6 : Nat) (a7 : Nat) (a8 : Nat) (a9 : Nat) (mp : Nat) (mq : Nat) (b1 : Nat) (b2 : Nat) (b3 : Nat) (b4 : Nat) (b5 : Nat) (ep : Nat) (mc : Int32) (mm : Int32) (mn : Int32) (f1 : Nat → Int32) (f2 : Nat → Int32) (f0 : Nat → Int32) (og : Nat → Int64) (gp : Nat → Option Nat) (p0 : Nat) (p1 : Nat) (p2 : Nat) (p3 : Nat) (p4 : Nat) (p5 : Nat) (p6 : Nat) (p7 : Nat) (p8 : Nat) (p9 : Nat) (t0 : List Value) (t1 : List Value) (t2 : List Value) (t3 : List Value) (t4 : List Value) (t5 : List Value) (t6 : List Value) (t7 : List Value) (t8 : List Value) (t9 : List Value), va_P D vwCl [(h, .inr (13, [.ref pe, .ref ne, .ref pa, .ref ro, .int 0])), (pe, .inr (9, [.int 10, .ref a1, .ref a2, .ref a3, .ref a4, .ref a5, .ref a6, .ref a7, .ref a8, .ref a9])), (a1, .inl (cy 0, 20, .inl f1)), (a2, .inl (cy 0, 20, .inl f2)), (ro, .inl (cy 0, 20, .inl f0)), (pa, .inr (4, [.int mc, .ref ed, .int 0])), (m0, .inr (20, [.int 0, .ref mp, .int 0, .ref b1, .ref b2, .ref b3, .ref b4, .ref b5, .ref mq])), (mp, .inr (4, [.int mm, .ref ep, .int 10])), (ep, .inl (cy 2, 10, .inr (.inr (.inr (.inr gp))))), (mq, .inr (4, [.int mn, .ref ed, .int 0])), (oa, .inl (cy 3, 1, .inr (.inl og))), (p0, .inr (17, t0)), (p1, .inr (17, t1)), (p2, .inr (17, t2)), (p3, .inr (17, t3)), (p4, .inr (17, t4)), (p5, .inr (17, t5)), (p6, .inr (17, t6)), (p7, .inr (17, t7)), (p8, .inr (17, t8)), (p9, .inr (17, t9))] H ∧ va_D A [(h, .inr (13, [.ref pe, .ref ne, .ref pa, .ref ro, .int 0])), (pe, .inr (9, [.int 10, .ref a1, .ref a2, .ref a3, .ref a4, .ref a5, .ref a6, .ref a7, .ref a8, .ref a9])), (a1, .inl (cy 0, 20, .inl f1)), (a2, .inl (cy 0, 20, .inl f2)), (ro, .inl (cy 0, 20, .inl f0)), (pa, .inr (4, [.int mc, .ref ed, .int 0])), (m0, .inr (20, [.int 0, .ref mp, .int 0, .ref b1, .ref b2, .ref b3, .ref b4, .ref b5, .ref mq])), (mp, .inr (4, [.int mm, .ref ep, .int 10])), (ep, .inl (cy 2, 10, .inr (.inr (.inr (.inr gp))))), (mq, .inr (4, [.int mn, .ref ed, .int 0])), (oa, .inl (cy 3, 1, .inr (.inl og))), (p0, .inr (17, t0)), (p1, .inr (17, t1)), (p2, .inr (17, t2)), (p3, .inr (17, t3)), (p4, .inr (17, t4)), (p5, .inr (17, t5)), (p6, .inr (17, t6)), (p7, .inr (17, t7)), (p8, .inr (17, t8)), (p9, .inr (17, t9))] ∧ gp 0 = some p0 ∧ gp 1 = some p1 ∧ gp 2 = some p2 ∧ gp 3 = some p3 ∧ gp 4 = some p4 ∧ gp 5 = some p5 ∧ gp 6 = some p6 ∧ gp 7 = some p7 ∧ gp 8 = some p8 ∧ gp 9 = some p9
def zx_S11 (D : va_G) (cy : Nat → ClassId) (ed : Nat) (A : Nat → Prop) (h m0 oa : Nat) (H : Heap) : Prop := ∃ (pe : Nat) (ne : Nat) (pa : Nat) (ro : Nat) (a1 : Nat) (a2 : Nat) (a3 : Nat) (a4 : Nat) (a5 : Nat) (a6 : Nat) (a7 : Nat) (a8 : Nat) (a9 : Nat) (mp : Nat) (mq : Nat) (b1 : Nat) (b2 : Nat) (b3 : Nat) (b4 : Nat) (b5 : Nat) (ep : Nat) (mc : Int32) (mm : Int32) (mn : Int32) (f1 : Nat → Int32) (f2 : Nat → Int32) (f0 : Nat → Int32) (og : Nat → Int64) (gp : Nat → Option Nat) (p0 : Nat) (p1 : Nat) (p2 : Nat) (p3 : Nat) (p4 : Nat) (p5 : Nat) (p6 : Nat) (p7 : Nat) (p8 : Nat) (p9 : Nat) (p10 : Nat) (t0 : List Value) (t1 : List Value) (t2 : List Value) (t3 : List Value) (t4 : List Value) (t5 : List Value) (t6 : List Value) (t7 : List Value) (t8 : List Value) (t9 : List Value) (t10 : List Value), va_P D vwCl [(h, .inr (13, [.ref pe, .ref ne, .ref pa, .ref ro, .int 0])), (pe, .inr (9, [.int 11, .ref a1, .ref a2, .ref a3, .ref a4, .ref a5, .ref a6, .ref a7, .ref a8, .ref a9])), (a1, .inl (cy 0, 20, .inl f1)), (a2, .inl (cy 0, 20, .inl f2)), (ro, .inl (cy 0, 20, .inl f0)), (pa, .inr (4, [.int mc, .ref ed, .int 0])), (m0, .inr (20, [.int 0, .ref mp, .int 0, .ref b1, .ref b2, .ref b3, .ref b4, .ref b5, .ref mq])), (mp, .inr (4, [.int mm, .ref ep, .int 11])), (ep, .inl (cy 2, 15, .inr (.inr (.inr (.inr gp))))), (mq, .inr (4, [.int mn, .ref ed, .int 0])), (oa, .inl (cy 3, 1, .inr (.inl og))), (p0, .inr (17, t0)), (p1, .inr (17, t1)), (p2, .inr (17, t2)), (p3, .inr (17, t3)), (p4, .inr (17, t4)), (p5, .inr (17, t5)), (p6, .inr (17, t6)), (p7, .inr (17, t7)), (p8, .inr (17, t8)), (p9, .inr (17, t9)), (p10, .inr (17, t10))] H ∧ va_D A [(h, .inr (13, [.ref pe, .ref ne, .ref pa, .ref ro, .int 0])), (pe, .inr (9, [.int 11, .ref a1, .ref a2, .ref a3, .ref a4, .ref a5, .ref a6, .ref a7, .ref a8, .ref a9])), (a1, .inl (cy 0, 20, .inl f1)), (a2, .inl (cy 0, 20, .inl f2)), (ro, .inl (cy 0, 20, .inl f0)), (pa, .inr (4, [.int mc, .ref ed, .int 0])), (m0, .inr (20, [.int 0, .ref mp, .int 0, .ref b1, .ref b2, .ref b3, .ref b4, .ref b5, .ref mq])), (mp, .inr (4, [.int mm, .ref ep, .int 11])), (ep, .inl (cy 2, 15, .inr (.inr (.inr (.inr gp))))), (mq, .inr (4, [.int mn, .ref ed, .int 0])), (oa, .inl (cy 3, 1, .inr (.inl og))), (p0, .inr (17, t0)), (p1, .inr (17, t1)), (p2, .inr (17, t2)), (p3, .inr (17, t3)), (p4, .inr (17, t4)), (p5, .inr (17, t5)), (p6, .inr (17, t6)), (p7, .inr (17, t7)), (p8, .inr (17, t8)), (p9, .inr (17, t9)), (p10, .inr (17, t10))] ∧ gp 0 = some p0 ∧ gp 1 = some p1 ∧ gp 2 = some p2 ∧ gp 3 = some p3 ∧ gp 4 = some p4 ∧ gp 5 = some p5 ∧ gp 6 = some p6 ∧ gp 7 = some p7 ∧ gp 8 = some p8 ∧ gp 9 = some p9 ∧ gp 10 = some p10
def zx_S12 (D : va_G) (cy : Nat → ClassId) (ed : Nat) (A : Nat → Prop) (h m0 oa : Nat) (H : Heap) : Prop := ∃ (pe : Nat) (ne : Nat) (pa : Nat) (ro : Nat) (a1 : Nat) (a2 : Nat) (a3 : Nat) (a4 : Nat) (a5 : Nat) (a6 : Nat) (a7 : Nat) (a8 : Nat) (a9 : Nat) (mp : Nat) (mq : Nat) (b1 : Nat) (b2 : Nat) (b3 : Nat) (b4 : Nat) (b5 : Nat) (ep : Nat) (mc : Int32) (mm : Int32) (mn : Int32) (f1 : Nat → Int32) (f2 : Nat → Int32) (f0 : Nat → Int32) (og : Nat → Int64) (gp : Nat → Option Nat) (p0 : Nat) (p1 : Nat) (p2 : Nat) (p3 : Nat) (p4 : Nat) (p5 : Nat) (p6 : Nat) (p7 : Nat) (p8 : Nat) (p9 : Nat) (p10 : Nat) (p11 : Nat) (t0 : List Value) (t1 : List Value) (t2 : List Value) (t3 : List Value) (t4 : List Value) (t5 : List Value) (t6 : List Value) (t7 : List Value) (t8 : List Value) (t9 : List Value) (t10 : List Value) (t11 : List Value), va_P D vwCl [(h, .inr (13, [.ref pe, .ref ne, .ref pa, .ref ro, .int 0])), (pe, .inr (9, [.int 12, .ref a1, .ref a2, .ref a3, .ref a4, .ref a5, .ref a6, .ref a7, .ref a8, .ref a9])), (a1, .inl (cy 0, 20, .inl f1)), (a2, .inl (cy 0, 20, .inl f2)), (ro, .inl (cy 0, 20, .inl f0)), (pa, .inr (4, [.int mc, .ref ed, .int 0])), (m0, .inr (20, [.int 0, .ref mp, .int 0, .ref b1, .ref b2, .ref b3, .ref b4, .ref b5, .ref mq])), (mp, .inr (4, [.int mm, .ref ep, .int 12])), (ep, .inl (cy 2, 15, .inr (.inr (.inr (.inr gp))))), (mq, .inr (4, [.int mn, .ref ed, .int 0])), (oa, .inl (cy 3, 1, .inr (.inl og))), (p0, .inr (17, t0)), (p1, .inr (17, t1)), (p2, .inr (17, t2)), (p3, .inr (17, t3)), (p4, .inr (17, t4)), (p5, .inr (17, t5)), (p6, .inr (17, t6)), (p7, .inr (17, t7)), (p8, .inr (17, t8)), (p9, .inr (17, t9)), (p10, .inr (17, t10)), (p11, .inr (17, t11))] H ∧ va_D A [(h, .inr (13, [.ref pe, .ref ne, .ref pa, .ref ro, .int 0])), (pe, .inr (9, [.int 12, .ref a1, .ref a2, .ref a3, .ref a4, .ref a5, .ref a6, .ref a7, .ref a8, .ref a9])), (a1, .inl (cy 0, 20, .inl f1)), (a2, .inl (cy 0, 20, .inl f2)), (ro, .inl (cy 0, 20, .inl f0)), (pa, .inr (4, [.int mc, .ref ed, .int 0])), (m0, .inr (20, [.int 0, .ref mp, .int 0, .ref b1, .ref b2, .ref b3, .ref b4, .ref b5, .ref mq])), (mp, .inr (4, [.int mm, .ref ep, .int 12])), (ep, .inl (cy 2, 15, .inr (.inr (.inr (.inr gp))))), (mq, .inr (4, [.int mn, .ref ed, .int 0])), (oa, .inl (cy 3, 1, .inr (.inl og))), (p0, .inr (17, t0)), (p1, .inr (17, t1)), (p2, .inr (17, t2)), (p3, .inr (17, t3)), (p4, .inr (17, t4)), (p5, .inr (17, t5)), (p6, .inr (17, t6)), (p7, .inr (17, t7)), (p8, .inr (17, t8)), (p9, .inr (17, t9)), (p10, .inr (17, t10)), (p11, .inr (17, t11))] ∧ gp 0 = some p0 ∧ gp 1 = some p1 ∧ gp 2 = some p2 ∧ gp 3 = some p3 ∧ gp 4 = some p4 ∧ gp 5 = some p5 ∧ gp 6 = some p6 ∧ gp 7 = some p7 ∧ gp 8 = some p8 ∧ gp 9 = some p9 ∧ gp 10 = some p10 ∧ gp 11 = some p11
def zx_S13 (D : va_G) (cy : Nat → ClassId) (ed : Nat) (A : Nat → Prop) (h m0 oa : Nat) (H : Heap) : Prop := ∃ (pe : Nat) (ne : Nat) (pa : Nat) (ro : Nat) (a1 : Nat) (a2 : Nat) (a3 : Nat) (a4 : Nat) (a5 : Nat) (a6 : Nat) (a7 : Nat) (a8 : Nat) (a9 : Nat) (mp : Nat) (mq : Nat) (b1 : Nat) (b2 : Nat) (b3 : Nat) (b4 : Nat) (b5 : Nat) (ep : Nat) (mc : Int32) (mm : Int32) (mn : Int32) (f1 : Nat → Int32) (f2 : Nat → Int32) (f0 : Nat → Int32) (og : Nat → Int64) (gp : Nat → Option Nat) (p0 : Nat) (p1 : Nat) (p2 : Nat) (p3 : Nat) (p4 : Nat) (p5 : Nat) (p6 : Nat) (p7 : Nat) (p8 : Nat) (p9 : Nat) (p10 : Nat) (p11 : Nat) (p12 : Nat) (t0 : List Value) (t1 : List Value) (t2 : List Value) (t3 : List Value) (t4 : List Value) (t5 : List Value) (t6 : List Value) (t7 : List Value) (t8 : List Value) (t9 : List Value) (t10 : List Value) (t11 : List Value) (t12 : List Value), va_P D vwCl [(h, .inr (13, [.ref pe, .ref ne, .ref pa, .ref ro, .int 0])), (pe, .inr (9, [.int 13, .ref a1, .ref a2, .ref a3, .ref a4, .ref a5, .ref a6, .ref a7, .ref a8, .ref a9])), (a1, .inl (cy 0, 20, .inl f1)), (a2, .inl (cy 0, 20, .inl f2)), (ro, .inl (cy 0, 20, .inl f0)), (pa, .inr (4, [.int mc, .ref ed, .int 0])), (m0, .inr (20, [.int 0, .ref mp, .int 0, .ref b1, .ref b2, .ref b3, .ref b4, .ref b5, .ref mq])), (mp, .inr (4, [.int mm, .ref ep, .int 13])), (ep, .inl (cy 2, 15, .inr (.inr (.inr (.inr gp))))), (mq, .inr (4, [.int mn, .ref ed, .int 0])), (oa, .inl (cy 3, 1, .inr (.inl og))), (p0, .inr (17, t0)), (p1, .inr (17, t1)), (p2, .inr (17, t2)), (p3, .inr (17, t3)), (p4, .inr (17, t4)), (p5, .inr (17, t5)), (p6, .inr (17, t6)), (p7, .inr (17, t7)), (p8, .inr (17, t8)), (p9, .inr (17, t9)), (p10, .inr (17, t10)), (p11, .inr (17, t11)), (p12, .inr (17, t12))] H ∧ va_D A [(h, .inr (13, [.ref pe, .ref ne, .ref pa, .ref ro, .int 0])), (pe, .inr (9, [.int 13, .ref a1, .ref a2, .ref a3, .ref a4, .ref a5, .ref a6, .ref a7, .ref a8, .ref a9])), (a1, .inl (cy 0, 20, .inl f1)), (a2, .inl (cy 0, 20, .inl f2)), (ro, .inl (cy 0, 20, .inl f0)), (pa, .inr (4, [.int mc, .ref ed, .int 0])), (m0, .inr (20, [.int 0, .ref mp, .int 0, .ref b1, .ref b2, .ref b3, .ref b4, .ref b5, .ref mq])), (mp, .inr (4, [.int mm, .ref ep, .int 13])), (ep, .inl (cy 2, 15, .inr (.inr (.inr (.inr gp))))), (mq, .inr (4, [.int mn, .ref ed, .int 0])), (oa, .inl (cy 3, 1, .inr (.inl og))), (p0, .inr (17, t0)), (p1, .inr (17, t1)), (p2, .inr (17, t2)), (p3, .inr (17, t3)), (p4, .inr (17, t4)), (p5, .inr (17, t5)), (p6, .inr (17, t6)), (p7, .inr (17, t7)), (p8, .inr (17, t8)), (p9, .inr (17, t9)), (p10, .inr (17, t10)), (p11, .inr (17, t11)), (p12, .inr (17, t12))] ∧ gp 0 = some p0 ∧ gp 1 = some p1 ∧ gp 2 = some p2 ∧ gp 3 = some p3 ∧ gp 4 = some p4 ∧ gp 5 = some p5 ∧ gp 6 = some p6 ∧ gp 7 = some p7 ∧ gp 8 = some p8 ∧ gp 9 = some p9 ∧ gp 10 = some p10 ∧ gp 11 = some p11 ∧ gp 12 = some p12
def zx_S14 (D : va_G) (cy : Nat → ClassId) (ed : Nat) (A : Nat → Prop) (h m0 oa : Nat) (H : Heap) : Prop := ∃ (pe : Nat) (ne : Nat) (pa : Nat) (ro : Nat) (a1 : Nat) (a2 : Nat) (a3 : Nat) (a4 : Nat) (a5 : Nat) (a6 : Nat) (a7 : Nat) (a8 : Nat) (a9 : Nat) (mp : Nat) (mq : Nat) (b1 : Nat) (b2 : Nat) (b3 : Nat) (b4 : Nat) (b5 : Nat) (ep : Nat) (mc : Int32) (mm : Int32) (mn : Int32) (f1 : Nat → Int32) (f2 : Nat → Int32) (f0 : Nat → Int32) (og : Nat → Int64) (gp : Nat → Option Nat) (p0 : Nat) (p1 : Nat) (p2 : Nat) (p3 : Nat) (p4 : Nat) (p5 : Nat) (p6 : Nat) (p7 : Nat) (p8 : Nat) (p9 : Nat) (p10 : Nat) (p11 : Nat) (p12 : Nat) (p13 : Nat) (t0 : List Value) (t1 : List Value) (t2 : List Value) (t3 : List Value) (t4 : List Value) (t5 : List Value) (t6 : List Value) (t7 : List Value) (t8 : List Value) (t9 : List Value) (t10 : List Value) (t11 : List Value) (t12 : List Value) (t13 : List Value), va_P D vwCl [(h, .inr (13, [.ref pe, .ref ne, .ref pa, .ref ro, .int 0])), (pe, .inr (9, [.int 14, .ref a1, .ref a2, .ref a3, .ref a4, .ref a5, .ref a6, .ref a7, .ref a8, .ref a9])), (a1, .inl (cy 0, 20, .inl f1)), (a2, .inl (cy 0, 20, .inl f2)), (ro, .inl (cy 0, 20, .inl f0)), (pa, .inr (4, [.int mc, .ref ed, .int 0])), (m0, .inr (20, [.int 0, .ref mp, .int 0, .ref b1, .ref b2, .ref b3, .ref b4, .ref b5, .ref mq])), (mp, .inr (4, [.int mm, .ref ep, .int 14])), (ep, .inl (cy 2, 15, .inr (.inr (.inr (.inr gp))))), (mq, .inr (4, [.int mn, .ref ed, .int 0])), (oa, .inl (cy 3, 1, .inr (.inl og))), (p0, .inr (17, t0)), (p1, .inr (17, t1)), (p2, .inr (17, t2)), (p3, .inr (17, t3)), (p4, .inr (17, t4)), (p5, .inr (17, t5)), (p6, .inr (17, t6)), (p7, .inr (17, t7)), (p8, .inr (17, t8)), (p9, .inr (17, t9)), (p10, .inr (17, t10)), (p11, .inr (17, t11)), (p12, .inr (17, t12)), (p13, .inr (17, t13))] H ∧ va_D A [(h, .inr (13, [.ref pe, .ref ne, .ref pa, .ref ro, .int 0])), (pe, .inr (9, [.int 14, .ref a1, .ref a2, .ref a3, .ref a4, .ref a5, .ref a6, .ref a7, .ref a8, .ref a9])), (a1, .inl (cy 0, 20, .inl f1)), (a2, .inl (cy 0, 20, .inl f2)), (ro, .inl (cy 0, 20, .inl f0)), (pa, .inr (4, [.int mc, .ref ed, .int 0])), (m0, .inr (20, [.int 0, .ref mp, .int 0, .ref b1, .ref b2, .ref b3, .ref b4, .ref b5, .ref mq])), (mp, .inr (4, [.int mm, .ref ep, .int 14])), (ep, .inl (cy 2, 15, .inr (.inr (.inr (.inr gp))))), (mq, .inr (4, [.int mn, .ref ed, .int 0])), (oa, .inl (cy 3, 1, .inr (.inl og))), (p0, .inr (17, t0)), (p1, .inr (17, t1)), (p2, .inr (17, t2)), (p3, .inr (17, t3)), (p4, .inr (17, t4)), (p5, .inr (17, t5)), (p6, .inr (17, t6)), (p7, .inr (17, t7)), (p8, .inr (17, t8)), (p9, .inr (17, t9)), (p10, .inr (17, t10)), (p11, .inr (17, t11)), (p12, .inr (17, t12)), (p13, .inr (17, t13))] ∧ gp 0 = some p0 ∧ gp 1 = some p1 ∧ gp 2 = some p2 ∧ gp 3 = some p3 ∧ gp 4 = some p4 ∧ gp 5 = some p5 ∧ gp 6 = some p6 ∧ gp 7 = some p7 ∧ gp 8 = some p8 ∧ gp 9 = some p9 ∧ gp 10 = some p10 ∧ gp 11 = some p11 ∧ gp 12 = some p12 ∧ gp 13 = some p13
def zx_S15 (D : va_G) (cy : Nat → ClassId) (ed : Nat) (A : Nat → Prop) (h m0 oa : Nat) (H : Heap) : Prop := ∃ (pe : Nat) (ne : Nat) (pa : Nat) (ro : Nat) (a1 : Nat) (a2 : Nat) (a3 : Nat) (a4 : Nat) (a5 : Nat) (a6 : Nat) (a7 : Nat) (a8 : Nat) (a9 : Nat) (mp : Nat) (mq : Nat) (b1 : Nat) (b2 : Nat) (b3 : Nat) (b4 : Nat) (b5 : Nat) (ep : Nat) (mc : Int32) (mm : Int32) (mn : Int32) (f1 : Nat → Int32) (f2 : Nat → Int32) (f0 : Nat → Int32) (og : Nat → Int64) (gp : Nat → Option Nat) (p0 : Nat) (p1 : Nat) (p2 : Nat) (p3 : Nat) (p4 : Nat) (p5 : Nat) (p6 : Nat) (p7 : Nat) (p8 : Nat) (p9 : Nat) (p10 : Nat) (p11 : Nat) (p12 : Nat) (p13 : Nat) (p14 : Nat) (t0 : List Value) (t1 : List Value) (t2 : List Value) (t3 : List Value) (t4 : List Value) (t5 : List Value) (t6 : List Value) (t7 : List Value) (t8 : List Value) (t9 : List Value) (t10 : List Value) (t11 : List Value) (t12 : List Value) (t13 : List Value) (t14 : List Value), va_P D vwCl [(h, .inr (13, [.ref pe, .ref ne, .ref pa, .ref ro, .int 0])), (pe, .inr (9, [.int 15, .ref a1, .ref a2, .ref a3, .ref a4, .ref a5, .ref a6, .ref a7, .ref a8, .ref a9])), (a1, .inl (cy 0, 20, .inl f1)), (a2, .inl (cy 0, 20, .inl f2)), (ro, .inl (cy 0, 20, .inl f0)), (pa, .inr (4, [.int mc, .ref ed, .int 0])), (m0, .inr (20, [.int 0, .ref mp, .int 0, .ref b1, .ref b2, .ref b3, .ref b4, .ref b5, .ref mq])), (mp, .inr (4, [.int mm, .ref ep, .int 15])), (ep, .inl (cy 2, 15, .inr (.inr (.inr (.inr gp))))), (mq, .inr (4, [.int mn, .ref ed, .int 0])), (oa, .inl (cy 3, 1, .inr (.inl og))), (p0, .inr (17, t0)), (p1, .inr (17, t1)), (p2, .inr (17, t2)), (p3, .inr (17, t3)), (p4, .inr (17, t4)), (p5, .inr (17, t5)), (p6, .inr (17, t6)), (p7, .inr (17, t7)), (p8, .inr (17, t8)), (p9, .inr (17, t9)), (p10, .inr (17, t10)), (p11, .inr (17, t11)), (p12, .inr (17, t12)), (p13, .inr (17, t13)), (p14, .inr (17, t14))] H ∧ va_D A [(h, .inr (13, [.ref pe, .ref ne, .ref pa, .ref ro, .int 0])), (pe, .inr (9, [.int 15, .ref a1, .ref a2, .ref a3, .ref a4, .ref a5, .ref a6, .ref a7, .ref a8, .ref a9])), (a1, .inl (cy 0, 20, .inl f1)), (a2, .inl (cy 0, 20, .inl f2)), (ro, .inl (cy 0, 20, .inl f0)), (pa, .inr (4, [.int mc, .ref ed, .int 0])), (m0, .inr (20, [.int 0, .ref mp, .int 0, .ref b1, .ref b2, .ref b3, .ref b4, .ref b5, .ref mq])), (mp, .inr (4, [.int mm, .ref ep, .int 15])), (ep, .inl (cy 2, 15, .inr (.inr (.inr (.inr gp))))), (mq, .inr (4, [.int mn, .ref ed, .int 0])), (oa, .inl (cy 3, 1, .inr (.inl og))), (p0, .inr (17, t0)), (p1, .inr (17, t1)), (p2, .inr (17, t2)), (p3, .inr (17, t3)), (p4, .inr (17, t4)), (p5, .inr (17, t5)), (p6, .inr (17, t6)), (p7, .inr (17, t7)), (p8, .inr (17, t8)), (p9, .inr (17, t9)), (p10, .inr (17, t10)), (p11, .inr (17, t11)), (p12, .inr (17, t12)), (p13, .inr (17, t13)), (p14, .inr (17, t14))] ∧ gp 0 = some p0 ∧ gp 1 = some p1 ∧ gp 2 = some p2 ∧ gp 3 = some p3 ∧ gp 4 = some p4 ∧ gp 5 = some p5 ∧ gp 6 = some p6 ∧ gp 7 = some p7 ∧ gp 8 = some p8 ∧ gp 9 = some p9 ∧ gp 10 = some p10 ∧ gp 11 = some p11 ∧ gp 12 = some p12 ∧ gp 13 = some p13 ∧ gp 14 = some p14
def zx_S16 (D : va_G) (cy : Nat → ClassId) (ed : Nat) (A : Nat → Prop) (h m0 oa : Nat) (H : Heap) : Prop := ∃ (pe : Nat) (ne : Nat) (pa : Nat) (ro : Nat) (a1 : Nat) (a2 : Nat) (a3 : Nat) (a4 : Nat) (a5 : Nat) (a6 : Nat) (a7 : Nat) (a8 : Nat) (a9 : Nat) (mp : Nat) (mq : Nat) (b1 : Nat) (b2 : Nat) (b3 : Nat) (b4 : Nat) (b5 : Nat) (ep : Nat) (mc : Int32) (mm : Int32) (mn : Int32) (f1 : Nat → Int32) (f2 : Nat → Int32) (f0 : Nat → Int32) (og : Nat → Int64) (gp : Nat → Option Nat), va_P D vwCl [(h, .inr (13, [.ref pe, .ref ne, .ref pa, .ref ro, .int 0])), (pe, .inr (9, [.int 16, .ref a1, .ref a2, .ref a3, .ref a4, .ref a5, .ref a6, .ref a7, .ref a8, .ref a9])), (a1, .inl (cy 0, 20, .inl f1)), (a2, .inl (cy 0, 20, .inl f2)), (ro, .inl (cy 0, 20, .inl f0)), (pa, .inr (4, [.int mc, .ref ed, .int 0])), (m0, .inr (20, [.int 0, .ref mp, .int 0, .ref b1, .ref b2, .ref b3, .ref b4, .ref b5, .ref mq])), (mp, .inr (4, [.int mm, .ref ep, .int 16])), (ep, .inl (cy 2, 22, .inr (.inr (.inr (.inr gp))))), (mq, .inr (4, [.int mn, .ref ed, .int 0])), (oa, .inl (cy 3, 1, .inr (.inl og)))] H ∧ va_D A [(h, .inr (13, [.ref pe, .ref ne, .ref pa, .ref ro, .int 0])), (pe, .inr (9, [.int 16, .ref a1, .ref a2, .ref a3, .ref a4, .ref a5, .ref a6, .ref a7, .ref a8, .ref a9])), (a1, .inl (cy 0, 20, .inl f1)), (a2, .inl (cy 0, 20, .inl f2)), (ro, .inl (cy 0, 20, .inl f0)), (pa, .inr (4, [.int mc, .ref ed, .int 0])), (m0, .inr (20, [.int 0, .ref mp, .int 0, .ref b1, .ref b2, .ref b3, .ref b4, .ref b5, .ref mq])), (mp, .inr (4, [.int mm, .ref ep, .int 16])), (ep, .inl (cy 2, 22, .inr (.inr (.inr (.inr gp))))), (mq, .inr (4, [.int mn, .ref ed, .int 0])), (oa, .inl (cy 3, 1, .inr (.inl og)))]
def zx_S17 (D : va_G) (cy : Nat → ClassId) (ed : Nat) (A : Nat → Prop) (h m0 oa : Nat) (H : Heap) : Prop := ∃ (pe : Nat) (ne : Nat) (pa : Nat) (ro : Nat) (a1 : Nat) (a2 : Nat) (a3 : Nat) (a4 : Nat) (a5 : Nat) (a6 : Nat) (a7 : Nat) (a8 : Nat) (a9 : Nat) (mp : Nat) (mq : Nat) (b1 : Nat) (b2 : Nat) (b3 : Nat) (b4 : Nat) (b5 : Nat) (ep : Nat) (mc : Int32) (mm : Int32) (mn : Int32) (f1 : Nat → Int32) (f2 : Nat → Int32) (f0 : Nat → Int32) (og : Nat → Int64) (gp : Nat → Option Nat), va_P D vwCl [(h, .inr (13, [.ref pe, .ref ne, .ref pa, .ref ro, .int 0])), (pe, .inr (9, [.int 17, .ref a1, .ref a2, .ref a3, .ref a4, .ref a5, .ref a6, .ref a7, .ref a8, .ref a9])), (a1, .inl (cy 0, 20, .inl f1)), (a2, .inl (cy 0, 20, .inl f2)), (ro, .inl (cy 0, 20, .inl f0)), (pa, .inr (4, [.int mc, .ref ed, .int 0])), (m0, .inr (20, [.int 0, .ref mp, .int 0, .ref b1, .ref b2, .ref b3, .ref b4, .ref b5, .ref mq])), (mp, .inr (4, [.int mm, .ref ep, .int 17])), (ep, .inl (cy 2, 22, .inr (.inr (.inr (.inr gp))))), (mq, .inr (4, [.int mn, .ref ed, .int 0])), (oa, .inl (cy 3, 1, .inr (.inl og)))] H ∧ va_D A [(h, .inr (13, [.ref pe, .ref ne, .ref pa, .ref ro, .int 0])), (pe, .inr (9, [.int 17, .ref a1, .ref a2, .ref a3, .ref a4, .ref a5, .ref a6, .ref a7, .ref a8, .ref a9])), (a1, .inl (cy 0, 20, .inl f1)), (a2, .inl (cy 0, 20, .inl f2)), (ro, .inl (cy 0, 20, .inl f0)), (pa, .inr (4, [.int mc, .ref ed, .int 0])), (m0, .inr (20, [.int 0, .ref mp, .int 0, .ref b1, .ref b2, .ref b3, .ref b4, .ref b5, .ref mq])), (mp, .inr (4, [.int mm, .ref ep, .int 17])), (ep, .inl (cy 2, 22, .inr (.inr (.inr (.inr gp))))), (mq, .inr (4, [.int mn, .ref ed, .int 0])), (oa, .inl (cy 3, 1, .inr (.inl og)))]
def zx_S18 (D : va_G) (cy : Nat → ClassId) (ed : Nat) (A : Nat → Prop) (h m0 oa : Nat) (H : Heap) : Prop := ∃ (pe : Nat) (ne : Nat) (pa : Nat) (ro : Nat) (a1 : Nat) (a2 : Nat) (a3 : Nat) (a4 : Nat) (a5 : Nat) (a6 : Nat) (a7 : Nat) (a8 : Nat) (a9 : Nat) (mp : Nat) (mq : Nat) (b1 : Nat) (b2 : Nat) (b3 : Nat) (b4 : Nat) (b5 : Nat) (ep : Nat) (mc : Int32) (mm : Int32) (mn : Int32) (f1 : Nat → Int32) (f2 : Nat → Int32) (f0 : Nat → Int32) (og : Nat → Int64) (gp : Nat → Option Nat), va_P D vwCl [(h, .inr (13, [.ref pe, .ref ne, .ref pa, .ref ro, .int 0])), (pe, .inr (9, [.int 18, .ref a1, .ref a2, .ref a3, .ref a4, .ref a5, .ref a6, .ref a7, .ref a8, .ref a9])), (a1, .inl (cy 0, 20, .inl f1)), (a2, .inl (cy 0, 20, .inl f2)), (ro, .inl (cy 0, 20, .inl f0)), (pa, .inr (4, [.int mc, .ref ed, .int 0])), (m0, .inr (20, [.int 0, .ref mp, .int 0, .ref b1, .ref b2, .ref b3, .ref b4, .ref b5, .ref mq])), (mp, .inr (4, [.int mm, .ref ep, .int 18])), (ep, .inl (cy 2, 22, .inr (.inr (.inr (.inr gp))))), (mq, .inr (4, [.int mn, .ref ed, .int 0])), (oa, .inl (cy 3, 1, .inr (.inl og)))] H ∧ va_D A [(h, .inr (13, [.ref pe, .ref ne, .ref pa, .ref ro, .int 0])), (pe, .inr (9, [.int 18, .ref a1, .ref a2, .ref a3, .ref a4, .ref a5, .ref a6, .ref a7, .ref a8, .ref a9])), (a1, .inl (cy 0, 20, .inl f1)), (a2, .inl (cy 0, 20, .inl f2)), (ro, .inl (cy 0, 20, .inl f0)), (pa, .inr (4, [.int mc, .ref ed, .int 0])), (m0, .inr (20, [.int 0, .ref mp, .int 0, .ref b1, .ref b2, .ref b3, .ref b4, .ref b5, .ref mq])), (mp, .inr (4, [.int mm, .ref ep, .int 18])), (ep, .inl (cy 2, 22, .inr (.inr (.inr (.inr gp))))), (mq, .inr (4, [.int mn, .ref ed, .int 0])), (oa, .inl (cy 3, 1, .inr (.inl og)))]
def zx_S19 (D : va_G) (cy : Nat → ClassId) (ed : Nat) (A : Nat → Prop) (h m0 oa : Nat) (H : Heap) : Prop := ∃ (pe : Nat) (ne : Nat) (pa : Nat) (ro : Nat) (a1 : Nat) (a2 : Nat) (a3 : Nat) (a4 : Nat) (a5 : Nat) (a6 : Nat) (a7 : Nat) (a8 : Nat) (a9 : Nat) (mp : Nat) (mq : Nat) (b1 : Nat) (b2 : Nat) (b3 : Nat) (b4 : Nat) (b5 : Nat) (ep : Nat) (mc : Int32) (mm : Int32) (mn : Int32) (f1 : Nat → Int32) (f2 : Nat → Int32) (f0 : Nat → Int32) (og : Nat → Int64) (gp : Nat → Option Nat), va_P D vwCl [(h, .inr (13, [.ref pe, .ref ne, .ref pa, .ref ro, .int 0])), (pe, .inr (9, [.int 19, .ref a1, .ref a2, .ref a3, .ref a4, .ref a5, .ref a6, .ref a7, .ref a8, .ref a9])), (a1, .inl (cy 0, 20, .inl f1)), (a2, .inl (cy 0, 20, .inl f2)), (ro, .inl (cy 0, 20, .inl f0)), (pa, .inr (4, [.int mc, .ref ed, .int 0])), (m0, .inr (20, [.int 0, .ref mp, .int 0, .ref b1, .ref b2, .ref b3, .ref b4, .ref b5, .ref mq])), (mp, .inr (4, [.int mm, .ref ep, .int 19])), (ep, .inl (cy 2, 22, .inr (.inr (.inr (.inr gp))))), (mq, .inr (4, [.int mn, .ref ed, .int 0])), (oa, .inl (cy 3, 1, .inr (.inl og)))] H ∧ va_D A [(h, .inr (13, [.ref pe, .ref ne, .ref pa, .ref ro, .int 0])), (pe, .inr (9, [.int 19, .ref a1, .ref a2, .ref a3, .ref a4, .ref a5, .ref a6, .ref a7, .ref a8, .ref a9])), (a1, .inl (cy 0, 20, .inl f1)), (a2, .inl (cy 0, 20, .inl f2)), (ro, .inl (cy 0, 20, .inl f0)), (pa, .inr (4, [.int mc, .ref ed, .int 0])), (m0, .inr (20, [.int 0, .ref mp, .int 0, .ref b1, .ref b2, .ref b3, .ref b4, .ref b5, .ref mq])), (mp, .inr (4, [.int mm, .ref ep, .int 19])), (ep, .inl (cy 2, 22, .inr (.inr (.inr (.inr gp))))), (mq, .inr (4, [.int mn, .ref ed, .int 0])), (oa, .inl (cy 3, 1, .inr (.inl og)))]
def zx_S20 (D : va_G) (cy : Nat → ClassId) (ed : Nat) (A : Nat → Prop) (h m0 oa : Nat) (H : Heap) : Prop := ∃ (pe : Nat) (ne : Nat) (pa : Nat) (ro : Nat) (a1 : Nat) (a2 : Nat) (a3 : Nat) (a4 : Nat) (a5 : Nat) (a6 : Nat) (a7 : Nat) (a8 : Nat) (a9 : Nat) (mp : Nat) (mq : Nat) (b1 : Nat) (b2 : Nat) (b3 : Nat) (b4 : Nat) (b5 : Nat) (ep : Nat) (mc : Int32) (mm : Int32) (mn : Int32) (f1 : Nat → Int32) (f2 : Nat → Int32) (f0 : Nat → Int32) (og : Nat → Int64) (gp : Nat → Option Nat), va_P D vwCl [(h, .inr (13, [.ref pe, .ref ne, .ref pa, .ref ro, .int 0])), (pe, .inr (9, [.int 20, .ref a1, .ref a2, .ref a3, .ref a4, .ref a5, .ref a6, .ref a7, .ref a8, .ref a9])), (a1, .inl (cy 0, 20, .inl f1)), (a2, .inl (cy 0, 20, .inl f2)), (ro, .inl (cy 0, 20, .inl f0)), (pa, .inr (4, [.int mc, .ref ed, .int 0])), (m0, .inr (20, [.int 0, .ref mp, .int 0, .ref b1, .ref b2, .ref b3, .ref b4, .ref b5, .ref mq])), (mp, .inr (4, [.int mm, .ref ep, .int 20])), (ep, .inl (cy 2, 22, .inr (.inr (.inr (.inr gp))))), (mq, .inr (4, [.int mn, .ref ed, .int 0])), (oa, .inl (cy 3, 1, .inr (.inl og)))] H ∧ va_D A [(h, .inr (13, [.ref pe, .ref ne, .ref pa, .ref ro, .int 0])), (pe, .inr (9, [.int 20, .ref a1, .ref a2, .ref a3, .ref a4, .ref a5, .ref a6, .ref a7, .ref a8, .ref a9])), (a1, .inl (cy 0, 20, .inl f1)), (a2, .inl (cy 0, 20, .inl f2)), (ro, .inl (cy 0, 20, .inl f0)), (pa, .inr (4, [.int mc, .ref ed, .int 0])), (m0, .inr (20, [.int 0, .ref mp, .int 0, .ref b1, .ref b2, .ref b3, .ref b4, .ref b5, .ref mq])), (mp, .inr (4, [.int mm, .ref ep, .int 20])), (ep, .inl (cy 2, 22, .inr (.inr (.inr (.inr gp))))), (mq, .inr (4, [.int mn, .ref ed, .int 0])), (oa, .inl (cy 3, 1, .inr (.inl og)))]
def zx_S21 (D : va_G) (cy : Nat → ClassId) (ed : Nat) (A : Nat → Prop) (h m0 oa : Nat) (H : Heap) : Prop := ∃ (pe : Nat) (ne : Nat) (pa : Nat) (ro : Nat) (a1 : Nat) (a2 : Nat) (a3 : Nat) (a4 : Nat) (a5 : Nat) (a6 : Nat) (a7 : Nat) (a8 : Nat) (a9 : Nat) (mp : Nat) (mq : Nat) (b1 : Nat) (b2 : Nat) (b3 : Nat) (b4 : Nat) (b5 : Nat) (ep : Nat) (el : Nat) (eq : Nat) (mc : Int32) (mm : Int32) (mn : Int32) (f1 : Nat → Int32) (f2 : Nat → Int32) (f0 : Nat → Int32) (og : Nat → Int64) (gp : Nat → Option Nat) (g : Nat → Option Nat) (gq : Nat → Option Nat) (y0 : Nat) (r0 : Nat) (q0 : List Value) (z0 : Nat) (v0 : Nat) (u0 : List Value), va_P D vwCl [(h, .inr (13, [.ref pe, .ref ne, .ref pa, .ref ro, .int 0])), (pe, .inr (9, [.int 20, .ref a1, .ref a2, .ref a3, .ref a4, .ref a5, .ref a6, .ref a7, .ref a8, .ref a9])), (a1, .inl (cy 0, 20, .inl f1)), (a2, .inl (cy 0, 20, .inl f2)), (ro, .inl (cy 0, 20, .inl f0)), (pa, .inr (4, [.int mc, .ref el, .int 1])), (el, .inl (cy 2, 10, .inr (.inr (.inr (.inr g))))), (m0, .inr (20, [.int 0, .ref mp, .int 0, .ref b1, .ref b2, .ref b3, .ref b4, .ref b5, .ref mq])), (mp, .inr (4, [.int mm, .ref ep, .int 20])), (ep, .inl (cy 2, 22, .inr (.inr (.inr (.inr gp))))), (mq, .inr (4, [.int mn, .ref eq, .int 1])), (eq, .inl (cy 2, 10, .inr (.inr (.inr (.inr gq))))), (oa, .inl (cy 3, 1, .inr (.inl og))), (y0, .inr (8, q0)), (r0, .inr (4, [.int 0, .ref ed, .int 0])), (z0, .inr (16, u0)), (v0, .inr (4, [.int 0, .ref ed, .int 0]))] H ∧ va_D A [(h, .inr (13, [.ref pe, .ref ne, .ref pa, .ref ro, .int 0])), (pe, .inr (9, [.int 20, .ref a1, .ref a2, .ref a3, .ref a4, .ref a5, .ref a6, .ref a7, .ref a8, .ref a9])), (a1, .inl (cy 0, 20, .inl f1)), (a2, .inl (cy 0, 20, .inl f2)), (ro, .inl (cy 0, 20, .inl f0)), (pa, .inr (4, [.int mc, .ref el, .int 1])), (el, .inl (cy 2, 10, .inr (.inr (.inr (.inr g))))), (m0, .inr (20, [.int 0, .ref mp, .int 0, .ref b1, .ref b2, .ref b3, .ref b4, .ref b5, .ref mq])), (mp, .inr (4, [.int mm, .ref ep, .int 20])), (ep, .inl (cy 2, 22, .inr (.inr (.inr (.inr gp))))), (mq, .inr (4, [.int mn, .ref eq, .int 1])), (eq, .inl (cy 2, 10, .inr (.inr (.inr (.inr gq))))), (oa, .inl (cy 3, 1, .inr (.inl og))), (y0, .inr (8, q0)), (r0, .inr (4, [.int 0, .ref ed, .int 0])), (z0, .inr (16, u0)), (v0, .inr (4, [.int 0, .ref ed, .int 0]))] ∧ g 0 = some y0 ∧ q0[6]? = some (.ref r0) ∧ gq 0 = some z0 ∧ u0[23]? = some (.ref v0)
def zx_S22 (D : va_G) (cy : Nat → ClassId) (ed : Nat) (A : Nat → Prop) (h m0 oa : Nat) (H : Heap) : Prop := ∃ (pe : Nat) (ne : Nat) (pa : Nat) (ro : Nat) (a1 : Nat) (a2 : Nat) (a3 : Nat) (a4 : Nat) (a5 : Nat) (a6 : Nat) (a7 : Nat) (a8 : Nat) (a9 : Nat) (mp : Nat) (mq : Nat) (b1 : Nat) (b2 : Nat) (b3 : Nat) (b4 : Nat) (b5 : Nat) (ep : Nat) (el : Nat) (eq : Nat) (mc : Int32) (mm : Int32) (mn : Int32) (f1 : Nat → Int32) (f2 : Nat → Int32) (f0 : Nat → Int32) (og : Nat → Int64) (gp : Nat → Option Nat) (g : Nat → Option Nat) (gq : Nat → Option Nat) (y0 : Nat) (y1 : Nat) (r0 : Nat) (r1 : Nat) (q0 : List Value) (q1 : List Value) (z0 : Nat) (z1 : Nat) (v0 : Nat) (v1 : Nat) (u0 : List Value) (u1 : List Value), va_P D vwCl [(h, .inr (13, [.ref pe, .ref ne, .ref pa, .ref ro, .int 0])), (pe, .inr (9, [.int 20, .ref a1, .ref a2, .ref a3, .ref a4, .ref a5, .ref a6, .ref a7, .ref a8, .ref a9])), (a1, .inl (cy 0, 20, .inl f1)), (a2, .inl (cy 0, 20, .inl f2)), (ro, .inl (cy 0, 20, .inl f0)), (pa, .inr (4, [.int mc, .ref el, .int 2])), (el, .inl (cy 2, 10, .inr (.inr (.inr (.inr g))))), (m0, .inr (20, [.int 0, .ref mp, .int 0, .ref b1, .ref b2, .ref b3, .ref b4, .ref b5, .ref mq])), (mp, .inr (4, [.int mm, .ref ep, .int 20])), (ep, .inl (cy 2, 22, .inr (.inr (.inr (.inr gp))))), (mq, .inr (4, [.int mn, .ref eq, .int 2])), (eq, .inl (cy 2, 10, .inr (.inr (.inr (.inr gq))))), (oa, .inl (cy 3, 1, .inr (.inl og))), (y0, .inr (8, q0)), (r0, .inr (4, [.int 0, .ref ed, .int 0])), (y1, .inr (8, q1)), (r1, .inr (4, [.int 0, .ref ed, .int 0])), (z0, .inr (16, u0)), (v0, .inr (4, [.int 0, .ref ed, .int 0])), (z1, .inr (16, u1)), (v1, .inr (4, [.int 0, .ref ed, .int 0]))] H ∧ va_D A [(h, .inr (13, [.ref pe, .ref ne, .ref pa, .ref ro, .int 0])), (pe, .inr (9, [.int 20, .ref a1, .ref a2, .ref a3, .ref a4, .ref a5, .ref a6, .ref a7, .ref a8, .ref a9])), (a1, .inl (cy 0, 20, .inl f1)), (a2, .inl (cy 0, 20, .inl f2)), (ro, .inl (cy 0, 20, .inl f0)), (pa, .inr (4, [.int mc, .ref el, .int 2])), (el, .inl (cy 2, 10, .inr (.inr (.inr (.inr g))))), (m0, .inr (20, [.int 0, .ref mp, .int 0, .ref b1, .ref b2, .ref b3, .ref b4, .ref b5, .ref mq])), (mp, .inr (4, [.int mm, .ref ep, .int 20])), (ep, .inl (cy 2, 22, .inr (.inr (.inr (.inr gp))))), (mq, .inr (4, [.int mn, .ref eq, .int 2])), (eq, .inl (cy 2, 10, .inr (.inr (.inr (.inr gq))))), (oa, .inl (cy 3, 1, .inr (.inl og))), (y0, .inr (8, q0)), (r0, .inr (4, [.int 0, .ref ed, .int 0])), (y1, .inr (8, q1)), (r1, .inr (4, [.int 0, .ref ed, .int 0])), (z0, .inr (16, u0)), (v0, .inr (4, [.int 0, .ref ed, .int 0])), (z1, .inr (16, u1)), (v1, .inr (4, [.int 0, .ref ed, .int 0]))] ∧ g 0 = some y0 ∧ g 1 = some y1 ∧ q0[6]? = some (.ref r0) ∧ q1[6]? = some (.ref r1) ∧ gq 0 = some z0 ∧ gq 1 = some z1 ∧ u0[23]? = some (.ref v0) ∧ u1[23]? = some (.ref v1)
def zx_S23 (D : va_G) (cy : Nat → ClassId) (ed : Nat) (A : Nat → Prop) (h m0 oa : Nat) (H : Heap) : Prop := ∃ (pe : Nat) (ne : Nat) (pa : Nat) (ro : Nat) (a1 : Nat) (a2 : Nat) (a3 : Nat) (a4 : Nat) (a5 : Nat) (a6 : Nat) (a7 : Nat) (a8 : Nat) (a9 : Nat) (mp : Nat) (mq : Nat) (b1 : Nat) (b2 : Nat) (b3 : Nat) (b4 : Nat) (b5 : Nat) (ep : Nat) (el : Nat) (eq : Nat) (mc : Int32) (mm : Int32) (mn : Int32) (f1 : Nat → Int32) (f2 : Nat → Int32) (f0 : Nat → Int32) (og : Nat → Int64) (gp : Nat → Option Nat) (g : Nat → Option Nat) (gq : Nat → Option Nat) (y0 : Nat) (y1 : Nat) (y2 : Nat) (r0 : Nat) (r1 : Nat) (r2 : Nat) (q0 : List Value) (q1 : List Value) (q2 : List Value) (z0 : Nat) (z1 : Nat) (z2 : Nat) (v0 : Nat) (v1 : Nat) (v2 : Nat) (u0 : List Value) (u1 : List Value) (u2 : List Value), va_P D vwCl [(h, .inr (13, [.ref pe, .ref ne, .ref pa, .ref ro, .int 0])), (pe, .inr (9, [.int 20, .ref a1, .ref a2, .ref a3, .ref a4, .ref a5, .ref a6, .ref a7, .ref a8, .ref a9])), (a1, .inl (cy 0, 20, .inl f1)), (a2, .inl (cy 0, 20, .inl f2)), (ro, .inl (cy 0, 20, .inl f0)), (pa, .inr (4, [.int mc, .ref el, .int 3])), (el, .inl (cy 2, 10, .inr (.inr (.inr (.inr g))))), (m0, .inr (20, [.int 0, .ref mp, .int 0, .ref b1, .ref b2, .ref b3, .ref b4, .ref b5, .ref mq])), (mp, .inr (4, [.int mm, .ref ep, .int 20])), (ep, .inl (cy 2, 22, .inr (.inr (.inr (.inr gp))))), (mq, .inr (4, [.int mn, .ref eq, .int 3])), (eq, .inl (cy 2, 10, .inr (.inr (.inr (.inr gq))))), (oa, .inl (cy 3, 1, .inr (.inl og))), (y0, .inr (8, q0)), (r0, .inr (4, [.int 0, .ref ed, .int 0])), (y1, .inr (8, q1)), (r1, .inr (4, [.int 0, .ref ed, .int 0])), (y2, .inr (8, q2)), (r2, .inr (4, [.int 0, .ref ed, .int 0])), (z0, .inr (16, u0)), (v0, .inr (4, [.int 0, .ref ed, .int 0])), (z1, .inr (16, u1)), (v1, .inr (4, [.int 0, .ref ed, .int 0])), (z2, .inr (16, u2)), (v2, .inr (4, [.int 0, .ref ed, .int 0]))] H ∧ va_D A [(h, .inr (13, [.ref pe, .ref ne, .ref pa, .ref ro, .int 0])), (pe, .inr (9, [.int 20, .ref a1, .ref a2, .ref a3, .ref a4, .ref a5, .ref a6, .ref a7, .ref a8, .ref a9])), (a1, .inl (cy 0, 20, .inl f1)), (a2, .inl (cy 0, 20, .inl f2)), (ro, .inl (cy 0, 20, .inl f0)), (pa, .inr (4, [.int mc, .ref el, .int 3])), (el, .inl (cy 2, 10, .inr (.inr (.inr (.inr g))))), (m0, .inr (20, [.int 0, .ref mp, .int 0, .ref b1, .ref b2, .ref b3, .ref b4, .ref b5, .ref mq])), (mp, .inr (4, [.int mm, .ref ep, .int 20])), (ep, .inl (cy 2, 22, .inr (.inr (.inr (.inr gp))))), (mq, .inr (4, [.int mn, .ref eq, .int 3])), (eq, .inl (cy 2, 10, .inr (.inr (.inr (.inr gq))))), (oa, .inl (cy 3, 1, .inr (.inl og))), (y0, .inr (8, q0)), (r0, .inr (4, [.int 0, .ref ed, .int 0])), (y1, .inr (8, q1)), (r1, .inr (4, [.int 0, .ref ed, .int 0])), (y2, .inr (8, q2)), (r2, .inr (4, [.int 0, .ref ed, .int 0])), (z0, .inr (16, u0)), (v0, .inr (4, [.int 0, .ref ed, .int 0])), (z1, .inr (16, u1)), (v1, .inr (4, [.int 0, .ref ed, .int 0])), (z2, .inr (16, u2)), (v2, .inr (4, [.int 0, .ref ed, .int 0]))] ∧ g 0 = some y0 ∧ g 1 = some y1 ∧ g 2 = some y2 ∧ q0[6]? = some (.ref r0) ∧ q1[6]? = some (.ref r1) ∧ q2[6]? = some (.ref r2) ∧ gq 0 = some z0 ∧ gq 1 = some z1 ∧ gq 2 = some z2 ∧ u0[23]? = some (.ref v0) ∧ u1[23]? = some (.ref v1) ∧ u2[23]? = some (.ref v2)
def zx_S24 (D : va_G) (cy : Nat → ClassId) (ed : Nat) (A : Nat → Prop) (h m0 oa : Nat) (H : Heap) : Prop := ∃ (pe : Nat) (ne : Nat) (pa : Nat) (ro : Nat) (a1 : Nat) (a2 : Nat) (a3 : Nat) (a4 : Nat) (a5 : Nat) (a6 : Nat) (a7 : Nat) (a8 : Nat) (a9 : Nat) (mp : Nat) (mq : Nat) (b1 : Nat) (b2 : Nat) (b3 : Nat) (b4 : Nat) (b5 : Nat) (ep : Nat) (el : Nat) (eq : Nat) (mc : Int32) (mm : Int32) (mn : Int32) (f1 : Nat → Int32) (f2 : Nat → Int32) (f0 : Nat → Int32) (og : Nat → Int64) (gp : Nat → Option Nat) (g : Nat → Option Nat) (gq : Nat → Option Nat) (y0 : Nat) (y1 : Nat) (y2 : Nat) (y3 : Nat) (r0 : Nat) (r1 : Nat) (r2 : Nat) (r3 : Nat) (q0 : List Value) (q1 : List Value) (q2 : List Value) (q3 : List Value) (z0 : Nat) (z1 : Nat) (z2 : Nat) (z3 : Nat) (v0 : Nat) (v1 : Nat) (v2 : Nat) (v3 : Nat) (u0 : List Value) (u1 : List Value) (u2 : List Value) (u3 : List Value), va_P D vwCl [(h, .inr (13, [.ref pe, .ref ne, .ref pa, .ref ro, .int 0])), (pe, .inr (9, [.int 20, .ref a1, .ref a2, .ref a3, .ref a4, .ref a5, .ref a6, .ref a7, .ref a8, .ref a9])), (a1, .inl (cy 0, 20, .inl f1)), (a2, .inl (cy 0, 20, .inl f2)), (ro, .inl (cy 0, 20, .inl f0)), (pa, .inr (4, [.int mc, .ref el, .int 4])), (el, .inl (cy 2, 10, .inr (.inr (.inr (.inr g))))), (m0, .inr (20, [.int 0, .ref mp, .int 0, .ref b1, .ref b2, .ref b3, .ref b4, .ref b5, .ref mq])), (mp, .inr (4, [.int mm, .ref ep, .int 20])), (ep, .inl (cy 2, 22, .inr (.inr (.inr (.inr gp))))), (mq, .inr (4, [.int mn, .ref eq, .int 4])), (eq, .inl (cy 2, 10, .inr (.inr (.inr (.inr gq))))), (oa, .inl (cy 3, 1, .inr (.inl og))), (y0, .inr (8, q0)), (r0, .inr (4, [.int 0, .ref ed, .int 0])), (y1, .inr (8, q1)), (r1, .inr (4, [.int 0, .ref ed, .int 0])), (y2, .inr (8, q2)), (r2, .inr (4, [.int 0, .ref ed, .int 0])), (y3, .inr (8, q3)), (r3, .inr (4, [.int 0, .ref ed, .int 0])), (z0, .inr (16, u0)), (v0, .inr (4, [.int 0, .ref ed, .int 0])), (z1, .inr (16, u1)), (v1, .inr (4, [.int 0, .ref ed, .int 0])), (z2, .inr (16, u2)), (v2, .inr (4, [.int 0, .ref ed, .int 0])), (z3, .inr (16, u3)), (v3, .inr (4, [.int 0, .ref ed, .int 0]))] H ∧ va_D A [(h, .inr (13, [.ref pe, .ref ne, .ref pa, .ref ro, .int 0])), (pe, .inr (9, [.int 20, .ref a1, .ref a2, .ref a3, .ref a4, .ref a5, .ref a6, .ref a7, .ref a8, .ref a9])), (a1, .inl (cy 0, 20, .inl f1)), (a2, .inl (cy 0, 20, .inl f2)), (ro, .inl (cy 0, 20, .inl f0)), (pa, .inr (4, [.int mc, .ref el, .int 4])), (el, .inl (cy 2, 10, .inr (.inr (.inr (.inr g))))), (m0, .inr (20, [.int 0, .ref mp, .int 0, .ref b1, .ref b2, .ref b3, .ref b4, .ref b5, .ref mq])), (mp, .inr (4, [.int mm, .ref ep, .int 20])), (ep, .inl (cy 2, 22, .inr (.inr (.inr (.inr gp))))), (mq, .inr (4, [.int mn, .ref eq, .int 4])), (eq, .inl (cy 2, 10, .inr (.inr (.inr (.inr gq))))), (oa, .inl (cy 3, 1, .inr (.inl og))), (y0, .inr (8, q0)), (r0, .inr (4, [.int 0, .ref ed, .int 0])), (y1, .inr (8, q1)), (r1, .inr (4, [.int 0, .ref ed, .int 0])), (y2, .inr (8, q2)), (r2, .inr (4, [.int 0, .ref ed, .int 0])), (y3, .inr (8, q3)), (r3, .inr (4, [.int 0, .ref ed, .int 0])), (z0, .inr (16, u0)), (v0, .inr (4, [.int 0, .ref ed, .int 0])), (z1, .inr (16, u1)), (v1, .inr (4, [.int 0, .ref ed, .int 0])), (z2, .inr (16, u2)), (v2, .inr (4, [.int 0, .ref ed, .int 0])), (z3, .inr (16, u3)), (v3, .inr (4, [.int 0, .ref ed, .int 0]))] ∧ g 0 = some y0 ∧ g 1 = some y1 ∧ g 2 = some y2 ∧ g 3 = some y3 ∧ q0[6]? = some (.ref r0) ∧ q1[6]? = some (.ref r1) ∧ q2[6]? = some (.ref r2) ∧ q3[6]? = some (.ref r3) ∧ gq 0 = some z0 ∧ gq 1 = some z1 ∧ gq 2 = some z2 ∧ gq 3 = some z3 ∧ u0[23]? = some (.ref v0) ∧ u1[23]? = some (.ref v1) ∧ u2[23]? = some (.ref v2) ∧ u3[23]? = some (.ref v3)
def zx_S25 (D : va_G) (cy : Nat → ClassId) (ed : Nat) (A : Nat → Prop) (h m0 oa : Nat) (H : Heap) : Prop := ∃ (pe : Nat) (ne : Nat) (pa : Nat) (ro : Nat) (a1 : Nat) (a2 : Nat) (a3 : Nat) (a4 : Nat) (a5 : Nat) (a6 : Nat) (a7 : Nat) (a8 : Nat) (a9 : Nat) (mp : Nat) (mq : Nat) (b1 : Nat) (b2 : Nat) (b3 : Nat) (b4 : Nat) (b5 : Nat) (ep : Nat) (el : Nat) (eq : Nat) (mc : Int32) (mm : Int32) (mn : Int32) (f1 : Nat → Int32) (f2 : Nat → Int32) (f0 : Nat → Int32) (og : Nat → Int64) (gp : Nat → Option Nat) (g : Nat → Option Nat) (gq : Nat → Option Nat) (y0 : Nat) (y1 : Nat) (y2 : Nat) (y3 : Nat) (y4 : Nat) (r0 : Nat) (r1 : Nat) (r2 : Nat) (r3 : Nat) (r4 : Nat) (q0 : List Value) (q1 : List Value) (q2 : List Value) (q3 : List Value) (q4 : List Value) (z0 : Nat) (z1 : Nat) (z2 : Nat) (z3 : Nat) (z4 : Nat) (v0 : Nat) (v1 : Nat) (v2 : Nat) (v3 : Nat) (v4 : Nat) (u0 : List Value) (u1 : List Value) (u2 : List Value) (u3 : List Value) (u4 : List Value), va_P D vwCl [(h, .inr (13, [.ref pe, .ref ne, .ref pa, .ref ro, .int 0])), (pe, .inr (9, [.int 20, .ref a1, .ref a2, .ref a3, .ref a4, .ref a5, .ref a6, .ref a7, .ref a8, .ref a9])), (a1, .inl (cy 0, 20, .inl f1)), (a2, .inl (cy 0, 20, .inl f2)), (ro, .inl (cy 0, 20, .inl f0)), (pa, .inr (4, [.int mc, .ref el, .int 5])), (el, .inl (cy 2, 10, .inr (.inr (.inr (.inr g))))), (m0, .inr (20, [.int 0, .ref mp, .int 0, .ref b1, .ref b2, .ref b3, .ref b4, .ref b5, .ref mq])), (mp, .inr (4, [.int mm, .ref ep, .int 20])), (ep, .inl (cy 2, 22, .inr (.inr (.inr (.inr gp))))), (mq, .inr (4, [.int mn, .ref eq, .int 5])), (eq, .inl (cy 2, 10, .inr (.inr (.inr (.inr gq))))), (oa, .inl (cy 3, 1, .inr (.inl og))), (y0, .inr (8, q0)), (r0, .inr (4, [.int 0, .ref ed, .int 0])), (y1, .inr (8, q1)), (r1, .inr (4, [.int 0, .ref ed, .int 0])), (y2, .inr (8, q2)), (r2, .inr (4, [.int 0, .ref ed, .int 0])), (y3, .inr (8, q3)), (r3, .inr (4, [.int 0, .ref ed, .int 0])), (y4, .inr (8, q4)), (r4, .inr (4, [.int 0, .ref ed, .int 0])), (z0, .inr (16, u0)), (v0, .inr (4, [.int 0, .ref ed, .int 0])), (z1, .inr (16, u1)), (v1, .inr (4, [.int 0, .ref ed, .int 0])), (z2, .inr (16, u2)), (v2, .inr (4, [.int 0, .ref ed, .int 0])), (z3, .inr (16, u3)), (v3, .inr (4, [.int 0, .ref ed, .int 0])), (z4, .inr (16, u4)), (v4, .inr (4, [.int 0, .ref ed, .int 0]))] H ∧ va_D A [(h, .inr (13, [.ref pe, .ref ne, .ref pa, .ref ro, .int 0])), (pe, .inr (9, [.int 20, .ref a1, .ref a2, .ref a3, .ref a4, .ref a5, .ref a6, .ref a7, .ref a8, .ref a9])), (a1, .inl (cy 0, 20, .inl f1)), (a2, .inl (cy 0, 20, .inl f2)), (ro, .inl (cy 0, 20, .inl f0)), (pa, .inr (4, [.int mc, .ref el, .int 5])), (el, .inl (cy 2, 10, .inr (.inr (.inr (.inr g))))), (m0, .inr (20, [.int 0, .ref mp, .int 0, .ref b1, .ref b2, .ref b3, .ref b4, .ref b5, .ref mq])), (mp, .inr (4, [.int mm, .ref ep, .int 20])), (ep, .inl (cy 2, 22, .inr (.inr (.inr (.inr gp))))), (mq, .inr (4, [.int mn, .ref eq, .int 5])), (eq, .inl (cy 2, 10, .inr (.inr (.inr (.inr gq))))), (oa, .inl (cy 3, 1, .inr (.inl og))), (y0, .inr (8, q0)), (r0, .inr (4, [.int 0, .ref ed, .int 0])), (y1, .inr (8, q1)), (r1, .inr (4, [.int 0, .ref ed, .int 0])), (y2, .inr (8, q2)), (r2, .inr (4, [.int 0, .ref ed, .int 0])), (y3, .inr (8, q3)), (r3, .inr (4, [.int 0, .ref ed, .int 0])), (y4, .inr (8, q4)), (r4, .inr (4, [.int 0, .ref ed, .int 0])), (z0, .inr (16, u0)), (v0, .inr (4, [.int 0, .ref ed, .int 0])), (z1, .inr (16, u1)), (v1, .inr (4, [.int 0, .ref ed, .int 0])), (z2, .inr (16, u2)), (v2, .inr (4, [.int 0, .ref ed, .int 0])), (z3, .inr (16, u3)), (v3, .inr (4, [.int 0, .ref ed, .int 0])), (z4, .inr (16, u4)), (v4, .inr (4, [.int 0, .ref ed, .int 0]))] ∧ g 0 = some y0 ∧ g 1 = some y1 ∧ g 2 = some y2 ∧ g 3 = some y3 ∧ g 4 = some y4 ∧ q0[6]? = some (.ref r0) ∧ q1[6]? = some (.ref r1) ∧ q2[6]? = some (.ref r2) ∧ q3[6]? = some (.ref r3) ∧ q4[6]? = some (.ref r4) ∧ gq 0 = some z0 ∧ gq 1 = some z1 ∧ gq 2 = some z2 ∧ gq 3 = some z3 ∧ gq 4 = some z4 ∧ u0[23]? = some (.ref v0) ∧ u1[23]? = some (.ref v1) ∧ u2[23]? = some (.ref v2) ∧ u3[23]? = some (.ref v3) ∧ u4[23]? = some (.ref v4)
def zx_S26 (D : va_G) (cy : Nat → ClassId) (ed : Nat) (A : Nat → Prop) (h m0 oa : Nat) (H : Heap) : Prop := ∃ (pe : Nat) (ne : Nat) (pa : Nat) (ro : Nat) (a1 : Nat) (a2 : Nat) (a3 : Nat) (a4 : Nat) (a5 : Nat) (a6 : Nat) (a7 : Nat) (a8 : Nat) (a9 : Nat) (mp : Nat) (mq : Nat) (b1 : Nat) (b2 : Nat) (b3 : Nat) (b4 : Nat) (b5 : Nat) (ep : Nat) (el : Nat) (eq : Nat) (mc : Int32) (mm : Int32) (mn : Int32) (f1 : Nat → Int32) (f2 : Nat → Int32) (f0 : Nat → Int32) (og : Nat → Int64) (gp : Nat → Option Nat) (g : Nat → Option Nat) (gq : Nat → Option Nat) (y0 : Nat) (y1 : Nat) (y2 : Nat) (y3 : Nat) (y4 : Nat) (y5 : Nat) (r0 : Nat) (r1 : Nat) (r2 : Nat) (r3 : Nat) (r4 : Nat) (r5 : Nat) (q0 : List Value) (q1 : List Value) (q2 : List Value) (q3 : List Value) (q4 : List Value) (q5 : List Value) (z0 : Nat) (z1 : Nat) (z2 : Nat) (z3 : Nat) (z4 : Nat) (z5 : Nat) (v0 : Nat) (v1 : Nat) (v2 : Nat) (v3 : Nat) (v4 : Nat) (v5 : Nat) (u0 : List Value) (u1 : List Value) (u2 : List Value) (u3 : List Value) (u4 : List Value) (u5 : List Value), va_P D vwCl [(h, .inr (13, [.ref pe, .ref ne, .ref pa, .ref ro, .int 0])), (pe, .inr (9, [.int 20, .ref a1, .ref a2, .ref a3, .ref a4, .ref a5, .ref a6, .ref a7, .ref a8, .ref a9])), (a1, .inl (cy 0, 20, .inl f1)), (a2, .inl (cy 0, 20, .inl f2)), (ro, .inl (cy 0, 20, .inl f0)), (pa, .inr (4, [.int mc, .ref el, .int 6])), (el, .inl (cy 2, 10, .inr (.inr (.inr (.inr g))))), (m0, .inr (20, [.int 0, .ref mp, .int 0, .ref b1, .ref b2, .ref b3, .ref b4, .ref b5, .ref mq])), (mp, .inr (4, [.int mm, .ref ep, .int 20])), (ep, .inl (cy 2, 22, .inr (.inr (.inr (.inr gp))))), (mq, .inr (4, [.int mn, .ref eq, .int 6])), (eq, .inl (cy 2, 10, .inr (.inr (.inr (.inr gq))))), (oa, .inl (cy 3, 1, .inr (.inl og))), (y0, .inr (8, q0)), (r0, .inr (4, [.int 0, .ref ed, .int 0])), (y1, .inr (8, q1)), (r1, .inr (4, [.int 0, .ref ed, .int 0])), (y2, .inr (8, q2)), (r2, .inr (4, [.int 0, .ref ed, .int 0])), (y3, .inr (8, q3)), (r3, .inr (4, [.int 0, .ref ed, .int 0])), (y4, .inr (8, q4)), (r4, .inr (4, [.int 0, .ref ed, .int 0])), (y5, .inr (8, q5)), (r5, .inr (4, [.int 0, .ref ed, .int 0])), (z0, .inr (16, u0)), (v0, .inr (4, [.int 0, .ref ed, .int 0])), (z1, .inr (16, u1)), (v1, .inr (4, [.int 0, .ref ed, .int 0])), (z2, .inr (16, u2)), (v2, .inr (4, [.int 0, .ref ed, .int 0])), (z3, .inr (16, u3)), (v3, .inr (4, [.int 0, .ref ed, .int 0])), (z4, .inr (16, u4)), (v4, .inr (4, [.int 0, .ref ed, .int 0])), (z5, .inr (16, u5)), (v5, .inr (4, [.int 0, .ref ed, .int 0]))] H ∧ va_D A [(h, .inr (13, [.ref pe, .ref ne, .ref pa, .ref ro, .int 0])), (pe, .inr (9, [.int 20, .ref a1, .ref a2, .ref a3, .ref a4, .ref a5, .ref a6, .ref a7, .ref a8, .ref a9])), (a1, .inl (cy 0, 20, .inl f1)), (a2, .inl (cy 0, 20, .inl f2)), (ro, .inl (cy 0, 20, .inl f0)), (pa, .inr (4, [.int mc, .ref el, .int 6])), (el, .inl (cy 2, 10, .inr (.inr (.inr (.inr g))))), (m0, .inr (20, [.int 0, .ref mp, .int 0, .ref b1, .ref b2, .ref b3, .ref b4, .ref b5, .ref mq])), (mp, .inr (4, [.int mm, .ref ep, .int 20])), (ep, .inl (cy 2, 22, .inr (.inr (.inr (.inr gp))))), (mq, .inr (4, [.int mn, .ref eq, .int 6])), (eq, .inl (cy 2, 10, .inr (.inr (.inr (.inr gq))))), (oa, .inl (cy 3, 1, .inr (.inl og))), (y0, .inr (8, q0)), (r0, .inr (4, [.int 0, .ref ed, .int 0])), (y1, .inr (8, q1)), (r1, .inr (4, [.int 0, .ref ed, .int 0])), (y2, .inr (8, q2)), (r2, .inr (4, [.int 0, .ref ed, .int 0])), (y3, .inr (8, q3)), (r3, .inr (4, [.int 0, .ref ed, .int 0])), (y4, .inr (8, q4)), (r4, .inr (4, [.int 0, .ref ed, .int 0])), (y5, .inr (8, q5)), (r5, .inr (4, [.int 0, .ref ed, .int 0])), (z0, .inr (16, u0)), (v0, .inr (4, [.int 0, .ref ed, .int 0])), (z1, .inr (16, u1)), (v1, .inr (4, [.int 0, .ref ed, .int 0])), (z2, .inr (16, u2)), (v2, .inr (4, [.int 0, .ref ed, .int 0])), (z3, .inr (16, u3)), (v3, .inr (4, [.int 0, .ref ed, .int 0])), (z4, .inr (16, u4)), (v4, .inr (4, [.int 0, .ref ed, .int 0])), (z5, .inr (16, u5)), (v5, .inr (4, [.int 0, .ref ed, .int 0]))] ∧ g 0 = some y0 ∧ g 1 = some y1 ∧ g 2 = some y2 ∧ g 3 = some y3 ∧ g 4 = some y4 ∧ g 5 = some y5 ∧ q0[6]? = some (.ref r0) ∧ q1[6]? = some (.ref r1) ∧ q2[6]? = some (.ref r2) ∧ q3[6]? = some (.ref r3) ∧ q4[6]? = some (.ref r4) ∧ q5[6]? = some (.ref r5) ∧ gq 0 = some z0 ∧ gq 1 = some z1 ∧ gq 2 = some z2 ∧ gq 3 = some z3 ∧ gq 4 = some z4 ∧ gq 5 = some z5 ∧ u0[23]? = some (.ref v0) ∧ u1[23]? = some (.ref v1) ∧ u2[23]? = some (.ref v2) ∧ u3[23]? = some (.ref v3) ∧ u4[23]? = some (.ref v4) ∧ u5[23]? = some (.ref v5)
set_option maxHeartbeats 4000000 in
set_option maxRecDepth 100000 in
theorem law_step_0 {p : Program} {l : Launch} {e : Env} {s : State} {m : MethodId} {below : List Frame} {meth : Method} {c : Code} {D : va_G} {cy : Nat → ClassId} {ed b : Nat} {A : Nat → Prop} {Q : State → Prop} (C0 : zx_LW p l s m c D cy ed b A) {h m0 oa : Nat} {H : Heap} {locs : List Loc} {ls : Array Slot} (h0 : zx_S0 D cy ed A h m0 oa H) (hS : va_S A s.heap H locs) (hl : lv_has ls 9 [(5, .int 0), (3, .ref oa), (2, .ref m0), (1, .ref h), (0, .ref b)])
    (hnext : ∀ (H : Heap) (locs : List Loc) (ls : Array Slot), zx_S1 D cy ed A h m0 oa H → va_S A s.heap H locs → lv_has ls 9 [(5, .int 6), (3, .ref oa), (2, .ref m0), (1, .ref h), (0, .ref b)] → W p l e zx_R s m #[Value.ref b] below meth c H locs 44 1340 Q (F0 m 28 ls [])) :
    W p l e zx_R s m #[Value.ref b] below meth c H locs 40 1300 Q (F0 m 28 ls []) := by
  obtain ⟨hx, hb, hml, hst, hown, hts, hX, hbl, hbA, hA, hK, hZ, hN⟩ := C0
  obtain ⟨pe, ne, pa, ro, a1, a2, a3, a4, a5, a6, a7, a8, a9, mp, mq, b1, b2, b3, b4, b5, mc, mm, mn, f1, f2, f0, og, hP, hD⟩ := h0
  refine lv_iload hx hb dL_law_28 (lv_at hl 0 rfl) ?_
  refine lv_aload_n hx hb dL_law_30 rfl (lv_at hl 4 rfl) ?_
  refine va_slen hx hb hX hbl hbA hS dL_law_31 ?_
  refine lv_topi (fun y9 ey9 => ?_)
  obtain rfl : y9 = 3072 := ey9.trans (by decide)
  refine lv_bipush (v := 6) hx hb dL_law_32 (by decide) ?_
  refine lv_isub hx hb dL_law_34 ?_
  refine lv_topi (fun y9 ey9 => ?_)
  obtain rfl : y9 = 3066 := by rw [ey9] <;> decide
  refine lv_icmp_gt (tgt := 4263) hx hb dL_law_35 (by decide) (fun c_1290 => absurd c_1290 (by decide)) (fun _ => ?_)
  refine lv_aload_n hx hb dL_law_38 rfl (lv_at hl 4 rfl) ?_
  refine lv_iload hx hb dL_law_39 (lv_at hl 0 rfl) ?_
  refine va_sld hx hb hX hbl hbA hS (zx_bn (by decide)) dL_law_41 ?_
  refine lv_topi (fun y9 ey9 => ?_)
  obtain rfl : y9 = 0 := ey9.trans (by decide)
  refine lv_bipush (v := 63) hx hb dL_law_42 (by decide) ?_
  refine lv_iand hx hb dL_law_44 ?_
  refine lv_topi (fun y9 ey9 => ?_)
  obtain rfl : y9 = 0 := by rw [ey9] <;> decide
  refine lv_tableIn (off := 255) (tgt := 300) hx hb dL_law_45 (by decide) (by decide) (by decide) (by decide) ?_
  refine lv_aload_n hx hb dL_law_300 rfl (lv_at hl 3 rfl) ?_
  refine lv_aload_n hx hb dL_law_301 rfl (lv_at hl 4 rfl) ?_
  refine lv_iload hx hb dL_law_302 (lv_at hl 0 rfl) ?_
  refine lv_iconst (v := 1) hx hb dL_law_304 (by decide) ?_
  refine lv_iadd hx hb dL_law_305 ?_
  refine lv_topi (fun y9 ey9 => ?_)
  obtain rfl : y9 = 1 := by rw [ey9] <;> decide
  refine va_sld hx hb hX hbl hbA hS (zx_bn (by decide)) dL_law_306 ?_
  refine lv_topi (fun y9 ey9 => ?_)
  obtain rfl : y9 = 0 := ey9.trans (by decide)
  refine lv_aload_n hx hb dL_law_307 rfl (lv_at hl 4 rfl) ?_
  refine lv_iload hx hb dL_law_308 (lv_at hl 0 rfl) ?_
  refine lv_iconst (v := 2) hx hb dL_law_310 (by decide) ?_
  refine lv_iadd hx hb dL_law_311 ?_
  refine lv_topi (fun y9 ey9 => ?_)
  obtain rfl : y9 = 2 := by rw [ey9] <;> decide
  refine va_sld hx hb hX hbl hbA hS (zx_bn (by decide)) dL_law_312 ?_
  refine lv_topi (fun y9 ey9 => ?_)
  obtain rfl : y9 = 0 := ey9.trans (by decide)
  refine lv_aload_n hx hb dL_law_313 rfl (lv_at hl 1 rfl) ?_
  have hPc := hP.sub (ws' := [(h, .inr (13, [.ref pe, .ref ne, .ref pa, .ref ro, .int 0])), (pe, .inr (9, [.int 0, .ref a1, .ref a2, .ref a3, .ref a4, .ref a5, .ref a6, .ref a7, .ref a8, .ref a9])), (a1, .inl (cy 0, 20, .inl f1)), (a2, .inl (cy 0, 20, .inl f2)), (oa, .inl (cy 3, 1, .inr (.inl og)))]) [0, 1, 2, 3, 9] rfl
  have hDc := hD.sub (ws' := [(h, .inr (13, [.ref pe, .ref ne, .ref pa, .ref ro, .int 0])), (pe, .inr (9, [.int 0, .ref a1, .ref a2, .ref a3, .ref a4, .ref a5, .ref a6, .ref a7, .ref a8, .ref a9])), (a1, .inl (cy 0, 20, .inl f1)), (a2, .inl (cy 0, 20, .inl f2)), (oa, .inl (cy 3, 1, .inr (.inl og)))]) [0, 1, 2, 3, 9] (by decide) rfl
  have hFc := va_free (wc := [(h, .inr (13, [.ref pe, .ref ne, .ref pa, .ref ro, .int 0])), (pe, .inr (9, [.int 0, .ref a1, .ref a2, .ref a3, .ref a4, .ref a5, .ref a6, .ref a7, .ref a8, .ref a9])), (a1, .inl (cy 0, 20, .inl f1)), (a2, .inl (cy 0, 20, .inl f2)), (oa, .inl (cy 3, 1, .inr (.inl og)))]) hD hS hA [0, 1, 2, 3, 9] rfl
  refine vx_calli (vx_runSX (As := [.ref h, .int 0, .int 0, .ref oa]) (rest := []) ⟨hx, hb, hml, hown, hts⟩ (c_L_addPerson_0 l hst D cy ed H.size h pe ne pa ro 0 a1 a2 a3 a4 a5 a6 a7 a8 a9 f1 f2 oa og) (vx_cwSW 4 hts (zx_GS mm_329 mm_330 mm_70 mm_331) rfl rfl rfl (by decide +kernel) ⟨(Nat.le_of_ble_eq_true rfl), (Nat.le_of_ble_eq_true rfl)⟩) ⟨zx_blind, zx_give hPc hK hDc hS hFc hZ hN⟩ rfl rfl hl.1 rfl (lv_room (Nat.le_of_ble_eq_true rfl)) dL_law_314 ⟨(Nat.le_of_ble_eq_true rfl), (Nat.le_of_ble_eq_true rfl)⟩) hS (fun q _ h => hFc q h) hFc (fun q _ h => hFc q h) (fun E9 ce9 q9 _ t H locs ht hvm _ hBX hz1 hk1 hS hce hcv hcl => ?_) (fun r9 u t H locs ht hvm hw hB hz1 hk1 hS => ?_)
  · exact hBX.elim
  ·
    obtain ⟨f3_1291, f4_1292, o2_1293⟩ := u
    obtain ⟨rfl, h_1294⟩ := hw
    obtain ⟨hP, hD⟩ := zx_join (wr := [(ro, .inl (cy 0, 20, .inl f0)), (pa, .inr (4, [.int mc, .ref ed, .int 0])), (m0, .inr (20, [.int 0, .ref mp, .int 0, .ref b1, .ref b2, .ref b3, .ref b4, .ref b5, .ref mq])), (mp, .inr (4, [.int mm, .ref ed, .int 0])), (mq, .inr (4, [.int mn, .ref ed, .int 0]))]) (w1 := [(h, .inr (13, [.ref pe, .ref ne, .ref pa, .ref ro, .int 0])), (pe, .inr (9, [.int 1, .ref a1, .ref a2, .ref a3, .ref a4, .ref a5, .ref a6, .ref a7, .ref a8, .ref a9])), (a1, .inl (cy 0, 20, .inl f3_1291)), (a2, .inl (cy 0, 20, .inl f4_1292)), (oa, .inl (cy 3, 1, .inr (.inl o2_1293)))]) [0, 1, 2, 3, 9] [4, 5, 6, 7, 8] rfl rfl (by decide) (by decide) hP hD hk1 hFc hB ht
    have hP : va_P D vwCl [(ro, .inl (cy 0, 20, .inl f0)), (pa, .inr (4, [.int mc, .ref ed, .int 0])), (m0, .inr (20, [.int 0, .ref mp, .int 0, .ref b1, .ref b2, .ref b3, .ref b4, .ref b5, .ref mq])), (mp, .inr (4, [.int mm, .ref ed, .int 0])), (mq, .inr (4, [.int mn, .ref ed, .int 0])), (h, .inr (13, [.ref pe, .ref ne, .ref pa, .ref ro, .int 0])), (pe, .inr (9, [.int 1, .ref a1, .ref a2, .ref a3, .ref a4, .ref a5, .ref a6, .ref a7, .ref a8, .ref a9])), (a1, .inl (cy 0, 20, .inl f3_1291)), (a2, .inl (cy 0, 20, .inl f4_1292)), (oa, .inl (cy 3, 1, .inr (.inl o2_1293)))] H := hP
    have hD : va_D A [(ro, .inl (cy 0, 20, .inl f0)), (pa, .inr (4, [.int mc, .ref ed, .int 0])), (m0, .inr (20, [.int 0, .ref mp, .int 0, .ref b1, .ref b2, .ref b3, .ref b4, .ref b5, .ref mq])), (mp, .inr (4, [.int mm, .ref ed, .int 0])), (mq, .inr (4, [.int mn, .ref ed, .int 0])), (h, .inr (13, [.ref pe, .ref ne, .ref pa, .ref ro, .int 0])), (pe, .inr (9, [.int 1, .ref a1, .ref a2, .ref a3, .ref a4, .ref a5, .ref a6, .ref a7, .ref a8, .ref a9])), (a1, .inl (cy 0, 20, .inl f3_1291)), (a2, .inl (cy 0, 20, .inl f4_1292)), (oa, .inl (cy 3, 1, .inr (.inl o2_1293)))] := hD
    refine W.widen (k := 40) (n := 1300) (Nat.le_of_ble_eq_true rfl) (Nat.le_of_ble_eq_true rfl) ?_
    refine lv_istore (lv' := [(6, .int 0), (5, .int 0), (3, .ref oa), (2, .ref m0), (1, .ref h), (0, .ref b)]) hx hb dL_law_317 hl (by decide) rfl (fun ls hl => ?_)
    refine lv_aload_n hx hb dL_law_319 rfl (lv_at hl 3 rfl) ?_
    refine lv_aload_n hx hb dL_law_320 rfl (lv_at hl 5 rfl) ?_
    refine lv_iload hx hb dL_law_321 (lv_at hl 1 rfl) ?_
    refine lv_iconst (v := 1) hx hb dL_law_323 (by decide) ?_
    refine lv_iadd hx hb dL_law_324 ?_
    refine lv_topi (fun y9 ey9 => ?_)
    obtain rfl : y9 = 1 := by rw [ey9] <;> decide
    refine va_sld hx hb hX hbl hbA hS (zx_bn (by decide)) dL_law_325 ?_
    refine lv_topi (fun y9 ey9 => ?_)
    obtain rfl : y9 = 0 := ey9.trans (by decide)
    refine lv_aload_n hx hb dL_law_326 rfl (lv_at hl 5 rfl) ?_
    refine lv_iload hx hb dL_law_327 (lv_at hl 1 rfl) ?_
    refine lv_iconst (v := 2) hx hb dL_law_329 (by decide) ?_
    refine lv_iadd hx hb dL_law_330 ?_
    refine lv_topi (fun y9 ey9 => ?_)
    obtain rfl : y9 = 2 := by rw [ey9] <;> decide
    refine va_sld hx hb hX hbl hbA hS (zx_bn (by decide)) dL_law_331 ?_
    refine lv_topi (fun y9 ey9 => ?_)
    obtain rfl : y9 = 0 := ey9.trans (by decide)
    have hPc := hP.sub (ws' := [(m0, .inr (20, [.int 0, .ref mp, .int 0, .ref b1, .ref b2, .ref b3, .ref b4, .ref b5, .ref mq])), (mp, .inr (4, [.int mm, .ref ed, .int 0]))]) [2, 3] rfl
    have hDc := hD.sub (ws' := [(m0, .inr (20, [.int 0, .ref mp, .int 0, .ref b1, .ref b2, .ref b3, .ref b4, .ref b5, .ref mq])), (mp, .inr (4, [.int mm, .ref ed, .int 0]))]) [2, 3] (by decide) rfl
    have hFc := va_free (wc := [(m0, .inr (20, [.int 0, .ref mp, .int 0, .ref b1, .ref b2, .ref b3, .ref b4, .ref b5, .ref mq])), (mp, .inr (4, [.int mm, .ref ed, .int 0]))]) hD hS hA [2, 3] rfl
    refine va_calli (va_runV (As := [.int 0, .int 0]) (rest := []) ⟨hx, hb, hml, hown, hts⟩ (c_X15_addPerson_0 l hst D cy ed H.size m0 mp mq b1 b2 b3 b4 b5 0 0 mm) (cwV 2 hts (zx_GV mm_1603 mm_1604 mm_1605 mm_78 mm_1606) rfl rfl rfl (by decide +kernel) ⟨(Nat.le_of_ble_eq_true rfl), (Nat.le_of_ble_eq_true rfl)⟩) ⟨zx_blind, va_recv hK hPc (ci := 20) (q0 := 0) rfl rfl, zx_give hPc hK hDc hS hFc hZ hN⟩ rfl rfl hl.1 rfl (lv_room (Nat.le_of_ble_eq_true rfl)) dL_law_332 ⟨(Nat.le_of_ble_eq_true rfl), (Nat.le_of_ble_eq_true rfl)⟩) hS (fun q _ h => hFc q h) hFc (fun r9 u t H1 locs ht hvm hw hB hz1 hk1 hS => ?_)
    obtain ⟨mx_1295, qx_1296, g2_1297, y_1298, fy_1299⟩ := u
    obtain ⟨rfl, h_1300⟩ := hw
    obtain ⟨hP, hD⟩ := zx_join (wr := [(ro, .inl (cy 0, 20, .inl f0)), (pa, .inr (4, [.int mc, .ref ed, .int 0])), (mq, .inr (4, [.int mn, .ref ed, .int 0])), (h, .inr (13, [.ref pe, .ref ne, .ref pa, .ref ro, .int 0])), (pe, .inr (9, [.int 1, .ref a1, .ref a2, .ref a3, .ref a4, .ref a5, .ref a6, .ref a7, .ref a8, .ref a9])), (a1, .inl (cy 0, 20, .inl f3_1291)), (a2, .inl (cy 0, 20, .inl f4_1292)), (oa, .inl (cy 3, 1, .inr (.inl o2_1293)))]) (w1 := [(m0, .inr (20, [.int 0, .ref mp, .int 0, .ref b1, .ref b2, .ref b3, .ref b4, .ref b5, .ref mq])), (mp, .inr (4, [.int mx_1295, .ref qx_1296, .int 1])), (qx_1296, .inl (cy 2, 10, .inr (.inr (.inr (.inr g2_1297))))), (y_1298, .inr (17, fy_1299))]) [2, 3] [0, 1, 4, 5, 6, 7, 8, 9] rfl rfl (by decide) (by decide) hP hD hk1 hFc hB ht
    generalize H1 = H at hP hS ⊢
    have hP : va_P D vwCl [(ro, .inl (cy 0, 20, .inl f0)), (pa, .inr (4, [.int mc, .ref ed, .int 0])), (mq, .inr (4, [.int mn, .ref ed, .int 0])), (h, .inr (13, [.ref pe, .ref ne, .ref pa, .ref ro, .int 0])), (pe, .inr (9, [.int 1, .ref a1, .ref a2, .ref a3, .ref a4, .ref a5, .ref a6, .ref a7, .ref a8, .ref a9])), (a1, .inl (cy 0, 20, .inl f3_1291)), (a2, .inl (cy 0, 20, .inl f4_1292)), (oa, .inl (cy 3, 1, .inr (.inl o2_1293))), (m0, .inr (20, [.int 0, .ref mp, .int 0, .ref b1, .ref b2, .ref b3, .ref b4, .ref b5, .ref mq])), (mp, .inr (4, [.int mx_1295, .ref qx_1296, .int 1])), (qx_1296, .inl (cy 2, 10, .inr (.inr (.inr (.inr g2_1297))))), (y_1298, .inr (17, fy_1299))] H := hP
    have hD : va_D A [(ro, .inl (cy 0, 20, .inl f0)), (pa, .inr (4, [.int mc, .ref ed, .int 0])), (mq, .inr (4, [.int mn, .ref ed, .int 0])), (h, .inr (13, [.ref pe, .ref ne, .ref pa, .ref ro, .int 0])), (pe, .inr (9, [.int 1, .ref a1, .ref a2, .ref a3, .ref a4, .ref a5, .ref a6, .ref a7, .ref a8, .ref a9])), (a1, .inl (cy 0, 20, .inl f3_1291)), (a2, .inl (cy 0, 20, .inl f4_1292)), (oa, .inl (cy 3, 1, .inr (.inl o2_1293))), (m0, .inr (20, [.int 0, .ref mp, .int 0, .ref b1, .ref b2, .ref b3, .ref b4, .ref b5, .ref mq])), (mp, .inr (4, [.int mx_1295, .ref qx_1296, .int 1])), (qx_1296, .inl (cy 2, 10, .inr (.inr (.inr (.inr g2_1297))))), (y_1298, .inr (17, fy_1299))] := hD
    refine W.widen (k := 44) (n := 1340) (Nat.le_of_ble_eq_true rfl) (Nat.le_of_ble_eq_true rfl) ?_
    refine lv_istore (lv' := [(7, .int 0), (6, .int 0), (5, .int 0), (3, .ref oa), (2, .ref m0), (1, .ref h), (0, .ref b)]) hx hb dL_law_335 hl (by decide) rfl (fun ls hl => ?_)
    refine lv_aload_n hx hb dL_law_337 rfl (lv_at hl 4 rfl) ?_
    have hPc := hP.sub (ws' := [(m0, .inr (20, [.int 0, .ref mp, .int 0, .ref b1, .ref b2, .ref b3, .ref b4, .ref b5, .ref mq]))]) [8] rfl
    have hDc := hD.sub (ws' := [(m0, .inr (20, [.int 0, .ref mp, .int 0, .ref b1, .ref b2, .ref b3, .ref b4, .ref b5, .ref mq]))]) [8] (by decide) rfl
    have hFc := va_free (wc := [(m0, .inr (20, [.int 0, .ref mp, .int 0, .ref b1, .ref b2, .ref b3, .ref b4, .ref b5, .ref mq]))]) hD hS hA [8] rfl
    refine va_calli (va_runV (As := []) (rest := []) ⟨hx, hb, hml, hown, hts⟩ (c_X15_thrown l hst D cy ed H.size m0 mp mq b1 b2 b3 b4 b5 0 0) (cwV 0 hts (zx_GV mm_1599 mm_1600 mm_1601 mm_78 mm_1602) rfl rfl rfl (by decide +kernel) ⟨(Nat.le_of_ble_eq_true rfl), (Nat.le_of_ble_eq_true rfl)⟩) ⟨zx_blind, va_recv hK hPc (ci := 20) (q0 := 0) rfl rfl, zx_give hPc hK hDc hS hFc hZ hN⟩ rfl rfl hl.1 rfl (lv_room (Nat.le_of_ble_eq_true rfl)) dL_law_338 ⟨(Nat.le_of_ble_eq_true rfl), (Nat.le_of_ble_eq_true rfl)⟩) hS (fun q _ h => hFc q h) hFc (fun r9 u t H1 locs ht hvm hw hB hz1 hk1 hS => ?_)
    obtain rfl : r9 = 0 := hw
    obtain ⟨hP, hD⟩ := zx_join (wr := [(ro, .inl (cy 0, 20, .inl f0)), (pa, .inr (4, [.int mc, .ref ed, .int 0])), (mq, .inr (4, [.int mn, .ref ed, .int 0])), (h, .inr (13, [.ref pe, .ref ne, .ref pa, .ref ro, .int 0])), (pe, .inr (9, [.int 1, .ref a1, .ref a2, .ref a3, .ref a4, .ref a5, .ref a6, .ref a7, .ref a8, .ref a9])), (a1, .inl (cy 0, 20, .inl f3_1291)), (a2, .inl (cy 0, 20, .inl f4_1292)), (oa, .inl (cy 3, 1, .inr (.inl o2_1293))), (mp, .inr (4, [.int mx_1295, .ref qx_1296, .int 1])), (qx_1296, .inl (cy 2, 10, .inr (.inr (.inr (.inr g2_1297))))), (y_1298, .inr (17, fy_1299))]) (w1 := [(m0, .inr (20, [.int 0, .ref mp, .int 0, .ref b1, .ref b2, .ref b3, .ref b4, .ref b5, .ref mq]))]) [8] [0, 1, 2, 3, 4, 5, 6, 7, 9, 10, 11] rfl rfl (by decide) (by decide) hP hD hk1 hFc hB ht
    generalize H1 = H at hP hS ⊢
    have hP : va_P D vwCl [(ro, .inl (cy 0, 20, .inl f0)), (pa, .inr (4, [.int mc, .ref ed, .int 0])), (mq, .inr (4, [.int mn, .ref ed, .int 0])), (h, .inr (13, [.ref pe, .ref ne, .ref pa, .ref ro, .int 0])), (pe, .inr (9, [.int 1, .ref a1, .ref a2, .ref a3, .ref a4, .ref a5, .ref a6, .ref a7, .ref a8, .ref a9])), (a1, .inl (cy 0, 20, .inl f3_1291)), (a2, .inl (cy 0, 20, .inl f4_1292)), (oa, .inl (cy 3, 1, .inr (.inl o2_1293))), (mp, .inr (4, [.int mx_1295, .ref qx_1296, .int 1])), (qx_1296, .inl (cy 2, 10, .inr (.inr (.inr (.inr g2_1297))))), (y_1298, .inr (17, fy_1299)), (m0, .inr (20, [.int 0, .ref mp, .int 0, .ref b1, .ref b2, .ref b3, .ref b4, .ref b5, .ref mq]))] H := hP
    have hD : va_D A [(ro, .inl (cy 0, 20, .inl f0)), (pa, .inr (4, [.int mc, .ref ed, .int 0])), (mq, .inr (4, [.int mn, .ref ed, .int 0])), (h, .inr (13, [.ref pe, .ref ne, .ref pa, .ref ro, .int 0])), (pe, .inr (9, [.int 1, .ref a1, .ref a2, .ref a3, .ref a4, .ref a5, .ref a6, .ref a7, .ref a8, .ref a9])), (a1, .inl (cy 0, 20, .inl f3_1291)), (a2, .inl (cy 0, 20, .inl f4_1292)), (oa, .inl (cy 3, 1, .inr (.inl o2_1293))), (mp, .inr (4, [.int mx_1295, .ref qx_1296, .int 1])), (qx_1296, .inl (cy 2, 10, .inr (.inr (.inr (.inr g2_1297))))), (y_1298, .inr (17, fy_1299)), (m0, .inr (20, [.int 0, .ref mp, .int 0, .ref b1, .ref b2, .ref b3, .ref b4, .ref b5, .ref mq]))] := hD
    refine W.widen (k := 44) (n := 1340) (Nat.le_of_ble_eq_true rfl) (Nat.le_of_ble_eq_true rfl) ?_
    refine lv_iload hx hb dL_law_341 (lv_at hl 1 rfl) ?_
    refine lv_icmp_eq (tgt := 348) hx hb dL_law_343 (by decide) (fun _ => ?_) (fun c_1301 => absurd (by decide) c_1301)
    refine lv_iload hx hb dL_law_348 (lv_at hl 1 rfl) ?_
    refine lv_if_ne (tgt := 365) hx hb dL_law_350 (by decide) (fun c_1302 => absurd c_1302 (by decide)) (fun _ => ?_)
    refine lv_aload_n hx hb dL_law_353 rfl (lv_at hl 3 rfl) ?_
    refine lv_iconst (v := 0) hx hb dL_law_354 (by decide) ?_
    refine va_lald hx hb hK hP 7 3 rfl rfl (zx_bn (by decide)) dL_law_355 ?_
    refine lv_iload hx hb dL_law_356 (lv_at hl 0 rfl) ?_
    refine lv_i2l (v := 0) hx hb dL_law_358 rfl ?_
    refine W.lcmp hx hb dL_law_359 ?_
    refine lv_topi (fun y9 ey9 => ?_)
    obtain rfl : y9 = 0 := ey9.trans (zx_lcmpe h_1294)
    refine lv_if_eq (tgt := 365) hx hb dL_law_360 (by decide) (fun _ => ?_) (fun c_1303 => absurd (by decide) c_1303)
    refine lv_goto (tgt := 4257) hx hb dL_law_365 (by decide) ?_
    refine lv_iinc (v := 6) (lv' := [(5, .int 6), (7, .int 0), (6, .int 0), (3, .ref oa), (2, .ref m0), (1, .ref h), (0, .ref b)]) hx hb dL_law_4257 hl (k := 2) rfl (by decide) (by decide) rfl (fun ls hl => ?_)
    refine lv_goto (tgt := 28) hx hb dL_law_4260 (by decide) ?_
    have hP := hP.sub (ws' := [(h, .inr (13, [.ref pe, .ref ne, .ref pa, .ref ro, .int 0])), (pe, .inr (9, [.int 1, .ref a1, .ref a2, .ref a3, .ref a4, .ref a5, .ref a6, .ref a7, .ref a8, .ref a9])), (a1, .inl (cy 0, 20, .inl f3_1291)), (a2, .inl (cy 0, 20, .inl f4_1292)), (ro, .inl (cy 0, 20, .inl f0)), (pa, .inr (4, [.int mc, .ref ed, .int 0])), (m0, .inr (20, [.int 0, .ref mp, .int 0, .ref b1, .ref b2, .ref b3, .ref b4, .ref b5, .ref mq])), (mp, .inr (4, [.int mx_1295, .ref qx_1296, .int 1])), (qx_1296, .inl (cy 2, 10, .inr (.inr (.inr (.inr g2_1297))))), (mq, .inr (4, [.int mn, .ref ed, .int 0])), (oa, .inl (cy 3, 1, .inr (.inl o2_1293))), (y_1298, .inr (17, fy_1299))]) [3, 4, 5, 6, 0, 1, 11, 8, 9, 2, 7, 10] rfl
    have hD := hD.sub (ws' := [(h, .inr (13, [.ref pe, .ref ne, .ref pa, .ref ro, .int 0])), (pe, .inr (9, [.int 1, .ref a1, .ref a2, .ref a3, .ref a4, .ref a5, .ref a6, .ref a7, .ref a8, .ref a9])), (a1, .inl (cy 0, 20, .inl f3_1291)), (a2, .inl (cy 0, 20, .inl f4_1292)), (ro, .inl (cy 0, 20, .inl f0)), (pa, .inr (4, [.int mc, .ref ed, .int 0])), (m0, .inr (20, [.int 0, .ref mp, .int 0, .ref b1, .ref b2, .ref b3, .ref b4, .ref b5, .ref mq])), (mp, .inr (4, [.int mx_1295, .ref qx_1296, .int 1])), (qx_1296, .inl (cy 2, 10, .inr (.inr (.inr (.inr g2_1297))))), (mq, .inr (4, [.int mn, .ref ed, .int 0])), (oa, .inl (cy 3, 1, .inr (.inl o2_1293))), (y_1298, .inr (17, fy_1299))]) [3, 4, 5, 6, 0, 1, 11, 8, 9, 2, 7, 10] (by decide) rfl
    exact hnext _ _ _ ⟨pe, ne, pa, ro, a1, a2, a3, a4, a5, a6, a7, a8, a9, mp, mq, b1, b2, b3, b4, b5, qx_1296, mc, mx_1295, mn, f3_1291, f4_1292, f0, o2_1293, g2_1297, y_1298, fy_1299, hP, hD, h_1300⟩ hS (lv_sub hl [0, 3, 4, 5, 6] rfl)
set_option maxHeartbeats 4000000 in
set_option maxRecDepth 100000 in
theorem law_step_1 {p : Program} {l : Launch} {e : Env} {s : State} {m : MethodId} {below : List Frame} {meth : Method} {c : Code} {D : va_G} {cy : Nat → ClassId} {ed b : Nat} {A : Nat → Prop} {Q : State → Prop} (C0 : zx_LW p l s m c D cy ed b A) {h m0 oa : Nat} {H : Heap} {locs : List Loc} {ls : Array Slot} (h0 : zx_S1 D cy ed A h m0 oa H) (hS : va_S A s.heap H locs) (hl : lv_has ls 9 [(5, .int 6), (3, .ref oa), (2, .ref m0), (1, .ref h), (0, .ref b)])
    (hnext : ∀ (H : Heap) (locs : List Loc) (ls : Array Slot), zx_S2 D cy ed A h m0 oa H → va_S A s.heap H locs → lv_has ls 9 [(5, .int 12), (3, .ref oa), (2, .ref m0), (1, .ref h), (0, .ref b)] → W p l e zx_R s m #[Value.ref b] below meth c H locs 47 1370 Q (F0 m 28 ls [])) :
    W p l e zx_R s m #[Value.ref b] below meth c H locs 44 1340 Q (F0 m 28 ls []) := by
  obtain ⟨hx, hb, hml, hst, hown, hts, hX, hbl, hbA, hA, hK, hZ, hN⟩ := C0
  obtain ⟨pe, ne, pa, ro, a1, a2, a3, a4, a5, a6, a7, a8, a9, mp, mq, b1, b2, b3, b4, b5, ep, mc, mm, mn, f1, f2, f0, og, gp, p0, t0, hP, hD, hp0⟩ := h0
  refine lv_iload hx hb dL_law_28 (lv_at hl 0 rfl) ?_
  refine lv_aload_n hx hb dL_law_30 rfl (lv_at hl 4 rfl) ?_
  refine va_slen hx hb hX hbl hbA hS dL_law_31 ?_
  refine lv_topi (fun y9 ey9 => ?_)
  obtain rfl : y9 = 3072 := ey9.trans (by decide)
  refine lv_bipush (v := 6) hx hb dL_law_32 (by decide) ?_
  refine lv_isub hx hb dL_law_34 ?_
  refine lv_topi (fun y9 ey9 => ?_)
  obtain rfl : y9 = 3066 := by rw [ey9] <;> decide
  refine lv_icmp_gt (tgt := 4263) hx hb dL_law_35 (by decide) (fun c_1304 => absurd c_1304 (by decide)) (fun _ => ?_)
  refine lv_aload_n hx hb dL_law_38 rfl (lv_at hl 4 rfl) ?_
  refine lv_iload hx hb dL_law_39 (lv_at hl 0 rfl) ?_
  refine va_sld hx hb hX hbl hbA hS (zx_bn (by decide)) dL_law_41 ?_
  refine lv_topi (fun y9 ey9 => ?_)
  obtain rfl : y9 = 0 := ey9.trans (by decide)
  refine lv_bipush (v := 63) hx hb dL_law_42 (by decide) ?_
  refine lv_iand hx hb dL_law_44 ?_
  refine lv_topi (fun y9 ey9 => ?_)
  obtain rfl : y9 = 0 := by rw [ey9] <;> decide
  refine lv_tableIn (off := 255) (tgt := 300) hx hb dL_law_45 (by decide) (by decide) (by decide) (by decide) ?_
  refine lv_aload_n hx hb dL_law_300 rfl (lv_at hl 3 rfl) ?_
  refine lv_aload_n hx hb dL_law_301 rfl (lv_at hl 4 rfl) ?_
  refine lv_iload hx hb dL_law_302 (lv_at hl 0 rfl) ?_
  refine lv_iconst (v := 1) hx hb dL_law_304 (by decide) ?_
  refine lv_iadd hx hb dL_law_305 ?_
  refine lv_topi (fun y9 ey9 => ?_)
  obtain rfl : y9 = 7 := by rw [ey9] <;> decide
  refine va_sld hx hb hX hbl hbA hS (zx_bn (by decide)) dL_law_306 ?_
  refine lv_topi (fun y9 ey9 => ?_)
  obtain rfl : y9 = 0 := ey9.trans (by decide)
  refine lv_aload_n hx hb dL_law_307 rfl (lv_at hl 4 rfl) ?_
  refine lv_iload hx hb dL_law_308 (lv_at hl 0 rfl) ?_
  refine lv_iconst (v := 2) hx hb dL_law_310 (by decide) ?_
  refine lv_iadd hx hb dL_law_311 ?_
  refine lv_topi (fun y9 ey9 => ?_)
  obtain rfl : y9 = 8 := by rw [ey9] <;> decide
  refine va_sld hx hb hX hbl hbA hS (zx_bn (by decide)) dL_law_312 ?_
  refine lv_topi (fun y9 ey9 => ?_)
  obtain rfl : y9 = 0 := ey9.trans (by decide)
  refine lv_aload_n hx hb dL_law_313 rfl (lv_at hl 1 rfl) ?_
  have hPc := hP.sub (ws' := [(h, .inr (13, [.ref pe, .ref ne, .ref pa, .ref ro, .int 0])), (pe, .inr (9, [.int 1, .ref a1, .ref a2, .ref a3, .ref a4, .ref a5, .ref a6, .ref a7, .ref a8, .ref a9])), (a1, .inl (cy 0, 20, .inl f1)), (a2, .inl (cy 0, 20, .inl f2)), (oa, .inl (cy 3, 1, .inr (.inl og)))]) [0, 1, 2, 3, 10] rfl
  have hDc := hD.sub (ws' := [(h, .inr (13, [.ref pe, .ref ne, .ref pa, .ref ro, .int 0])), (pe, .inr (9, [.int 1, .ref a1, .ref a2, .ref a3, .ref a4, .ref a5, .ref a6, .ref a7, .ref a8, .ref a9])), (a1, .inl (cy 0, 20, .inl f1)), (a2, .inl (cy 0, 20, .inl f2)), (oa, .inl (cy 3, 1, .inr (.inl og)))]) [0, 1, 2, 3, 10] (by decide) rfl
  have hFc := va_free (wc := [(h, .inr (13, [.ref pe, .ref ne, .ref pa, .ref ro, .int 0])), (pe, .inr (9, [.int 1, .ref a1, .ref a2, .ref a3, .ref a4, .ref a5, .ref a6, .ref a7, .ref a8, .ref a9])), (a1, .inl (cy 0, 20, .inl f1)), (a2, .inl (cy 0, 20, .inl f2)), (oa, .inl (cy 3, 1, .inr (.inl og)))]) hD hS hA [0, 1, 2, 3, 10] rfl
  refine vx_calli (vx_runSX (As := [.ref h, .int 0, .int 0, .ref oa]) (rest := []) ⟨hx, hb, hml, hown, hts⟩ (c_L_addPerson_1 l hst D cy ed H.size h pe ne pa ro 0 a1 a2 a3 a4 a5 a6 a7 a8 a9 f1 f2 oa og) (vx_cwSW 4 hts (zx_GS mm_329 mm_330 mm_70 mm_331) rfl rfl rfl (by decide +kernel) ⟨(Nat.le_of_ble_eq_true rfl), (Nat.le_of_ble_eq_true rfl)⟩) ⟨zx_blind, zx_give hPc hK hDc hS hFc hZ hN⟩ rfl rfl hl.1 rfl (lv_room (Nat.le_of_ble_eq_true rfl)) dL_law_314 ⟨(Nat.le_of_ble_eq_true rfl), (Nat.le_of_ble_eq_true rfl)⟩) hS (fun q _ h => hFc q h) hFc (fun q _ h => hFc q h) (fun E9 ce9 q9 _ t H locs ht hvm _ hBX hz1 hk1 hS hce hcv hcl => ?_) (fun r9 u t H locs ht hvm hw hB hz1 hk1 hS => ?_)
  · exact hBX.elim
  ·
    obtain ⟨f3_1305, f4_1306, o2_1307⟩ := u
    obtain ⟨rfl, h_1308⟩ := hw
    obtain ⟨hP, hD⟩ := zx_join (wr := [(ro, .inl (cy 0, 20, .inl f0)), (pa, .inr (4, [.int mc, .ref ed, .int 0])), (m0, .inr (20, [.int 0, .ref mp, .int 0, .ref b1, .ref b2, .ref b3, .ref b4, .ref b5, .ref mq])), (mp, .inr (4, [.int mm, .ref ep, .int 1])), (ep, .inl (cy 2, 10, .inr (.inr (.inr (.inr gp))))), (mq, .inr (4, [.int mn, .ref ed, .int 0])), (p0, .inr (17, t0))]) (w1 := [(h, .inr (13, [.ref pe, .ref ne, .ref pa, .ref ro, .int 0])), (pe, .inr (9, [.int 2, .ref a1, .ref a2, .ref a3, .ref a4, .ref a5, .ref a6, .ref a7, .ref a8, .ref a9])), (a1, .inl (cy 0, 20, .inl f3_1305)), (a2, .inl (cy 0, 20, .inl f4_1306)), (oa, .inl (cy 3, 1, .inr (.inl o2_1307)))]) [0, 1, 2, 3, 10] [4, 5, 6, 7, 8, 9, 11] rfl rfl (by decide) (by decide) hP hD hk1 hFc hB ht
    have hP : va_P D vwCl [(ro, .inl (cy 0, 20, .inl f0)), (pa, .inr (4, [.int mc, .ref ed, .int 0])), (m0, .inr (20, [.int 0, .ref mp, .int 0, .ref b1, .ref b2, .ref b3, .ref b4, .ref b5, .ref mq])), (mp, .inr (4, [.int mm, .ref ep, .int 1])), (ep, .inl (cy 2, 10, .inr (.inr (.inr (.inr gp))))), (mq, .inr (4, [.int mn, .ref ed, .int 0])), (p0, .inr (17, t0)), (h, .inr (13, [.ref pe, .ref ne, .ref pa, .ref ro, .int 0])), (pe, .inr (9, [.int 2, .ref a1, .ref a2, .ref a3, .ref a4, .ref a5, .ref a6, .ref a7, .ref a8, .ref a9])), (a1, .inl (cy 0, 20, .inl f3_1305)), (a2, .inl (cy 0, 20, .inl f4_1306)), (oa, .inl (cy 3, 1, .inr (.inl o2_1307)))] H := hP
    have hD : va_D A [(ro, .inl (cy 0, 20, .inl f0)), (pa, .inr (4, [.int mc, .ref ed, .int 0])), (m0, .inr (20, [.int 0, .ref mp, .int 0, .ref b1, .ref b2, .ref b3, .ref b4, .ref b5, .ref mq])), (mp, .inr (4, [.int mm, .ref ep, .int 1])), (ep, .inl (cy 2, 10, .inr (.inr (.inr (.inr gp))))), (mq, .inr (4, [.int mn, .ref ed, .int 0])), (p0, .inr (17, t0)), (h, .inr (13, [.ref pe, .ref ne, .ref pa, .ref ro, .int 0])), (pe, .inr (9, [.int 2, .ref a1, .ref a2, .ref a3, .ref a4, .ref a5, .ref a6, .ref a7, .ref a8, .ref a9])), (a1, .inl (cy 0, 20, .inl f3_1305)), (a2, .inl (cy 0, 20, .inl f4_1306)), (oa, .inl (cy 3, 1, .inr (.inl o2_1307)))] := hD
    refine W.widen (k := 44) (n := 1340) (Nat.le_of_ble_eq_true rfl) (Nat.le_of_ble_eq_true rfl) ?_
    refine lv_istore (lv' := [(6, .int 0), (5, .int 6), (3, .ref oa), (2, .ref m0), (1, .ref h), (0, .ref b)]) hx hb dL_law_317 hl (by decide) rfl (fun ls hl => ?_)
    refine lv_aload_n hx hb dL_law_319 rfl (lv_at hl 3 rfl) ?_
    refine lv_aload_n hx hb dL_law_320 rfl (lv_at hl 5 rfl) ?_
    refine lv_iload hx hb dL_law_321 (lv_at hl 1 rfl) ?_
    refine lv_iconst (v := 1) hx hb dL_law_323 (by decide) ?_
    refine lv_iadd hx hb dL_law_324 ?_
    refine lv_topi (fun y9 ey9 => ?_)
    obtain rfl : y9 = 7 := by rw [ey9] <;> decide
    refine va_sld hx hb hX hbl hbA hS (zx_bn (by decide)) dL_law_325 ?_
    refine lv_topi (fun y9 ey9 => ?_)
    obtain rfl : y9 = 0 := ey9.trans (by decide)
    refine lv_aload_n hx hb dL_law_326 rfl (lv_at hl 5 rfl) ?_
    refine lv_iload hx hb dL_law_327 (lv_at hl 1 rfl) ?_
    refine lv_iconst (v := 2) hx hb dL_law_329 (by decide) ?_
    refine lv_iadd hx hb dL_law_330 ?_
    refine lv_topi (fun y9 ey9 => ?_)
    obtain rfl : y9 = 8 := by rw [ey9] <;> decide
    refine va_sld hx hb hX hbl hbA hS (zx_bn (by decide)) dL_law_331 ?_
    refine lv_topi (fun y9 ey9 => ?_)
    obtain rfl : y9 = 0 := ey9.trans (by decide)
    have hPc := hP.sub (ws' := [(m0, .inr (20, [.int 0, .ref mp, .int 0, .ref b1, .ref b2, .ref b3, .ref b4, .ref b5, .ref mq])), (mp, .inr (4, [.int mm, .ref ep, .int 1])), (ep, .inl (cy 2, 10, .inr (.inr (.inr (.inr gp)))))]) [2, 3, 4] rfl
    have hDc := hD.sub (ws' := [(m0, .inr (20, [.int 0, .ref mp, .int 0, .ref b1, .ref b2, .ref b3, .ref b4, .ref b5, .ref mq])), (mp, .inr (4, [.int mm, .ref ep, .int 1])), (ep, .inl (cy 2, 10, .inr (.inr (.inr (.inr gp)))))]) [2, 3, 4] (by decide) rfl
    have hFc := va_free (wc := [(m0, .inr (20, [.int 0, .ref mp, .int 0, .ref b1, .ref b2, .ref b3, .ref b4, .ref b5, .ref mq])), (mp, .inr (4, [.int mm, .ref ep, .int 1])), (ep, .inl (cy 2, 10, .inr (.inr (.inr (.inr gp)))))]) hD hS hA [2, 3, 4] rfl
    refine va_calli (va_runV (As := [.int 0, .int 0]) (rest := []) ⟨hx, hb, hml, hown, hts⟩ (c_X15_addPerson_1 l hst D cy ed H.size m0 mp mq b1 b2 b3 b4 b5 0 0 mm ep gp) (cwV 2 hts (zx_GV mm_1603 mm_1604 mm_1605 mm_78 mm_1606) rfl rfl rfl (by decide +kernel) ⟨(Nat.le_of_ble_eq_true rfl), (Nat.le_of_ble_eq_true rfl)⟩) ⟨zx_blind, va_recv hK hPc (ci := 20) (q0 := 0) rfl rfl, zx_give hPc hK hDc hS hFc hZ hN⟩ rfl rfl hl.1 rfl (lv_room (Nat.le_of_ble_eq_true rfl)) dL_law_332 ⟨(Nat.le_of_ble_eq_true rfl), (Nat.le_of_ble_eq_true rfl)⟩) hS (fun q _ h => hFc q h) hFc (fun r9 u t H1 locs ht hvm hw hB hz1 hk1 hS => ?_)
    obtain ⟨mx_1309, qx_1310, g2_1311, y_1312, fy_1313⟩ := u
    obtain ⟨rfl, h_1314⟩ := hw
    obtain ⟨hP, hD⟩ := zx_join (wr := [(ro, .inl (cy 0, 20, .inl f0)), (pa, .inr (4, [.int mc, .ref ed, .int 0])), (mq, .inr (4, [.int mn, .ref ed, .int 0])), (p0, .inr (17, t0)), (h, .inr (13, [.ref pe, .ref ne, .ref pa, .ref ro, .int 0])), (pe, .inr (9, [.int 2, .ref a1, .ref a2, .ref a3, .ref a4, .ref a5, .ref a6, .ref a7, .ref a8, .ref a9])), (a1, .inl (cy 0, 20, .inl f3_1305)), (a2, .inl (cy 0, 20, .inl f4_1306)), (oa, .inl (cy 3, 1, .inr (.inl o2_1307)))]) (w1 := [(m0, .inr (20, [.int 0, .ref mp, .int 0, .ref b1, .ref b2, .ref b3, .ref b4, .ref b5, .ref mq])), (mp, .inr (4, [.int mx_1309, .ref qx_1310, .int 2])), (qx_1310, .inl (cy 2, 10, .inr (.inr (.inr (.inr g2_1311))))), (y_1312, .inr (17, fy_1313))]) [2, 3, 4] [0, 1, 5, 6, 7, 8, 9, 10, 11] rfl rfl (by decide) (by decide) hP hD hk1 hFc hB ht
    generalize H1 = H at hP hS ⊢
    have hP : va_P D vwCl [(ro, .inl (cy 0, 20, .inl f0)), (pa, .inr (4, [.int mc, .ref ed, .int 0])), (mq, .inr (4, [.int mn, .ref ed, .int 0])), (p0, .inr (17, t0)), (h, .inr (13, [.ref pe, .ref ne, .ref pa, .ref ro, .int 0])), (pe, .inr (9, [.int 2, .ref a1, .ref a2, .ref a3, .ref a4, .ref a5, .ref a6, .ref a7, .ref a8, .ref a9])), (a1, .inl (cy 0, 20, .inl f3_1305)), (a2, .inl (cy 0, 20, .inl f4_1306)), (oa, .inl (cy 3, 1, .inr (.inl o2_1307))), (m0, .inr (20, [.int 0, .ref mp, .int 0, .ref b1, .ref b2, .ref b3, .ref b4, .ref b5, .ref mq])), (mp, .inr (4, [.int mx_1309, .ref qx_1310, .int 2])), (qx_1310, .inl (cy 2, 10, .inr (.inr (.inr (.inr g2_1311))))), (y_1312, .inr (17, fy_1313))] H := hP
    have hD : va_D A [(ro, .inl (cy 0, 20, .inl f0)), (pa, .inr (4, [.int mc, .ref ed, .int 0])), (mq, .inr (4, [.int mn, .ref ed, .int 0])), (p0, .inr (17, t0)), (h, .inr (13, [.ref pe, .ref ne, .ref pa, .ref ro, .int 0])), (pe, .inr (9, [.int 2, .ref a1, .ref a2, .ref a3, .ref a4, .ref a5, .ref a6, .ref a7, .ref a8, .ref a9])), (a1, .inl (cy 0, 20, .inl f3_1305)), (a2, .inl (cy 0, 20, .inl f4_1306)), (oa, .inl (cy 3, 1, .inr (.inl o2_1307))), (m0, .inr (20, [.int 0, .ref mp, .int 0, .ref b1, .ref b2, .ref b3, .ref b4, .ref b5, .ref mq])), (mp, .inr (4, [.int mx_1309, .ref qx_1310, .int 2])), (qx_1310, .inl (cy 2, 10, .inr (.inr (.inr (.inr g2_1311))))), (y_1312, .inr (17, fy_1313))] := hD
    refine W.widen (k := 47) (n := 1370) (Nat.le_of_ble_eq_true rfl) (Nat.le_of_ble_eq_true rfl) ?_
    obtain ⟨hs_1315, hs_1316⟩ := h_1314
    refine lv_istore (lv' := [(7, .int 1), (6, .int 0), (5, .int 6), (3, .ref oa), (2, .ref m0), (1, .ref h), (0, .ref b)]) hx hb dL_law_335 hl (by decide) rfl (fun ls hl => ?_)
    refine lv_aload_n hx hb dL_law_337 rfl (lv_at hl 4 rfl) ?_
    have hPc := hP.sub (ws' := [(m0, .inr (20, [.int 0, .ref mp, .int 0, .ref b1, .ref b2, .ref b3, .ref b4, .ref b5, .ref mq]))]) [9] rfl
    have hDc := hD.sub (ws' := [(m0, .inr (20, [.int 0, .ref mp, .int 0, .ref b1, .ref b2, .ref b3, .ref b4, .ref b5, .ref mq]))]) [9] (by decide) rfl
    have hFc := va_free (wc := [(m0, .inr (20, [.int 0, .ref mp, .int 0, .ref b1, .ref b2, .ref b3, .ref b4, .ref b5, .ref mq]))]) hD hS hA [9] rfl
    refine va_calli (va_runV (As := []) (rest := []) ⟨hx, hb, hml, hown, hts⟩ (c_X15_thrown l hst D cy ed H.size m0 mp mq b1 b2 b3 b4 b5 0 0) (cwV 0 hts (zx_GV mm_1599 mm_1600 mm_1601 mm_78 mm_1602) rfl rfl rfl (by decide +kernel) ⟨(Nat.le_of_ble_eq_true rfl), (Nat.le_of_ble_eq_true rfl)⟩) ⟨zx_blind, va_recv hK hPc (ci := 20) (q0 := 0) rfl rfl, zx_give hPc hK hDc hS hFc hZ hN⟩ rfl rfl hl.1 rfl (lv_room (Nat.le_of_ble_eq_true rfl)) dL_law_338 ⟨(Nat.le_of_ble_eq_true rfl), (Nat.le_of_ble_eq_true rfl)⟩) hS (fun q _ h => hFc q h) hFc (fun r9 u t H1 locs ht hvm hw hB hz1 hk1 hS => ?_)
    obtain rfl : r9 = 0 := hw
    obtain ⟨hP, hD⟩ := zx_join (wr := [(ro, .inl (cy 0, 20, .inl f0)), (pa, .inr (4, [.int mc, .ref ed, .int 0])), (mq, .inr (4, [.int mn, .ref ed, .int 0])), (p0, .inr (17, t0)), (h, .inr (13, [.ref pe, .ref ne, .ref pa, .ref ro, .int 0])), (pe, .inr (9, [.int 2, .ref a1, .ref a2, .ref a3, .ref a4, .ref a5, .ref a6, .ref a7, .ref a8, .ref a9])), (a1, .inl (cy 0, 20, .inl f3_1305)), (a2, .inl (cy 0, 20, .inl f4_1306)), (oa, .inl (cy 3, 1, .inr (.inl o2_1307))), (mp, .inr (4, [.int mx_1309, .ref qx_1310, .int 2])), (qx_1310, .inl (cy 2, 10, .inr (.inr (.inr (.inr g2_1311))))), (y_1312, .inr (17, fy_1313))]) (w1 := [(m0, .inr (20, [.int 0, .ref mp, .int 0, .ref b1, .ref b2, .ref b3, .ref b4, .ref b5, .ref mq]))]) [9] [0, 1, 2, 3, 4, 5, 6, 7, 8, 10, 11, 12] rfl rfl (by decide) (by decide) hP hD hk1 hFc hB ht
    generalize H1 = H at hP hS ⊢
    have hP : va_P D vwCl [(ro, .inl (cy 0, 20, .inl f0)), (pa, .inr (4, [.int mc, .ref ed, .int 0])), (mq, .inr (4, [.int mn, .ref ed, .int 0])), (p0, .inr (17, t0)), (h, .inr (13, [.ref pe, .ref ne, .ref pa, .ref ro, .int 0])), (pe, .inr (9, [.int 2, .ref a1, .ref a2, .ref a3, .ref a4, .ref a5, .ref a6, .ref a7, .ref a8, .ref a9])), (a1, .inl (cy 0, 20, .inl f3_1305)), (a2, .inl (cy 0, 20, .inl f4_1306)), (oa, .inl (cy 3, 1, .inr (.inl o2_1307))), (mp, .inr (4, [.int mx_1309, .ref qx_1310, .int 2])), (qx_1310, .inl (cy 2, 10, .inr (.inr (.inr (.inr g2_1311))))), (y_1312, .inr (17, fy_1313)), (m0, .inr (20, [.int 0, .ref mp, .int 0, .ref b1, .ref b2, .ref b3, .ref b4, .ref b5, .ref mq]))] H := hP
    have hD : va_D A [(ro, .inl (cy 0, 20, .inl f0)), (pa, .inr (4, [.int mc, .ref ed, .int 0])), (mq, .inr (4, [.int mn, .ref ed, .int 0])), (p0, .inr (17, t0)), (h, .inr (13, [.ref pe, .ref ne, .ref pa, .ref ro, .int 0])), (pe, .inr (9, [.int 2, .ref a1, .ref a2, .ref a3, .ref a4, .ref a5, .ref a6, .ref a7, .ref a8, .ref a9])), (a1, .inl (cy 0, 20, .inl f3_1305)), (a2, .inl (cy 0, 20, .inl f4_1306)), (oa, .inl (cy 3, 1, .inr (.inl o2_1307))), (mp, .inr (4, [.int mx_1309, .ref qx_1310, .int 2])), (qx_1310, .inl (cy 2, 10, .inr (.inr (.inr (.inr g2_1311))))), (y_1312, .inr (17, fy_1313)), (m0, .inr (20, [.int 0, .ref mp, .int 0, .ref b1, .ref b2, .ref b3, .ref b4, .ref b5, .ref mq]))] := hD
    refine W.widen (k := 47) (n := 1370) (Nat.le_of_ble_eq_true rfl) (Nat.le_of_ble_eq_true rfl) ?_
    refine lv_iload hx hb dL_law_341 (lv_at hl 1 rfl) ?_
    refine lv_icmp_eq (tgt := 348) hx hb dL_law_343 (by decide) (fun _ => ?_) (fun c_1317 => absurd (by decide) c_1317)
    refine lv_iload hx hb dL_law_348 (lv_at hl 1 rfl) ?_
    refine lv_if_ne (tgt := 365) hx hb dL_law_350 (by decide) (fun c_1318 => absurd c_1318 (by decide)) (fun _ => ?_)
    refine lv_aload_n hx hb dL_law_353 rfl (lv_at hl 3 rfl) ?_
    refine lv_iconst (v := 0) hx hb dL_law_354 (by decide) ?_
    refine va_lald hx hb hK hP 8 3 rfl rfl (zx_bn (by decide)) dL_law_355 ?_
    refine lv_iload hx hb dL_law_356 (lv_at hl 0 rfl) ?_
    refine lv_i2l (v := 1) hx hb dL_law_358 rfl ?_
    refine W.lcmp hx hb dL_law_359 ?_
    refine lv_topi (fun y9 ey9 => ?_)
    obtain rfl : y9 = 0 := ey9.trans (zx_lcmpe h_1308)
    refine lv_if_eq (tgt := 365) hx hb dL_law_360 (by decide) (fun _ => ?_) (fun c_1319 => absurd (by decide) c_1319)
    refine lv_goto (tgt := 4257) hx hb dL_law_365 (by decide) ?_
    refine lv_iinc (v := 12) (lv' := [(5, .int 12), (7, .int 1), (6, .int 0), (3, .ref oa), (2, .ref m0), (1, .ref h), (0, .ref b)]) hx hb dL_law_4257 hl (k := 2) rfl (by decide) (by decide) rfl (fun ls hl => ?_)
    refine lv_goto (tgt := 28) hx hb dL_law_4260 (by decide) ?_
    have hP := hP.sub (ws' := [(h, .inr (13, [.ref pe, .ref ne, .ref pa, .ref ro, .int 0])), (pe, .inr (9, [.int 2, .ref a1, .ref a2, .ref a3, .ref a4, .ref a5, .ref a6, .ref a7, .ref a8, .ref a9])), (a1, .inl (cy 0, 20, .inl f3_1305)), (a2, .inl (cy 0, 20, .inl f4_1306)), (ro, .inl (cy 0, 20, .inl f0)), (pa, .inr (4, [.int mc, .ref ed, .int 0])), (m0, .inr (20, [.int 0, .ref mp, .int 0, .ref b1, .ref b2, .ref b3, .ref b4, .ref b5, .ref mq])), (mp, .inr (4, [.int mx_1309, .ref qx_1310, .int 2])), (qx_1310, .inl (cy 2, 10, .inr (.inr (.inr (.inr g2_1311))))), (mq, .inr (4, [.int mn, .ref ed, .int 0])), (oa, .inl (cy 3, 1, .inr (.inl o2_1307))), (p0, .inr (17, t0)), (y_1312, .inr (17, fy_1313))]) [4, 5, 6, 7, 0, 1, 12, 9, 10, 2, 8, 3, 11] rfl
    have hD := hD.sub (ws' := [(h, .inr (13, [.ref pe, .ref ne, .ref pa, .ref ro, .int 0])), (pe, .inr (9, [.int 2, .ref a1, .ref a2, .ref a3, .ref a4, .ref a5, .ref a6, .ref a7, .ref a8, .ref a9])), (a1, .inl (cy 0, 20, .inl f3_1305)), (a2, .inl (cy 0, 20, .inl f4_1306)), (ro, .inl (cy 0, 20, .inl f0)), (pa, .inr (4, [.int mc, .ref ed, .int 0])), (m0, .inr (20, [.int 0, .ref mp, .int 0, .ref b1, .ref b2, .ref b3, .ref b4, .ref b5, .ref mq])), (mp, .inr (4, [.int mx_1309, .ref qx_1310, .int 2])), (qx_1310, .inl (cy 2, 10, .inr (.inr (.inr (.inr g2_1311))))), (mq, .inr (4, [.int mn, .ref ed, .int 0])), (oa, .inl (cy 3, 1, .inr (.inl o2_1307))), (p0, .inr (17, t0)), (y_1312, .inr (17, fy_1313))]) [4, 5, 6, 7, 0, 1, 12, 9, 10, 2, 8, 3, 11] (by decide) rfl
    exact hnext _ _ _ ⟨pe, ne, pa, ro, a1, a2, a3, a4, a5, a6, a7, a8, a9, mp, mq, b1, b2, b3, b4, b5, qx_1310, mc, mx_1309, mn, f3_1305, f4_1306, f0, o2_1307, g2_1311, p0, y_1312, t0, fy_1313, hP, hD, ((hs_1316 0 (by decide)).trans hp0), hs_1315⟩ hS (lv_sub hl [0, 3, 4, 5, 6] rfl)
set_option maxHeartbeats 4000000 in
set_option maxRecDepth 100000 in
theorem law_step_2 {p : Program} {l : Launch} {e : Env} {s : State} {m : MethodId} {below : List Frame} {meth : Method} {c : Code} {D : va_G} {cy : Nat → ClassId} {ed b : Nat} {A : Nat → Prop} {Q : State → Prop} (C0 : zx_LW p l s m c D cy ed b A) {h m0 oa : Nat} {H : Heap} {locs : List Loc} {ls : Array Slot} (h0 : zx_S2 D cy ed A h m0 oa H) (hS : va_S A s.heap H locs) (hl : lv_has ls 9 [(5, .int 12), (3, .ref oa), (2, .ref m0), (1, .ref h), (0, .ref b)])
    (hnext : ∀ (H : Heap) (locs : List Loc) (ls : Array Slot), zx_S3 D cy ed A h m0 oa H → va_S A s.heap H locs → lv_has ls 9 [(5, .int 18), (3, .ref oa), (2, .ref m0), (1, .ref h), (0, .ref b)] → W p l e zx_R s m #[Value.ref b] below meth c H locs 50 1400 Q (F0 m 28 ls [])) :
    W p l e zx_R s m #[Value.ref b] below meth c H locs 47 1370 Q (F0 m 28 ls []) := by
  obtain ⟨hx, hb, hml, hst, hown, hts, hX, hbl, hbA, hA, hK, hZ, hN⟩ := C0
  obtain ⟨pe, ne, pa, ro, a1, a2, a3, a4, a5, a6, a7, a8, a9, mp, mq, b1, b2, b3, b4, b5, ep, mc, mm, mn, f1, f2, f0, og, gp, p0, p1, t0, t1, hP, hD, hp0, hp1⟩ := h0
  refine lv_iload hx hb dL_law_28 (lv_at hl 0 rfl) ?_
  refine lv_aload_n hx hb dL_law_30 rfl (lv_at hl 4 rfl) ?_
  refine va_slen hx hb hX hbl hbA hS dL_law_31 ?_
  refine lv_topi (fun y9 ey9 => ?_)
  obtain rfl : y9 = 3072 := ey9.trans (by decide)
  refine lv_bipush (v := 6) hx hb dL_law_32 (by decide) ?_
  refine lv_isub hx hb dL_law_34 ?_
  refine lv_topi (fun y9 ey9 => ?_)
  obtain rfl : y9 = 3066 := by rw [ey9] <;> decide
  refine lv_icmp_gt (tgt := 4263) hx hb dL_law_35 (by decide) (fun c_1320 => absurd c_1320 (by decide)) (fun _ => ?_)
  refine lv_aload_n hx hb dL_law_38 rfl (lv_at hl 4 rfl) ?_
  refine lv_iload hx hb dL_law_39 (lv_at hl 0 rfl) ?_
  refine va_sld hx hb hX hbl hbA hS (zx_bn (by decide)) dL_law_41 ?_
  refine lv_topi (fun y9 ey9 => ?_)
  obtain rfl : y9 = 0 := ey9.trans (by decide)
  refine lv_bipush (v := 63) hx hb dL_law_42 (by decide) ?_
  refine lv_iand hx hb dL_law_44 ?_
  refine lv_topi (fun y9 ey9 => ?_)
  obtain rfl : y9 = 0 := by rw [ey9] <;> decide
  refine lv_tableIn (off := 255) (tgt := 300) hx hb dL_law_45 (by decide) (by decide) (by decide) (by decide) ?_
  refine lv_aload_n hx hb dL_law_300 rfl (lv_at hl 3 rfl) ?_
  refine lv_aload_n hx hb dL_law_301 rfl (lv_at hl 4 rfl) ?_
  refine lv_iload hx hb dL_law_302 (lv_at hl 0 rfl) ?_
  refine lv_iconst (v := 1) hx hb dL_law_304 (by decide) ?_
  refine lv_iadd hx hb dL_law_305 ?_
  refine lv_topi (fun y9 ey9 => ?_)
  obtain rfl : y9 = 13 := by rw [ey9] <;> decide
  refine va_sld hx hb hX hbl hbA hS (zx_bn (by decide)) dL_law_306 ?_
  refine lv_topi (fun y9 ey9 => ?_)
  obtain rfl : y9 = 0 := ey9.trans (by decide)
  refine lv_aload_n hx hb dL_law_307 rfl (lv_at hl 4 rfl) ?_
  refine lv_iload hx hb dL_law_308 (lv_at hl 0 rfl) ?_
  refine lv_iconst (v := 2) hx hb dL_law_310 (by decide) ?_
  refine lv_iadd hx hb dL_law_311 ?_
  refine lv_topi (fun y9 ey9 => ?_)
  obtain rfl : y9 = 14 := by rw [ey9] <;> decide
  refine va_sld hx hb hX hbl hbA hS (zx_bn (by decide)) dL_law_312 ?_
  refine lv_topi (fun y9 ey9 => ?_)
  obtain rfl : y9 = 0 := ey9.trans (by decide)
  refine lv_aload_n hx hb dL_law_313 rfl (lv_at hl 1 rfl) ?_
  have hPc := hP.sub (ws' := [(h, .inr (13, [.ref pe, .ref ne, .ref pa, .ref ro, .int 0])), (pe, .inr (9, [.int 2, .ref a1, .ref a2, .ref a3, .ref a4, .ref a5, .ref a6, .ref a7, .ref a8, .ref a9])), (a1, .inl (cy 0, 20, .inl f1)), (a2, .inl (cy 0, 20, .inl f2)), (oa, .inl (cy 3, 1, .inr (.inl og)))]) [0, 1, 2, 3, 10] rfl
  have hDc := hD.sub (ws' := [(h, .inr (13, [.ref pe, .ref ne, .ref pa, .ref ro, .int 0])), (pe, .inr (9, [.int 2, .ref a1, .ref a2, .ref a3, .ref a4, .ref a5, .ref a6, .ref a7, .ref a8, .ref a9])), (a1, .inl (cy 0, 20, .inl f1)), (a2, .inl (cy 0, 20, .inl f2)), (oa, .inl (cy 3, 1, .inr (.inl og)))]) [0, 1, 2, 3, 10] (by decide) rfl
  have hFc := va_free (wc := [(h, .inr (13, [.ref pe, .ref ne, .ref pa, .ref ro, .int 0])), (pe, .inr (9, [.int 2, .ref a1, .ref a2, .ref a3, .ref a4, .ref a5, .ref a6, .ref a7, .ref a8, .ref a9])), (a1, .inl (cy 0, 20, .inl f1)), (a2, .inl (cy 0, 20, .inl f2)), (oa, .inl (cy 3, 1, .inr (.inl og)))]) hD hS hA [0, 1, 2, 3, 10] rfl
  refine vx_calli (vx_runSX (As := [.ref h, .int 0, .int 0, .ref oa]) (rest := []) ⟨hx, hb, hml, hown, hts⟩ (c_L_addPerson_2 l hst D cy ed H.size h pe ne pa ro 0 a1 a2 a3 a4 a5 a6 a7 a8 a9 f1 f2 oa og) (vx_cwSW 4 hts (zx_GS mm_329 mm_330 mm_70 mm_331) rfl rfl rfl (by decide +kernel) ⟨(Nat.le_of_ble_eq_true rfl), (Nat.le_of_ble_eq_true rfl)⟩) ⟨zx_blind, zx_give hPc hK hDc hS hFc hZ hN⟩ rfl rfl hl.1 rfl (lv_room (Nat.le_of_ble_eq_true rfl)) dL_law_314 ⟨(Nat.le_of_ble_eq_true rfl), (Nat.le_of_ble_eq_true rfl)⟩) hS (fun q _ h => hFc q h) hFc (fun q _ h => hFc q h) (fun E9 ce9 q9 _ t H locs ht hvm _ hBX hz1 hk1 hS hce hcv hcl => ?_) (fun r9 u t H locs ht hvm hw hB hz1 hk1 hS => ?_)
  · exact hBX.elim
  ·
    obtain ⟨f3_1321, f4_1322, o2_1323⟩ := u
    obtain ⟨rfl, h_1324⟩ := hw
    obtain ⟨hP, hD⟩ := zx_join (wr := [(ro, .inl (cy 0, 20, .inl f0)), (pa, .inr (4, [.int mc, .ref ed, .int 0])), (m0, .inr (20, [.int 0, .ref mp, .int 0, .ref b1, .ref b2, .ref b3, .ref b4, .ref b5, .ref mq])), (mp, .inr (4, [.int mm, .ref ep, .int 2])), (ep, .inl (cy 2, 10, .inr (.inr (.inr (.inr gp))))), (mq, .inr (4, [.int mn, .ref ed, .int 0])), (p0, .inr (17, t0)), (p1, .inr (17, t1))]) (w1 := [(h, .inr (13, [.ref pe, .ref ne, .ref pa, .ref ro, .int 0])), (pe, .inr (9, [.int 3, .ref a1, .ref a2, .ref a3, .ref a4, .ref a5, .ref a6, .ref a7, .ref a8, .ref a9])), (a1, .inl (cy 0, 20, .inl f3_1321)), (a2, .inl (cy 0, 20, .inl f4_1322)), (oa, .inl (cy 3, 1, .inr (.inl o2_1323)))]) [0, 1, 2, 3, 10] [4, 5, 6, 7, 8, 9, 11, 12] rfl rfl (by decide) (by decide) hP hD hk1 hFc hB ht
    have hP : va_P D vwCl [(ro, .inl (cy 0, 20, .inl f0)), (pa, .inr (4, [.int mc, .ref ed, .int 0])), (m0, .inr (20, [.int 0, .ref mp, .int 0, .ref b1, .ref b2, .ref b3, .ref b4, .ref b5, .ref mq])), (mp, .inr (4, [.int mm, .ref ep, .int 2])), (ep, .inl (cy 2, 10, .inr (.inr (.inr (.inr gp))))), (mq, .inr (4, [.int mn, .ref ed, .int 0])), (p0, .inr (17, t0)), (p1, .inr (17, t1)), (h, .inr (13, [.ref pe, .ref ne, .ref pa, .ref ro, .int 0])), (pe, .inr (9, [.int 3, .ref a1, .ref a2, .ref a3, .ref a4, .ref a5, .ref a6, .ref a7, .ref a8, .ref a9])), (a1, .inl (cy 0, 20, .inl f3_1321)), (a2, .inl (cy 0, 20, .inl f4_1322)), (oa, .inl (cy 3, 1, .inr (.inl o2_1323)))] H := hP
    have hD : va_D A [(ro, .inl (cy 0, 20, .inl f0)), (pa, .inr (4, [.int mc, .ref ed, .int 0])), (m0, .inr (20, [.int 0, .ref mp, .int 0, .ref b1, .ref b2, .ref b3, .ref b4, .ref b5, .ref mq])), (mp, .inr (4, [.int mm, .ref ep, .int 2])), (ep, .inl (cy 2, 10, .inr (.inr (.inr (.inr gp))))), (mq, .inr (4, [.int mn, .ref ed, .int 0])), (p0, .inr (17, t0)), (p1, .inr (17, t1)), (h, .inr (13, [.ref pe, .ref ne, .ref pa, .ref ro, .int 0])), (pe, .inr (9, [.int 3, .ref a1, .ref a2, .ref a3, .ref a4, .ref a5, .ref a6, .ref a7, .ref a8, .ref a9])), (a1, .inl (cy 0, 20, .inl f3_1321)), (a2, .inl (cy 0, 20, .inl f4_1322)), (oa, .inl (cy 3, 1, .inr (.inl o2_1323)))] := hD
    refine W.widen (k := 47) (n := 1370) (Nat.le_of_ble_eq_true rfl) (Nat.le_of_ble_eq_true rfl) ?_
    refine lv_istore (lv' := [(6, .int 0), (5, .int 12), (3, .ref oa), (2, .ref m0), (1, .ref h), (0, .ref b)]) hx hb dL_law_317 hl (by decide) rfl (fun ls hl => ?_)
    refine lv_aload_n hx hb dL_law_319 rfl (lv_at hl 3 rfl) ?_
    refine lv_aload_n hx hb dL_law_320 rfl (lv_at hl 5 rfl) ?_
    refine lv_iload hx hb dL_law_321 (lv_at hl 1 rfl) ?_
    refine lv_iconst (v := 1) hx hb dL_law_323 (by decide) ?_
    refine lv_iadd hx hb dL_law_324 ?_
    refine lv_topi (fun y9 ey9 => ?_)
    obtain rfl : y9 = 13 := by rw [ey9] <;> decide
    refine va_sld hx hb hX hbl hbA hS (zx_bn (by decide)) dL_law_325 ?_
    refine lv_topi (fun y9 ey9 => ?_)
    obtain rfl : y9 = 0 := ey9.trans (by decide)
    refine lv_aload_n hx hb dL_law_326 rfl (lv_at hl 5 rfl) ?_
    refine lv_iload hx hb dL_law_327 (lv_at hl 1 rfl) ?_
    refine lv_iconst (v := 2) hx hb dL_law_329 (by decide) ?_
    refine lv_iadd hx hb dL_law_330 ?_
    refine lv_topi (fun y9 ey9 => ?_)
    obtain rfl : y9 = 14 := by rw [ey9] <;> decide
    refine va_sld hx hb hX hbl hbA hS (zx_bn (by decide)) dL_law_331 ?_
    refine lv_topi (fun y9 ey9 => ?_)
    obtain rfl : y9 = 0 := ey9.trans (by decide)
    have hPc := hP.sub (ws' := [(m0, .inr (20, [.int 0, .ref mp, .int 0, .ref b1, .ref b2, .ref b3, .ref b4, .ref b5, .ref mq])), (mp, .inr (4, [.int mm, .ref ep, .int 2])), (ep, .inl (cy 2, 10, .inr (.inr (.inr (.inr gp)))))]) [2, 3, 4] rfl
    have hDc := hD.sub (ws' := [(m0, .inr (20, [.int 0, .ref mp, .int 0, .ref b1, .ref b2, .ref b3, .ref b4, .ref b5, .ref mq])), (mp, .inr (4, [.int mm, .ref ep, .int 2])), (ep, .inl (cy 2, 10, .inr (.inr (.inr (.inr gp)))))]) [2, 3, 4] (by decide) rfl
    have hFc := va_free (wc := [(m0, .inr (20, [.int 0, .ref mp, .int 0, .ref b1, .ref b2, .ref b3, .ref b4, .ref b5, .ref mq])), (mp, .inr (4, [.int mm, .ref ep, .int 2])), (ep, .inl (cy 2, 10, .inr (.inr (.inr (.inr gp)))))]) hD hS hA [2, 3, 4] rfl
    refine va_calli (va_runV (As := [.int 0, .int 0]) (rest := []) ⟨hx, hb, hml, hown, hts⟩ (c_X15_addPerson_2 l hst D cy ed H.size m0 mp mq b1 b2 b3 b4 b5 0 0 mm ep gp) (cwV 2 hts (zx_GV mm_1603 mm_1604 mm_1605 mm_78 mm_1606) rfl rfl rfl (by decide +kernel) ⟨(Nat.le_of_ble_eq_true rfl), (Nat.le_of_ble_eq_true rfl)⟩) ⟨zx_blind, va_recv hK hPc (ci := 20) (q0 := 0) rfl rfl, zx_give hPc hK hDc hS hFc hZ hN⟩ rfl rfl hl.1 rfl (lv_room (Nat.le_of_ble_eq_true rfl)) dL_law_332 ⟨(Nat.le_of_ble_eq_true rfl), (Nat.le_of_ble_eq_true rfl)⟩) hS (fun q _ h => hFc q h) hFc (fun r9 u t H1 locs ht hvm hw hB hz1 hk1 hS => ?_)
    obtain ⟨mx_1325, qx_1326, g2_1327, y_1328, fy_1329⟩ := u
    obtain ⟨rfl, h_1330⟩ := hw
    obtain ⟨hP, hD⟩ := zx_join (wr := [(ro, .inl (cy 0, 20, .inl f0)), (pa, .inr (4, [.int mc, .ref ed, .int 0])), (mq, .inr (4, [.int mn, .ref ed, .int 0])), (p0, .inr (17, t0)), (p1, .inr (17, t1)), (h, .inr (13, [.ref pe, .ref ne, .ref pa, .ref ro, .int 0])), (pe, .inr (9, [.int 3, .ref a1, .ref a2, .ref a3, .ref a4, .ref a5, .ref a6, .ref a7, .ref a8, .ref a9])), (a1, .inl (cy 0, 20, .inl f3_1321)), (a2, .inl (cy 0, 20, .inl f4_1322)), (oa, .inl (cy 3, 1, .inr (.inl o2_1323)))]) (w1 := [(m0, .inr (20, [.int 0, .ref mp, .int 0, .ref b1, .ref b2, .ref b3, .ref b4, .ref b5, .ref mq])), (mp, .inr (4, [.int mx_1325, .ref qx_1326, .int 3])), (qx_1326, .inl (cy 2, 10, .inr (.inr (.inr (.inr g2_1327))))), (y_1328, .inr (17, fy_1329))]) [2, 3, 4] [0, 1, 5, 6, 7, 8, 9, 10, 11, 12] rfl rfl (by decide) (by decide) hP hD hk1 hFc hB ht
    generalize H1 = H at hP hS ⊢
    have hP : va_P D vwCl [(ro, .inl (cy 0, 20, .inl f0)), (pa, .inr (4, [.int mc, .ref ed, .int 0])), (mq, .inr (4, [.int mn, .ref ed, .int 0])), (p0, .inr (17, t0)), (p1, .inr (17, t1)), (h, .inr (13, [.ref pe, .ref ne, .ref pa, .ref ro, .int 0])), (pe, .inr (9, [.int 3, .ref a1, .ref a2, .ref a3, .ref a4, .ref a5, .ref a6, .ref a7, .ref a8, .ref a9])), (a1, .inl (cy 0, 20, .inl f3_1321)), (a2, .inl (cy 0, 20, .inl f4_1322)), (oa, .inl (cy 3, 1, .inr (.inl o2_1323))), (m0, .inr (20, [.int 0, .ref mp, .int 0, .ref b1, .ref b2, .ref b3, .ref b4, .ref b5, .ref mq])), (mp, .inr (4, [.int mx_1325, .ref qx_1326, .int 3])), (qx_1326, .inl (cy 2, 10, .inr (.inr (.inr (.inr g2_1327))))), (y_1328, .inr (17, fy_1329))] H := hP
    have hD : va_D A [(ro, .inl (cy 0, 20, .inl f0)), (pa, .inr (4, [.int mc, .ref ed, .int 0])), (mq, .inr (4, [.int mn, .ref ed, .int 0])), (p0, .inr (17, t0)), (p1, .inr (17, t1)), (h, .inr (13, [.ref pe, .ref ne, .ref pa, .ref ro, .int 0])), (pe, .inr (9, [.int 3, .ref a1, .ref a2, .ref a3, .ref a4, .ref a5, .ref a6, .ref a7, .ref a8, .ref a9])), (a1, .inl (cy 0, 20, .inl f3_1321)), (a2, .inl (cy 0, 20, .inl f4_1322)), (oa, .inl (cy 3, 1, .inr (.inl o2_1323))), (m0, .inr (20, [.int 0, .ref mp, .int 0, .ref b1, .ref b2, .ref b3, .ref b4, .ref b5, .ref mq])), (mp, .inr (4, [.int mx_1325, .ref qx_1326, .int 3])), (qx_1326, .inl (cy 2, 10, .inr (.inr (.inr (.inr g2_1327))))), (y_1328, .inr (17, fy_1329))] := hD
    refine W.widen (k := 50) (n := 1400) (Nat.le_of_ble_eq_true rfl) (Nat.le_of_ble_eq_true rfl) ?_
    obtain ⟨hs_1331, hs_1332⟩ := h_1330
    refine lv_istore (lv' := [(7, .int 2), (6, .int 0), (5, .int 12), (3, .ref oa), (2, .ref m0), (1, .ref h), (0, .ref b)]) hx hb dL_law_335 hl (by decide) rfl (fun ls hl => ?_)
    refine lv_aload_n hx hb dL_law_337 rfl (lv_at hl 4 rfl) ?_
    have hPc := hP.sub (ws' := [(m0, .inr (20, [.int 0, .ref mp, .int 0, .ref b1, .ref b2, .ref b3, .ref b4, .ref b5, .ref mq]))]) [10] rfl
    have hDc := hD.sub (ws' := [(m0, .inr (20, [.int 0, .ref mp, .int 0, .ref b1, .ref b2, .ref b3, .ref b4, .ref b5, .ref mq]))]) [10] (by decide) rfl
    have hFc := va_free (wc := [(m0, .inr (20, [.int 0, .ref mp, .int 0, .ref b1, .ref b2, .ref b3, .ref b4, .ref b5, .ref mq]))]) hD hS hA [10] rfl
    refine va_calli (va_runV (As := []) (rest := []) ⟨hx, hb, hml, hown, hts⟩ (c_X15_thrown l hst D cy ed H.size m0 mp mq b1 b2 b3 b4 b5 0 0) (cwV 0 hts (zx_GV mm_1599 mm_1600 mm_1601 mm_78 mm_1602) rfl rfl rfl (by decide +kernel) ⟨(Nat.le_of_ble_eq_true rfl), (Nat.le_of_ble_eq_true rfl)⟩) ⟨zx_blind, va_recv hK hPc (ci := 20) (q0 := 0) rfl rfl, zx_give hPc hK hDc hS hFc hZ hN⟩ rfl rfl hl.1 rfl (lv_room (Nat.le_of_ble_eq_true rfl)) dL_law_338 ⟨(Nat.le_of_ble_eq_true rfl), (Nat.le_of_ble_eq_true rfl)⟩) hS (fun q _ h => hFc q h) hFc (fun r9 u t H1 locs ht hvm hw hB hz1 hk1 hS => ?_)
    obtain rfl : r9 = 0 := hw
    obtain ⟨hP, hD⟩ := zx_join (wr := [(ro, .inl (cy 0, 20, .inl f0)), (pa, .inr (4, [.int mc, .ref ed, .int 0])), (mq, .inr (4, [.int mn, .ref ed, .int 0])), (p0, .inr (17, t0)), (p1, .inr (17, t1)), (h, .inr (13, [.ref pe, .ref ne, .ref pa, .ref ro, .int 0])), (pe, .inr (9, [.int 3, .ref a1, .ref a2, .ref a3, .ref a4, .ref a5, .ref a6, .ref a7, .ref a8, .ref a9])), (a1, .inl (cy 0, 20, .inl f3_1321)), (a2, .inl (cy 0, 20, .inl f4_1322)), (oa, .inl (cy 3, 1, .inr (.inl o2_1323))), (mp, .inr (4, [.int mx_1325, .ref qx_1326, .int 3])), (qx_1326, .inl (cy 2, 10, .inr (.inr (.inr (.inr g2_1327))))), (y_1328, .inr (17, fy_1329))]) (w1 := [(m0, .inr (20, [.int 0, .ref mp, .int 0, .ref b1, .ref b2, .ref b3, .ref b4, .ref b5, .ref mq]))]) [10] [0, 1, 2, 3, 4, 5, 6, 7, 8, 9, 11, 12, 13] rfl rfl (by decide) (by decide) hP hD hk1 hFc hB ht
    generalize H1 = H at hP hS ⊢
    have hP : va_P D vwCl [(ro, .inl (cy 0, 20, .inl f0)), (pa, .inr (4, [.int mc, .ref ed, .int 0])), (mq, .inr (4, [.int mn, .ref ed, .int 0])), (p0, .inr (17, t0)), (p1, .inr (17, t1)), (h, .inr (13, [.ref pe, .ref ne, .ref pa, .ref ro, .int 0])), (pe, .inr (9, [.int 3, .ref a1, .ref a2, .ref a3, .ref a4, .ref a5, .ref a6, .ref a7, .ref a8, .ref a9])), (a1, .inl (cy 0, 20, .inl f3_1321)), (a2, .inl (cy 0, 20, .inl f4_1322)), (oa, .inl (cy 3, 1, .inr (.inl o2_1323))), (mp, .inr (4, [.int mx_1325, .ref qx_1326, .int 3])), (qx_1326, .inl (cy 2, 10, .inr (.inr (.inr (.inr g2_1327))))), (y_1328, .inr (17, fy_1329)), (m0, .inr (20, [.int 0, .ref mp, .int 0, .ref b1, .ref b2, .ref b3, .ref b4, .ref b5, .ref mq]))] H := hP
    have hD : va_D A [(ro, .inl (cy 0, 20, .inl f0)), (pa, .inr (4, [.int mc, .ref ed, .int 0])), (mq, .inr (4, [.int mn, .ref ed, .int 0])), (p0, .inr (17, t0)), (p1, .inr (17, t1)), (h, .inr (13, [.ref pe, .ref ne, .ref pa, .ref ro, .int 0])), (pe, .inr (9, [.int 3, .ref a1, .ref a2, .ref a3, .ref a4, .ref a5, .ref a6, .ref a7, .ref a8, .ref a9])), (a1, .inl (cy 0, 20, .inl f3_1321)), (a2, .inl (cy 0, 20, .inl f4_1322)), (oa, .inl (cy 3, 1, .inr (.inl o2_1323))), (mp, .inr (4, [.int mx_1325, .ref qx_1326, .int 3])), (qx_1326, .inl (cy 2, 10, .inr (.inr (.inr (.inr g2_1327))))), (y_1328, .inr (17, fy_1329)), (m0, .inr (20, [.int 0, .ref mp, .int 0, .ref b1, .ref b2, .ref b3, .ref b4, .ref b5, .ref mq]))] := hD
    refine W.widen (k := 50) (n := 1400) (Nat.le_of_ble_eq_true rfl) (Nat.le_of_ble_eq_true rfl) ?_
    refine lv_iload hx hb dL_law_341 (lv_at hl 1 rfl) ?_
    refine lv_icmp_eq (tgt := 348) hx hb dL_law_343 (by decide) (fun _ => ?_) (fun c_1333 => absurd (by decide) c_1333)
    refine lv_iload hx hb dL_law_348 (lv_at hl 1 rfl) ?_
    refine lv_if_ne (tgt := 365) hx hb dL_law_350 (by decide) (fun c_1334 => absurd c_1334 (by decide)) (fun _ => ?_)
    refine lv_aload_n hx hb dL_law_353 rfl (lv_at hl 3 rfl) ?_
    refine lv_iconst (v := 0) hx hb dL_law_354 (by decide) ?_
    refine va_lald hx hb hK hP 9 3 rfl rfl (zx_bn (by decide)) dL_law_355 ?_
    refine lv_iload hx hb dL_law_356 (lv_at hl 0 rfl) ?_
    refine lv_i2l (v := 2) hx hb dL_law_358 rfl ?_
    refine W.lcmp hx hb dL_law_359 ?_
    refine lv_topi (fun y9 ey9 => ?_)
    obtain rfl : y9 = 0 := ey9.trans (zx_lcmpe h_1324)
    refine lv_if_eq (tgt := 365) hx hb dL_law_360 (by decide) (fun _ => ?_) (fun c_1335 => absurd (by decide) c_1335)
    refine lv_goto (tgt := 4257) hx hb dL_law_365 (by decide) ?_
    refine lv_iinc (v := 18) (lv' := [(5, .int 18), (7, .int 2), (6, .int 0), (3, .ref oa), (2, .ref m0), (1, .ref h), (0, .ref b)]) hx hb dL_law_4257 hl (k := 2) rfl (by decide) (by decide) rfl (fun ls hl => ?_)
    refine lv_goto (tgt := 28) hx hb dL_law_4260 (by decide) ?_
    have hP := hP.sub (ws' := [(h, .inr (13, [.ref pe, .ref ne, .ref pa, .ref ro, .int 0])), (pe, .inr (9, [.int 3, .ref a1, .ref a2, .ref a3, .ref a4, .ref a5, .ref a6, .ref a7, .ref a8, .ref a9])), (a1, .inl (cy 0, 20, .inl f3_1321)), (a2, .inl (cy 0, 20, .inl f4_1322)), (ro, .inl (cy 0, 20, .inl f0)), (pa, .inr (4, [.int mc, .ref ed, .int 0])), (m0, .inr (20, [.int 0, .ref mp, .int 0, .ref b1, .ref b2, .ref b3, .ref b4, .ref b5, .ref mq])), (mp, .inr (4, [.int mx_1325, .ref qx_1326, .int 3])), (qx_1326, .inl (cy 2, 10, .inr (.inr (.inr (.inr g2_1327))))), (mq, .inr (4, [.int mn, .ref ed, .int 0])), (oa, .inl (cy 3, 1, .inr (.inl o2_1323))), (p0, .inr (17, t0)), (p1, .inr (17, t1)), (y_1328, .inr (17, fy_1329))]) [5, 6, 7, 8, 0, 1, 13, 10, 11, 2, 9, 3, 4, 12] rfl
    have hD := hD.sub (ws' := [(h, .inr (13, [.ref pe, .ref ne, .ref pa, .ref ro, .int 0])), (pe, .inr (9, [.int 3, .ref a1, .ref a2, .ref a3, .ref a4, .ref a5, .ref a6, .ref a7, .ref a8, .ref a9])), (a1, .inl (cy 0, 20, .inl f3_1321)), (a2, .inl (cy 0, 20, .inl f4_1322)), (ro, .inl (cy 0, 20, .inl f0)), (pa, .inr (4, [.int mc, .ref ed, .int 0])), (m0, .inr (20, [.int 0, .ref mp, .int 0, .ref b1, .ref b2, .ref b3, .ref b4, .ref b5, .ref mq])), (mp, .inr (4, [.int mx_1325, .ref qx_1326, .int 3])), (qx_1326, .inl (cy 2, 10, .inr (.inr (.inr (.inr g2_1327))))), (mq, .inr (4, [.int mn, .ref ed, .int 0])), (oa, .inl (cy 3, 1, .inr (.inl o2_1323))), (p0, .inr (17, t0)), (p1, .inr (17, t1)), (y_1328, .inr (17, fy_1329))]) [5, 6, 7, 8, 0, 1, 13, 10, 11, 2, 9, 3, 4, 12] (by decide) rfl
    exact hnext _ _ _ ⟨pe, ne, pa, ro, a1, a2, a3, a4, a5, a6, a7, a8, a9, mp, mq, b1, b2, b3, b4, b5, qx_1326, mc, mx_1325, mn, f3_1321, f4_1322, f0, o2_1323, g2_1327, p0, p1, y_1328, t0, t1, fy_1329, hP, hD, ((hs_1332 0 (by decide)).trans hp0), ((hs_1332 1 (by decide)).trans hp1), hs_1331⟩ hS (lv_sub hl [0, 3, 4, 5, 6] rfl)
set_option maxHeartbeats 4000000 in
set_option maxRecDepth 100000 in
theorem law_step_3 {p : Program} {l : Launch} {e : Env} {s : State} {m : MethodId} {below : List Frame} {meth : Method} {c : Code} {D : va_G} {cy : Nat → ClassId} {ed b : Nat} {A : Nat → Prop} {Q : State → Prop} (C0 : zx_LW p l s m c D cy ed b A) {h m0 oa : Nat} {H : Heap} {locs : List Loc} {ls : Array Slot} (h0 : zx_S3 D cy ed A h m0 oa H) (hS : va_S A s.heap H locs) (hl : lv_has ls 9 [(5, .int 18), (3, .ref oa), (2, .ref m0), (1, .ref h), (0, .ref b)])
    (hnext : ∀ (H : Heap) (locs : List Loc) (ls : Array Slot), zx_S4 D cy ed A h m0 oa H → va_S A s.heap H locs → lv_has ls 9 [(5, .int 24), (3, .ref oa), (2, .ref m0), (1, .ref h), (0, .ref b)] → W p l e zx_R s m #[Value.ref b] below meth c H locs 53 1430 Q (F0 m 28 ls [])) :
    W p l e zx_R s m #[Value.ref b] below meth c H locs 50 1400 Q (F0 m 28 ls []) := by
  obtain ⟨hx, hb, hml, hst, hown, hts, hX, hbl, hbA, hA, hK, hZ, hN⟩ := C0
  obtain ⟨pe, ne, pa, ro, a1, a2, a3, a4, a5, a6, a7, a8, a9, mp, mq, b1, b2, b3, b4, b5, ep, mc, mm, mn, f1, f2, f0, og, gp, p0, p1, p2, t0, t1, t2, hP, hD, hp0, hp1, hp2⟩ := h0
  refine lv_iload hx hb dL_law_28 (lv_at hl 0 rfl) ?_
  refine lv_aload_n hx hb dL_law_30 rfl (lv_at hl 4 rfl) ?_
  refine va_slen hx hb hX hbl hbA hS dL_law_31 ?_
  refine lv_topi (fun y9 ey9 => ?_)
  obtain rfl : y9 = 3072 := ey9.trans (by decide)
  refine lv_bipush (v := 6) hx hb dL_law_32 (by decide) ?_
  refine lv_isub hx hb dL_law_34 ?_
  refine lv_topi (fun y9 ey9 => ?_)
  obtain rfl : y9 = 3066 := by rw [ey9] <;> decide
  refine lv_icmp_gt (tgt := 4263) hx hb dL_law_35 (by decide) (fun c_1336 => absurd c_1336 (by decide)) (fun _ => ?_)
  refine lv_aload_n hx hb dL_law_38 rfl (lv_at hl 4 rfl) ?_
  refine lv_iload hx hb dL_law_39 (lv_at hl 0 rfl) ?_
  refine va_sld hx hb hX hbl hbA hS (zx_bn (by decide)) dL_law_41 ?_
  refine lv_topi (fun y9 ey9 => ?_)
  obtain rfl : y9 = 0 := ey9.trans (by decide)
  refine lv_bipush (v := 63) hx hb dL_law_42 (by decide) ?_
  refine lv_iand hx hb dL_law_44 ?_
  refine lv_topi (fun y9 ey9 => ?_)
  obtain rfl : y9 = 0 := by rw [ey9] <;> decide
  refine lv_tableIn (off := 255) (tgt := 300) hx hb dL_law_45 (by decide) (by decide) (by decide) (by decide) ?_
  refine lv_aload_n hx hb dL_law_300 rfl (lv_at hl 3 rfl) ?_
  refine lv_aload_n hx hb dL_law_301 rfl (lv_at hl 4 rfl) ?_
  refine lv_iload hx hb dL_law_302 (lv_at hl 0 rfl) ?_
  refine lv_iconst (v := 1) hx hb dL_law_304 (by decide) ?_
  refine lv_iadd hx hb dL_law_305 ?_
  refine lv_topi (fun y9 ey9 => ?_)
  obtain rfl : y9 = 19 := by rw [ey9] <;> decide
  refine va_sld hx hb hX hbl hbA hS (zx_bn (by decide)) dL_law_306 ?_
  refine lv_topi (fun y9 ey9 => ?_)
  obtain rfl : y9 = 0 := ey9.trans (by decide)
  refine lv_aload_n hx hb dL_law_307 rfl (lv_at hl 4 rfl) ?_
  refine lv_iload hx hb dL_law_308 (lv_at hl 0 rfl) ?_
  refine lv_iconst (v := 2) hx hb dL_law_310 (by decide) ?_
  refine lv_iadd hx hb dL_law_311 ?_
  refine lv_topi (fun y9 ey9 => ?_)
  obtain rfl : y9 = 20 := by rw [ey9] <;> decide
  refine va_sld hx hb hX hbl hbA hS (zx_bn (by decide)) dL_law_312 ?_
  refine lv_topi (fun y9 ey9 => ?_)
  obtain rfl : y9 = 0 := ey9.trans (by decide)
  refine lv_aload_n hx hb dL_law_313 rfl (lv_at hl 1 rfl) ?_
  have hPc := hP.sub (ws' := [(h, .inr (13, [.ref pe, .ref ne, .ref pa, .ref ro, .int 0])), (pe, .inr (9, [.int 3, .ref a1, .ref a2, .ref a3, .ref a4, .ref a5, .ref a6, .ref a7, .ref a8, .ref a9])), (a1, .inl (cy 0, 20, .inl f1)), (a2, .inl (cy 0, 20, .inl f2)), (oa, .inl (cy 3, 1, .inr (.inl og)))]) [0, 1, 2, 3, 10] rfl
  have hDc := hD.sub (ws' := [(h, .inr (13, [.ref pe, .ref ne, .ref pa, .ref ro, .int 0])), (pe, .inr (9, [.int 3, .ref a1, .ref a2, .ref a3, .ref a4, .ref a5, .ref a6, .ref a7, .ref a8, .ref a9])), (a1, .inl (cy 0, 20, .inl f1)), (a2, .inl (cy 0, 20, .inl f2)), (oa, .inl (cy 3, 1, .inr (.inl og)))]) [0, 1, 2, 3, 10] (by decide) rfl
  have hFc := va_free (wc := [(h, .inr (13, [.ref pe, .ref ne, .ref pa, .ref ro, .int 0])), (pe, .inr (9, [.int 3, .ref a1, .ref a2, .ref a3, .ref a4, .ref a5, .ref a6, .ref a7, .ref a8, .ref a9])), (a1, .inl (cy 0, 20, .inl f1)), (a2, .inl (cy 0, 20, .inl f2)), (oa, .inl (cy 3, 1, .inr (.inl og)))]) hD hS hA [0, 1, 2, 3, 10] rfl
  refine vx_calli (vx_runSX (As := [.ref h, .int 0, .int 0, .ref oa]) (rest := []) ⟨hx, hb, hml, hown, hts⟩ (c_L_addPerson_3 l hst D cy ed H.size h pe ne pa ro 0 a1 a2 a3 a4 a5 a6 a7 a8 a9 f1 f2 oa og) (vx_cwSW 4 hts (zx_GS mm_329 mm_330 mm_70 mm_331) rfl rfl rfl (by decide +kernel) ⟨(Nat.le_of_ble_eq_true rfl), (Nat.le_of_ble_eq_true rfl)⟩) ⟨zx_blind, zx_give hPc hK hDc hS hFc hZ hN⟩ rfl rfl hl.1 rfl (lv_room (Nat.le_of_ble_eq_true rfl)) dL_law_314 ⟨(Nat.le_of_ble_eq_true rfl), (Nat.le_of_ble_eq_true rfl)⟩) hS (fun q _ h => hFc q h) hFc (fun q _ h => hFc q h) (fun E9 ce9 q9 _ t H locs ht hvm _ hBX hz1 hk1 hS hce hcv hcl => ?_) (fun r9 u t H locs ht hvm hw hB hz1 hk1 hS => ?_)
  · exact hBX.elim
  ·
    obtain ⟨f3_1337, f4_1338, o2_1339⟩ := u
    obtain ⟨rfl, h_1340⟩ := hw
    obtain ⟨hP, hD⟩ := zx_join (wr := [(ro, .inl (cy 0, 20, .inl f0)), (pa, .inr (4, [.int mc, .ref ed, .int 0])), (m0, .inr (20, [.int 0, .ref mp, .int 0, .ref b1, .ref b2, .ref b3, .ref b4, .ref b5, .ref mq])), (mp, .inr (4, [.int mm, .ref ep, .int 3])), (ep, .inl (cy 2, 10, .inr (.inr (.inr (.inr gp))))), (mq, .inr (4, [.int mn, .ref ed, .int 0])), (p0, .inr (17, t0)), (p1, .inr (17, t1)), (p2, .inr (17, t2))]) (w1 := [(h, .inr (13, [.ref pe, .ref ne, .ref pa, .ref ro, .int 0])), (pe, .inr (9, [.int 4, .ref a1, .ref a2, .ref a3, .ref a4, .ref a5, .ref a6, .ref a7, .ref a8, .ref a9])), (a1, .inl (cy 0, 20, .inl f3_1337)), (a2, .inl (cy 0, 20, .inl f4_1338)), (oa, .inl (cy 3, 1, .inr (.inl o2_1339)))]) [0, 1, 2, 3, 10] [4, 5, 6, 7, 8, 9, 11, 12, 13] rfl rfl (by decide) (by decide) hP hD hk1 hFc hB ht
    have hP : va_P D vwCl [(ro, .inl (cy 0, 20, .inl f0)), (pa, .inr (4, [.int mc, .ref ed, .int 0])), (m0, .inr (20, [.int 0, .ref mp, .int 0, .ref b1, .ref b2, .ref b3, .ref b4, .ref b5, .ref mq])), (mp, .inr (4, [.int mm, .ref ep, .int 3])), (ep, .inl (cy 2, 10, .inr (.inr (.inr (.inr gp))))), (mq, .inr (4, [.int mn, .ref ed, .int 0])), (p0, .inr (17, t0)), (p1, .inr (17, t1)), (p2, .inr (17, t2)), (h, .inr (13, [.ref pe, .ref ne, .ref pa, .ref ro, .int 0])), (pe, .inr (9, [.int 4, .ref a1, .ref a2, .ref a3, .ref a4, .ref a5, .ref a6, .ref a7, .ref a8, .ref a9])), (a1, .inl (cy 0, 20, .inl f3_1337)), (a2, .inl (cy 0, 20, .inl f4_1338)), (oa, .inl (cy 3, 1, .inr (.inl o2_1339)))] H := hP
    have hD : va_D A [(ro, .inl (cy 0, 20, .inl f0)), (pa, .inr (4, [.int mc, .ref ed, .int 0])), (m0, .inr (20, [.int 0, .ref mp, .int 0, .ref b1, .ref b2, .ref b3, .ref b4, .ref b5, .ref mq])), (mp, .inr (4, [.int mm, .ref ep, .int 3])), (ep, .inl (cy 2, 10, .inr (.inr (.inr (.inr gp))))), (mq, .inr (4, [.int mn, .ref ed, .int 0])), (p0, .inr (17, t0)), (p1, .inr (17, t1)), (p2, .inr (17, t2)), (h, .inr (13, [.ref pe, .ref ne, .ref pa, .ref ro, .int 0])), (pe, .inr (9, [.int 4, .ref a1, .ref a2, .ref a3, .ref a4, .ref a5, .ref a6, .ref a7, .ref a8, .ref a9])), (a1, .inl (cy 0, 20, .inl f3_1337)), (a2, .inl (cy 0, 20, .inl f4_1338)), (oa, .inl (cy 3, 1, .inr (.inl o2_1339)))] := hD
    refine W.widen (k := 50) (n := 1400) (Nat.le_of_ble_eq_true rfl) (Nat.le_of_ble_eq_true rfl) ?_
    refine lv_istore (lv' := [(6, .int 0), (5, .int 18), (3, .ref oa), (2, .ref m0), (1, .ref h), (0, .ref b)]) hx hb dL_law_317 hl (by decide) rfl (fun ls hl => ?_)
    refine lv_aload_n hx hb dL_law_319 rfl (lv_at hl 3 rfl) ?_
    refine lv_aload_n hx hb dL_law_320 rfl (lv_at hl 5 rfl) ?_
    refine lv_iload hx hb dL_law_321 (lv_at hl 1 rfl) ?_
    refine lv_iconst (v := 1) hx hb dL_law_323 (by decide) ?_
    refine lv_iadd hx hb dL_law_324 ?_
    refine lv_topi (fun y9 ey9 => ?_)
    obtain rfl : y9 = 19 := by rw [ey9] <;> decide
    refine va_sld hx hb hX hbl hbA hS (zx_bn (by decide)) dL_law_325 ?_
    refine lv_topi (fun y9 ey9 => ?_)
    obtain rfl : y9 = 0 := ey9.trans (by decide)
    refine lv_aload_n hx hb dL_law_326 rfl (lv_at hl 5 rfl) ?_
    refine lv_iload hx hb dL_law_327 (lv_at hl 1 rfl) ?_
    refine lv_iconst (v := 2) hx hb dL_law_329 (by decide) ?_
    refine lv_iadd hx hb dL_law_330 ?_
    refine lv_topi (fun y9 ey9 => ?_)
    obtain rfl : y9 = 20 := by rw [ey9] <;> decide
    refine va_sld hx hb hX hbl hbA hS (zx_bn (by decide)) dL_law_331 ?_
    refine lv_topi (fun y9 ey9 => ?_)
    obtain rfl : y9 = 0 := ey9.trans (by decide)
    have hPc := hP.sub (ws' := [(m0, .inr (20, [.int 0, .ref mp, .int 0, .ref b1, .ref b2, .ref b3, .ref b4, .ref b5, .ref mq])), (mp, .inr (4, [.int mm, .ref ep, .int 3])), (ep, .inl (cy 2, 10, .inr (.inr (.inr (.inr gp)))))]) [2, 3, 4] rfl
    have hDc := hD.sub (ws' := [(m0, .inr (20, [.int 0, .ref mp, .int 0, .ref b1, .ref b2, .ref b3, .ref b4, .ref b5, .ref mq])), (mp, .inr (4, [.int mm, .ref ep, .int 3])), (ep, .inl (cy 2, 10, .inr (.inr (.inr (.inr gp)))))]) [2, 3, 4] (by decide) rfl
    have hFc := va_free (wc := [(m0, .inr (20, [.int 0, .ref mp, .int 0, .ref b1, .ref b2, .ref b3, .ref b4, .ref b5, .ref mq])), (mp, .inr (4, [.int mm, .ref ep, .int 3])), (ep, .inl (cy 2, 10, .inr (.inr (.inr (.inr gp)))))]) hD hS hA [2, 3, 4] rfl
    refine va_calli (va_runV (As := [.int 0, .int 0]) (rest := []) ⟨hx, hb, hml, hown, hts⟩ (c_X15_addPerson_3 l hst D cy ed H.size m0 mp mq b1 b2 b3 b4 b5 0 0 mm ep gp) (cwV 2 hts (zx_GV mm_1603 mm_1604 mm_1605 mm_78 mm_1606) rfl rfl rfl (by decide +kernel) ⟨(Nat.le_of_ble_eq_true rfl), (Nat.le_of_ble_eq_true rfl)⟩) ⟨zx_blind, va_recv hK hPc (ci := 20) (q0 := 0) rfl rfl, zx_give hPc hK hDc hS hFc hZ hN⟩ rfl rfl hl.1 rfl (lv_room (Nat.le_of_ble_eq_true rfl)) dL_law_332 ⟨(Nat.le_of_ble_eq_true rfl), (Nat.le_of_ble_eq_true rfl)⟩) hS (fun q _ h => hFc q h) hFc (fun r9 u t H1 locs ht hvm hw hB hz1 hk1 hS => ?_)
    obtain ⟨mx_1341, qx_1342, g2_1343, y_1344, fy_1345⟩ := u
    obtain ⟨rfl, h_1346⟩ := hw
    obtain ⟨hP, hD⟩ := zx_join (wr := [(ro, .inl (cy 0, 20, .inl f0)), (pa, .inr (4, [.int mc, .ref ed, .int 0])), (mq, .inr (4, [.int mn, .ref ed, .int 0])), (p0, .inr (17, t0)), (p1, .inr (17, t1)), (p2, .inr (17, t2)), (h, .inr (13, [.ref pe, .ref ne, .ref pa, .ref ro, .int 0])), (pe, .inr (9, [.int 4, .ref a1, .ref a2, .ref a3, .ref a4, .ref a5, .ref a6, .ref a7, .ref a8, .ref a9])), (a1, .inl (cy 0, 20, .inl f3_1337)), (a2, .inl (cy 0, 20, .inl f4_1338)), (oa, .inl (cy 3, 1, .inr (.inl o2_1339)))]) (w1 := [(m0, .inr (20, [.int 0, .ref mp, .int 0, .ref b1, .ref b2, .ref b3, .ref b4, .ref b5, .ref mq])), (mp, .inr (4, [.int mx_1341, .ref qx_1342, .int 4])), (qx_1342, .inl (cy 2, 10, .inr (.inr (.inr (.inr g2_1343))))), (y_1344, .inr (17, fy_1345))]) [2, 3, 4] [0, 1, 5, 6, 7, 8, 9, 10, 11, 12, 13] rfl rfl (by decide) (by decide) hP hD hk1 hFc hB ht
    generalize H1 = H at hP hS ⊢
    have hP : va_P D vwCl [(ro, .inl (cy 0, 20, .inl f0)), (pa, .inr (4, [.int mc, .ref ed, .int 0])), (mq, .inr (4, [.int mn, .ref ed, .int 0])), (p0, .inr (17, t0)), (p1, .inr (17, t1)), (p2, .inr (17, t2)), (h, .inr (13, [.ref pe, .ref ne, .ref pa, .ref ro, .int 0])), (pe, .inr (9, [.int 4, .ref a1, .ref a2, .ref a3, .ref a4, .ref a5, .ref a6, .ref a7, .ref a8, .ref a9])), (a1, .inl (cy 0, 20, .inl f3_1337)), (a2, .inl (cy 0, 20, .inl f4_1338)), (oa, .inl (cy 3, 1, .inr (.inl o2_1339))), (m0, .inr (20, [.int 0, .ref mp, .int 0, .ref b1, .ref b2, .ref b3, .ref b4, .ref b5, .ref mq])), (mp, .inr (4, [.int mx_1341, .ref qx_1342, .int 4])), (qx_1342, .inl (cy 2, 10, .inr (.inr (.inr (.inr g2_1343))))), (y_1344, .inr (17, fy_1345))] H := hP
    have hD : va_D A [(ro, .inl (cy 0, 20, .inl f0)), (pa, .inr (4, [.int mc, .ref ed, .int 0])), (mq, .inr (4, [.int mn, .ref ed, .int 0])), (p0, .inr (17, t0)), (p1, .inr (17, t1)), (p2, .inr (17, t2)), (h, .inr (13, [.ref pe, .ref ne, .ref pa, .ref ro, .int 0])), (pe, .inr (9, [.int 4, .ref a1, .ref a2, .ref a3, .ref a4, .ref a5, .ref a6, .ref a7, .ref a8, .ref a9])), (a1, .inl (cy 0, 20, .inl f3_1337)), (a2, .inl (cy 0, 20, .inl f4_1338)), (oa, .inl (cy 3, 1, .inr (.inl o2_1339))), (m0, .inr (20, [.int 0, .ref mp, .int 0, .ref b1, .ref b2, .ref b3, .ref b4, .ref b5, .ref mq])), (mp, .inr (4, [.int mx_1341, .ref qx_1342, .int 4])), (qx_1342, .inl (cy 2, 10, .inr (.inr (.inr (.inr g2_1343))))), (y_1344, .inr (17, fy_1345))] := hD
    refine W.widen (k := 53) (n := 1430) (Nat.le_of_ble_eq_true rfl) (Nat.le_of_ble_eq_true rfl) ?_
    obtain ⟨hs_1347, hs_1348⟩ := h_1346
    refine lv_istore (lv' := [(7, .int 3), (6, .int 0), (5, .int 18), (3, .ref oa), (2, .ref m0), (1, .ref h), (0, .ref b)]) hx hb dL_law_335 hl (by decide) rfl (fun ls hl => ?_)
    refine lv_aload_n hx hb dL_law_337 rfl (lv_at hl 4 rfl) ?_
    have hPc := hP.sub (ws' := [(m0, .inr (20, [.int 0, .ref mp, .int 0, .ref b1, .ref b2, .ref b3, .ref b4, .ref b5, .ref mq]))]) [11] rfl
    have hDc := hD.sub (ws' := [(m0, .inr (20, [.int 0, .ref mp, .int 0, .ref b1, .ref b2, .ref b3, .ref b4, .ref b5, .ref mq]))]) [11] (by decide) rfl
    have hFc := va_free (wc := [(m0, .inr (20, [.int 0, .ref mp, .int 0, .ref b1, .ref b2, .ref b3, .ref b4, .ref b5, .ref mq]))]) hD hS hA [11] rfl
    refine va_calli (va_runV (As := []) (rest := []) ⟨hx, hb, hml, hown, hts⟩ (c_X15_thrown l hst D cy ed H.size m0 mp mq b1 b2 b3 b4 b5 0 0) (cwV 0 hts (zx_GV mm_1599 mm_1600 mm_1601 mm_78 mm_1602) rfl rfl rfl (by decide +kernel) ⟨(Nat.le_of_ble_eq_true rfl), (Nat.le_of_ble_eq_true rfl)⟩) ⟨zx_blind, va_recv hK hPc (ci := 20) (q0 := 0) rfl rfl, zx_give hPc hK hDc hS hFc hZ hN⟩ rfl rfl hl.1 rfl (lv_room (Nat.le_of_ble_eq_true rfl)) dL_law_338 ⟨(Nat.le_of_ble_eq_true rfl), (Nat.le_of_ble_eq_true rfl)⟩) hS (fun q _ h => hFc q h) hFc (fun r9 u t H1 locs ht hvm hw hB hz1 hk1 hS => ?_)
    obtain rfl : r9 = 0 := hw
    obtain ⟨hP, hD⟩ := zx_join (wr := [(ro, .inl (cy 0, 20, .inl f0)), (pa, .inr (4, [.int mc, .ref ed, .int 0])), (mq, .inr (4, [.int mn, .ref ed, .int 0])), (p0, .inr (17, t0)), (p1, .inr (17, t1)), (p2, .inr (17, t2)), (h, .inr (13, [.ref pe, .ref ne, .ref pa, .ref ro, .int 0])), (pe, .inr (9, [.int 4, .ref a1, .ref a2, .ref a3, .ref a4, .ref a5, .ref a6, .ref a7, .ref a8, .ref a9])), (a1, .inl (cy 0, 20, .inl f3_1337)), (a2, .inl (cy 0, 20, .inl f4_1338)), (oa, .inl (cy 3, 1, .inr (.inl o2_1339))), (mp, .inr (4, [.int mx_1341, .ref qx_1342, .int 4])), (qx_1342, .inl (cy 2, 10, .inr (.inr (.inr (.inr g2_1343))))), (y_1344, .inr (17, fy_1345))]) (w1 := [(m0, .inr (20, [.int 0, .ref mp, .int 0, .ref b1, .ref b2, .ref b3, .ref b4, .ref b5, .ref mq]))]) [11] [0, 1, 2, 3, 4, 5, 6, 7, 8, 9, 10, 12, 13, 14] rfl rfl (by decide) (by decide) hP hD hk1 hFc hB ht
    generalize H1 = H at hP hS ⊢
    have hP : va_P D vwCl [(ro, .inl (cy 0, 20, .inl f0)), (pa, .inr (4, [.int mc, .ref ed, .int 0])), (mq, .inr (4, [.int mn, .ref ed, .int 0])), (p0, .inr (17, t0)), (p1, .inr (17, t1)), (p2, .inr (17, t2)), (h, .inr (13, [.ref pe, .ref ne, .ref pa, .ref ro, .int 0])), (pe, .inr (9, [.int 4, .ref a1, .ref a2, .ref a3, .ref a4, .ref a5, .ref a6, .ref a7, .ref a8, .ref a9])), (a1, .inl (cy 0, 20, .inl f3_1337)), (a2, .inl (cy 0, 20, .inl f4_1338)), (oa, .inl (cy 3, 1, .inr (.inl o2_1339))), (mp, .inr (4, [.int mx_1341, .ref qx_1342, .int 4])), (qx_1342, .inl (cy 2, 10, .inr (.inr (.inr (.inr g2_1343))))), (y_1344, .inr (17, fy_1345)), (m0, .inr (20, [.int 0, .ref mp, .int 0, .ref b1, .ref b2, .ref b3, .ref b4, .ref b5, .ref mq]))] H := hP
    have hD : va_D A [(ro, .inl (cy 0, 20, .inl f0)), (pa, .inr (4, [.int mc, .ref ed, .int 0])), (mq, .inr (4, [.int mn, .ref ed, .int 0])), (p0, .inr (17, t0)), (p1, .inr (17, t1)), (p2, .inr (17, t2)), (h, .inr (13, [.ref pe, .ref ne, .ref pa, .ref ro, .int 0])), (pe, .inr (9, [.int 4, .ref a1, .ref a2, .ref a3, .ref a4, .ref a5, .ref a6, .ref a7, .ref a8, .ref a9])), (a1, .inl (cy 0, 20, .inl f3_1337)), (a2, .inl (cy 0, 20, .inl f4_1338)), (oa, .inl (cy 3, 1, .inr (.inl o2_1339))), (mp, .inr (4, [.int mx_1341, .ref qx_1342, .int 4])), (qx_1342, .inl (cy 2, 10, .inr (.inr (.inr (.inr g2_1343))))), (y_1344, .inr (17, fy_1345)), (m0, .inr (20, [.int 0, .ref mp, .int 0, .ref b1, .ref b2, .ref b3, .ref b4, .ref b5, .ref mq]))] := hD
    refine W.widen (k := 53) (n := 1430) (Nat.le_of_ble_eq_true rfl) (Nat.le_of_ble_eq_true rfl) ?_
    refine lv_iload hx hb dL_law_341 (lv_at hl 1 rfl) ?_
    refine lv_icmp_eq (tgt := 348) hx hb dL_law_343 (by decide) (fun _ => ?_) (fun c_1349 => absurd (by decide) c_1349)
    refine lv_iload hx hb dL_law_348 (lv_at hl 1 rfl) ?_
    refine lv_if_ne (tgt := 365) hx hb dL_law_350 (by decide) (fun c_1350 => absurd c_1350 (by decide)) (fun _ => ?_)
    refine lv_aload_n hx hb dL_law_353 rfl (lv_at hl 3 rfl) ?_
    refine lv_iconst (v := 0) hx hb dL_law_354 (by decide) ?_
    refine va_lald hx hb hK hP 10 3 rfl rfl (zx_bn (by decide)) dL_law_355 ?_
    refine lv_iload hx hb dL_law_356 (lv_at hl 0 rfl) ?_
    refine lv_i2l (v := 3) hx hb dL_law_358 rfl ?_
    refine W.lcmp hx hb dL_law_359 ?_
    refine lv_topi (fun y9 ey9 => ?_)
    obtain rfl : y9 = 0 := ey9.trans (zx_lcmpe h_1340)
    refine lv_if_eq (tgt := 365) hx hb dL_law_360 (by decide) (fun _ => ?_) (fun c_1351 => absurd (by decide) c_1351)
    refine lv_goto (tgt := 4257) hx hb dL_law_365 (by decide) ?_
    refine lv_iinc (v := 24) (lv' := [(5, .int 24), (7, .int 3), (6, .int 0), (3, .ref oa), (2, .ref m0), (1, .ref h), (0, .ref b)]) hx hb dL_law_4257 hl (k := 2) rfl (by decide) (by decide) rfl (fun ls hl => ?_)
    refine lv_goto (tgt := 28) hx hb dL_law_4260 (by decide) ?_
    have hP := hP.sub (ws' := [(h, .inr (13, [.ref pe, .ref ne, .ref pa, .ref ro, .int 0])), (pe, .inr (9, [.int 4, .ref a1, .ref a2, .ref a3, .ref a4, .ref a5, .ref a6, .ref a7, .ref a8, .ref a9])), (a1, .inl (cy 0, 20, .inl f3_1337)), (a2, .inl (cy 0, 20, .inl f4_1338)), (ro, .inl (cy 0, 20, .inl f0)), (pa, .inr (4, [.int mc, .ref ed, .int 0])), (m0, .inr (20, [.int 0, .ref mp, .int 0, .ref b1, .ref b2, .ref b3, .ref b4, .ref b5, .ref mq])), (mp, .inr (4, [.int mx_1341, .ref qx_1342, .int 4])), (qx_1342, .inl (cy 2, 10, .inr (.inr (.inr (.inr g2_1343))))), (mq, .inr (4, [.int mn, .ref ed, .int 0])), (oa, .inl (cy 3, 1, .inr (.inl o2_1339))), (p0, .inr (17, t0)), (p1, .inr (17, t1)), (p2, .inr (17, t2)), (y_1344, .inr (17, fy_1345))]) [6, 7, 8, 9, 0, 1, 14, 11, 12, 2, 10, 3, 4, 5, 13] rfl
    have hD := hD.sub (ws' := [(h, .inr (13, [.ref pe, .ref ne, .ref pa, .ref ro, .int 0])), (pe, .inr (9, [.int 4, .ref a1, .ref a2, .ref a3, .ref a4, .ref a5, .ref a6, .ref a7, .ref a8, .ref a9])), (a1, .inl (cy 0, 20, .inl f3_1337)), (a2, .inl (cy 0, 20, .inl f4_1338)), (ro, .inl (cy 0, 20, .inl f0)), (pa, .inr (4, [.int mc, .ref ed, .int 0])), (m0, .inr (20, [.int 0, .ref mp, .int 0, .ref b1, .ref b2, .ref b3, .ref b4, .ref b5, .ref mq])), (mp, .inr (4, [.int mx_1341, .ref qx_1342, .int 4])), (qx_1342, .inl (cy 2, 10, .inr (.inr (.inr (.inr g2_1343))))), (mq, .inr (4, [.int mn, .ref ed, .int 0])), (oa, .inl (cy 3, 1, .inr (.inl o2_1339))), (p0, .inr (17, t0)), (p1, .inr (17, t1)), (p2, .inr (17, t2)), (y_1344, .inr (17, fy_1345))]) [6, 7, 8, 9, 0, 1, 14, 11, 12, 2, 10, 3, 4, 5, 13] (by decide) rfl
    exact hnext _ _ _ ⟨pe, ne, pa, ro, a1, a2, a3, a4, a5, a6, a7, a8, a9, mp, mq, b1, b2, b3, b4, b5, qx_1342, mc, mx_1341, mn, f3_1337, f4_1338, f0, o2_1339, g2_1343, p0, p1, p2, y_1344, t0, t1, t2, fy_1345, hP, hD, ((hs_1348 0 (by decide)).trans hp0), ((hs_1348 1 (by decide)).trans hp1), ((hs_1348 2 (by decide)).trans hp2), hs_1347⟩ hS (lv_sub hl [0, 3, 4, 5, 6] rfl)
set_option maxHeartbeats 4000000 in
set_option maxRecDepth 100000 in
theorem law_step_4 {p : Program} {l : Launch} {e : Env} {s : State} {m : MethodId} {below : List Frame} {meth : Method} {c : Code} {D : va_G} {cy : Nat → ClassId} {ed b : Nat} {A : Nat → Prop} {Q : State → Prop} (C0 : zx_LW p l s m c D cy ed b A) {h m0 oa : Nat} {H : Heap} {locs : List Loc} {ls : Array Slot} (h0 : zx_S4 D cy ed A h m0 oa H) (hS : va_S A s.heap H locs) (hl : lv_has ls 9 [(5, .int 24), (3, .ref oa), (2, .ref m0), (1, .ref h), (0, .ref b)])
    (hnext : ∀ (H : Heap) (locs : List Loc) (ls : Array Slot), zx_S5 D cy ed A h m0 oa H → va_S A s.heap H locs → lv_has ls 9 [(5, .int 30), (3, .ref oa), (2, .ref m0), (1, .ref h), (0, .ref b)] → W p l e zx_R s m #[Value.ref b] below meth c H locs 56 1460 Q (F0 m 28 ls [])) :
    W p l e zx_R s m #[Value.ref b] below meth c H locs 53 1430 Q (F0 m 28 ls []) := by
  obtain ⟨hx, hb, hml, hst, hown, hts, hX, hbl, hbA, hA, hK, hZ, hN⟩ := C0
  obtain ⟨pe, ne, pa, ro, a1, a2, a3, a4, a5, a6, a7, a8, a9, mp, mq, b1, b2, b3, b4, b5, ep, mc, mm, mn, f1, f2, f0, og, gp, p0, p1, p2, p3, t0, t1, t2, t3, hP, hD, hp0, hp1, hp2, hp3⟩ := h0
  refine lv_iload hx hb dL_law_28 (lv_at hl 0 rfl) ?_
  refine lv_aload_n hx hb dL_law_30 rfl (lv_at hl 4 rfl) ?_
  refine va_slen hx hb hX hbl hbA hS dL_law_31 ?_
  refine lv_topi (fun y9 ey9 => ?_)
  obtain rfl : y9 = 3072 := ey9.trans (by decide)
  refine lv_bipush (v := 6) hx hb dL_law_32 (by decide) ?_
  refine lv_isub hx hb dL_law_34 ?_
  refine lv_topi (fun y9 ey9 => ?_)
  obtain rfl : y9 = 3066 := by rw [ey9] <;> decide
  refine lv_icmp_gt (tgt := 4263) hx hb dL_law_35 (by decide) (fun c_1352 => absurd c_1352 (by decide)) (fun _ => ?_)
  refine lv_aload_n hx hb dL_law_38 rfl (lv_at hl 4 rfl) ?_
  refine lv_iload hx hb dL_law_39 (lv_at hl 0 rfl) ?_
  refine va_sld hx hb hX hbl hbA hS (zx_bn (by decide)) dL_law_41 ?_
  refine lv_topi (fun y9 ey9 => ?_)
  obtain rfl : y9 = 0 := ey9.trans (by decide)
  refine lv_bipush (v := 63) hx hb dL_law_42 (by decide) ?_
  refine lv_iand hx hb dL_law_44 ?_
  refine lv_topi (fun y9 ey9 => ?_)
  obtain rfl : y9 = 0 := by rw [ey9] <;> decide
  refine lv_tableIn (off := 255) (tgt := 300) hx hb dL_law_45 (by decide) (by decide) (by decide) (by decide) ?_
  refine lv_aload_n hx hb dL_law_300 rfl (lv_at hl 3 rfl) ?_
  refine lv_aload_n hx hb dL_law_301 rfl (lv_at hl 4 rfl) ?_
  refine lv_iload hx hb dL_law_302 (lv_at hl 0 rfl) ?_
  refine lv_iconst (v := 1) hx hb dL_law_304 (by decide) ?_
  refine lv_iadd hx hb dL_law_305 ?_
  refine lv_topi (fun y9 ey9 => ?_)
  obtain rfl : y9 = 25 := by rw [ey9] <;> decide
  refine va_sld hx hb hX hbl hbA hS (zx_bn (by decide)) dL_law_306 ?_
  refine lv_topi (fun y9 ey9 => ?_)
  obtain rfl : y9 = 0 := ey9.trans (by decide)
  refine lv_aload_n hx hb dL_law_307 rfl (lv_at hl 4 rfl) ?_
  refine lv_iload hx hb dL_law_308 (lv_at hl 0 rfl) ?_
  refine lv_iconst (v := 2) hx hb dL_law_310 (by decide) ?_
  refine lv_iadd hx hb dL_law_311 ?_
  refine lv_topi (fun y9 ey9 => ?_)
  obtain rfl : y9 = 26 := by rw [ey9] <;> decide
  refine va_sld hx hb hX hbl hbA hS (zx_bn (by decide)) dL_law_312 ?_
  refine lv_topi (fun y9 ey9 => ?_)
  obtain rfl : y9 = 0 := ey9.trans (by decide)
  refine lv_aload_n hx hb dL_law_313 rfl (lv_at hl 1 rfl) ?_
  have hPc := hP.sub (ws' := [(h, .inr (13, [.ref pe, .ref ne, .ref pa, .ref ro, .int 0])), (pe, .inr (9, [.int 4, .ref a1, .ref a2, .ref a3, .ref a4, .ref a5, .ref a6, .ref a7, .ref a8, .ref a9])), (a1, .inl (cy 0, 20, .inl f1)), (a2, .inl (cy 0, 20, .inl f2)), (oa, .inl (cy 3, 1, .inr (.inl og)))]) [0, 1, 2, 3, 10] rfl
  have hDc := hD.sub (ws' := [(h, .inr (13, [.ref pe, .ref ne, .ref pa, .ref ro, .int 0])), (pe, .inr (9, [.int 4, .ref a1, .ref a2, .ref a3, .ref a4, .ref a5, .ref a6, .ref a7, .ref a8, .ref a9])), (a1, .inl (cy 0, 20, .inl f1)), (a2, .inl (cy 0, 20, .inl f2)), (oa, .inl (cy 3, 1, .inr (.inl og)))]) [0, 1, 2, 3, 10] (by decide) rfl
  have hFc := va_free (wc := [(h, .inr (13, [.ref pe, .ref ne, .ref pa, .ref ro, .int 0])), (pe, .inr (9, [.int 4, .ref a1, .ref a2, .ref a3, .ref a4, .ref a5, .ref a6, .ref a7, .ref a8, .ref a9])), (a1, .inl (cy 0, 20, .inl f1)), (a2, .inl (cy 0, 20, .inl f2)), (oa, .inl (cy 3, 1, .inr (.inl og)))]) hD hS hA [0, 1, 2, 3, 10] rfl
  refine vx_calli (vx_runSX (As := [.ref h, .int 0, .int 0, .ref oa]) (rest := []) ⟨hx, hb, hml, hown, hts⟩ (c_L_addPerson_4 l hst D cy ed H.size h pe ne pa ro 0 a1 a2 a3 a4 a5 a6 a7 a8 a9 f1 f2 oa og) (vx_cwSW 4 hts (zx_GS mm_329 mm_330 mm_70 mm_331) rfl rfl rfl (by decide +kernel) ⟨(Nat.le_of_ble_eq_true rfl), (Nat.le_of_ble_eq_true rfl)⟩) ⟨zx_blind, zx_give hPc hK hDc hS hFc hZ hN⟩ rfl rfl hl.1 rfl (lv_room (Nat.le_of_ble_eq_true rfl)) dL_law_314 ⟨(Nat.le_of_ble_eq_true rfl), (Nat.le_of_ble_eq_true rfl)⟩) hS (fun q _ h => hFc q h) hFc (fun q _ h => hFc q h) (fun E9 ce9 q9 _ t H locs ht hvm _ hBX hz1 hk1 hS hce hcv hcl => ?_) (fun r9 u t H locs ht hvm hw hB hz1 hk1 hS => ?_)
  · exact hBX.elim
  ·
    obtain ⟨f3_1353, f4_1354, o2_1355⟩ := u
    obtain ⟨rfl, h_1356⟩ := hw
    obtain ⟨hP, hD⟩ := zx_join (wr := [(ro, .inl (cy 0, 20, .inl f0)), (pa, .inr (4, [.int mc, .ref ed, .int 0])), (m0, .inr (20, [.int 0, .ref mp, .int 0, .ref b1, .ref b2, .ref b3, .ref b4, .ref b5, .ref mq])), (mp, .inr (4, [.int mm, .ref ep, .int 4])), (ep, .inl (cy 2, 10, .inr (.inr (.inr (.inr gp))))), (mq, .inr (4, [.int mn, .ref ed, .int 0])), (p0, .inr (17, t0)), (p1, .inr (17, t1)), (p2, .inr (17, t2)), (p3, .inr (17, t3))]) (w1 := [(h, .inr (13, [.ref pe, .ref ne, .ref pa, .ref ro, .int 0])), (pe, .inr (9, [.int 5, .ref a1, .ref a2, .ref a3, .ref a4, .ref a5, .ref a6, .ref a7, .ref a8, .ref a9])), (a1, .inl (cy 0, 20, .inl f3_1353)), (a2, .inl (cy 0, 20, .inl f4_1354)), (oa, .inl (cy 3, 1, .inr (.inl o2_1355)))]) [0, 1, 2, 3, 10] [4, 5, 6, 7, 8, 9, 11, 12, 13, 14] rfl rfl (by decide) (by decide) hP hD hk1 hFc hB ht
    have hP : va_P D vwCl [(ro, .inl (cy 0, 20, .inl f0)), (pa, .inr (4, [.int mc, .ref ed, .int 0])), (m0, .inr (20, [.int 0, .ref mp, .int 0, .ref b1, .ref b2, .ref b3, .ref b4, .ref b5, .ref mq])), (mp, .inr (4, [.int mm, .ref ep, .int 4])), (ep, .inl (cy 2, 10, .inr (.inr (.inr (.inr gp))))), (mq, .inr (4, [.int mn, .ref ed, .int 0])), (p0, .inr (17, t0)), (p1, .inr (17, t1)), (p2, .inr (17, t2)), (p3, .inr (17, t3)), (h, .inr (13, [.ref pe, .ref ne, .ref pa, .ref ro, .int 0])), (pe, .inr (9, [.int 5, .ref a1, .ref a2, .ref a3, .ref a4, .ref a5, .ref a6, .ref a7, .ref a8, .ref a9])), (a1, .inl (cy 0, 20, .inl f3_1353)), (a2, .inl (cy 0, 20, .inl f4_1354)), (oa, .inl (cy 3, 1, .inr (.inl o2_1355)))] H := hP
    have hD : va_D A [(ro, .inl (cy 0, 20, .inl f0)), (pa, .inr (4, [.int mc, .ref ed, .int 0])), (m0, .inr (20, [.int 0, .ref mp, .int 0, .ref b1, .ref b2, .ref b3, .ref b4, .ref b5, .ref mq])), (mp, .inr (4, [.int mm, .ref ep, .int 4])), (ep, .inl (cy 2, 10, .inr (.inr (.inr (.inr gp))))), (mq, .inr (4, [.int mn, .ref ed, .int 0])), (p0, .inr (17, t0)), (p1, .inr (17, t1)), (p2, .inr (17, t2)), (p3, .inr (17, t3)), (h, .inr (13, [.ref pe, .ref ne, .ref pa, .ref ro, .int 0])), (pe, .inr (9, [.int 5, .ref a1, .ref a2, .ref a3, .ref a4, .ref a5, .ref a6, .ref a7, .ref a8, .ref a9])), (a1, .inl (cy 0, 20, .inl f3_1353)), (a2, .inl (cy 0, 20, .inl f4_1354)), (oa, .inl (cy 3, 1, .inr (.inl o2_1355)))] := hD
    refine W.widen (k := 53) (n := 1430) (Nat.le_of_ble_eq_true rfl) (Nat.le_of_ble_eq_true rfl) ?_
    refine lv_istore (lv' := [(6, .int 0), (5, .int 24), (3, .ref oa), (2, .ref m0), (1, .ref h), (0, .ref b)]) hx hb dL_law_317 hl (by decide) rfl (fun ls hl => ?_)
    refine lv_aload_n hx hb dL_law_319 rfl (lv_at hl 3 rfl) ?_
    refine lv_aload_n hx hb dL_law_320 rfl (lv_at hl 5 rfl) ?_
    refine lv_iload hx hb dL_law_321 (lv_at hl 1 rfl) ?_
    refine lv_iconst (v := 1) hx hb dL_law_323 (by decide) ?_
    refine lv_iadd hx hb dL_law_324 ?_
    refine lv_topi (fun y9 ey9 => ?_)
    obtain rfl : y9 = 25 := by rw [ey9] <;> decide
    refine va_sld hx hb hX hbl hbA hS (zx_bn (by decide)) dL_law_325 ?_
    refine lv_topi (fun y9 ey9 => ?_)
    obtain rfl : y9 = 0 := ey9.trans (by decide)
    refine lv_aload_n hx hb dL_law_326 rfl (lv_at hl 5 rfl) ?_
    refine lv_iload hx hb dL_law_327 (lv_at hl 1 rfl) ?_
    refine lv_iconst (v := 2) hx hb dL_law_329 (by decide) ?_
    refine lv_iadd hx hb dL_law_330 ?_
    refine lv_topi (fun y9 ey9 => ?_)
    obtain rfl : y9 = 26 := by rw [ey9] <;> decide
    refine va_sld hx hb hX hbl hbA hS (zx_bn (by decide)) dL_law_331 ?_
    refine lv_topi (fun y9 ey9 => ?_)
    obtain rfl : y9 = 0 := ey9.trans (by decide)
    have hPc := hP.sub (ws' := [(m0, .inr (20, [.int 0, .ref mp, .int 0, .ref b1, .ref b2, .ref b3, .ref b4, .ref b5, .ref mq])), (mp, .inr (4, [.int mm, .ref ep, .int 4])), (ep, .inl (cy 2, 10, .inr (.inr (.inr (.inr gp)))))]) [2, 3, 4] rfl
    have hDc := hD.sub (ws' := [(m0, .inr (20, [.int 0, .ref mp, .int 0, .ref b1, .ref b2, .ref b3, .ref b4, .ref b5, .ref mq])), (mp, .inr (4, [.int mm, .ref ep, .int 4])), (ep, .inl (cy 2, 10, .inr (.inr (.inr (.inr gp)))))]) [2, 3, 4] (by decide) rfl
    have hFc := va_free (wc := [(m0, .inr (20, [.int 0, .ref mp, .int 0, .ref b1, .ref b2, .ref b3, .ref b4, .ref b5, .ref mq])), (mp, .inr (4, [.int mm, .ref ep, .int 4])), (ep, .inl (cy 2, 10, .inr (.inr (.inr (.inr gp)))))]) hD hS hA [2, 3, 4] rfl
    refine va_calli (va_runV (As := [.int 0, .int 0]) (rest := []) ⟨hx, hb, hml, hown, hts⟩ (c_X15_addPerson_4 l hst D cy ed H.size m0 mp mq b1 b2 b3 b4 b5 0 0 mm ep gp) (cwV 2 hts (zx_GV mm_1603 mm_1604 mm_1605 mm_78 mm_1606) rfl rfl rfl (by decide +kernel) ⟨(Nat.le_of_ble_eq_true rfl), (Nat.le_of_ble_eq_true rfl)⟩) ⟨zx_blind, va_recv hK hPc (ci := 20) (q0 := 0) rfl rfl, zx_give hPc hK hDc hS hFc hZ hN⟩ rfl rfl hl.1 rfl (lv_room (Nat.le_of_ble_eq_true rfl)) dL_law_332 ⟨(Nat.le_of_ble_eq_true rfl), (Nat.le_of_ble_eq_true rfl)⟩) hS (fun q _ h => hFc q h) hFc (fun r9 u t H1 locs ht hvm hw hB hz1 hk1 hS => ?_)
    obtain ⟨mx_1357, qx_1358, g2_1359, y_1360, fy_1361⟩ := u
    obtain ⟨rfl, h_1362⟩ := hw
    obtain ⟨hP, hD⟩ := zx_join (wr := [(ro, .inl (cy 0, 20, .inl f0)), (pa, .inr (4, [.int mc, .ref ed, .int 0])), (mq, .inr (4, [.int mn, .ref ed, .int 0])), (p0, .inr (17, t0)), (p1, .inr (17, t1)), (p2, .inr (17, t2)), (p3, .inr (17, t3)), (h, .inr (13, [.ref pe, .ref ne, .ref pa, .ref ro, .int 0])), (pe, .inr (9, [.int 5, .ref a1, .ref a2, .ref a3, .ref a4, .ref a5, .ref a6, .ref a7, .ref a8, .ref a9])), (a1, .inl (cy 0, 20, .inl f3_1353)), (a2, .inl (cy 0, 20, .inl f4_1354)), (oa, .inl (cy 3, 1, .inr (.inl o2_1355)))]) (w1 := [(m0, .inr (20, [.int 0, .ref mp, .int 0, .ref b1, .ref b2, .ref b3, .ref b4, .ref b5, .ref mq])), (mp, .inr (4, [.int mx_1357, .ref qx_1358, .int 5])), (qx_1358, .inl (cy 2, 10, .inr (.inr (.inr (.inr g2_1359))))), (y_1360, .inr (17, fy_1361))]) [2, 3, 4] [0, 1, 5, 6, 7, 8, 9, 10, 11, 12, 13, 14] rfl rfl (by decide) (by decide) hP hD hk1 hFc hB ht
    generalize H1 = H at hP hS ⊢
    have hP : va_P D vwCl [(ro, .inl (cy 0, 20, .inl f0)), (pa, .inr (4, [.int mc, .ref ed, .int 0])), (mq, .inr (4, [.int mn, .ref ed, .int 0])), (p0, .inr (17, t0)), (p1, .inr (17, t1)), (p2, .inr (17, t2)), (p3, .inr (17, t3)), (h, .inr (13, [.ref pe, .ref ne, .ref pa, .ref ro, .int 0])), (pe, .inr (9, [.int 5, .ref a1, .ref a2, .ref a3, .ref a4, .ref a5, .ref a6, .ref a7, .ref a8, .ref a9])), (a1, .inl (cy 0, 20, .inl f3_1353)), (a2, .inl (cy 0, 20, .inl f4_1354)), (oa, .inl (cy 3, 1, .inr (.inl o2_1355))), (m0, .inr (20, [.int 0, .ref mp, .int 0, .ref b1, .ref b2, .ref b3, .ref b4, .ref b5, .ref mq])), (mp, .inr (4, [.int mx_1357, .ref qx_1358, .int 5])), (qx_1358, .inl (cy 2, 10, .inr (.inr (.inr (.inr g2_1359))))), (y_1360, .inr (17, fy_1361))] H := hP
    have hD : va_D A [(ro, .inl (cy 0, 20, .inl f0)), (pa, .inr (4, [.int mc, .ref ed, .int 0])), (mq, .inr (4, [.int mn, .ref ed, .int 0])), (p0, .inr (17, t0)), (p1, .inr (17, t1)), (p2, .inr (17, t2)), (p3, .inr (17, t3)), (h, .inr (13, [.ref pe, .ref ne, .ref pa, .ref ro, .int 0])), (pe, .inr (9, [.int 5, .ref a1, .ref a2, .ref a3, .ref a4, .ref a5, .ref a6, .ref a7, .ref a8, .ref a9])), (a1, .inl (cy 0, 20, .inl f3_1353)), (a2, .inl (cy 0, 20, .inl f4_1354)), (oa, .inl (cy 3, 1, .inr (.inl o2_1355))), (m0, .inr (20, [.int 0, .ref mp, .int 0, .ref b1, .ref b2, .ref b3, .ref b4, .ref b5, .ref mq])), (mp, .inr (4, [.int mx_1357, .ref qx_1358, .int 5])), (qx_1358, .inl (cy 2, 10, .inr (.inr (.inr (.inr g2_1359))))), (y_1360, .inr (17, fy_1361))] := hD
    refine W.widen (k := 56) (n := 1460) (Nat.le_of_ble_eq_true rfl) (Nat.le_of_ble_eq_true rfl) ?_
    obtain ⟨hs_1363, hs_1364⟩ := h_1362
    refine lv_istore (lv' := [(7, .int 4), (6, .int 0), (5, .int 24), (3, .ref oa), (2, .ref m0), (1, .ref h), (0, .ref b)]) hx hb dL_law_335 hl (by decide) rfl (fun ls hl => ?_)
    refine lv_aload_n hx hb dL_law_337 rfl (lv_at hl 4 rfl) ?_
    have hPc := hP.sub (ws' := [(m0, .inr (20, [.int 0, .ref mp, .int 0, .ref b1, .ref b2, .ref b3, .ref b4, .ref b5, .ref mq]))]) [12] rfl
    have hDc := hD.sub (ws' := [(m0, .inr (20, [.int 0, .ref mp, .int 0, .ref b1, .ref b2, .ref b3, .ref b4, .ref b5, .ref mq]))]) [12] (by decide) rfl
    have hFc := va_free (wc := [(m0, .inr (20, [.int 0, .ref mp, .int 0, .ref b1, .ref b2, .ref b3, .ref b4, .ref b5, .ref mq]))]) hD hS hA [12] rfl
    refine va_calli (va_runV (As := []) (rest := []) ⟨hx, hb, hml, hown, hts⟩ (c_X15_thrown l hst D cy ed H.size m0 mp mq b1 b2 b3 b4 b5 0 0) (cwV 0 hts (zx_GV mm_1599 mm_1600 mm_1601 mm_78 mm_1602) rfl rfl rfl (by decide +kernel) ⟨(Nat.le_of_ble_eq_true rfl), (Nat.le_of_ble_eq_true rfl)⟩) ⟨zx_blind, va_recv hK hPc (ci := 20) (q0 := 0) rfl rfl, zx_give hPc hK hDc hS hFc hZ hN⟩ rfl rfl hl.1 rfl (lv_room (Nat.le_of_ble_eq_true rfl)) dL_law_338 ⟨(Nat.le_of_ble_eq_true rfl), (Nat.le_of_ble_eq_true rfl)⟩) hS (fun q _ h => hFc q h) hFc (fun r9 u t H1 locs ht hvm hw hB hz1 hk1 hS => ?_)
    obtain rfl : r9 = 0 := hw
    obtain ⟨hP, hD⟩ := zx_join (wr := [(ro, .inl (cy 0, 20, .inl f0)), (pa, .inr (4, [.int mc, .ref ed, .int 0])), (mq, .inr (4, [.int mn, .ref ed, .int 0])), (p0, .inr (17, t0)), (p1, .inr (17, t1)), (p2, .inr (17, t2)), (p3, .inr (17, t3)), (h, .inr (13, [.ref pe, .ref ne, .ref pa, .ref ro, .int 0])), (pe, .inr (9, [.int 5, .ref a1, .ref a2, .ref a3, .ref a4, .ref a5, .ref a6, .ref a7, .ref a8, .ref a9])), (a1, .inl (cy 0, 20, .inl f3_1353)), (a2, .inl (cy 0, 20, .inl f4_1354)), (oa, .inl (cy 3, 1, .inr (.inl o2_1355))), (mp, .inr (4, [.int mx_1357, .ref qx_1358, .int 5])), (qx_1358, .inl (cy 2, 10, .inr (.inr (.inr (.inr g2_1359))))), (y_1360, .inr (17, fy_1361))]) (w1 := [(m0, .inr (20, [.int 0, .ref mp, .int 0, .ref b1, .ref b2, .ref b3, .ref b4, .ref b5, .ref mq]))]) [12] [0, 1, 2, 3, 4, 5, 6, 7, 8, 9, 10, 11, 13, 14, 15] rfl rfl (by decide) (by decide) hP hD hk1 hFc hB ht
    generalize H1 = H at hP hS ⊢
    have hP : va_P D vwCl [(ro, .inl (cy 0, 20, .inl f0)), (pa, .inr (4, [.int mc, .ref ed, .int 0])), (mq, .inr (4, [.int mn, .ref ed, .int 0])), (p0, .inr (17, t0)), (p1, .inr (17, t1)), (p2, .inr (17, t2)), (p3, .inr (17, t3)), (h, .inr (13, [.ref pe, .ref ne, .ref pa, .ref ro, .int 0])), (pe, .inr (9, [.int 5, .ref a1, .ref a2, .ref a3, .ref a4, .ref a5, .ref a6, .ref a7, .ref a8, .ref a9])), (a1, .inl (cy 0, 20, .inl f3_1353)), (a2, .inl (cy 0, 20, .inl f4_1354)), (oa, .inl (cy 3, 1, .inr (.inl o2_1355))), (mp, .inr (4, [.int mx_1357, .ref qx_1358, .int 5])), (qx_1358, .inl (cy 2, 10, .inr (.inr (.inr (.inr g2_1359))))), (y_1360, .inr (17, fy_1361)), (m0, .inr (20, [.int 0, .ref mp, .int 0, .ref b1, .ref b2, .ref b3, .ref b4, .ref b5, .ref mq]))] H := hP
    have hD : va_D A [(ro, .inl (cy 0, 20, .inl f0)), (pa, .inr (4, [.int mc, .ref ed, .int 0])), (mq, .inr (4, [.int mn, .ref ed, .int 0])), (p0, .inr (17, t0)), (p1, .inr (17, t1)), (p2, .inr (17, t2)), (p3, .inr (17, t3)), (h, .inr (13, [.ref pe, .ref ne, .ref pa, .ref ro, .int 0])), (pe, .inr (9, [.int 5, .ref a1, .ref a2, .ref a3, .ref a4, .ref a5, .ref a6, .ref a7, .ref a8, .ref a9])), (a1, .inl (cy 0, 20, .inl f3_1353)), (a2, .inl (cy 0, 20, .inl f4_1354)), (oa, .inl (cy 3, 1, .inr (.inl o2_1355))), (mp, .inr (4, [.int mx_1357, .ref qx_1358, .int 5])), (qx_1358, .inl (cy 2, 10, .inr (.inr (.inr (.inr g2_1359))))), (y_1360, .inr (17, fy_1361)), (m0, .inr (20, [.int 0, .ref mp, .int 0, .ref b1, .ref b2, .ref b3, .ref b4, .ref b5, .ref mq]))] := hD
    refine W.widen (k := 56) (n := 1460) (Nat.le_of_ble_eq_true rfl) (Nat.le_of_ble_eq_true rfl) ?_
    refine lv_iload hx hb dL_law_341 (lv_at hl 1 rfl) ?_
    refine lv_icmp_eq (tgt := 348) hx hb dL_law_343 (by decide) (fun _ => ?_) (fun c_1365 => absurd (by decide) c_1365)
    refine lv_iload hx hb dL_law_348 (lv_at hl 1 rfl) ?_
    refine lv_if_ne (tgt := 365) hx hb dL_law_350 (by decide) (fun c_1366 => absurd c_1366 (by decide)) (fun _ => ?_)
    refine lv_aload_n hx hb dL_law_353 rfl (lv_at hl 3 rfl) ?_
    refine lv_iconst (v := 0) hx hb dL_law_354 (by decide) ?_
    refine va_lald hx hb hK hP 11 3 rfl rfl (zx_bn (by decide)) dL_law_355 ?_
    refine lv_iload hx hb dL_law_356 (lv_at hl 0 rfl) ?_
    refine lv_i2l (v := 4) hx hb dL_law_358 rfl ?_
    refine W.lcmp hx hb dL_law_359 ?_
    refine lv_topi (fun y9 ey9 => ?_)
    obtain rfl : y9 = 0 := ey9.trans (zx_lcmpe h_1356)
    refine lv_if_eq (tgt := 365) hx hb dL_law_360 (by decide) (fun _ => ?_) (fun c_1367 => absurd (by decide) c_1367)
    refine lv_goto (tgt := 4257) hx hb dL_law_365 (by decide) ?_
    refine lv_iinc (v := 30) (lv' := [(5, .int 30), (7, .int 4), (6, .int 0), (3, .ref oa), (2, .ref m0), (1, .ref h), (0, .ref b)]) hx hb dL_law_4257 hl (k := 2) rfl (by decide) (by decide) rfl (fun ls hl => ?_)
    refine lv_goto (tgt := 28) hx hb dL_law_4260 (by decide) ?_
    have hP := hP.sub (ws' := [(h, .inr (13, [.ref pe, .ref ne, .ref pa, .ref ro, .int 0])), (pe, .inr (9, [.int 5, .ref a1, .ref a2, .ref a3, .ref a4, .ref a5, .ref a6, .ref a7, .ref a8, .ref a9])), (a1, .inl (cy 0, 20, .inl f3_1353)), (a2, .inl (cy 0, 20, .inl f4_1354)), (ro, .inl (cy 0, 20, .inl f0)), (pa, .inr (4, [.int mc, .ref ed, .int 0])), (m0, .inr (20, [.int 0, .ref mp, .int 0, .ref b1, .ref b2, .ref b3, .ref b4, .ref b5, .ref mq])), (mp, .inr (4, [.int mx_1357, .ref qx_1358, .int 5])), (qx_1358, .inl (cy 2, 10, .inr (.inr (.inr (.inr g2_1359))))), (mq, .inr (4, [.int mn, .ref ed, .int 0])), (oa, .inl (cy 3, 1, .inr (.inl o2_1355))), (p0, .inr (17, t0)), (p1, .inr (17, t1)), (p2, .inr (17, t2)), (p3, .inr (17, t3)), (y_1360, .inr (17, fy_1361))]) [7, 8, 9, 10, 0, 1, 15, 12, 13, 2, 11, 3, 4, 5, 6, 14] rfl
    have hD := hD.sub (ws' := [(h, .inr (13, [.ref pe, .ref ne, .ref pa, .ref ro, .int 0])), (pe, .inr (9, [.int 5, .ref a1, .ref a2, .ref a3, .ref a4, .ref a5, .ref a6, .ref a7, .ref a8, .ref a9])), (a1, .inl (cy 0, 20, .inl f3_1353)), (a2, .inl (cy 0, 20, .inl f4_1354)), (ro, .inl (cy 0, 20, .inl f0)), (pa, .inr (4, [.int mc, .ref ed, .int 0])), (m0, .inr (20, [.int 0, .ref mp, .int 0, .ref b1, .ref b2, .ref b3, .ref b4, .ref b5, .ref mq])), (mp, .inr (4, [.int mx_1357, .ref qx_1358, .int 5])), (qx_1358, .inl (cy 2, 10, .inr (.inr (.inr (.inr g2_1359))))), (mq, .inr (4, [.int mn, .ref ed, .int 0])), (oa, .inl (cy 3, 1, .inr (.inl o2_1355))), (p0, .inr (17, t0)), (p1, .inr (17, t1)), (p2, .inr (17, t2)), (p3, .inr (17, t3)), (y_1360, .inr (17, fy_1361))]) [7, 8, 9, 10, 0, 1, 15, 12, 13, 2, 11, 3, 4, 5, 6, 14] (by decide) rfl
    exact hnext _ _ _ ⟨pe, ne, pa, ro, a1, a2, a3, a4, a5, a6, a7, a8, a9, mp, mq, b1, b2, b3, b4, b5, qx_1358, mc, mx_1357, mn, f3_1353, f4_1354, f0, o2_1355, g2_1359, p0, p1, p2, p3, y_1360, t0, t1, t2, t3, fy_1361, hP, hD, ((hs_1364 0 (by decide)).trans hp0), ((hs_1364 1 (by decide)).trans hp1), ((hs_1364 2 (by decide)).trans hp2), ((hs_1364 3 (by decide)).trans hp3), hs_1363⟩ hS (lv_sub hl [0, 3, 4, 5, 6] rfl)
set_option maxHeartbeats 4000000 in
set_option maxRecDepth 100000 in
theorem law_step_5 {p : Program} {l : Launch} {e : Env} {s : State} {m : MethodId} {below : List Frame} {meth : Method} {c : Code} {D : va_G} {cy : Nat → ClassId} {ed b : Nat} {A : Nat → Prop} {Q : State → Prop} (C0 : zx_LW p l s m c D cy ed b A) {h m0 oa : Nat} {H : Heap} {locs : List Loc} {ls : Array Slot} (h0 : zx_S5 D cy ed A h m0 oa H) (hS : va_S A s.heap H locs) (hl : lv_has ls 9 [(5, .int 30), (3, .ref oa), (2, .ref m0), (1, .ref h), (0, .ref b)])
    (hnext : ∀ (H : Heap) (locs : List Loc) (ls : Array Slot), zx_S6 D cy ed A h m0 oa H → va_S A s.heap H locs → lv_has ls 9 [(5, .int 36), (3, .ref oa), (2, .ref m0), (1, .ref h), (0, .ref b)] → W p l e zx_R s m #[Value.ref b] below meth c H locs 59 1490 Q (F0 m 28 ls [])) :
    W p l e zx_R s m #[Value.ref b] below meth c H locs 56 1460 Q (F0 m 28 ls []) := by
  obtain ⟨hx, hb, hml, hst, hown, hts, hX, hbl, hbA, hA, hK, hZ, hN⟩ := C0
  obtain ⟨pe, ne, pa, ro, a1, a2, a3, a4, a5, a6, a7, a8, a9, mp, mq, b1, b2, b3, b4, b5, ep, mc, mm, mn, f1, f2, f0, og, gp, p0, p1, p2, p3, p4, t0, t1, t2, t3, t4, hP, hD, hp0, hp1, hp2, hp3, hp4⟩ := h0
  refine lv_iload hx hb dL_law_28 (lv_at hl 0 rfl) ?_
  refine lv_aload_n hx hb dL_law_30 rfl (lv_at hl 4 rfl) ?_
  refine va_slen hx hb hX hbl hbA hS dL_law_31 ?_
  refine lv_topi (fun y9 ey9 => ?_)
  obtain rfl : y9 = 3072 := ey9.trans (by decide)
  refine lv_bipush (v := 6) hx hb dL_law_32 (by decide) ?_
  refine lv_isub hx hb dL_law_34 ?_
  refine lv_topi (fun y9 ey9 => ?_)
  obtain rfl : y9 = 3066 := by rw [ey9] <;> decide
  refine lv_icmp_gt (tgt := 4263) hx hb dL_law_35 (by decide) (fun c_1368 => absurd c_1368 (by decide)) (fun _ => ?_)
  refine lv_aload_n hx hb dL_law_38 rfl (lv_at hl 4 rfl) ?_
  refine lv_iload hx hb dL_law_39 (lv_at hl 0 rfl) ?_
  refine va_sld hx hb hX hbl hbA hS (zx_bn (by decide)) dL_law_41 ?_
  refine lv_topi (fun y9 ey9 => ?_)
  obtain rfl : y9 = 0 := ey9.trans (by decide)
  refine lv_bipush (v := 63) hx hb dL_law_42 (by decide) ?_
  refine lv_iand hx hb dL_law_44 ?_
  refine lv_topi (fun y9 ey9 => ?_)
  obtain rfl : y9 = 0 := by rw [ey9] <;> decide
  refine lv_tableIn (off := 255) (tgt := 300) hx hb dL_law_45 (by decide) (by decide) (by decide) (by decide) ?_
  refine lv_aload_n hx hb dL_law_300 rfl (lv_at hl 3 rfl) ?_
  refine lv_aload_n hx hb dL_law_301 rfl (lv_at hl 4 rfl) ?_
  refine lv_iload hx hb dL_law_302 (lv_at hl 0 rfl) ?_
  refine lv_iconst (v := 1) hx hb dL_law_304 (by decide) ?_
  refine lv_iadd hx hb dL_law_305 ?_
  refine lv_topi (fun y9 ey9 => ?_)
  obtain rfl : y9 = 31 := by rw [ey9] <;> decide
  refine va_sld hx hb hX hbl hbA hS (zx_bn (by decide)) dL_law_306 ?_
  refine lv_topi (fun y9 ey9 => ?_)
  obtain rfl : y9 = 0 := ey9.trans (by decide)
  refine lv_aload_n hx hb dL_law_307 rfl (lv_at hl 4 rfl) ?_
  refine lv_iload hx hb dL_law_308 (lv_at hl 0 rfl) ?_
  refine lv_iconst (v := 2) hx hb dL_law_310 (by decide) ?_
  refine lv_iadd hx hb dL_law_311 ?_
  refine lv_topi (fun y9 ey9 => ?_)
  obtain rfl : y9 = 32 := by rw [ey9] <;> decide
  refine va_sld hx hb hX hbl hbA hS (zx_bn (by decide)) dL_law_312 ?_
  refine lv_topi (fun y9 ey9 => ?_)
  obtain rfl : y9 = 0 := ey9.trans (by decide)
  refine lv_aload_n hx hb dL_law_313 rfl (lv_at hl 1 rfl) ?_
  have hPc := hP.sub (ws' := [(h, .inr (13, [.ref pe, .ref ne, .ref pa, .ref ro, .int 0])), (pe, .inr (9, [.int 5, .ref a1, .ref a2, .ref a3, .ref a4, .ref a5, .ref a6, .ref a7, .ref a8, .ref a9])), (a1, .inl (cy 0, 20, .inl f1)), (a2, .inl (cy 0, 20, .inl f2)), (oa, .inl (cy 3, 1, .inr (.inl og)))]) [0, 1, 2, 3, 10] rfl
  have hDc := hD.sub (ws' := [(h, .inr (13, [.ref pe, .ref ne, .ref pa, .ref ro, .int 0])), (pe, .inr (9, [.int 5, .ref a1, .ref a2, .ref a3, .ref a4, .ref a5, .ref a6, .ref a7, .ref a8, .ref a9])), (a1, .inl (cy 0, 20, .inl f1)), (a2, .inl (cy 0, 20, .inl f2)), (oa, .inl (cy 3, 1, .inr (.inl og)))]) [0, 1, 2, 3, 10] (by decide) rfl
  have hFc := va_free (wc := [(h, .inr (13, [.ref pe, .ref ne, .ref pa, .ref ro, .int 0])), (pe, .inr (9, [.int 5, .ref a1, .ref a2, .ref a3, .ref a4, .ref a5, .ref a6, .ref a7, .ref a8, .ref a9])), (a1, .inl (cy 0, 20, .inl f1)), (a2, .inl (cy 0, 20, .inl f2)), (oa, .inl (cy 3, 1, .inr (.inl og)))]) hD hS hA [0, 1, 2, 3, 10] rfl
  refine vx_calli (vx_runSX (As := [.ref h, .int 0, .int 0, .ref oa]) (rest := []) ⟨hx, hb, hml, hown, hts⟩ (c_L_addPerson_5 l hst D cy ed H.size h pe ne pa ro 0 a1 a2 a3 a4 a5 a6 a7 a8 a9 f1 f2 oa og) (vx_cwSW 4 hts (zx_GS mm_329 mm_330 mm_70 mm_331) rfl rfl rfl (by decide +kernel) ⟨(Nat.le_of_ble_eq_true rfl), (Nat.le_of_ble_eq_true rfl)⟩) ⟨zx_blind, zx_give hPc hK hDc hS hFc hZ hN⟩ rfl rfl hl.1 rfl (lv_room (Nat.le_of_ble_eq_true rfl)) dL_law_314 ⟨(Nat.le_of_ble_eq_true rfl), (Nat.le_of_ble_eq_true rfl)⟩) hS (fun q _ h => hFc q h) hFc (fun q _ h => hFc q h) (fun E9 ce9 q9 _ t H locs ht hvm _ hBX hz1 hk1 hS hce hcv hcl => ?_) (fun r9 u t H locs ht hvm hw hB hz1 hk1 hS => ?_)
  · exact hBX.elim
  ·
    obtain ⟨f3_1369, f4_1370, o2_1371⟩ := u
    obtain ⟨rfl, h_1372⟩ := hw
    obtain ⟨hP, hD⟩ := zx_join (wr := [(ro, .inl (cy 0, 20, .inl f0)), (pa, .inr (4, [.int mc, .ref ed, .int 0])), (m0, .inr (20, [.int 0, .ref mp, .int 0, .ref b1, .ref b2, .ref b3, .ref b4, .ref b5, .ref mq])), (mp, .inr (4, [.int mm, .ref ep, .int 5])), (ep, .inl (cy 2, 10, .inr (.inr (.inr (.inr gp))))), (mq, .inr (4, [.int mn, .ref ed, .int 0])), (p0, .inr (17, t0)), (p1, .inr (17, t1)), (p2, .inr (17, t2)), (p3, .inr (17, t3)), (p4, .inr (17, t4))]) (w1 := [(h, .inr (13, [.ref pe, .ref ne, .ref pa, .ref ro, .int 0])), (pe, .inr (9, [.int 6, .ref a1, .ref a2, .ref a3, .ref a4, .ref a5, .ref a6, .ref a7, .ref a8, .ref a9])), (a1, .inl (cy 0, 20, .inl f3_1369)), (a2, .inl (cy 0, 20, .inl f4_1370)), (oa, .inl (cy 3, 1, .inr (.inl o2_1371)))]) [0, 1, 2, 3, 10] [4, 5, 6, 7, 8, 9, 11, 12, 13, 14, 15] rfl rfl (by decide) (by decide) hP hD hk1 hFc hB ht
    have hP : va_P D vwCl [(ro, .inl (cy 0, 20, .inl f0)), (pa, .inr (4, [.int mc, .ref ed, .int 0])), (m0, .inr (20, [.int 0, .ref mp, .int 0, .ref b1, .ref b2, .ref b3, .ref b4, .ref b5, .ref mq])), (mp, .inr (4, [.int mm, .ref ep, .int 5])), (ep, .inl (cy 2, 10, .inr (.inr (.inr (.inr gp))))), (mq, .inr (4, [.int mn, .ref ed, .int 0])), (p0, .inr (17, t0)), (p1, .inr (17, t1)), (p2, .inr (17, t2)), (p3, .inr (17, t3)), (p4, .inr (17, t4)), (h, .inr (13, [.ref pe, .ref ne, .ref pa, .ref ro, .int 0])), (pe, .inr (9, [.int 6, .ref a1, .ref a2, .ref a3, .ref a4, .ref a5, .ref a6, .ref a7, .ref a8, .ref a9])), (a1, .inl (cy 0, 20, .inl f3_1369)), (a2, .inl (cy 0, 20, .inl f4_1370)), (oa, .inl (cy 3, 1, .inr (.inl o2_1371)))] H := hP
    have hD : va_D A [(ro, .inl (cy 0, 20, .inl f0)), (pa, .inr (4, [.int mc, .ref ed, .int 0])), (m0, .inr (20, [.int 0, .ref mp, .int 0, .ref b1, .ref b2, .ref b3, .ref b4, .ref b5, .ref mq])), (mp, .inr (4, [.int mm, .ref ep, .int 5])), (ep, .inl (cy 2, 10, .inr (.inr (.inr (.inr gp))))), (mq, .inr (4, [.int mn, .ref ed, .int 0])), (p0, .inr (17, t0)), (p1, .inr (17, t1)), (p2, .inr (17, t2)), (p3, .inr (17, t3)), (p4, .inr (17, t4)), (h, .inr (13, [.ref pe, .ref ne, .ref pa, .ref ro, .int 0])), (pe, .inr (9, [.int 6, .ref a1, .ref a2, .ref a3, .ref a4, .ref a5, .ref a6, .ref a7, .ref a8, .ref a9])), (a1, .inl (cy 0, 20, .inl f3_1369)), (a2, .inl (cy 0, 20, .inl f4_1370)), (oa, .inl (cy 3, 1, .inr (.inl o2_1371)))] := hD
    refine W.widen (k := 56) (n := 1460) (Nat.le_of_ble_eq_true rfl) (Nat.le_of_ble_eq_true rfl) ?_
    refine lv_istore (lv' := [(6, .int 0), (5, .int 30), (3, .ref oa), (2, .ref m0), (1, .ref h), (0, .ref b)]) hx hb dL_law_317 hl (by decide) rfl (fun ls hl => ?_)
    refine lv_aload_n hx hb dL_law_319 rfl (lv_at hl 3 rfl) ?_
    refine lv_aload_n hx hb dL_law_320 rfl (lv_at hl 5 rfl) ?_
    refine lv_iload hx hb dL_law_321 (lv_at hl 1 rfl) ?_
    refine lv_iconst (v := 1) hx hb dL_law_323 (by decide) ?_
    refine lv_iadd hx hb dL_law_324 ?_
    refine lv_topi (fun y9 ey9 => ?_)
    obtain rfl : y9 = 31 := by rw [ey9] <;> decide
    refine va_sld hx hb hX hbl hbA hS (zx_bn (by decide)) dL_law_325 ?_
    refine lv_topi (fun y9 ey9 => ?_)
    obtain rfl : y9 = 0 := ey9.trans (by decide)
    refine lv_aload_n hx hb dL_law_326 rfl (lv_at hl 5 rfl) ?_
    refine lv_iload hx hb dL_law_327 (lv_at hl 1 rfl) ?_
    refine lv_iconst (v := 2) hx hb dL_law_329 (by decide) ?_
    refine lv_iadd hx hb dL_law_330 ?_
    refine lv_topi (fun y9 ey9 => ?_)
    obtain rfl : y9 = 32 := by rw [ey9] <;> decide
    refine va_sld hx hb hX hbl hbA hS (zx_bn (by decide)) dL_law_331 ?_
    refine lv_topi (fun y9 ey9 => ?_)
    obtain rfl : y9 = 0 := ey9.trans (by decide)
    have hPc := hP.sub (ws' := [(m0, .inr (20, [.int 0, .ref mp, .int 0, .ref b1, .ref b2, .ref b3, .ref b4, .ref b5, .ref mq])), (mp, .inr (4, [.int mm, .ref ep, .int 5])), (ep, .inl (cy 2, 10, .inr (.inr (.inr (.inr gp)))))]) [2, 3, 4] rfl
    have hDc := hD.sub (ws' := [(m0, .inr (20, [.int 0, .ref mp, .int 0, .ref b1, .ref b2, .ref b3, .ref b4, .ref b5, .ref mq])), (mp, .inr (4, [.int mm, .ref ep, .int 5])), (ep, .inl (cy 2, 10, .inr (.inr (.inr (.inr gp)))))]) [2, 3, 4] (by decide) rfl
    have hFc := va_free (wc := [(m0, .inr (20, [.int 0, .ref mp, .int 0, .ref b1, .ref b2, .ref b3, .ref b4, .ref b5, .ref mq])), (mp, .inr (4, [.int mm, .ref ep, .int 5])), (ep, .inl (cy 2, 10, .inr (.inr (.inr (.inr gp)))))]) hD hS hA [2, 3, 4] rfl
    refine va_calli (va_runV (As := [.int 0, .int 0]) (rest := []) ⟨hx, hb, hml, hown, hts⟩ (c_X15_addPerson_5 l hst D cy ed H.size m0 mp mq b1 b2 b3 b4 b5 0 0 mm ep gp) (cwV 2 hts (zx_GV mm_1603 mm_1604 mm_1605 mm_78 mm_1606) rfl rfl rfl (by decide +kernel) ⟨(Nat.le_of_ble_eq_true rfl), (Nat.le_of_ble_eq_true rfl)⟩) ⟨zx_blind, va_recv hK hPc (ci := 20) (q0 := 0) rfl rfl, zx_give hPc hK hDc hS hFc hZ hN⟩ rfl rfl hl.1 rfl (lv_room (Nat.le_of_ble_eq_true rfl)) dL_law_332 ⟨(Nat.le_of_ble_eq_true rfl), (Nat.le_of_ble_eq_true rfl)⟩) hS (fun q _ h => hFc q h) hFc (fun r9 u t H1 locs ht hvm hw hB hz1 hk1 hS => ?_)
    obtain ⟨mx_1373, qx_1374, g2_1375, y_1376, fy_1377⟩ := u
    obtain ⟨rfl, h_1378⟩ := hw
    obtain ⟨hP, hD⟩ := zx_join (wr := [(ro, .inl (cy 0, 20, .inl f0)), (pa, .inr (4, [.int mc, .ref ed, .int 0])), (mq, .inr (4, [.int mn, .ref ed, .int 0])), (p0, .inr (17, t0)), (p1, .inr (17, t1)), (p2, .inr (17, t2)), (p3, .inr (17, t3)), (p4, .inr (17, t4)), (h, .inr (13, [.ref pe, .ref ne, .ref pa, .ref ro, .int 0])), (pe, .inr (9, [.int 6, .ref a1, .ref a2, .ref a3, .ref a4, .ref a5, .ref a6, .ref a7, .ref a8, .ref a9])), (a1, .inl (cy 0, 20, .inl f3_1369)), (a2, .inl (cy 0, 20, .inl f4_1370)), (oa, .inl (cy 3, 1, .inr (.inl o2_1371)))]) (w1 := [(m0, .inr (20, [.int 0, .ref mp, .int 0, .ref b1, .ref b2, .ref b3, .ref b4, .ref b5, .ref mq])), (mp, .inr (4, [.int mx_1373, .ref qx_1374, .int 6])), (qx_1374, .inl (cy 2, 10, .inr (.inr (.inr (.inr g2_1375))))), (y_1376, .inr (17, fy_1377))]) [2, 3, 4] [0, 1, 5, 6, 7, 8, 9, 10, 11, 12, 13, 14, 15] rfl rfl (by decide) (by decide) hP hD hk1 hFc hB ht
    generalize H1 = H at hP hS ⊢
    have hP : va_P D vwCl [(ro, .inl (cy 0, 20, .inl f0)), (pa, .inr (4, [.int mc, .ref ed, .int 0])), (mq, .inr (4, [.int mn, .ref ed, .int 0])), (p0, .inr (17, t0)), (p1, .inr (17, t1)), (p2, .inr (17, t2)), (p3, .inr (17, t3)), (p4, .inr (17, t4)), (h, .inr (13, [.ref pe, .ref ne, .ref pa, .ref ro, .int 0])), (pe, .inr (9, [.int 6, .ref a1, .ref a2, .ref a3, .ref a4, .ref a5, .ref a6, .ref a7, .ref a8, .ref a9])), (a1, .inl (cy 0, 20, .inl f3_1369)), (a2, .inl (cy 0, 20, .inl f4_1370)), (oa, .inl (cy 3, 1, .inr (.inl o2_1371))), (m0, .inr (20, [.int 0, .ref mp, .int 0, .ref b1, .ref b2, .ref b3, .ref b4, .ref b5, .ref mq])), (mp, .inr (4, [.int mx_1373, .ref qx_1374, .int 6])), (qx_1374, .inl (cy 2, 10, .inr (.inr (.inr (.inr g2_1375))))), (y_1376, .inr (17, fy_1377))] H := hP
    have hD : va_D A [(ro, .inl (cy 0, 20, .inl f0)), (pa, .inr (4, [.int mc, .ref ed, .int 0])), (mq, .inr (4, [.int mn, .ref ed, .int 0])), (p0, .inr (17, t0)), (p1, .inr (17, t1)), (p2, .inr (17, t2)), (p3, .inr (17, t3)), (p4, .inr (17, t4)), (h, .inr (13, [.ref pe, .ref ne, .ref pa, .ref ro, .int 0])), (pe, .inr (9, [.int 6, .ref a1, .ref a2, .ref a3, .ref a4, .ref a5, .ref a6, .ref a7, .ref a8, .ref a9])), (a1, .inl (cy 0, 20, .inl f3_1369)), (a2, .inl (cy 0, 20, .inl f4_1370)), (oa, .inl (cy 3, 1, .inr (.inl o2_1371))), (m0, .inr (20, [.int 0, .ref mp, .int 0, .ref b1, .ref b2, .ref b3, .ref b4, .ref b5, .ref mq])), (mp, .inr (4, [.int mx_1373, .ref qx_1374, .int 6])), (qx_1374, .inl (cy 2, 10, .inr (.inr (.inr (.inr g2_1375))))), (y_1376, .inr (17, fy_1377))] := hD
    refine W.widen (k := 59) (n := 1490) (Nat.le_of_ble_eq_true rfl) (Nat.le_of_ble_eq_true rfl) ?_
    obtain ⟨hs_1379, hs_1380⟩ := h_1378
    refine lv_istore (lv' := [(7, .int 5), (6, .int 0), (5, .int 30), (3, .ref oa), (2, .ref m0), (1, .ref h), (0, .ref b)]) hx hb dL_law_335 hl (by decide) rfl (fun ls hl => ?_)
    refine lv_aload_n hx hb dL_law_337 rfl (lv_at hl 4 rfl) ?_
    have hPc := hP.sub (ws' := [(m0, .inr (20, [.int 0, .ref mp, .int 0, .ref b1, .ref b2, .ref b3, .ref b4, .ref b5, .ref mq]))]) [13] rfl
    have hDc := hD.sub (ws' := [(m0, .inr (20, [.int 0, .ref mp, .int 0, .ref b1, .ref b2, .ref b3, .ref b4, .ref b5, .ref mq]))]) [13] (by decide) rfl
    have hFc := va_free (wc := [(m0, .inr (20, [.int 0, .ref mp, .int 0, .ref b1, .ref b2, .ref b3, .ref b4, .ref b5, .ref mq]))]) hD hS hA [13] rfl
    refine va_calli (va_runV (As := []) (rest := []) ⟨hx, hb, hml, hown, hts⟩ (c_X15_thrown l hst D cy ed H.size m0 mp mq b1 b2 b3 b4 b5 0 0) (cwV 0 hts (zx_GV mm_1599 mm_1600 mm_1601 mm_78 mm_1602) rfl rfl rfl (by decide +kernel) ⟨(Nat.le_of_ble_eq_true rfl), (Nat.le_of_ble_eq_true rfl)⟩) ⟨zx_blind, va_recv hK hPc (ci := 20) (q0 := 0) rfl rfl, zx_give hPc hK hDc hS hFc hZ hN⟩ rfl rfl hl.1 rfl (lv_room (Nat.le_of_ble_eq_true rfl)) dL_law_338 ⟨(Nat.le_of_ble_eq_true rfl), (Nat.le_of_ble_eq_true rfl)⟩) hS (fun q _ h => hFc q h) hFc (fun r9 u t H1 locs ht hvm hw hB hz1 hk1 hS => ?_)
    obtain rfl : r9 = 0 := hw
    obtain ⟨hP, hD⟩ := zx_join (wr := [(ro, .inl (cy 0, 20, .inl f0)), (pa, .inr (4, [.int mc, .ref ed, .int 0])), (mq, .inr (4, [.int mn, .ref ed, .int 0])), (p0, .inr (17, t0)), (p1, .inr (17, t1)), (p2, .inr (17, t2)), (p3, .inr (17, t3)), (p4, .inr (17, t4)), (h, .inr (13, [.ref pe, .ref ne, .ref pa, .ref ro, .int 0])), (pe, .inr (9, [.int 6, .ref a1, .ref a2, .ref a3, .ref a4, .ref a5, .ref a6, .ref a7, .ref a8, .ref a9])), (a1, .inl (cy 0, 20, .inl f3_1369)), (a2, .inl (cy 0, 20, .inl f4_1370)), (oa, .inl (cy 3, 1, .inr (.inl o2_1371))), (mp, .inr (4, [.int mx_1373, .ref qx_1374, .int 6])), (qx_1374, .inl (cy 2, 10, .inr (.inr (.inr (.inr g2_1375))))), (y_1376, .inr (17, fy_1377))]) (w1 := [(m0, .inr (20, [.int 0, .ref mp, .int 0, .ref b1, .ref b2, .ref b3, .ref b4, .ref b5, .ref mq]))]) [13] [0, 1, 2, 3, 4, 5, 6, 7, 8, 9, 10, 11, 12, 14, 15, 16] rfl rfl (by decide) (by decide) hP hD hk1 hFc hB ht
    generalize H1 = H at hP hS ⊢
    have hP : va_P D vwCl [(ro, .inl (cy 0, 20, .inl f0)), (pa, .inr (4, [.int mc, .ref ed, .int 0])), (mq, .inr (4, [.int mn, .ref ed, .int 0])), (p0, .inr (17, t0)), (p1, .inr (17, t1)), (p2, .inr (17, t2)), (p3, .inr (17, t3)), (p4, .inr (17, t4)), (h, .inr (13, [.ref pe, .ref ne, .ref pa, .ref ro, .int 0])), (pe, .inr (9, [.int 6, .ref a1, .ref a2, .ref a3, .ref a4, .ref a5, .ref a6, .ref a7, .ref a8, .ref a9])), (a1, .inl (cy 0, 20, .inl f3_1369)), (a2, .inl (cy 0, 20, .inl f4_1370)), (oa, .inl (cy 3, 1, .inr (.inl o2_1371))), (mp, .inr (4, [.int mx_1373, .ref qx_1374, .int 6])), (qx_1374, .inl (cy 2, 10, .inr (.inr (.inr (.inr g2_1375))))), (y_1376, .inr (17, fy_1377)), (m0, .inr (20, [.int 0, .ref mp, .int 0, .ref b1, .ref b2, .ref b3, .ref b4, .ref b5, .ref mq]))] H := hP
    have hD : va_D A [(ro, .inl (cy 0, 20, .inl f0)), (pa, .inr (4, [.int mc, .ref ed, .int 0])), (mq, .inr (4, [.int mn, .ref ed, .int 0])), (p0, .inr (17, t0)), (p1, .inr (17, t1)), (p2, .inr (17, t2)), (p3, .inr (17, t3)), (p4, .inr (17, t4)), (h, .inr (13, [.ref pe, .ref ne, .ref pa, .ref ro, .int 0])), (pe, .inr (9, [.int 6, .ref a1, .ref a2, .ref a3, .ref a4, .ref a5, .ref a6, .ref a7, .ref a8, .ref a9])), (a1, .inl (cy 0, 20, .inl f3_1369)), (a2, .inl (cy 0, 20, .inl f4_1370)), (oa, .inl (cy 3, 1, .inr (.inl o2_1371))), (mp, .inr (4, [.int mx_1373, .ref qx_1374, .int 6])), (qx_1374, .inl (cy 2, 10, .inr (.inr (.inr (.inr g2_1375))))), (y_1376, .inr (17, fy_1377)), (m0, .inr (20, [.int 0, .ref mp, .int 0, .ref b1, .ref b2, .ref b3, .ref b4, .ref b5, .ref mq]))] := hD
    refine W.widen (k := 59) (n := 1490) (Nat.le_of_ble_eq_true rfl) (Nat.le_of_ble_eq_true rfl) ?_
    refine lv_iload hx hb dL_law_341 (lv_at hl 1 rfl) ?_
    refine lv_icmp_eq (tgt := 348) hx hb dL_law_343 (by decide) (fun _ => ?_) (fun c_1381 => absurd (by decide) c_1381)
    refine lv_iload hx hb dL_law_348 (lv_at hl 1 rfl) ?_
    refine lv_if_ne (tgt := 365) hx hb dL_law_350 (by decide) (fun c_1382 => absurd c_1382 (by decide)) (fun _ => ?_)
    refine lv_aload_n hx hb dL_law_353 rfl (lv_at hl 3 rfl) ?_
    refine lv_iconst (v := 0) hx hb dL_law_354 (by decide) ?_
    refine va_lald hx hb hK hP 12 3 rfl rfl (zx_bn (by decide)) dL_law_355 ?_
    refine lv_iload hx hb dL_law_356 (lv_at hl 0 rfl) ?_
    refine lv_i2l (v := 5) hx hb dL_law_358 rfl ?_
    refine W.lcmp hx hb dL_law_359 ?_
    refine lv_topi (fun y9 ey9 => ?_)
    obtain rfl : y9 = 0 := ey9.trans (zx_lcmpe h_1372)
    refine lv_if_eq (tgt := 365) hx hb dL_law_360 (by decide) (fun _ => ?_) (fun c_1383 => absurd (by decide) c_1383)
    refine lv_goto (tgt := 4257) hx hb dL_law_365 (by decide) ?_
    refine lv_iinc (v := 36) (lv' := [(5, .int 36), (7, .int 5), (6, .int 0), (3, .ref oa), (2, .ref m0), (1, .ref h), (0, .ref b)]) hx hb dL_law_4257 hl (k := 2) rfl (by decide) (by decide) rfl (fun ls hl => ?_)
    refine lv_goto (tgt := 28) hx hb dL_law_4260 (by decide) ?_
    have hP := hP.sub (ws' := [(h, .inr (13, [.ref pe, .ref ne, .ref pa, .ref ro, .int 0])), (pe, .inr (9, [.int 6, .ref a1, .ref a2, .ref a3, .ref a4, .ref a5, .ref a6, .ref a7, .ref a8, .ref a9])), (a1, .inl (cy 0, 20, .inl f3_1369)), (a2, .inl (cy 0, 20, .inl f4_1370)), (ro, .inl (cy 0, 20, .inl f0)), (pa, .inr (4, [.int mc, .ref ed, .int 0])), (m0, .inr (20, [.int 0, .ref mp, .int 0, .ref b1, .ref b2, .ref b3, .ref b4, .ref b5, .ref mq])), (mp, .inr (4, [.int mx_1373, .ref qx_1374, .int 6])), (qx_1374, .inl (cy 2, 10, .inr (.inr (.inr (.inr g2_1375))))), (mq, .inr (4, [.int mn, .ref ed, .int 0])), (oa, .inl (cy 3, 1, .inr (.inl o2_1371))), (p0, .inr (17, t0)), (p1, .inr (17, t1)), (p2, .inr (17, t2)), (p3, .inr (17, t3)), (p4, .inr (17, t4)), (y_1376, .inr (17, fy_1377))]) [8, 9, 10, 11, 0, 1, 16, 13, 14, 2, 12, 3, 4, 5, 6, 7, 15] rfl
    have hD := hD.sub (ws' := [(h, .inr (13, [.ref pe, .ref ne, .ref pa, .ref ro, .int 0])), (pe, .inr (9, [.int 6, .ref a1, .ref a2, .ref a3, .ref a4, .ref a5, .ref a6, .ref a7, .ref a8, .ref a9])), (a1, .inl (cy 0, 20, .inl f3_1369)), (a2, .inl (cy 0, 20, .inl f4_1370)), (ro, .inl (cy 0, 20, .inl f0)), (pa, .inr (4, [.int mc, .ref ed, .int 0])), (m0, .inr (20, [.int 0, .ref mp, .int 0, .ref b1, .ref b2, .ref b3, .ref b4, .ref b5, .ref mq])), (mp, .inr (4, [.int mx_1373, .ref qx_1374, .int 6])), (qx_1374, .inl (cy 2, 10, .inr (.inr (.inr (.inr g2_1375))))), (mq, .inr (4, [.int mn, .ref ed, .int 0])), (oa, .inl (cy 3, 1, .inr (.inl o2_1371))), (p0, .inr (17, t0)), (p1, .inr (17, t1)), (p2, .inr (17, t2)), (p3, .inr (17, t3)), (p4, .inr (17, t4)), (y_1376, .inr (17, fy_1377))]) [8, 9, 10, 11, 0, 1, 16, 13, 14, 2, 12, 3, 4, 5, 6, 7, 15] (by decide) rfl
    exact hnext _ _ _ ⟨pe, ne, pa, ro, a1, a2, a3, a4, a5, a6, a7, a8, a9, mp, mq, b1, b2, b3, b4, b5, qx_1374, mc, mx_1373, mn, f3_1369, f4_1370, f0, o2_1371, g2_1375, p0, p1, p2, p3, p4, y_1376, t0, t1, t2, t3, t4, fy_1377, hP, hD, ((hs_1380 0 (by decide)).trans hp0), ((hs_1380 1 (by decide)).trans hp1), ((hs_1380 2 (by decide)).trans hp2), ((hs_1380 3 (by decide)).trans hp3), ((hs_1380 4 (by decide)).trans hp4), hs_1379⟩ hS (lv_sub hl [0, 3, 4, 5, 6] rfl)
set_option maxHeartbeats 4000000 in
set_option maxRecDepth 100000 in
theorem law_step_6 {p : Program} {l : Launch} {e : Env} {s : State} {m : MethodId} {below : List Frame} {meth : Method} {c : Code} {D : va_G} {cy : Nat → ClassId} {ed b : Nat} {A : Nat → Prop} {Q : State → Prop} (C0 : zx_LW p l s m c D cy ed b A) {h m0 oa : Nat} {H : Heap} {locs : List Loc} {ls : Array Slot} (h0 : zx_S6 D cy ed A h m0 oa H) (hS : va_S A s.heap H locs) (hl : lv_has ls 9 [(5, .int 36), (3, .ref oa), (2, .ref m0), (1, .ref h), (0, .ref b)])
    (hnext : ∀ (H : Heap) (locs : List Loc) (ls : Array Slot), zx_S7 D cy ed A h m0 oa H → va_S A s.heap H locs → lv_has ls 9 [(5, .int 42), (3, .ref oa), (2, .ref m0), (1, .ref h), (0, .ref b)] → W p l e zx_R s m #[Value.ref b] below meth c H locs 62 1520 Q (F0 m 28 ls [])) :
    W p l e zx_R s m #[Value.ref b] below meth c H locs 59 1490 Q (F0 m 28 ls []) := by
  obtain ⟨hx, hb, hml, hst, hown, hts, hX, hbl, hbA, hA, hK, hZ, hN⟩ := C0
  obtain ⟨pe, ne, pa, ro, a1, a2, a3, a4, a5, a6, a7, a8, a9, mp, mq, b1, b2, b3, b4, b5, ep, mc, mm, mn, f1, f2, f0, og, gp, p0, p1, p2, p3, p4, p5, t0, t1, t2, t3, t4, t5, hP, hD, hp0, hp1, hp2, hp3, hp4, hp5⟩ := h0
  refine lv_iload hx hb dL_law_28 (lv_at hl 0 rfl) ?_
  refine lv_aload_n hx hb dL_law_30 rfl (lv_at hl 4 rfl) ?_
  refine va_slen hx hb hX hbl hbA hS dL_law_31 ?_
  refine lv_topi (fun y9 ey9 => ?_)
  obtain rfl : y9 = 3072 := ey9.trans (by decide)
  refine lv_bipush (v := 6) hx hb dL_law_32 (by decide) ?_
  refine lv_isub hx hb dL_law_34 ?_
  refine lv_topi (fun y9 ey9 => ?_)
  obtain rfl : y9 = 3066 := by rw [ey9] <;> decide
  refine lv_icmp_gt (tgt := 4263) hx hb dL_law_35 (by decide) (fun c_1384 => absurd c_1384 (by decide)) (fun _ => ?_)
  refine lv_aload_n hx hb dL_law_38 rfl (lv_at hl 4 rfl) ?_
  refine lv_iload hx hb dL_law_39 (lv_at hl 0 rfl) ?_
  refine va_sld hx hb hX hbl hbA hS (zx_bn (by decide)) dL_law_41 ?_
  refine lv_topi (fun y9 ey9 => ?_)
  obtain rfl : y9 = 0 := ey9.trans (by decide)
  refine lv_bipush (v := 63) hx hb dL_law_42 (by decide) ?_
  refine lv_iand hx hb dL_law_44 ?_
  refine lv_topi (fun y9 ey9 => ?_)
  obtain rfl : y9 = 0 := by rw [ey9] <;> decide
  refine lv_tableIn (off := 255) (tgt := 300) hx hb dL_law_45 (by decide) (by decide) (by decide) (by decide) ?_
  refine lv_aload_n hx hb dL_law_300 rfl (lv_at hl 3 rfl) ?_
  refine lv_aload_n hx hb dL_law_301 rfl (lv_at hl 4 rfl) ?_
  refine lv_iload hx hb dL_law_302 (lv_at hl 0 rfl) ?_
  refine lv_iconst (v := 1) hx hb dL_law_304 (by decide) ?_
  refine lv_iadd hx hb dL_law_305 ?_
  refine lv_topi (fun y9 ey9 => ?_)
  obtain rfl : y9 = 37 := by rw [ey9] <;> decide
  refine va_sld hx hb hX hbl hbA hS (zx_bn (by decide)) dL_law_306 ?_
  refine lv_topi (fun y9 ey9 => ?_)
  obtain rfl : y9 = 0 := ey9.trans (by decide)
  refine lv_aload_n hx hb dL_law_307 rfl (lv_at hl 4 rfl) ?_
  refine lv_iload hx hb dL_law_308 (lv_at hl 0 rfl) ?_
  refine lv_iconst (v := 2) hx hb dL_law_310 (by decide) ?_
  refine lv_iadd hx hb dL_law_311 ?_
  refine lv_topi (fun y9 ey9 => ?_)
  obtain rfl : y9 = 38 := by rw [ey9] <;> decide
  refine va_sld hx hb hX hbl hbA hS (zx_bn (by decide)) dL_law_312 ?_
  refine lv_topi (fun y9 ey9 => ?_)
  obtain rfl : y9 = 0 := ey9.trans (by decide)
  refine lv_aload_n hx hb dL_law_313 rfl (lv_at hl 1 rfl) ?_
  have hPc := hP.sub (ws' := [(h, .inr (13, [.ref pe, .ref ne, .ref pa, .ref ro, .int 0])), (pe, .inr (9, [.int 6, .ref a1, .ref a2, .ref a3, .ref a4, .ref a5, .ref a6, .ref a7, .ref a8, .ref a9])), (a1, .inl (cy 0, 20, .inl f1)), (a2, .inl (cy 0, 20, .inl f2)), (oa, .inl (cy 3, 1, .inr (.inl og)))]) [0, 1, 2, 3, 10] rfl
  have hDc := hD.sub (ws' := [(h, .inr (13, [.ref pe, .ref ne, .ref pa, .ref ro, .int 0])), (pe, .inr (9, [.int 6, .ref a1, .ref a2, .ref a3, .ref a4, .ref a5, .ref a6, .ref a7, .ref a8, .ref a9])), (a1, .inl (cy 0, 20, .inl f1)), (a2, .inl (cy 0, 20, .inl f2)), (oa, .inl (cy 3, 1, .inr (.inl og)))]) [0, 1, 2, 3, 10] (by decide) rfl
  have hFc := va_free (wc := [(h, .inr (13, [.ref pe, .ref ne, .ref pa, .ref ro, .int 0])), (pe, .inr (9, [.int 6, .ref a1, .ref a2, .ref a3, .ref a4, .ref a5, .ref a6, .ref a7, .ref a8, .ref a9])), (a1, .inl (cy 0, 20, .inl f1)), (a2, .inl (cy 0, 20, .inl f2)), (oa, .inl (cy 3, 1, .inr (.inl og)))]) hD hS hA [0, 1, 2, 3, 10] rfl
  refine vx_calli (vx_runSX (As := [.ref h, .int 0, .int 0, .ref oa]) (rest := []) ⟨hx, hb, hml, hown, hts⟩ (c_L_addPerson_6 l hst D cy ed H.size h pe ne pa ro 0 a1 a2 a3 a4 a5 a6 a7 a8 a9 f1 f2 oa og) (vx_cwSW 4 hts (zx_GS mm_329 mm_330 mm_70 mm_331) rfl rfl rfl (by decide +kernel) ⟨(Nat.le_of_ble_eq_true rfl), (Nat.le_of_ble_eq_true rfl)⟩) ⟨zx_blind, zx_give hPc hK hDc hS hFc hZ hN⟩ rfl rfl hl.1 rfl (lv_room (Nat.le_of_ble_eq_true rfl)) dL_law_314 ⟨(Nat.le_of_ble_eq_true rfl), (Nat.le_of_ble_eq_true rfl)⟩) hS (fun q _ h => hFc q h) hFc (fun q _ h => hFc q h) (fun E9 ce9 q9 _ t H locs ht hvm _ hBX hz1 hk1 hS hce hcv hcl => ?_) (fun r9 u t H locs ht hvm hw hB hz1 hk1 hS => ?_)
  · exact hBX.elim
  ·
    obtain ⟨f3_1385, f4_1386, o2_1387⟩ := u
    obtain ⟨rfl, h_1388⟩ := hw
    obtain ⟨hP, hD⟩ := zx_join (wr := [(ro, .inl (cy 0, 20, .inl f0)), (pa, .inr (4, [.int mc, .ref ed, .int 0])), (m0, .inr (20, [.int 0, .ref mp, .int 0, .ref b1, .ref b2, .ref b3, .ref b4, .ref b5, .ref mq])), (mp, .inr (4, [.int mm, .ref ep, .int 6])), (ep, .inl (cy 2, 10, .inr (.inr (.inr (.inr gp))))), (mq, .inr (4, [.int mn, .ref ed, .int 0])), (p0, .inr (17, t0)), (p1, .inr (17, t1)), (p2, .inr (17, t2)), (p3, .inr (17, t3)), (p4, .inr (17, t4)), (p5, .inr (17, t5))]) (w1 := [(h, .inr (13, [.ref pe, .ref ne, .ref pa, .ref ro, .int 0])), (pe, .inr (9, [.int 7, .ref a1, .ref a2, .ref a3, .ref a4, .ref a5, .ref a6, .ref a7, .ref a8, .ref a9])), (a1, .inl (cy 0, 20, .inl f3_1385)), (a2, .inl (cy 0, 20, .inl f4_1386)), (oa, .inl (cy 3, 1, .inr (.inl o2_1387)))]) [0, 1, 2, 3, 10] [4, 5, 6, 7, 8, 9, 11, 12, 13, 14, 15, 16] rfl rfl (by decide) (by decide) hP hD hk1 hFc hB ht
    have hP : va_P D vwCl [(ro, .inl (cy 0, 20, .inl f0)), (pa, .inr (4, [.int mc, .ref ed, .int 0])), (m0, .inr (20, [.int 0, .ref mp, .int 0, .ref b1, .ref b2, .ref b3, .ref b4, .ref b5, .ref mq])), (mp, .inr (4, [.int mm, .ref ep, .int 6])), (ep, .inl (cy 2, 10, .inr (.inr (.inr (.inr gp))))), (mq, .inr (4, [.int mn, .ref ed, .int 0])), (p0, .inr (17, t0)), (p1, .inr (17, t1)), (p2, .inr (17, t2)), (p3, .inr (17, t3)), (p4, .inr (17, t4)), (p5, .inr (17, t5)), (h, .inr (13, [.ref pe, .ref ne, .ref pa, .ref ro, .int 0])), (pe, .inr (9, [.int 7, .ref a1, .ref a2, .ref a3, .ref a4, .ref a5, .ref a6, .ref a7, .ref a8, .ref a9])), (a1, .inl (cy 0, 20, .inl f3_1385)), (a2, .inl (cy 0, 20, .inl f4_1386)), (oa, .inl (cy 3, 1, .inr (.inl o2_1387)))] H := hP
    have hD : va_D A [(ro, .inl (cy 0, 20, .inl f0)), (pa, .inr (4, [.int mc, .ref ed, .int 0])), (m0, .inr (20, [.int 0, .ref mp, .int 0, .ref b1, .ref b2, .ref b3, .ref b4, .ref b5, .ref mq])), (mp, .inr (4, [.int mm, .ref ep, .int 6])), (ep, .inl (cy 2, 10, .inr (.inr (.inr (.inr gp))))), (mq, .inr (4, [.int mn, .ref ed, .int 0])), (p0, .inr (17, t0)), (p1, .inr (17, t1)), (p2, .inr (17, t2)), (p3, .inr (17, t3)), (p4, .inr (17, t4)), (p5, .inr (17, t5)), (h, .inr (13, [.ref pe, .ref ne, .ref pa, .ref ro, .int 0])), (pe, .inr (9, [.int 7, .ref a1, .ref a2, .ref a3, .ref a4, .ref a5, .ref a6, .ref a7, .ref a8, .ref a9])), (a1, .inl (cy 0, 20, .inl f3_1385)), (a2, .inl (cy 0, 20, .inl f4_1386)), (oa, .inl (cy 3, 1, .inr (.inl o2_1387)))] := hD
    refine W.widen (k := 59) (n := 1490) (Nat.le_of_ble_eq_true rfl) (Nat.le_of_ble_eq_true rfl) ?_
    refine lv_istore (lv' := [(6, .int 0), (5, .int 36), (3, .ref oa), (2, .ref m0), (1, .ref h), (0, .ref b)]) hx hb dL_law_317 hl (by decide) rfl (fun ls hl => ?_)
    refine lv_aload_n hx hb dL_law_319 rfl (lv_at hl 3 rfl) ?_
    refine lv_aload_n hx hb dL_law_320 rfl (lv_at hl 5 rfl) ?_
    refine lv_iload hx hb dL_law_321 (lv_at hl 1 rfl) ?_
    refine lv_iconst (v := 1) hx hb dL_law_323 (by decide) ?_
    refine lv_iadd hx hb dL_law_324 ?_
    refine lv_topi (fun y9 ey9 => ?_)
    obtain rfl : y9 = 37 := by rw [ey9] <;> decide
    refine va_sld hx hb hX hbl hbA hS (zx_bn (by decide)) dL_law_325 ?_
    refine lv_topi (fun y9 ey9 => ?_)
    obtain rfl : y9 = 0 := ey9.trans (by decide)
    refine lv_aload_n hx hb dL_law_326 rfl (lv_at hl 5 rfl) ?_
    refine lv_iload hx hb dL_law_327 (lv_at hl 1 rfl) ?_
    refine lv_iconst (v := 2) hx hb dL_law_329 (by decide) ?_
    refine lv_iadd hx hb dL_law_330 ?_
    refine lv_topi (fun y9 ey9 => ?_)
    obtain rfl : y9 = 38 := by rw [ey9] <;> decide
    refine va_sld hx hb hX hbl hbA hS (zx_bn (by decide)) dL_law_331 ?_
    refine lv_topi (fun y9 ey9 => ?_)
    obtain rfl : y9 = 0 := ey9.trans (by decide)
    have hPc := hP.sub (ws' := [(m0, .inr (20, [.int 0, .ref mp, .int 0, .ref b1, .ref b2, .ref b3, .ref b4, .ref b5, .ref mq])), (mp, .inr (4, [.int mm, .ref ep, .int 6])), (ep, .inl (cy 2, 10, .inr (.inr (.inr (.inr gp)))))]) [2, 3, 4] rfl
    have hDc := hD.sub (ws' := [(m0, .inr (20, [.int 0, .ref mp, .int 0, .ref b1, .ref b2, .ref b3, .ref b4, .ref b5, .ref mq])), (mp, .inr (4, [.int mm, .ref ep, .int 6])), (ep, .inl (cy 2, 10, .inr (.inr (.inr (.inr gp)))))]) [2, 3, 4] (by decide) rfl
    have hFc := va_free (wc := [(m0, .inr (20, [.int 0, .ref mp, .int 0, .ref b1, .ref b2, .ref b3, .ref b4, .ref b5, .ref mq])), (mp, .inr (4, [.int mm, .ref ep, .int 6])), (ep, .inl (cy 2, 10, .inr (.inr (.inr (.inr gp)))))]) hD hS hA [2, 3, 4] rfl
    refine va_calli (va_runV (As := [.int 0, .int 0]) (rest := []) ⟨hx, hb, hml, hown, hts⟩ (c_X15_addPerson_6 l hst D cy ed H.size m0 mp mq b1 b2 b3 b4 b5 0 0 mm ep gp) (cwV 2 hts (zx_GV mm_1603 mm_1604 mm_1605 mm_78 mm_1606) rfl rfl rfl (by decide +kernel) ⟨(Nat.le_of_ble_eq_true rfl), (Nat.le_of_ble_eq_true rfl)⟩) ⟨zx_blind, va_recv hK hPc (ci := 20) (q0 := 0) rfl rfl, zx_give hPc hK hDc hS hFc hZ hN⟩ rfl rfl hl.1 rfl (lv_room (Nat.le_of_ble_eq_true rfl)) dL_law_332 ⟨(Nat.le_of_ble_eq_true rfl), (Nat.le_of_ble_eq_true rfl)⟩) hS (fun q _ h => hFc q h) hFc (fun r9 u t H1 locs ht hvm hw hB hz1 hk1 hS => ?_)
    obtain ⟨mx_1389, qx_1390, g2_1391, y_1392, fy_1393⟩ := u
    obtain ⟨rfl, h_1394⟩ := hw
    obtain ⟨hP, hD⟩ := zx_join (wr := [(ro, .inl (cy 0, 20, .inl f0)), (pa, .inr (4, [.int mc, .ref ed, .int 0])), (mq, .inr (4, [.int mn, .ref ed, .int 0])), (p0, .inr (17, t0)), (p1, .inr (17, t1)), (p2, .inr (17, t2)), (p3, .inr (17, t3)), (p4, .inr (17, t4)), (p5, .inr (17, t5)), (h, .inr (13, [.ref pe, .ref ne, .ref pa, .ref ro, .int 0])), (pe, .inr (9, [.int 7, .ref a1, .ref a2, .ref a3, .ref a4, .ref a5, .ref a6, .ref a7, .ref a8, .ref a9])), (a1, .inl (cy 0, 20, .inl f3_1385)), (a2, .inl (cy 0, 20, .inl f4_1386)), (oa, .inl (cy 3, 1, .inr (.inl o2_1387)))]) (w1 := [(m0, .inr (20, [.int 0, .ref mp, .int 0, .ref b1, .ref b2, .ref b3, .ref b4, .ref b5, .ref mq])), (mp, .inr (4, [.int mx_1389, .ref qx_1390, .int 7])), (qx_1390, .inl (cy 2, 10, .inr (.inr (.inr (.inr g2_1391))))), (y_1392, .inr (17, fy_1393))]) [2, 3, 4] [0, 1, 5, 6, 7, 8, 9, 10, 11, 12, 13, 14, 15, 16] rfl rfl (by decide) (by decide) hP hD hk1 hFc hB ht
    generalize H1 = H at hP hS ⊢
    have hP : va_P D vwCl [(ro, .inl (cy 0, 20, .inl f0)), (pa, .inr (4, [.int mc, .ref ed, .int 0])), (mq, .inr (4, [.int mn, .ref ed, .int 0])), (p0, .inr (17, t0)), (p1, .inr (17, t1)), (p2, .inr (17, t2)), (p3, .inr (17, t3)), (p4, .inr (17, t4)), (p5, .inr (17, t5)), (h, .inr (13, [.ref pe, .ref ne, .ref pa, .ref ro, .int 0])), (pe, .inr (9, [.int 7, .ref a1, .ref a2, .ref a3, .ref a4, .ref a5, .ref a6, .ref a7, .ref a8, .ref a9])), (a1, .inl (cy 0, 20, .inl f3_1385)), (a2, .inl (cy 0, 20, .inl f4_1386)), (oa, .inl (cy 3, 1, .inr (.inl o2_1387))), (m0, .inr (20, [.int 0, .ref mp, .int 0, .ref b1, .ref b2, .ref b3, .ref b4, .ref b5, .ref mq])), (mp, .inr (4, [.int mx_1389, .ref qx_1390, .int 7])), (qx_1390, .inl (cy 2, 10, .inr (.inr (.inr (.inr g2_1391))))), (y_1392, .inr (17, fy_1393))] H := hP
    have hD : va_D A [(ro, .inl (cy 0, 20, .inl f0)), (pa, .inr (4, [.int mc, .ref ed, .int 0])), (mq, .inr (4, [.int mn, .ref ed, .int 0])), (p0, .inr (17, t0)), (p1, .inr (17, t1)), (p2, .inr (17, t2)), (p3, .inr (17, t3)), (p4, .inr (17, t4)), (p5, .inr (17, t5)), (h, .inr (13, [.ref pe, .ref ne, .ref pa, .ref ro, .int 0])), (pe, .inr (9, [.int 7, .ref a1, .ref a2, .ref a3, .ref a4, .ref a5, .ref a6, .ref a7, .ref a8, .ref a9])), (a1, .inl (cy 0, 20, .inl f3_1385)), (a2, .inl (cy 0, 20, .inl f4_1386)), (oa, .inl (cy 3, 1, .inr (.inl o2_1387))), (m0, .inr (20, [.int 0, .ref mp, .int 0, .ref b1, .ref b2, .ref b3, .ref b4, .ref b5, .ref mq])), (mp, .inr (4, [.int mx_1389, .ref qx_1390, .int 7])), (qx_1390, .inl (cy 2, 10, .inr (.inr (.inr (.inr g2_1391))))), (y_1392, .inr (17, fy_1393))] := hD
    refine W.widen (k := 62) (n := 1520) (Nat.le_of_ble_eq_true rfl) (Nat.le_of_ble_eq_true rfl) ?_
    obtain ⟨hs_1395, hs_1396⟩ := h_1394
    refine lv_istore (lv' := [(7, .int 6), (6, .int 0), (5, .int 36), (3, .ref oa), (2, .ref m0), (1, .ref h), (0, .ref b)]) hx hb dL_law_335 hl (by decide) rfl (fun ls hl => ?_)
    refine lv_aload_n hx hb dL_law_337 rfl (lv_at hl 4 rfl) ?_
    have hPc := hP.sub (ws' := [(m0, .inr (20, [.int 0, .ref mp, .int 0, .ref b1, .ref b2, .ref b3, .ref b4, .ref b5, .ref mq]))]) [14] rfl
    have hDc := hD.sub (ws' := [(m0, .inr (20, [.int 0, .ref mp, .int 0, .ref b1, .ref b2, .ref b3, .ref b4, .ref b5, .ref mq]))]) [14] (by decide) rfl
    have hFc := va_free (wc := [(m0, .inr (20, [.int 0, .ref mp, .int 0, .ref b1, .ref b2, .ref b3, .ref b4, .ref b5, .ref mq]))]) hD hS hA [14] rfl
    refine va_calli (va_runV (As := []) (rest := []) ⟨hx, hb, hml, hown, hts⟩ (c_X15_thrown l hst D cy ed H.size m0 mp mq b1 b2 b3 b4 b5 0 0) (cwV 0 hts (zx_GV mm_1599 mm_1600 mm_1601 mm_78 mm_1602) rfl rfl rfl (by decide +kernel) ⟨(Nat.le_of_ble_eq_true rfl), (Nat.le_of_ble_eq_true rfl)⟩) ⟨zx_blind, va_recv hK hPc (ci := 20) (q0 := 0) rfl rfl, zx_give hPc hK hDc hS hFc hZ hN⟩ rfl rfl hl.1 rfl (lv_room (Nat.le_of_ble_eq_true rfl)) dL_law_338 ⟨(Nat.le_of_ble_eq_true rfl), (Nat.le_of_ble_eq_true rfl)⟩) hS (fun q _ h => hFc q h) hFc (fun r9 u t H1 locs ht hvm hw hB hz1 hk1 hS => ?_)
    obtain rfl : r9 = 0 := hw
    obtain ⟨hP, hD⟩ := zx_join (wr := [(ro, .inl (cy 0, 20, .inl f0)), (pa, .inr (4, [.int mc, .ref ed, .int 0])), (mq, .inr (4, [.int mn, .ref ed, .int 0])), (p0, .inr (17, t0)), (p1, .inr (17, t1)), (p2, .inr (17, t2)), (p3, .inr (17, t3)), (p4, .inr (17, t4)), (p5, .inr (17, t5)), (h, .inr (13, [.ref pe, .ref ne, .ref pa, .ref ro, .int 0])), (pe, .inr (9, [.int 7, .ref a1, .ref a2, .ref a3, .ref a4, .ref a5, .ref a6, .ref a7, .ref a8, .ref a9])), (a1, .inl (cy 0, 20, .inl f3_1385)), (a2, .inl (cy 0, 20, .inl f4_1386)), (oa, .inl (cy 3, 1, .inr (.inl o2_1387))), (mp, .inr (4, [.int mx_1389, .ref qx_1390, .int 7])), (qx_1390, .inl (cy 2, 10, .inr (.inr (.inr (.inr g2_1391))))), (y_1392, .inr (17, fy_1393))]) (w1 := [(m0, .inr (20, [.int 0, .ref mp, .int 0, .ref b1, .ref b2, .ref b3, .ref b4, .ref b5, .ref mq]))]) [14] [0, 1, 2, 3, 4, 5, 6, 7, 8, 9, 10, 11, 12, 13, 15, 16, 17] rfl rfl (by decide) (by decide) hP hD hk1 hFc hB ht
    generalize H1 = H at hP hS ⊢
    have hP : va_P D vwCl [(ro, .inl (cy 0, 20, .inl f0)), (pa, .inr (4, [.int mc, .ref ed, .int 0])), (mq, .inr (4, [.int mn, .ref ed, .int 0])), (p0, .inr (17, t0)), (p1, .inr (17, t1)), (p2, .inr (17, t2)), (p3, .inr (17, t3)), (p4, .inr (17, t4)), (p5, .inr (17, t5)), (h, .inr (13, [.ref pe, .ref ne, .ref pa, .ref ro, .int 0])), (pe, .inr (9, [.int 7, .ref a1, .ref a2, .ref a3, .ref a4, .ref a5, .ref a6, .ref a7, .ref a8, .ref a9])), (a1, .inl (cy 0, 20, .inl f3_1385)), (a2, .inl (cy 0, 20, .inl f4_1386)), (oa, .inl (cy 3, 1, .inr (.inl o2_1387))), (mp, .inr (4, [.int mx_1389, .ref qx_1390, .int 7])), (qx_1390, .inl (cy 2, 10, .inr (.inr (.inr (.inr g2_1391))))), (y_1392, .inr (17, fy_1393)), (m0, .inr (20, [.int 0, .ref mp, .int 0, .ref b1, .ref b2, .ref b3, .ref b4, .ref b5, .ref mq]))] H := hP
    have hD : va_D A [(ro, .inl (cy 0, 20, .inl f0)), (pa, .inr (4, [.int mc, .ref ed, .int 0])), (mq, .inr (4, [.int mn, .ref ed, .int 0])), (p0, .inr (17, t0)), (p1, .inr (17, t1)), (p2, .inr (17, t2)), (p3, .inr (17, t3)), (p4, .inr (17, t4)), (p5, .inr (17, t5)), (h, .inr (13, [.ref pe, .ref ne, .ref pa, .ref ro, .int 0])), (pe, .inr (9, [.int 7, .ref a1, .ref a2, .ref a3, .ref a4, .ref a5, .ref a6, .ref a7, .ref a8, .ref a9])), (a1, .inl (cy 0, 20, .inl f3_1385)), (a2, .inl (cy 0, 20, .inl f4_1386)), (oa, .inl (cy 3, 1, .inr (.inl o2_1387))), (mp, .inr (4, [.int mx_1389, .ref qx_1390, .int 7])), (qx_1390, .inl (cy 2, 10, .inr (.inr (.inr (.inr g2_1391))))), (y_1392, .inr (17, fy_1393)), (m0, .inr (20, [.int 0, .ref mp, .int 0, .ref b1, .ref b2, .ref b3, .ref b4, .ref b5, .ref mq]))] := hD
    refine W.widen (k := 62) (n := 1520) (Nat.le_of_ble_eq_true rfl) (Nat.le_of_ble_eq_true rfl) ?_
    refine lv_iload hx hb dL_law_341 (lv_at hl 1 rfl) ?_
    refine lv_icmp_eq (tgt := 348) hx hb dL_law_343 (by decide) (fun _ => ?_) (fun c_1397 => absurd (by decide) c_1397)
    refine lv_iload hx hb dL_law_348 (lv_at hl 1 rfl) ?_
    refine lv_if_ne (tgt := 365) hx hb dL_law_350 (by decide) (fun c_1398 => absurd c_1398 (by decide)) (fun _ => ?_)
    refine lv_aload_n hx hb dL_law_353 rfl (lv_at hl 3 rfl) ?_
    refine lv_iconst (v := 0) hx hb dL_law_354 (by decide) ?_
    refine va_lald hx hb hK hP 13 3 rfl rfl (zx_bn (by decide)) dL_law_355 ?_
    refine lv_iload hx hb dL_law_356 (lv_at hl 0 rfl) ?_
    refine lv_i2l (v := 6) hx hb dL_law_358 rfl ?_
    refine W.lcmp hx hb dL_law_359 ?_
    refine lv_topi (fun y9 ey9 => ?_)
    obtain rfl : y9 = 0 := ey9.trans (zx_lcmpe h_1388)
    refine lv_if_eq (tgt := 365) hx hb dL_law_360 (by decide) (fun _ => ?_) (fun c_1399 => absurd (by decide) c_1399)
    refine lv_goto (tgt := 4257) hx hb dL_law_365 (by decide) ?_
    refine lv_iinc (v := 42) (lv' := [(5, .int 42), (7, .int 6), (6, .int 0), (3, .ref oa), (2, .ref m0), (1, .ref h), (0, .ref b)]) hx hb dL_law_4257 hl (k := 2) rfl (by decide) (by decide) rfl (fun ls hl => ?_)
    refine lv_goto (tgt := 28) hx hb dL_law_4260 (by decide) ?_
    have hP := hP.sub (ws' := [(h, .inr (13, [.ref pe, .ref ne, .ref pa, .ref ro, .int 0])), (pe, .inr (9, [.int 7, .ref a1, .ref a2, .ref a3, .ref a4, .ref a5, .ref a6, .ref a7, .ref a8, .ref a9])), (a1, .inl (cy 0, 20, .inl f3_1385)), (a2, .inl (cy 0, 20, .inl f4_1386)), (ro, .inl (cy 0, 20, .inl f0)), (pa, .inr (4, [.int mc, .ref ed, .int 0])), (m0, .inr (20, [.int 0, .ref mp, .int 0, .ref b1, .ref b2, .ref b3, .ref b4, .ref b5, .ref mq])), (mp, .inr (4, [.int mx_1389, .ref qx_1390, .int 7])), (qx_1390, .inl (cy 2, 10, .inr (.inr (.inr (.inr g2_1391))))), (mq, .inr (4, [.int mn, .ref ed, .int 0])), (oa, .inl (cy 3, 1, .inr (.inl o2_1387))), (p0, .inr (17, t0)), (p1, .inr (17, t1)), (p2, .inr (17, t2)), (p3, .inr (17, t3)), (p4, .inr (17, t4)), (p5, .inr (17, t5)), (y_1392, .inr (17, fy_1393))]) [9, 10, 11, 12, 0, 1, 17, 14, 15, 2, 13, 3, 4, 5, 6, 7, 8, 16] rfl
    have hD := hD.sub (ws' := [(h, .inr (13, [.ref pe, .ref ne, .ref pa, .ref ro, .int 0])), (pe, .inr (9, [.int 7, .ref a1, .ref a2, .ref a3, .ref a4, .ref a5, .ref a6, .ref a7, .ref a8, .ref a9])), (a1, .inl (cy 0, 20, .inl f3_1385)), (a2, .inl (cy 0, 20, .inl f4_1386)), (ro, .inl (cy 0, 20, .inl f0)), (pa, .inr (4, [.int mc, .ref ed, .int 0])), (m0, .inr (20, [.int 0, .ref mp, .int 0, .ref b1, .ref b2, .ref b3, .ref b4, .ref b5, .ref mq])), (mp, .inr (4, [.int mx_1389, .ref qx_1390, .int 7])), (qx_1390, .inl (cy 2, 10, .inr (.inr (.inr (.inr g2_1391))))), (mq, .inr (4, [.int mn, .ref ed, .int 0])), (oa, .inl (cy 3, 1, .inr (.inl o2_1387))), (p0, .inr (17, t0)), (p1, .inr (17, t1)), (p2, .inr (17, t2)), (p3, .inr (17, t3)), (p4, .inr (17, t4)), (p5, .inr (17, t5)), (y_1392, .inr (17, fy_1393))]) [9, 10, 11, 12, 0, 1, 17, 14, 15, 2, 13, 3, 4, 5, 6, 7, 8, 16] (by decide) rfl
    exact hnext _ _ _ ⟨pe, ne, pa, ro, a1, a2, a3, a4, a5, a6, a7, a8, a9, mp, mq, b1, b2, b3, b4, b5, qx_1390, mc, mx_1389, mn, f3_1385, f4_1386, f0, o2_1387, g2_1391, p0, p1, p2, p3, p4, p5, y_1392, t0, t1, t2, t3, t4, t5, fy_1393, hP, hD, ((hs_1396 0 (by decide)).trans hp0), ((hs_1396 1 (by decide)).trans hp1), ((hs_1396 2 (by decide)).trans hp2), ((hs_1396 3 (by decide)).trans hp3), ((hs_1396 4 (by decide)).trans hp4), ((hs_1396 5 (by decide)).trans hp5), hs_1395⟩ hS (lv_sub hl [0, 3, 4, 5, 6] rfl)
set_option maxHeartbeats 4000000 in
set_option maxRecDepth 100000 in
theorem law_step_7 {p : Program} {l : Launch} {e : Env} {s : State} {m : MethodId} {below : List Frame} {meth : Method} {c : Code} {D : va_G} {cy : Nat → ClassId} {ed b : Nat} {A : Nat → Prop} {Q : State → Prop} (C0 : zx_LW p l s m c D cy ed b A) {h m0 oa : Nat} {H : Heap} {locs : List Loc} {ls : Array Slot} (h0 : zx_S7 D cy ed A h m0 oa H) (hS : va_S A s.heap H locs) (hl : lv_has ls 9 [(5, .int 42), (3, .ref oa), (2, .ref m0), (1, .ref h), (0, .ref b)])
    (hnext : ∀ (H : Heap) (locs : List Loc) (ls : Array Slot), zx_S8 D cy ed A h m0 oa H → va_S A s.heap H locs → lv_has ls 9 [(5, .int 48), (3, .ref oa), (2, .ref m0), (1, .ref h), (0, .ref b)] → W p l e zx_R s m #[Value.ref b] below meth c H locs 65 1550 Q (F0 m 28 ls [])) :
    W p l e zx_R s m #[Value.ref b] below meth c H locs 62 1520 Q (F0 m 28 ls []) := by
  obtain ⟨hx, hb, hml, hst, hown, hts, hX, hbl, hbA, hA, hK, hZ, hN⟩ := C0
  obtain ⟨pe, ne, pa, ro, a1, a2, a3, a4, a5, a6, a7, a8, a9, mp, mq, b1, b2, b3, b4, b5, ep, mc, mm, mn, f1, f2, f0, og, gp, p0, p1, p2, p3, p4, p5, p6, t0, t1, t2, t3, t4, t5, t6, hP, hD, hp0, hp1, hp2, hp3, hp4, hp5, hp6⟩ := h0
  refine lv_iload hx hb dL_law_28 (lv_at hl 0 rfl) ?_
  refine lv_aload_n hx hb dL_law_30 rfl (lv_at hl 4 rfl) ?_
  refine va_slen hx hb hX hbl hbA hS dL_law_31 ?_
  refine lv_topi (fun y9 ey9 => ?_)
  obtain rfl : y9 = 3072 := ey9.trans (by decide)
  refine lv_bipush (v := 6) hx hb dL_law_32 (by decide) ?_
  refine lv_isub hx hb dL_law_34 ?_
  refine lv_topi (fun y9 ey9 => ?_)
  obtain rfl : y9 = 3066 := by rw [ey9] <;> decide
  refine lv_icmp_gt (tgt := 4263) hx hb dL_law_35 (by decide) (fun c_1400 => absurd c_1400 (by decide)) (fun _ => ?_)
  refine lv_aload_n hx hb dL_law_38 rfl (lv_at hl 4 rfl) ?_
  refine lv_iload hx hb dL_law_39 (lv_at hl 0 rfl) ?_
  refine va_sld hx hb hX hbl hbA hS (zx_bn (by decide)) dL_law_41 ?_
  refine lv_topi (fun y9 ey9 => ?_)
  obtain rfl : y9 = 0 := ey9.trans (by decide)
  refine lv_bipush (v := 63) hx hb dL_law_42 (by decide) ?_
  refine lv_iand hx hb dL_law_44 ?_
  refine lv_topi (fun y9 ey9 => ?_)
  obtain rfl : y9 = 0 := by rw [ey9] <;> decide
  refine lv_tableIn (off := 255) (tgt := 300) hx hb dL_law_45 (by decide) (by decide) (by decide) (by decide) ?_
  refine lv_aload_n hx hb dL_law_300 rfl (lv_at hl 3 rfl) ?_
  refine lv_aload_n hx hb dL_law_301 rfl (lv_at hl 4 rfl) ?_
  refine lv_iload hx hb dL_law_302 (lv_at hl 0 rfl) ?_
  refine lv_iconst (v := 1) hx hb dL_law_304 (by decide) ?_
  refine lv_iadd hx hb dL_law_305 ?_
  refine lv_topi (fun y9 ey9 => ?_)
  obtain rfl : y9 = 43 := by rw [ey9] <;> decide
  refine va_sld hx hb hX hbl hbA hS (zx_bn (by decide)) dL_law_306 ?_
  refine lv_topi (fun y9 ey9 => ?_)
  obtain rfl : y9 = 0 := ey9.trans (by decide)
  refine lv_aload_n hx hb dL_law_307 rfl (lv_at hl 4 rfl) ?_
  refine lv_iload hx hb dL_law_308 (lv_at hl 0 rfl) ?_
  refine lv_iconst (v := 2) hx hb dL_law_310 (by decide) ?_
  refine lv_iadd hx hb dL_law_311 ?_
  refine lv_topi (fun y9 ey9 => ?_)
  obtain rfl : y9 = 44 := by rw [ey9] <;> decide
  refine va_sld hx hb hX hbl hbA hS (zx_bn (by decide)) dL_law_312 ?_
  refine lv_topi (fun y9 ey9 => ?_)
  obtain rfl : y9 = 0 := ey9.trans (by decide)
  refine lv_aload_n hx hb dL_law_313 rfl (lv_at hl 1 rfl) ?_
  have hPc := hP.sub (ws' := [(h, .inr (13, [.ref pe, .ref ne, .ref pa, .ref ro, .int 0])), (pe, .inr (9, [.int 7, .ref a1, .ref a2, .ref a3, .ref a4, .ref a5, .ref a6, .ref a7, .ref a8, .ref a9])), (a1, .inl (cy 0, 20, .inl f1)), (a2, .inl (cy 0, 20, .inl f2)), (oa, .inl (cy 3, 1, .inr (.inl og)))]) [0, 1, 2, 3, 10] rfl
  have hDc := hD.sub (ws' := [(h, .inr (13, [.ref pe, .ref ne, .ref pa, .ref ro, .int 0])), (pe, .inr (9, [.int 7, .ref a1, .ref a2, .ref a3, .ref a4, .ref a5, .ref a6, .ref a7, .ref a8, .ref a9])), (a1, .inl (cy 0, 20, .inl f1)), (a2, .inl (cy 0, 20, .inl f2)), (oa, .inl (cy 3, 1, .inr (.inl og)))]) [0, 1, 2, 3, 10] (by decide) rfl
  have hFc := va_free (wc := [(h, .inr (13, [.ref pe, .ref ne, .ref pa, .ref ro, .int 0])), (pe, .inr (9, [.int 7, .ref a1, .ref a2, .ref a3, .ref a4, .ref a5, .ref a6, .ref a7, .ref a8, .ref a9])), (a1, .inl (cy 0, 20, .inl f1)), (a2, .inl (cy 0, 20, .inl f2)), (oa, .inl (cy 3, 1, .inr (.inl og)))]) hD hS hA [0, 1, 2, 3, 10] rfl
  refine vx_calli (vx_runSX (As := [.ref h, .int 0, .int 0, .ref oa]) (rest := []) ⟨hx, hb, hml, hown, hts⟩ (c_L_addPerson_7 l hst D cy ed H.size h pe ne pa ro 0 a1 a2 a3 a4 a5 a6 a7 a8 a9 f1 f2 oa og) (vx_cwSW 4 hts (zx_GS mm_329 mm_330 mm_70 mm_331) rfl rfl rfl (by decide +kernel) ⟨(Nat.le_of_ble_eq_true rfl), (Nat.le_of_ble_eq_true rfl)⟩) ⟨zx_blind, zx_give hPc hK hDc hS hFc hZ hN⟩ rfl rfl hl.1 rfl (lv_room (Nat.le_of_ble_eq_true rfl)) dL_law_314 ⟨(Nat.le_of_ble_eq_true rfl), (Nat.le_of_ble_eq_true rfl)⟩) hS (fun q _ h => hFc q h) hFc (fun q _ h => hFc q h) (fun E9 ce9 q9 _ t H locs ht hvm _ hBX hz1 hk1 hS hce hcv hcl => ?_) (fun r9 u t H locs ht hvm hw hB hz1 hk1 hS => ?_)
  · exact hBX.elim
  ·
    obtain ⟨f3_1401, f4_1402, o2_1403⟩ := u
    obtain ⟨rfl, h_1404⟩ := hw
    obtain ⟨hP, hD⟩ := zx_join (wr := [(ro, .inl (cy 0, 20, .inl f0)), (pa, .inr (4, [.int mc, .ref ed, .int 0])), (m0, .inr (20, [.int 0, .ref mp, .int 0, .ref b1, .ref b2, .ref b3, .ref b4, .ref b5, .ref mq])), (mp, .inr (4, [.int mm, .ref ep, .int 7])), (ep, .inl (cy 2, 10, .inr (.inr (.inr (.inr gp))))), (mq, .inr (4, [.int mn, .ref ed, .int 0])), (p0, .inr (17, t0)), (p1, .inr (17, t1)), (p2, .inr (17, t2)), (p3, .inr (17, t3)), (p4, .inr (17, t4)), (p5, .inr (17, t5)), (p6, .inr (17, t6))]) (w1 := [(h, .inr (13, [.ref pe, .ref ne, .ref pa, .ref ro, .int 0])), (pe, .inr (9, [.int 8, .ref a1, .ref a2, .ref a3, .ref a4, .ref a5, .ref a6, .ref a7, .ref a8, .ref a9])), (a1, .inl (cy 0, 20, .inl f3_1401)), (a2, .inl (cy 0, 20, .inl f4_1402)), (oa, .inl (cy 3, 1, .inr (.inl o2_1403)))]) [0, 1, 2, 3, 10] [4, 5, 6, 7, 8, 9, 11, 12, 13, 14, 15, 16, 17] rfl rfl (by decide) (by decide) hP hD hk1 hFc hB ht
    have hP : va_P D vwCl [(ro, .inl (cy 0, 20, .inl f0)), (pa, .inr (4, [.int mc, .ref ed, .int 0])), (m0, .inr (20, [.int 0, .ref mp, .int 0, .ref b1, .ref b2, .ref b3, .ref b4, .ref b5, .ref mq])), (mp, .inr (4, [.int mm, .ref ep, .int 7])), (ep, .inl (cy 2, 10, .inr (.inr (.inr (.inr gp))))), (mq, .inr (4, [.int mn, .ref ed, .int 0])), (p0, .inr (17, t0)), (p1, .inr (17, t1)), (p2, .inr (17, t2)), (p3, .inr (17, t3)), (p4, .inr (17, t4)), (p5, .inr (17, t5)), (p6, .inr (17, t6)), (h, .inr (13, [.ref pe, .ref ne, .ref pa, .ref ro, .int 0])), (pe, .inr (9, [.int 8, .ref a1, .ref a2, .ref a3, .ref a4, .ref a5, .ref a6, .ref a7, .ref a8, .ref a9])), (a1, .inl (cy 0, 20, .inl f3_1401)), (a2, .inl (cy 0, 20, .inl f4_1402)), (oa, .inl (cy 3, 1, .inr (.inl o2_1403)))] H := hP
    have hD : va_D A [(ro, .inl (cy 0, 20, .inl f0)), (pa, .inr (4, [.int mc, .ref ed, .int 0])), (m0, .inr (20, [.int 0, .ref mp, .int 0, .ref b1, .ref b2, .ref b3, .ref b4, .ref b5, .ref mq])), (mp, .inr (4, [.int mm, .ref ep, .int 7])), (ep, .inl (cy 2, 10, .inr (.inr (.inr (.inr gp))))), (mq, .inr (4, [.int mn, .ref ed, .int 0])), (p0, .inr (17, t0)), (p1, .inr (17, t1)), (p2, .inr (17, t2)), (p3, .inr (17, t3)), (p4, .inr (17, t4)), (p5, .inr (17, t5)), (p6, .inr (17, t6)), (h, .inr (13, [.ref pe, .ref ne, .ref pa, .ref ro, .int 0])), (pe, .inr (9, [.int 8, .ref a1, .ref a2, .ref a3, .ref a4, .ref a5, .ref a6, .ref a7, .ref a8, .ref a9])), (a1, .inl (cy 0, 20, .inl f3_1401)), (a2, .inl (cy 0, 20, .inl f4_1402)), (oa, .inl (cy 3, 1, .inr (.inl o2_1403)))] := hD
    refine W.widen (k := 62) (n := 1520) (Nat.le_of_ble_eq_true rfl) (Nat.le_of_ble_eq_true rfl) ?_
    refine lv_istore (lv' := [(6, .int 0), (5, .int 42), (3, .ref oa), (2, .ref m0), (1, .ref h), (0, .ref b)]) hx hb dL_law_317 hl (by decide) rfl (fun ls hl => ?_)
    refine lv_aload_n hx hb dL_law_319 rfl (lv_at hl 3 rfl) ?_
    refine lv_aload_n hx hb dL_law_320 rfl (lv_at hl 5 rfl) ?_
    refine lv_iload hx hb dL_law_321 (lv_at hl 1 rfl) ?_
    refine lv_iconst (v := 1) hx hb dL_law_323 (by decide) ?_
    refine lv_iadd hx hb dL_law_324 ?_
    refine lv_topi (fun y9 ey9 => ?_)
    obtain rfl : y9 = 43 := by rw [ey9] <;> decide
    refine va_sld hx hb hX hbl hbA hS (zx_bn (by decide)) dL_law_325 ?_
    refine lv_topi (fun y9 ey9 => ?_)
    obtain rfl : y9 = 0 := ey9.trans (by decide)
    refine lv_aload_n hx hb dL_law_326 rfl (lv_at hl 5 rfl) ?_
    refine lv_iload hx hb dL_law_327 (lv_at hl 1 rfl) ?_
    refine lv_iconst (v := 2) hx hb dL_law_329 (by decide) ?_
    refine lv_iadd hx hb dL_law_330 ?_
    refine lv_topi (fun y9 ey9 => ?_)
    obtain rfl : y9 = 44 := by rw [ey9] <;> decide
    refine va_sld hx hb hX hbl hbA hS (zx_bn (by decide)) dL_law_331 ?_
    refine lv_topi (fun y9 ey9 => ?_)
    obtain rfl : y9 = 0 := ey9.trans (by decide)
    have hPc := hP.sub (ws' := [(m0, .inr (20, [.int 0, .ref mp, .int 0, .ref b1, .ref b2, .ref b3, .ref b4, .ref b5, .ref mq])), (mp, .inr (4, [.int mm, .ref ep, .int 7])), (ep, .inl (cy 2, 10, .inr (.inr (.inr (.inr gp)))))]) [2, 3, 4] rfl
    have hDc := hD.sub (ws' := [(m0, .inr (20, [.int 0, .ref mp, .int 0, .ref b1, .ref b2, .ref b3, .ref b4, .ref b5, .ref mq])), (mp, .inr (4, [.int mm, .ref ep, .int 7])), (ep, .inl (cy 2, 10, .inr (.inr (.inr (.inr gp)))))]) [2, 3, 4] (by decide) rfl
    have hFc := va_free (wc := [(m0, .inr (20, [.int 0, .ref mp, .int 0, .ref b1, .ref b2, .ref b3, .ref b4, .ref b5, .ref mq])), (mp, .inr (4, [.int mm, .ref ep, .int 7])), (ep, .inl (cy 2, 10, .inr (.inr (.inr (.inr gp)))))]) hD hS hA [2, 3, 4] rfl
    refine va_calli (va_runV (As := [.int 0, .int 0]) (rest := []) ⟨hx, hb, hml, hown, hts⟩ (c_X15_addPerson_7 l hst D cy ed H.size m0 mp mq b1 b2 b3 b4 b5 0 0 mm ep gp) (cwV 2 hts (zx_GV mm_1603 mm_1604 mm_1605 mm_78 mm_1606) rfl rfl rfl (by decide +kernel) ⟨(Nat.le_of_ble_eq_true rfl), (Nat.le_of_ble_eq_true rfl)⟩) ⟨zx_blind, va_recv hK hPc (ci := 20) (q0 := 0) rfl rfl, zx_give hPc hK hDc hS hFc hZ hN⟩ rfl rfl hl.1 rfl (lv_room (Nat.le_of_ble_eq_true rfl)) dL_law_332 ⟨(Nat.le_of_ble_eq_true rfl), (Nat.le_of_ble_eq_true rfl)⟩) hS (fun q _ h => hFc q h) hFc (fun r9 u t H1 locs ht hvm hw hB hz1 hk1 hS => ?_)
    obtain ⟨mx_1405, qx_1406, g2_1407, y_1408, fy_1409⟩ := u
    obtain ⟨rfl, h_1410⟩ := hw
    obtain ⟨hP, hD⟩ := zx_join (wr := [(ro, .inl (cy 0, 20, .inl f0)), (pa, .inr (4, [.int mc, .ref ed, .int 0])), (mq, .inr (4, [.int mn, .ref ed, .int 0])), (p0, .inr (17, t0)), (p1, .inr (17, t1)), (p2, .inr (17, t2)), (p3, .inr (17, t3)), (p4, .inr (17, t4)), (p5, .inr (17, t5)), (p6, .inr (17, t6)), (h, .inr (13, [.ref pe, .ref ne, .ref pa, .ref ro, .int 0])), (pe, .inr (9, [.int 8, .ref a1, .ref a2, .ref a3, .ref a4, .ref a5, .ref a6, .ref a7, .ref a8, .ref a9])), (a1, .inl (cy 0, 20, .inl f3_1401)), (a2, .inl (cy 0, 20, .inl f4_1402)), (oa, .inl (cy 3, 1, .inr (.inl o2_1403)))]) (w1 := [(m0, .inr (20, [.int 0, .ref mp, .int 0, .ref b1, .ref b2, .ref b3, .ref b4, .ref b5, .ref mq])), (mp, .inr (4, [.int mx_1405, .ref qx_1406, .int 8])), (qx_1406, .inl (cy 2, 10, .inr (.inr (.inr (.inr g2_1407))))), (y_1408, .inr (17, fy_1409))]) [2, 3, 4] [0, 1, 5, 6, 7, 8, 9, 10, 11, 12, 13, 14, 15, 16, 17] rfl rfl (by decide) (by decide) hP hD hk1 hFc hB ht
    generalize H1 = H at hP hS ⊢
    have hP : va_P D vwCl [(ro, .inl (cy 0, 20, .inl f0)), (pa, .inr (4, [.int mc, .ref ed, .int 0])), (mq, .inr (4, [.int mn, .ref ed, .int 0])), (p0, .inr (17, t0)), (p1, .inr (17, t1)), (p2, .inr (17, t2)), (p3, .inr (17, t3)), (p4, .inr (17, t4)), (p5, .inr (17, t5)), (p6, .inr (17, t6)), (h, .inr (13, [.ref pe, .ref ne, .ref pa, .ref ro, .int 0])), (pe, .inr (9, [.int 8, .ref a1, .ref a2, .ref a3, .ref a4, .ref a5, .ref a6, .ref a7, .ref a8, .ref a9])), (a1, .inl (cy 0, 20, .inl f3_1401)), (a2, .inl (cy 0, 20, .inl f4_1402)), (oa, .inl (cy 3, 1, .inr (.inl o2_1403))), (m0, .inr (20, [.int 0, .ref mp, .int 0, .ref b1, .ref b2, .ref b3, .ref b4, .ref b5, .ref mq])), (mp, .inr (4, [.int mx_1405, .ref qx_1406, .int 8])), (qx_1406, .inl (cy 2, 10, .inr (.inr (.inr (.inr g2_1407))))), (y_1408, .inr (17, fy_1409))] H := hP
    have hD : va_D A [(ro, .inl (cy 0, 20, .inl f0)), (pa, .inr (4, [.int mc, .ref ed, .int 0])), (mq, .inr (4, [.int mn, .ref ed, .int 0])), (p0, .inr (17, t0)), (p1, .inr (17, t1)), (p2, .inr (17, t2)), (p3, .inr (17, t3)), (p4, .inr (17, t4)), (p5, .inr (17, t5)), (p6, .inr (17, t6)), (h, .inr (13, [.ref pe, .ref ne, .ref pa, .ref ro, .int 0])), (pe, .inr (9, [.int 8, .ref a1, .ref a2, .ref a3, .ref a4, .ref a5, .ref a6, .ref a7, .ref a8, .ref a9])), (a1, .inl (cy 0, 20, .inl f3_1401)), (a2, .inl (cy 0, 20, .inl f4_1402)), (oa, .inl (cy 3, 1, .inr (.inl o2_1403))), (m0, .inr (20, [.int 0, .ref mp, .int 0, .ref b1, .ref b2, .ref b3, .ref b4, .ref b5, .ref mq])), (mp, .inr (4, [.int mx_1405, .ref qx_1406, .int 8])), (qx_1406, .inl (cy 2, 10, .inr (.inr (.inr (.inr g2_1407))))), (y_1408, .inr (17, fy_1409))] := hD
    refine W.widen (k := 65) (n := 1550) (Nat.le_of_ble_eq_true rfl) (Nat.le_of_ble_eq_true rfl) ?_
    obtain ⟨hs_1411, hs_1412⟩ := h_1410
    refine lv_istore (lv' := [(7, .int 7), (6, .int 0), (5, .int 42), (3, .ref oa), (2, .ref m0), (1, .ref h), (0, .ref b)]) hx hb dL_law_335 hl (by decide) rfl (fun ls hl => ?_)
    refine lv_aload_n hx hb dL_law_337 rfl (lv_at hl 4 rfl) ?_
    have hPc := hP.sub (ws' := [(m0, .inr (20, [.int 0, .ref mp, .int 0, .ref b1, .ref b2, .ref b3, .ref b4, .ref b5, .ref mq]))]) [15] rfl
    have hDc := hD.sub (ws' := [(m0, .inr (20, [.int 0, .ref mp, .int 0, .ref b1, .ref b2, .ref b3, .ref b4, .ref b5, .ref mq]))]) [15] (by decide) rfl
    have hFc := va_free (wc := [(m0, .inr (20, [.int 0, .ref mp, .int 0, .ref b1, .ref b2, .ref b3, .ref b4, .ref b5, .ref mq]))]) hD hS hA [15] rfl
    refine va_calli (va_runV (As := []) (rest := []) ⟨hx, hb, hml, hown, hts⟩ (c_X15_thrown l hst D cy ed H.size m0 mp mq b1 b2 b3 b4 b5 0 0) (cwV 0 hts (zx_GV mm_1599 mm_1600 mm_1601 mm_78 mm_1602) rfl rfl rfl (by decide +kernel) ⟨(Nat.le_of_ble_eq_true rfl), (Nat.le_of_ble_eq_true rfl)⟩) ⟨zx_blind, va_recv hK hPc (ci := 20) (q0 := 0) rfl rfl, zx_give hPc hK hDc hS hFc hZ hN⟩ rfl rfl hl.1 rfl (lv_room (Nat.le_of_ble_eq_true rfl)) dL_law_338 ⟨(Nat.le_of_ble_eq_true rfl), (Nat.le_of_ble_eq_true rfl)⟩) hS (fun q _ h => hFc q h) hFc (fun r9 u t H1 locs ht hvm hw hB hz1 hk1 hS => ?_)
    obtain rfl : r9 = 0 := hw
    obtain ⟨hP, hD⟩ := zx_join (wr := [(ro, .inl (cy 0, 20, .inl f0)), (pa, .inr (4, [.int mc, .ref ed, .int 0])), (mq, .inr (4, [.int mn, .ref ed, .int 0])), (p0, .inr (17, t0)), (p1, .inr (17, t1)), (p2, .inr (17, t2)), (p3, .inr (17, t3)), (p4, .inr (17, t4)), (p5, .inr (17, t5)), (p6, .inr (17, t6)), (h, .inr (13, [.ref pe, .ref ne, .ref pa, .ref ro, .int 0])), (pe, .inr (9, [.int 8, .ref a1, .ref a2, .ref a3, .ref a4, .ref a5, .ref a6, .ref a7, .ref a8, .ref a9])), (a1, .inl (cy 0, 20, .inl f3_1401)), (a2, .inl (cy 0, 20, .inl f4_1402)), (oa, .inl (cy 3, 1, .inr (.inl o2_1403))), (mp, .inr (4, [.int mx_1405, .ref qx_1406, .int 8])), (qx_1406, .inl (cy 2, 10, .inr (.inr (.inr (.inr g2_1407))))), (y_1408, .inr (17, fy_1409))]) (w1 := [(m0, .inr (20, [.int 0, .ref mp, .int 0, .ref b1, .ref b2, .ref b3, .ref b4, .ref b5, .ref mq]))]) [15] [0, 1, 2, 3, 4, 5, 6, 7, 8, 9, 10, 11, 12, 13, 14, 16, 17, 18] rfl rfl (by decide) (by decide) hP hD hk1 hFc hB ht
    generalize H1 = H at hP hS ⊢
    have hP : va_P D vwCl [(ro, .inl (cy 0, 20, .inl f0)), (pa, .inr (4, [.int mc, .ref ed, .int 0])), (mq, .inr (4, [.int mn, .ref ed, .int 0])), (p0, .inr (17, t0)), (p1, .inr (17, t1)), (p2, .inr (17, t2)), (p3, .inr (17, t3)), (p4, .inr (17, t4)), (p5, .inr (17, t5)), (p6, .inr (17, t6)), (h, .inr (13, [.ref pe, .ref ne, .ref pa, .ref ro, .int 0])), (pe, .inr (9, [.int 8, .ref a1, .ref a2, .ref a3, .ref a4, .ref a5, .ref a6, .ref a7, .ref a8, .ref a9])), (a1, .inl (cy 0, 20, .inl f3_1401)), (a2, .inl (cy 0, 20, .inl f4_1402)), (oa, .inl (cy 3, 1, .inr (.inl o2_1403))), (mp, .inr (4, [.int mx_1405, .ref qx_1406, .int 8])), (qx_1406, .inl (cy 2, 10, .inr (.inr (.inr (.inr g2_1407))))), (y_1408, .inr (17, fy_1409)), (m0, .inr (20, [.int 0, .ref mp, .int 0, .ref b1, .ref b2, .ref b3, .ref b4, .ref b5, .ref mq]))] H := hP
    have hD : va_D A [(ro, .inl (cy 0, 20, .inl f0)), (pa, .inr (4, [.int mc, .ref ed, .int 0])), (mq, .inr (4, [.int mn, .ref ed, .int 0])), (p0, .inr (17, t0)), (p1, .inr (17, t1)), (p2, .inr (17, t2)), (p3, .inr (17, t3)), (p4, .inr (17, t4)), (p5, .inr (17, t5)), (p6, .inr (17, t6)), (h, .inr (13, [.ref pe, .ref ne, .ref pa, .ref ro, .int 0])), (pe, .inr (9, [.int 8, .ref a1, .ref a2, .ref a3, .ref a4, .ref a5, .ref a6, .ref a7, .ref a8, .ref a9])), (a1, .inl (cy 0, 20, .inl f3_1401)), (a2, .inl (cy 0, 20, .inl f4_1402)), (oa, .inl (cy 3, 1, .inr (.inl o2_1403))), (mp, .inr (4, [.int mx_1405, .ref qx_1406, .int 8])), (qx_1406, .inl (cy 2, 10, .inr (.inr (.inr (.inr g2_1407))))), (y_1408, .inr (17, fy_1409)), (m0, .inr (20, [.int 0, .ref mp, .int 0, .ref b1, .ref b2, .ref b3, .ref b4, .ref b5, .ref mq]))] := hD
    refine W.widen (k := 65) (n := 1550) (Nat.le_of_ble_eq_true rfl) (Nat.le_of_ble_eq_true rfl) ?_
    refine lv_iload hx hb dL_law_341 (lv_at hl 1 rfl) ?_
    refine lv_icmp_eq (tgt := 348) hx hb dL_law_343 (by decide) (fun _ => ?_) (fun c_1413 => absurd (by decide) c_1413)
    refine lv_iload hx hb dL_law_348 (lv_at hl 1 rfl) ?_
    refine lv_if_ne (tgt := 365) hx hb dL_law_350 (by decide) (fun c_1414 => absurd c_1414 (by decide)) (fun _ => ?_)
    refine lv_aload_n hx hb dL_law_353 rfl (lv_at hl 3 rfl) ?_
    refine lv_iconst (v := 0) hx hb dL_law_354 (by decide) ?_
    refine va_lald hx hb hK hP 14 3 rfl rfl (zx_bn (by decide)) dL_law_355 ?_
    refine lv_iload hx hb dL_law_356 (lv_at hl 0 rfl) ?_
    refine lv_i2l (v := 7) hx hb dL_law_358 rfl ?_
    refine W.lcmp hx hb dL_law_359 ?_
    refine lv_topi (fun y9 ey9 => ?_)
    obtain rfl : y9 = 0 := ey9.trans (zx_lcmpe h_1404)
    refine lv_if_eq (tgt := 365) hx hb dL_law_360 (by decide) (fun _ => ?_) (fun c_1415 => absurd (by decide) c_1415)
    refine lv_goto (tgt := 4257) hx hb dL_law_365 (by decide) ?_
    refine lv_iinc (v := 48) (lv' := [(5, .int 48), (7, .int 7), (6, .int 0), (3, .ref oa), (2, .ref m0), (1, .ref h), (0, .ref b)]) hx hb dL_law_4257 hl (k := 2) rfl (by decide) (by decide) rfl (fun ls hl => ?_)
    refine lv_goto (tgt := 28) hx hb dL_law_4260 (by decide) ?_
    have hP := hP.sub (ws' := [(h, .inr (13, [.ref pe, .ref ne, .ref pa, .ref ro, .int 0])), (pe, .inr (9, [.int 8, .ref a1, .ref a2, .ref a3, .ref a4, .ref a5, .ref a6, .ref a7, .ref a8, .ref a9])), (a1, .inl (cy 0, 20, .inl f3_1401)), (a2, .inl (cy 0, 20, .inl f4_1402)), (ro, .inl (cy 0, 20, .inl f0)), (pa, .inr (4, [.int mc, .ref ed, .int 0])), (m0, .inr (20, [.int 0, .ref mp, .int 0, .ref b1, .ref b2, .ref b3, .ref b4, .ref b5, .ref mq])), (mp, .inr (4, [.int mx_1405, .ref qx_1406, .int 8])), (qx_1406, .inl (cy 2, 10, .inr (.inr (.inr (.inr g2_1407))))), (mq, .inr (4, [.int mn, .ref ed, .int 0])), (oa, .inl (cy 3, 1, .inr (.inl o2_1403))), (p0, .inr (17, t0)), (p1, .inr (17, t1)), (p2, .inr (17, t2)), (p3, .inr (17, t3)), (p4, .inr (17, t4)), (p5, .inr (17, t5)), (p6, .inr (17, t6)), (y_1408, .inr (17, fy_1409))]) [10, 11, 12, 13, 0, 1, 18, 15, 16, 2, 14, 3, 4, 5, 6, 7, 8, 9, 17] rfl
    have hD := hD.sub (ws' := [(h, .inr (13, [.ref pe, .ref ne, .ref pa, .ref ro, .int 0])), (pe, .inr (9, [.int 8, .ref a1, .ref a2, .ref a3, .ref a4, .ref a5, .ref a6, .ref a7, .ref a8, .ref a9])), (a1, .inl (cy 0, 20, .inl f3_1401)), (a2, .inl (cy 0, 20, .inl f4_1402)), (ro, .inl (cy 0, 20, .inl f0)), (pa, .inr (4, [.int mc, .ref ed, .int 0])), (m0, .inr (20, [.int 0, .ref mp, .int 0, .ref b1, .ref b2, .ref b3, .ref b4, .ref b5, .ref mq])), (mp, .inr (4, [.int mx_1405, .ref qx_1406, .int 8])), (qx_1406, .inl (cy 2, 10, .inr (.inr (.inr (.inr g2_1407))))), (mq, .inr (4, [.int mn, .ref ed, .int 0])), (oa, .inl (cy 3, 1, .inr (.inl o2_1403))), (p0, .inr (17, t0)), (p1, .inr (17, t1)), (p2, .inr (17, t2)), (p3, .inr (17, t3)), (p4, .inr (17, t4)), (p5, .inr (17, t5)), (p6, .inr (17, t6)), (y_1408, .inr (17, fy_1409))]) [10, 11, 12, 13, 0, 1, 18, 15, 16, 2, 14, 3, 4, 5, 6, 7, 8, 9, 17] (by decide) rfl
    exact hnext _ _ _ ⟨pe, ne, pa, ro, a1, a2, a3, a4, a5, a6, a7, a8, a9, mp, mq, b1, b2, b3, b4, b5, qx_1406, mc, mx_1405, mn, f3_1401, f4_1402, f0, o2_1403, g2_1407, p0, p1, p2, p3, p4, p5, p6, y_1408, t0, t1, t2, t3, t4, t5, t6, fy_1409, hP, hD, ((hs_1412 0 (by decide)).trans hp0), ((hs_1412 1 (by decide)).trans hp1), ((hs_1412 2 (by decide)).trans hp2), ((hs_1412 3 (by decide)).trans hp3), ((hs_1412 4 (by decide)).trans hp4), ((hs_1412 5 (by decide)).trans hp5), ((hs_1412 6 (by decide)).trans hp6), hs_1411⟩ hS (lv_sub hl [0, 3, 4, 5, 6] rfl)
set_option maxHeartbeats 4000000 in
set_option maxRecDepth 100000 in
theorem law_step_8 {p : Program} {l : Launch} {e : Env} {s : State} {m : MethodId} {below : List Frame} {meth : Method} {c : Code} {D : va_G} {cy : Nat → ClassId} {ed b : Nat} {A : Nat → Prop} {Q : State → Prop} (C0 : zx_LW p l s m c D cy ed b A) {h m0 oa : Nat} {H : Heap} {locs : List Loc} {ls : Array Slot} (h0 : zx_S8 D cy ed A h m0 oa H) (hS : va_S A s.heap H locs) (hl : lv_has ls 9 [(5, .int 48), (3, .ref oa), (2, .ref m0), (1, .ref h), (0, .ref b)])
    (hnext : ∀ (H : Heap) (locs : List Loc) (ls : Array Slot), zx_S9 D cy ed A h m0 oa H → va_S A s.heap H locs → lv_has ls 9 [(5, .int 54), (3, .ref oa), (2, .ref m0), (1, .ref h), (0, .ref b)] → W p l e zx_R s m #[Value.ref b] below meth c H locs 68 1580 Q (F0 m 28 ls [])) :
    W p l e zx_R s m #[Value.ref b] below meth c H locs 65 1550 Q (F0 m 28 ls []) := by
  obtain ⟨hx, hb, hml, hst, hown, hts, hX, hbl, hbA, hA, hK, hZ, hN⟩ := C0
  obtain ⟨pe, ne, pa, ro, a1, a2, a3, a4, a5, a6, a7, a8, a9, mp, mq, b1, b2, b3, b4, b5, ep, mc, mm, mn, f1, f2, f0, og, gp, p0, p1, p2, p3, p4, p5, p6, p7, t0, t1, t2, t3, t4, t5, t6, t7, hP, hD, hp0, hp1, hp2, hp3, hp4, hp5, hp6, hp7⟩ := h0
  refine lv_iload hx hb dL_law_28 (lv_at hl 0 rfl) ?_
  refine lv_aload_n hx hb dL_law_30 rfl (lv_at hl 4 rfl) ?_
  refine va_slen hx hb hX hbl hbA hS dL_law_31 ?_
  refine lv_topi (fun y9 ey9 => ?_)
  obtain rfl : y9 = 3072 := ey9.trans (by decide)
  refine lv_bipush (v := 6) hx hb dL_law_32 (by decide) ?_
  refine lv_isub hx hb dL_law_34 ?_
  refine lv_topi (fun y9 ey9 => ?_)
  obtain rfl : y9 = 3066 := by rw [ey9] <;> decide
  refine lv_icmp_gt (tgt := 4263) hx hb dL_law_35 (by decide) (fun c_1416 => absurd c_1416 (by decide)) (fun _ => ?_)
  refine lv_aload_n hx hb dL_law_38 rfl (lv_at hl 4 rfl) ?_
  refine lv_iload hx hb dL_law_39 (lv_at hl 0 rfl) ?_
  refine va_sld hx hb hX hbl hbA hS (zx_bn (by decide)) dL_law_41 ?_
  refine lv_topi (fun y9 ey9 => ?_)
  obtain rfl : y9 = 0 := ey9.trans (by decide)
  refine lv_bipush (v := 63) hx hb dL_law_42 (by decide) ?_
  refine lv_iand hx hb dL_law_44 ?_
  refine lv_topi (fun y9 ey9 => ?_)
  obtain rfl : y9 = 0 := by rw [ey9] <;> decide
  refine lv_tableIn (off := 255) (tgt := 300) hx hb dL_law_45 (by decide) (by decide) (by decide) (by decide) ?_
  refine lv_aload_n hx hb dL_law_300 rfl (lv_at hl 3 rfl) ?_
  refine lv_aload_n hx hb dL_law_301 rfl (lv_at hl 4 rfl) ?_
  refine lv_iload hx hb dL_law_302 (lv_at hl 0 rfl) ?_
  refine lv_iconst (v := 1) hx hb dL_law_304 (by decide) ?_
  refine lv_iadd hx hb dL_law_305 ?_
  refine lv_topi (fun y9 ey9 => ?_)
  obtain rfl : y9 = 49 := by rw [ey9] <;> decide
  refine va_sld hx hb hX hbl hbA hS (zx_bn (by decide)) dL_law_306 ?_
  refine lv_topi (fun y9 ey9 => ?_)
  obtain rfl : y9 = 0 := ey9.trans (by decide)
  refine lv_aload_n hx hb dL_law_307 rfl (lv_at hl 4 rfl) ?_
  refine lv_iload hx hb dL_law_308 (lv_at hl 0 rfl) ?_
  refine lv_iconst (v := 2) hx hb dL_law_310 (by decide) ?_
  refine lv_iadd hx hb dL_law_311 ?_
  refine lv_topi (fun y9 ey9 => ?_)
  obtain rfl : y9 = 50 := by rw [ey9] <;> decide
  refine va_sld hx hb hX hbl hbA hS (zx_bn (by decide)) dL_law_312 ?_
  refine lv_topi (fun y9 ey9 => ?_)
  obtain rfl : y9 = 0 := ey9.trans (by decide)
  refine lv_aload_n hx hb dL_law_313 rfl (lv_at hl 1 rfl) ?_
  have hPc := hP.sub (ws' := [(h, .inr (13, [.ref pe, .ref ne, .ref pa, .ref ro, .int 0])), (pe, .inr (9, [.int 8, .ref a1, .ref a2, .ref a3, .ref a4, .ref a5, .ref a6, .ref a7, .ref a8, .ref a9])), (a1, .inl (cy 0, 20, .inl f1)), (a2, .inl (cy 0, 20, .inl f2)), (oa, .inl (cy 3, 1, .inr (.inl og)))]) [0, 1, 2, 3, 10] rfl
  have hDc := hD.sub (ws' := [(h, .inr (13, [.ref pe, .ref ne, .ref pa, .ref ro, .int 0])), (pe, .inr (9, [.int 8, .ref a1, .ref a2, .ref a3, .ref a4, .ref a5, .ref a6, .ref a7, .ref a8, .ref a9])), (a1, .inl (cy 0, 20, .inl f1)), (a2, .inl (cy 0, 20, .inl f2)), (oa, .inl (cy 3, 1, .inr (.inl og)))]) [0, 1, 2, 3, 10] (by decide) rfl
  have hFc := va_free (wc := [(h, .inr (13, [.ref pe, .ref ne, .ref pa, .ref ro, .int 0])), (pe, .inr (9, [.int 8, .ref a1, .ref a2, .ref a3, .ref a4, .ref a5, .ref a6, .ref a7, .ref a8, .ref a9])), (a1, .inl (cy 0, 20, .inl f1)), (a2, .inl (cy 0, 20, .inl f2)), (oa, .inl (cy 3, 1, .inr (.inl og)))]) hD hS hA [0, 1, 2, 3, 10] rfl
  refine vx_calli (vx_runSX (As := [.ref h, .int 0, .int 0, .ref oa]) (rest := []) ⟨hx, hb, hml, hown, hts⟩ (c_L_addPerson_8 l hst D cy ed H.size h pe ne pa ro 0 a1 a2 a3 a4 a5 a6 a7 a8 a9 f1 f2 oa og) (vx_cwSW 4 hts (zx_GS mm_329 mm_330 mm_70 mm_331) rfl rfl rfl (by decide +kernel) ⟨(Nat.le_of_ble_eq_true rfl), (Nat.le_of_ble_eq_true rfl)⟩) ⟨zx_blind, zx_give hPc hK hDc hS hFc hZ hN⟩ rfl rfl hl.1 rfl (lv_room (Nat.le_of_ble_eq_true rfl)) dL_law_314 ⟨(Nat.le_of_ble_eq_true rfl), (Nat.le_of_ble_eq_true rfl)⟩) hS (fun q _ h => hFc q h) hFc (fun q _ h => hFc q h) (fun E9 ce9 q9 _ t H locs ht hvm _ hBX hz1 hk1 hS hce hcv hcl => ?_) (fun r9 u t H locs ht hvm hw hB hz1 hk1 hS => ?_)
  · exact hBX.elim
  ·
    obtain ⟨f3_1417, f4_1418, o2_1419⟩ := u
    obtain ⟨rfl, h_1420⟩ := hw
    obtain ⟨hP, hD⟩ := zx_join (wr := [(ro, .inl (cy 0, 20, .inl f0)), (pa, .inr (4, [.int mc, .ref ed, .int 0])), (m0, .inr (20, [.int 0, .ref mp, .int 0, .ref b1, .ref b2, .ref b3, .ref b4, .ref b5, .ref mq])), (mp, .inr (4, [.int mm, .ref ep, .int 8])), (ep, .inl (cy 2, 10, .inr (.inr (.inr (.inr gp))))), (mq, .inr (4, [.int mn, .ref ed, .int 0])), (p0, .inr (17, t0)), (p1, .inr (17, t1)), (p2, .inr (17, t2)), (p3, .inr (17, t3)), (p4, .inr (17, t4)), (p5, .inr (17, t5)), (p6, .inr (17, t6)), (p7, .inr (17, t7))]) (w1 := [(h, .inr (13, [.ref pe, .ref ne, .ref pa, .ref ro, .int 0])), (pe, .inr (9, [.int 9, .ref a1, .ref a2, .ref a3, .ref a4, .ref a5, .ref a6, .ref a7, .ref a8, .ref a9])), (a1, .inl (cy 0, 20, .inl f3_1417)), (a2, .inl (cy 0, 20, .inl f4_1418)), (oa, .inl (cy 3, 1, .inr (.inl o2_1419)))]) [0, 1, 2, 3, 10] [4, 5, 6, 7, 8, 9, 11, 12, 13, 14, 15, 16, 17, 18] rfl rfl (by decide) (by decide) hP hD hk1 hFc hB ht
    have hP : va_P D vwCl [(ro, .inl (cy 0, 20, .inl f0)), (pa, .inr (4, [.int mc, .ref ed, .int 0])), (m0, .inr (20, [.int 0, .ref mp, .int 0, .ref b1, .ref b2, .ref b3, .ref b4, .ref b5, .ref mq])), (mp, .inr (4, [.int mm, .ref ep, .int 8])), (ep, .inl (cy 2, 10, .inr (.inr (.inr (.inr gp))))), (mq, .inr (4, [.int mn, .ref ed, .int 0])), (p0, .inr (17, t0)), (p1, .inr (17, t1)), (p2, .inr (17, t2)), (p3, .inr (17, t3)), (p4, .inr (17, t4)), (p5, .inr (17, t5)), (p6, .inr (17, t6)), (p7, .inr (17, t7)), (h, .inr (13, [.ref pe, .ref ne, .ref pa, .ref ro, .int 0])), (pe, .inr (9, [.int 9, .ref a1, .ref a2, .ref a3, .ref a4, .ref a5, .ref a6, .ref a7, .ref a8, .ref a9])), (a1, .inl (cy 0, 20, .inl f3_1417)), (a2, .inl (cy 0, 20, .inl f4_1418)), (oa, .inl (cy 3, 1, .inr (.inl o2_1419)))] H := hP
    have hD : va_D A [(ro, .inl (cy 0, 20, .inl f0)), (pa, .inr (4, [.int mc, .ref ed, .int 0])), (m0, .inr (20, [.int 0, .ref mp, .int 0, .ref b1, .ref b2, .ref b3, .ref b4, .ref b5, .ref mq])), (mp, .inr (4, [.int mm, .ref ep, .int 8])), (ep, .inl (cy 2, 10, .inr (.inr (.inr (.inr gp))))), (mq, .inr (4, [.int mn, .ref ed, .int 0])), (p0, .inr (17, t0)), (p1, .inr (17, t1)), (p2, .inr (17, t2)), (p3, .inr (17, t3)), (p4, .inr (17, t4)), (p5, .inr (17, t5)), (p6, .inr (17, t6)), (p7, .inr (17, t7)), (h, .inr (13, [.ref pe, .ref ne, .ref pa, .ref ro, .int 0])), (pe, .inr (9, [.int 9, .ref a1, .ref a2, .ref a3, .ref a4, .ref a5, .ref a6, .ref a7, .ref a8, .ref a9])), (a1, .inl (cy 0, 20, .inl f3_1417)), (a2, .inl (cy 0, 20, .inl f4_1418)), (oa, .inl (cy 3, 1, .inr (.inl o2_1419)))] := hD
    refine W.widen (k := 65) (n := 1550) (Nat.le_of_ble_eq_true rfl) (Nat.le_of_ble_eq_true rfl) ?_
    refine lv_istore (lv' := [(6, .int 0), (5, .int 48), (3, .ref oa), (2, .ref m0), (1, .ref h), (0, .ref b)]) hx hb dL_law_317 hl (by decide) rfl (fun ls hl => ?_)
    refine lv_aload_n hx hb dL_law_319 rfl (lv_at hl 3 rfl) ?_
    refine lv_aload_n hx hb dL_law_320 rfl (lv_at hl 5 rfl) ?_
    refine lv_iload hx hb dL_law_321 (lv_at hl 1 rfl) ?_
    refine lv_iconst (v := 1) hx hb dL_law_323 (by decide) ?_
    refine lv_iadd hx hb dL_law_324 ?_
    refine lv_topi (fun y9 ey9 => ?_)
    obtain rfl : y9 = 49 := by rw [ey9] <;> decide
    refine va_sld hx hb hX hbl hbA hS (zx_bn (by decide)) dL_law_325 ?_
    refine lv_topi (fun y9 ey9 => ?_)
    obtain rfl : y9 = 0 := ey9.trans (by decide)
    refine lv_aload_n hx hb dL_law_326 rfl (lv_at hl 5 rfl) ?_
    refine lv_iload hx hb dL_law_327 (lv_at hl 1 rfl) ?_
    refine lv_iconst (v := 2) hx hb dL_law_329 (by decide) ?_
    refine lv_iadd hx hb dL_law_330 ?_
    refine lv_topi (fun y9 ey9 => ?_)
    obtain rfl : y9 = 50 := by rw [ey9] <;> decide
    refine va_sld hx hb hX hbl hbA hS (zx_bn (by decide)) dL_law_331 ?_
    refine lv_topi (fun y9 ey9 => ?_)
    obtain rfl : y9 = 0 := ey9.trans (by decide)
    have hPc := hP.sub (ws' := [(m0, .inr (20, [.int 0, .ref mp, .int 0, .ref b1, .ref b2, .ref b3, .ref b4, .ref b5, .ref mq])), (mp, .inr (4, [.int mm, .ref ep, .int 8])), (ep, .inl (cy 2, 10, .inr (.inr (.inr (.inr gp)))))]) [2, 3, 4] rfl
    have hDc := hD.sub (ws' := [(m0, .inr (20, [.int 0, .ref mp, .int 0, .ref b1, .ref b2, .ref b3, .ref b4, .ref b5, .ref mq])), (mp, .inr (4, [.int mm, .ref ep, .int 8])), (ep, .inl (cy 2, 10, .inr (.inr (.inr (.inr gp)))))]) [2, 3, 4] (by decide) rfl
    have hFc := va_free (wc := [(m0, .inr (20, [.int 0, .ref mp, .int 0, .ref b1, .ref b2, .ref b3, .ref b4, .ref b5, .ref mq])), (mp, .inr (4, [.int mm, .ref ep, .int 8])), (ep, .inl (cy 2, 10, .inr (.inr (.inr (.inr gp)))))]) hD hS hA [2, 3, 4] rfl
    refine va_calli (va_runV (As := [.int 0, .int 0]) (rest := []) ⟨hx, hb, hml, hown, hts⟩ (c_X15_addPerson_8 l hst D cy ed H.size m0 mp mq b1 b2 b3 b4 b5 0 0 mm ep gp) (cwV 2 hts (zx_GV mm_1603 mm_1604 mm_1605 mm_78 mm_1606) rfl rfl rfl (by decide +kernel) ⟨(Nat.le_of_ble_eq_true rfl), (Nat.le_of_ble_eq_true rfl)⟩) ⟨zx_blind, va_recv hK hPc (ci := 20) (q0 := 0) rfl rfl, zx_give hPc hK hDc hS hFc hZ hN⟩ rfl rfl hl.1 rfl (lv_room (Nat.le_of_ble_eq_true rfl)) dL_law_332 ⟨(Nat.le_of_ble_eq_true rfl), (Nat.le_of_ble_eq_true rfl)⟩) hS (fun q _ h => hFc q h) hFc (fun r9 u t H1 locs ht hvm hw hB hz1 hk1 hS => ?_)
    obtain ⟨mx_1421, qx_1422, g2_1423, y_1424, fy_1425⟩ := u
    obtain ⟨rfl, h_1426⟩ := hw
    obtain ⟨hP, hD⟩ := zx_join (wr := [(ro, .inl (cy 0, 20, .inl f0)), (pa, .inr (4, [.int mc, .ref ed, .int 0])), (mq, .inr (4, [.int mn, .ref ed, .int 0])), (p0, .inr (17, t0)), (p1, .inr (17, t1)), (p2, .inr (17, t2)), (p3, .inr (17, t3)), (p4, .inr (17, t4)), (p5, .inr (17, t5)), (p6, .inr (17, t6)), (p7, .inr (17, t7)), (h, .inr (13, [.ref pe, .ref ne, .ref pa, .ref ro, .int 0])), (pe, .inr (9, [.int 9, .ref a1, .ref a2, .ref a3, .ref a4, .ref a5, .ref a6, .ref a7, .ref a8, .ref a9])), (a1, .inl (cy 0, 20, .inl f3_1417)), (a2, .inl (cy 0, 20, .inl f4_1418)), (oa, .inl (cy 3, 1, .inr (.inl o2_1419)))]) (w1 := [(m0, .inr (20, [.int 0, .ref mp, .int 0, .ref b1, .ref b2, .ref b3, .ref b4, .ref b5, .ref mq])), (mp, .inr (4, [.int mx_1421, .ref qx_1422, .int 9])), (qx_1422, .inl (cy 2, 10, .inr (.inr (.inr (.inr g2_1423))))), (y_1424, .inr (17, fy_1425))]) [2, 3, 4] [0, 1, 5, 6, 7, 8, 9, 10, 11, 12, 13, 14, 15, 16, 17, 18] rfl rfl (by decide) (by decide) hP hD hk1 hFc hB ht
    generalize H1 = H at hP hS ⊢
    have hP : va_P D vwCl [(ro, .inl (cy 0, 20, .inl f0)), (pa, .inr (4, [.int mc, .ref ed, .int 0])), (mq, .inr (4, [.int mn, .ref ed, .int 0])), (p0, .inr (17, t0)), (p1, .inr (17, t1)), (p2, .inr (17, t2)), (p3, .inr (17, t3)), (p4, .inr (17, t4)), (p5, .inr (17, t5)), (p6, .inr (17, t6)), (p7, .inr (17, t7)), (h, .inr (13, [.ref pe, .ref ne, .ref pa, .ref ro, .int 0])), (pe, .inr (9, [.int 9, .ref a1, .ref a2, .ref a3, .ref a4, .ref a5, .ref a6, .ref a7, .ref a8, .ref a9])), (a1, .inl (cy 0, 20, .inl f3_1417)), (a2, .inl (cy 0, 20, .inl f4_1418)), (oa, .inl (cy 3, 1, .inr (.inl o2_1419))), (m0, .inr (20, [.int 0, .ref mp, .int 0, .ref b1, .ref b2, .ref b3, .ref b4, .ref b5, .ref mq])), (mp, .inr (4, [.int mx_1421, .ref qx_1422, .int 9])), (qx_1422, .inl (cy 2, 10, .inr (.inr (.inr (.inr g2_1423))))), (y_1424, .inr (17, fy_1425))] H := hP
    have hD : va_D A [(ro, .inl (cy 0, 20, .inl f0)), (pa, .inr (4, [.int mc, .ref ed, .int 0])), (mq, .inr (4, [.int mn, .ref ed, .int 0])), (p0, .inr (17, t0)), (p1, .inr (17, t1)), (p2, .inr (17, t2)), (p3, .inr (17, t3)), (p4, .inr (17, t4)), (p5, .inr (17, t5)), (p6, .inr (17, t6)), (p7, .inr (17, t7)), (h, .inr (13, [.ref pe, .ref ne, .ref pa, .ref ro, .int 0])), (pe, .inr (9, [.int 9, .ref a1, .ref a2, .ref a3, .ref a4, .ref a5, .ref a6, .ref a7, .ref a8, .ref a9])), (a1, .inl (cy 0, 20, .inl f3_1417)), (a2, .inl (cy 0, 20, .inl f4_1418)), (oa, .inl (cy 3, 1, .inr (.inl o2_1419))), (m0, .inr (20, [.int 0, .ref mp, .int 0, .ref b1, .ref b2, .ref b3, .ref b4, .ref b5, .ref mq])), (mp, .inr (4, [.int mx_1421, .ref qx_1422, .int 9])), (qx_1422, .inl (cy 2, 10, .inr (.inr (.inr (.inr g2_1423))))), (y_1424, .inr (17, fy_1425))] := hD
    refine W.widen (k := 68) (n := 1580) (Nat.le_of_ble_eq_true rfl) (Nat.le_of_ble_eq_true rfl) ?_
    obtain ⟨hs_1427, hs_1428⟩ := h_1426
    refine lv_istore (lv' := [(7, .int 8), (6, .int 0), (5, .int 48), (3, .ref oa), (2, .ref m0), (1, .ref h), (0, .ref b)]) hx hb dL_law_335 hl (by decide) rfl (fun ls hl => ?_)
    refine lv_aload_n hx hb dL_law_337 rfl (lv_at hl 4 rfl) ?_
    have hPc := hP.sub (ws' := [(m0, .inr (20, [.int 0, .ref mp, .int 0, .ref b1, .ref b2, .ref b3, .ref b4, .ref b5, .ref mq]))]) [16] rfl
    have hDc := hD.sub (ws' := [(m0, .inr (20, [.int 0, .ref mp, .int 0, .ref b1, .ref b2, .ref b3, .ref b4, .ref b5, .ref mq]))]) [16] (by decide) rfl
    have hFc := va_free (wc := [(m0, .inr (20, [.int 0, .ref mp, .int 0, .ref b1, .ref b2, .ref b3, .ref b4, .ref b5, .ref mq]))]) hD hS hA [16] rfl
    refine va_calli (va_runV (As := []) (rest := []) ⟨hx, hb, hml, hown, hts⟩ (c_X15_thrown l hst D cy ed H.size m0 mp mq b1 b2 b3 b4 b5 0 0) (cwV 0 hts (zx_GV mm_1599 mm_1600 mm_1601 mm_78 mm_1602) rfl rfl rfl (by decide +kernel) ⟨(Nat.le_of_ble_eq_true rfl), (Nat.le_of_ble_eq_true rfl)⟩) ⟨zx_blind, va_recv hK hPc (ci := 20) (q0 := 0) rfl rfl, zx_give hPc hK hDc hS hFc hZ hN⟩ rfl rfl hl.1 rfl (lv_room (Nat.le_of_ble_eq_true rfl)) dL_law_338 ⟨(Nat.le_of_ble_eq_true rfl), (Nat.le_of_ble_eq_true rfl)⟩) hS (fun q _ h => hFc q h) hFc (fun r9 u t H1 locs ht hvm hw hB hz1 hk1 hS => ?_)
    obtain rfl : r9 = 0 := hw
    obtain ⟨hP, hD⟩ := zx_join (wr := [(ro, .inl (cy 0, 20, .inl f0)), (pa, .inr (4, [.int mc, .ref ed, .int 0])), (mq, .inr (4, [.int mn, .ref ed, .int 0])), (p0, .inr (17, t0)), (p1, .inr (17, t1)), (p2, .inr (17, t2)), (p3, .inr (17, t3)), (p4, .inr (17, t4)), (p5, .inr (17, t5)), (p6, .inr (17, t6)), (p7, .inr (17, t7)), (h, .inr (13, [.ref pe, .ref ne, .ref pa, .ref ro, .int 0])), (pe, .inr (9, [.int 9, .ref a1, .ref a2, .ref a3, .ref a4, .ref a5, .ref a6, .ref a7, .ref a8, .ref a9])), (a1, .inl (cy 0, 20, .inl f3_1417)), (a2, .inl (cy 0, 20, .inl f4_1418)), (oa, .inl (cy 3, 1, .inr (.inl o2_1419))), (mp, .inr (4, [.int mx_1421, .ref qx_1422, .int 9])), (qx_1422, .inl (cy 2, 10, .inr (.inr (.inr (.inr g2_1423))))), (y_1424, .inr (17, fy_1425))]) (w1 := [(m0, .inr (20, [.int 0, .ref mp, .int 0, .ref b1, .ref b2, .ref b3, .ref b4, .ref b5, .ref mq]))]) [16] [0, 1, 2, 3, 4, 5, 6, 7, 8, 9, 10, 11, 12, 13, 14, 15, 17, 18, 19] rfl rfl (by decide) (by decide) hP hD hk1 hFc hB ht
    generalize H1 = H at hP hS ⊢
    have hP : va_P D vwCl [(ro, .inl (cy 0, 20, .inl f0)), (pa, .inr (4, [.int mc, .ref ed, .int 0])), (mq, .inr (4, [.int mn, .ref ed, .int 0])), (p0, .inr (17, t0)), (p1, .inr (17, t1)), (p2, .inr (17, t2)), (p3, .inr (17, t3)), (p4, .inr (17, t4)), (p5, .inr (17, t5)), (p6, .inr (17, t6)), (p7, .inr (17, t7)), (h, .inr (13, [.ref pe, .ref ne, .ref pa, .ref ro, .int 0])), (pe, .inr (9, [.int 9, .ref a1, .ref a2, .ref a3, .ref a4, .ref a5, .ref a6, .ref a7, .ref a8, .ref a9])), (a1, .inl (cy 0, 20, .inl f3_1417)), (a2, .inl (cy 0, 20, .inl f4_1418)), (oa, .inl (cy 3, 1, .inr (.inl o2_1419))), (mp, .inr (4, [.int mx_1421, .ref qx_1422, .int 9])), (qx_1422, .inl (cy 2, 10, .inr (.inr (.inr (.inr g2_1423))))), (y_1424, .inr (17, fy_1425)), (m0, .inr (20, [.int 0, .ref mp, .int 0, .ref b1, .ref b2, .ref b3, .ref b4, .ref b5, .ref mq]))] H := hP
    have hD : va_D A [(ro, .inl (cy 0, 20, .inl f0)), (pa, .inr (4, [.int mc, .ref ed, .int 0])), (mq, .inr (4, [.int mn, .ref ed, .int 0])), (p0, .inr (17, t0)), (p1, .inr (17, t1)), (p2, .inr (17, t2)), (p3, .inr (17, t3)), (p4, .inr (17, t4)), (p5, .inr (17, t5)), (p6, .inr (17, t6)), (p7, .inr (17, t7)), (h, .inr (13, [.ref pe, .ref ne, .ref pa, .ref ro, .int 0])), (pe, .inr (9, [.int 9, .ref a1, .ref a2, .ref a3, .ref a4, .ref a5, .ref a6, .ref a7, .ref a8, .ref a9])), (a1, .inl (cy 0, 20, .inl f3_1417)), (a2, .inl (cy 0, 20, .inl f4_1418)), (oa, .inl (cy 3, 1, .inr (.inl o2_1419))), (mp, .inr (4, [.int mx_1421, .ref qx_1422, .int 9])), (qx_1422, .inl (cy 2, 10, .inr (.inr (.inr (.inr g2_1423))))), (y_1424, .inr (17, fy_1425)), (m0, .inr (20, [.int 0, .ref mp, .int 0, .ref b1, .ref b2, .ref b3, .ref b4, .ref b5, .ref mq]))] := hD
    refine W.widen (k := 68) (n := 1580) (Nat.le_of_ble_eq_true rfl) (Nat.le_of_ble_eq_true rfl) ?_
    refine lv_iload hx hb dL_law_341 (lv_at hl 1 rfl) ?_
    refine lv_icmp_eq (tgt := 348) hx hb dL_law_343 (by decide) (fun _ => ?_) (fun c_1429 => absurd (by decide) c_1429)
    refine lv_iload hx hb dL_law_348 (lv_at hl 1 rfl) ?_
    refine lv_if_ne (tgt := 365) hx hb dL_law_350 (by decide) (fun c_1430 => absurd c_1430 (by decide)) (fun _ => ?_)
    refine lv_aload_n hx hb dL_law_353 rfl (lv_at hl 3 rfl) ?_
    refine lv_iconst (v := 0) hx hb dL_law_354 (by decide) ?_
    refine va_lald hx hb hK hP 15 3 rfl rfl (zx_bn (by decide)) dL_law_355 ?_
    refine lv_iload hx hb dL_law_356 (lv_at hl 0 rfl) ?_
    refine lv_i2l (v := 8) hx hb dL_law_358 rfl ?_
    refine W.lcmp hx hb dL_law_359 ?_
    refine lv_topi (fun y9 ey9 => ?_)
    obtain rfl : y9 = 0 := ey9.trans (zx_lcmpe h_1420)
    refine lv_if_eq (tgt := 365) hx hb dL_law_360 (by decide) (fun _ => ?_) (fun c_1431 => absurd (by decide) c_1431)
    refine lv_goto (tgt := 4257) hx hb dL_law_365 (by decide) ?_
    refine lv_iinc (v := 54) (lv' := [(5, .int 54), (7, .int 8), (6, .int 0), (3, .ref oa), (2, .ref m0), (1, .ref h), (0, .ref b)]) hx hb dL_law_4257 hl (k := 2) rfl (by decide) (by decide) rfl (fun ls hl => ?_)
    refine lv_goto (tgt := 28) hx hb dL_law_4260 (by decide) ?_
    have hP := hP.sub (ws' := [(h, .inr (13, [.ref pe, .ref ne, .ref pa, .ref ro, .int 0])), (pe, .inr (9, [.int 9, .ref a1, .ref a2, .ref a3, .ref a4, .ref a5, .ref a6, .ref a7, .ref a8, .ref a9])), (a1, .inl (cy 0, 20, .inl f3_1417)), (a2, .inl (cy 0, 20, .inl f4_1418)), (ro, .inl (cy 0, 20, .inl f0)), (pa, .inr (4, [.int mc, .ref ed, .int 0])), (m0, .inr (20, [.int 0, .ref mp, .int 0, .ref b1, .ref b2, .ref b3, .ref b4, .ref b5, .ref mq])), (mp, .inr (4, [.int mx_1421, .ref qx_1422, .int 9])), (qx_1422, .inl (cy 2, 10, .inr (.inr (.inr (.inr g2_1423))))), (mq, .inr (4, [.int mn, .ref ed, .int 0])), (oa, .inl (cy 3, 1, .inr (.inl o2_1419))), (p0, .inr (17, t0)), (p1, .inr (17, t1)), (p2, .inr (17, t2)), (p3, .inr (17, t3)), (p4, .inr (17, t4)), (p5, .inr (17, t5)), (p6, .inr (17, t6)), (p7, .inr (17, t7)), (y_1424, .inr (17, fy_1425))]) [11, 12, 13, 14, 0, 1, 19, 16, 17, 2, 15, 3, 4, 5, 6, 7, 8, 9, 10, 18] rfl
    have hD := hD.sub (ws' := [(h, .inr (13, [.ref pe, .ref ne, .ref pa, .ref ro, .int 0])), (pe, .inr (9, [.int 9, .ref a1, .ref a2, .ref a3, .ref a4, .ref a5, .ref a6, .ref a7, .ref a8, .ref a9])), (a1, .inl (cy 0, 20, .inl f3_1417)), (a2, .inl (cy 0, 20, .inl f4_1418)), (ro, .inl (cy 0, 20, .inl f0)), (pa, .inr (4, [.int mc, .ref ed, .int 0])), (m0, .inr (20, [.int 0, .ref mp, .int 0, .ref b1, .ref b2, .ref b3, .ref b4, .ref b5, .ref mq])), (mp, .inr (4, [.int mx_1421, .ref qx_1422, .int 9])), (qx_1422, .inl (cy 2, 10, .inr (.inr (.inr (.inr g2_1423))))), (mq, .inr (4, [.int mn, .ref ed, .int 0])), (oa, .inl (cy 3, 1, .inr (.inl o2_1419))), (p0, .inr (17, t0)), (p1, .inr (17, t1)), (p2, .inr (17, t2)), (p3, .inr (17, t3)), (p4, .inr (17, t4)), (p5, .inr (17, t5)), (p6, .inr (17, t6)), (p7, .inr (17, t7)), (y_1424, .inr (17, fy_1425))]) [11, 12, 13, 14, 0, 1, 19, 16, 17, 2, 15, 3, 4, 5, 6, 7, 8, 9, 10, 18] (by decide) rfl
    exact hnext _ _ _ ⟨pe, ne, pa, ro, a1, a2, a3, a4, a5, a6, a7, a8, a9, mp, mq, b1, b2, b3, b4, b5, qx_1422, mc, mx_1421, mn, f3_1417, f4_1418, f0, o2_1419, g2_1423, p0, p1, p2, p3, p4, p5, p6, p7, y_1424, t0, t1, t2, t3, t4, t5, t6, t7, fy_1425, hP, hD, ((hs_1428 0 (by decide)).trans hp0), ((hs_1428 1 (by decide)).trans hp1), ((hs_1428 2 (by decide)).trans hp2), ((hs_1428 3 (by decide)).trans hp3), ((hs_1428 4 (by decide)).trans hp4), ((hs_1428 5 (by decide)).trans hp5), ((hs_1428 6 (by decide)).trans hp6), ((hs_1428 7 (by decide)).trans hp7), hs_1427⟩ hS (lv_sub hl [0, 3, 4, 5, 6] rfl)
set_option maxHeartbeats 4000000 in
set_option maxRecDepth 100000 in
theorem law_step_9 {p : Program} {l : Launch} {e : Env} {s : State} {m : MethodId} {below : List Frame} {meth : Method} {c : Code} {D : va_G} {cy : Nat → ClassId} {ed b : Nat} {A : Nat → Prop} {Q : State → Prop} (C0 : zx_LW p l s m c D cy ed b A) {h m0 oa : Nat} {H : Heap} {locs : List Loc} {ls : Array Slot} (h0 : zx_S9 D cy ed A h m0 oa H) (hS : va_S A s.heap H locs) (hl : lv_has ls 9 [(5, .int 54), (3, .ref oa), (2, .ref m0), (1, .ref h), (0, .ref b)])
    (hnext : ∀ (H : Heap) (locs : List Loc) (ls : Array Slot), zx_S10 D cy ed A h m0 oa H → va_S A s.heap H locs → lv_has ls 9 [(5, .int 60), (3, .ref oa), (2, .ref m0), (1, .ref h), (0, .ref b)] → W p l e zx_R s m #[Value.ref b] below meth c H locs 71 1610 Q (F0 m 28 ls [])) :
    W p l e zx_R s m #[Value.ref b] below meth c H locs 68 1580 Q (F0 m 28 ls []) := by
  obtain ⟨hx, hb, hml, hst, hown, hts, hX, hbl, hbA, hA, hK, hZ, hN⟩ := C0
  obtain ⟨pe, ne, pa, ro, a1, a2, a3, a4, a5, a6, a7, a8, a9, mp, mq, b1, b2, b3, b4, b5, ep, mc, mm, mn, f1, f2, f0, og, gp, p0, p1, p2, p3, p4, p5, p6, p7, p8, t0, t1, t2, t3, t4, t5, t6, t7, t8, hP, hD, hp0, hp1, hp2, hp3, hp4, hp5, hp6, hp7, hp8⟩ := h0
  refine lv_iload hx hb dL_law_28 (lv_at hl 0 rfl) ?_
  refine lv_aload_n hx hb dL_law_30 rfl (lv_at hl 4 rfl) ?_
  refine va_slen hx hb hX hbl hbA hS dL_law_31 ?_
  refine lv_topi (fun y9 ey9 => ?_)
  obtain rfl : y9 = 3072 := ey9.trans (by decide)
  refine lv_bipush (v := 6) hx hb dL_law_32 (by decide) ?_
  refine lv_isub hx hb dL_law_34 ?_
  refine lv_topi (fun y9 ey9 => ?_)
  obtain rfl : y9 = 3066 := by rw [ey9] <;> decide
  refine lv_icmp_gt (tgt := 4263) hx hb dL_law_35 (by decide) (fun c_1432 => absurd c_1432 (by decide)) (fun _ => ?_)
  refine lv_aload_n hx hb dL_law_38 rfl (lv_at hl 4 rfl) ?_
  refine lv_iload hx hb dL_law_39 (lv_at hl 0 rfl) ?_
  refine va_sld hx hb hX hbl hbA hS (zx_bn (by decide)) dL_law_41 ?_
  refine lv_topi (fun y9 ey9 => ?_)
  obtain rfl : y9 = 0 := ey9.trans (by decide)
  refine lv_bipush (v := 63) hx hb dL_law_42 (by decide) ?_
  refine lv_iand hx hb dL_law_44 ?_
  refine lv_topi (fun y9 ey9 => ?_)
  obtain rfl : y9 = 0 := by rw [ey9] <;> decide
  refine lv_tableIn (off := 255) (tgt := 300) hx hb dL_law_45 (by decide) (by decide) (by decide) (by decide) ?_
  refine lv_aload_n hx hb dL_law_300 rfl (lv_at hl 3 rfl) ?_
  refine lv_aload_n hx hb dL_law_301 rfl (lv_at hl 4 rfl) ?_
  refine lv_iload hx hb dL_law_302 (lv_at hl 0 rfl) ?_
  refine lv_iconst (v := 1) hx hb dL_law_304 (by decide) ?_
  refine lv_iadd hx hb dL_law_305 ?_
  refine lv_topi (fun y9 ey9 => ?_)
  obtain rfl : y9 = 55 := by rw [ey9] <;> decide
  refine va_sld hx hb hX hbl hbA hS (zx_bn (by decide)) dL_law_306 ?_
  refine lv_topi (fun y9 ey9 => ?_)
  obtain rfl : y9 = 0 := ey9.trans (by decide)
  refine lv_aload_n hx hb dL_law_307 rfl (lv_at hl 4 rfl) ?_
  refine lv_iload hx hb dL_law_308 (lv_at hl 0 rfl) ?_
  refine lv_iconst (v := 2) hx hb dL_law_310 (by decide) ?_
  refine lv_iadd hx hb dL_law_311 ?_
  refine lv_topi (fun y9 ey9 => ?_)
  obtain rfl : y9 = 56 := by rw [ey9] <;> decide
  refine va_sld hx hb hX hbl hbA hS (zx_bn (by decide)) dL_law_312 ?_
  refine lv_topi (fun y9 ey9 => ?_)
  obtain rfl : y9 = 0 := ey9.trans (by decide)
  refine lv_aload_n hx hb dL_law_313 rfl (lv_at hl 1 rfl) ?_
  have hPc := hP.sub (ws' := [(h, .inr (13, [.ref pe, .ref ne, .ref pa, .ref ro, .int 0])), (pe, .inr (9, [.int 9, .ref a1, .ref a2, .ref a3, .ref a4, .ref a5, .ref a6, .ref a7, .ref a8, .ref a9])), (a1, .inl (cy 0, 20, .inl f1)), (a2, .inl (cy 0, 20, .inl f2)), (oa, .inl (cy 3, 1, .inr (.inl og)))]) [0, 1, 2, 3, 10] rfl
  have hDc := hD.sub (ws' := [(h, .inr (13, [.ref pe, .ref ne, .ref pa, .ref ro, .int 0])), (pe, .inr (9, [.int 9, .ref a1, .ref a2, .ref a3, .ref a4, .ref a5, .ref a6, .ref a7, .ref a8, .ref a9])), (a1, .inl (cy 0, 20, .inl f1)), (a2, .inl (cy 0, 20, .inl f2)), (oa, .inl (cy 3, 1, .inr (.inl og)))]) [0, 1, 2, 3, 10] (by decide) rfl
  have hFc := va_free (wc := [(h, .inr (13, [.ref pe, .ref ne, .ref pa, .ref ro, .int 0])), (pe, .inr (9, [.int 9, .ref a1, .ref a2, .ref a3, .ref a4, .ref a5, .ref a6, .ref a7, .ref a8, .ref a9])), (a1, .inl (cy 0, 20, .inl f1)), (a2, .inl (cy 0, 20, .inl f2)), (oa, .inl (cy 3, 1, .inr (.inl og)))]) hD hS hA [0, 1, 2, 3, 10] rfl
  refine vx_calli (vx_runSX (As := [.ref h, .int 0, .int 0, .ref oa]) (rest := []) ⟨hx, hb, hml, hown, hts⟩ (c_L_addPerson_9 l hst D cy ed H.size h pe ne pa ro 0 a1 a2 a3 a4 a5 a6 a7 a8 a9 f1 f2 oa og) (vx_cwSW 4 hts (zx_GS mm_329 mm_330 mm_70 mm_331) rfl rfl rfl (by decide +kernel) ⟨(Nat.le_of_ble_eq_true rfl), (Nat.le_of_ble_eq_true rfl)⟩) ⟨zx_blind, zx_give hPc hK hDc hS hFc hZ hN⟩ rfl rfl hl.1 rfl (lv_room (Nat.le_of_ble_eq_true rfl)) dL_law_314 ⟨(Nat.le_of_ble_eq_true rfl), (Nat.le_of_ble_eq_true rfl)⟩) hS (fun q _ h => hFc q h) hFc (fun q _ h => hFc q h) (fun E9 ce9 q9 _ t H locs ht hvm _ hBX hz1 hk1 hS hce hcv hcl => ?_) (fun r9 u t H locs ht hvm hw hB hz1 hk1 hS => ?_)
  · exact hBX.elim
  ·
    obtain ⟨f3_1433, f4_1434, o2_1435⟩ := u
    obtain ⟨rfl, h_1436⟩ := hw
    obtain ⟨hP, hD⟩ := zx_join (wr := [(ro, .inl (cy 0, 20, .inl f0)), (pa, .inr (4, [.int mc, .ref ed, .int 0])), (m0, .inr (20, [.int 0, .ref mp, .int 0, .ref b1, .ref b2, .ref b3, .ref b4, .ref b5, .ref mq])), (mp, .inr (4, [.int mm, .ref ep, .int 9])), (ep, .inl (cy 2, 10, .inr (.inr (.inr (.inr gp))))), (mq, .inr (4, [.int mn, .ref ed, .int 0])), (p0, .inr (17, t0)), (p1, .inr (17, t1)), (p2, .inr (17, t2)), (p3, .inr (17, t3)), (p4, .inr (17, t4)), (p5, .inr (17, t5)), (p6, .inr (17, t6)), (p7, .inr (17, t7)), (p8, .inr (17, t8))]) (w1 := [(h, .inr (13, [.ref pe, .ref ne, .ref pa, .ref ro, .int 0])), (pe, .inr (9, [.int 10, .ref a1, .ref a2, .ref a3, .ref a4, .ref a5, .ref a6, .ref a7, .ref a8, .ref a9])), (a1, .inl (cy 0, 20, .inl f3_1433)), (a2, .inl (cy 0, 20, .inl f4_1434)), (oa, .inl (cy 3, 1, .inr (.inl o2_1435)))]) [0, 1, 2, 3, 10] [4, 5, 6, 7, 8, 9, 11, 12, 13, 14, 15, 16, 17, 18, 19] rfl rfl (by decide) (by decide) hP hD hk1 hFc hB ht
    have hP : va_P D vwCl [(ro, .inl (cy 0, 20, .inl f0)), (pa, .inr (4, [.int mc, .ref ed, .int 0])), (m0, .inr (20, [.int 0, .ref mp, .int 0, .ref b1, .ref b2, .ref b3, .ref b4, .ref b5, .ref mq])), (mp, .inr (4, [.int mm, .ref ep, .int 9])), (ep, .inl (cy 2, 10, .inr (.inr (.inr (.inr gp))))), (mq, .inr (4, [.int mn, .ref ed, .int 0])), (p0, .inr (17, t0)), (p1, .inr (17, t1)), (p2, .inr (17, t2)), (p3, .inr (17, t3)), (p4, .inr (17, t4)), (p5, .inr (17, t5)), (p6, .inr (17, t6)), (p7, .inr (17, t7)), (p8, .inr (17, t8)), (h, .inr (13, [.ref pe, .ref ne, .ref pa, .ref ro, .int 0])), (pe, .inr (9, [.int 10, .ref a1, .ref a2, .ref a3, .ref a4, .ref a5, .ref a6, .ref a7, .ref a8, .ref a9])), (a1, .inl (cy 0, 20, .inl f3_1433)), (a2, .inl (cy 0, 20, .inl f4_1434)), (oa, .inl (cy 3, 1, .inr (.inl o2_1435)))] H := hP
    have hD : va_D A [(ro, .inl (cy 0, 20, .inl f0)), (pa, .inr (4, [.int mc, .ref ed, .int 0])), (m0, .inr (20, [.int 0, .ref mp, .int 0, .ref b1, .ref b2, .ref b3, .ref b4, .ref b5, .ref mq])), (mp, .inr (4, [.int mm, .ref ep, .int 9])), (ep, .inl (cy 2, 10, .inr (.inr (.inr (.inr gp))))), (mq, .inr (4, [.int mn, .ref ed, .int 0])), (p0, .inr (17, t0)), (p1, .inr (17, t1)), (p2, .inr (17, t2)), (p3, .inr (17, t3)), (p4, .inr (17, t4)), (p5, .inr (17, t5)), (p6, .inr (17, t6)), (p7, .inr (17, t7)), (p8, .inr (17, t8)), (h, .inr (13, [.ref pe, .ref ne, .ref pa, .ref ro, .int 0])), (pe, .inr (9, [.int 10, .ref a1, .ref a2, .ref a3, .ref a4, .ref a5, .ref a6, .ref a7, .ref a8, .ref a9])), (a1, .inl (cy 0, 20, .inl f3_1433)), (a2, .inl (cy 0, 20, .inl f4_1434)), (oa, .inl (cy 3, 1, .inr (.inl o2_1435)))] := hD
    refine W.widen (k := 68) (n := 1580) (Nat.le_of_ble_eq_true rfl) (Nat.le_of_ble_eq_true rfl) ?_
    refine lv_istore (lv' := [(6, .int 0), (5, .int 54), (3, .ref oa), (2, .ref m0), (1, .ref h), (0, .ref b)]) hx hb dL_law_317 hl (by decide) rfl (fun ls hl => ?_)
    refine lv_aload_n hx hb dL_law_319 rfl (lv_at hl 3 rfl) ?_
    refine lv_aload_n hx hb dL_law_320 rfl (lv_at hl 5 rfl) ?_
    refine lv_iload hx hb dL_law_321 (lv_at hl 1 rfl) ?_
    refine lv_iconst (v := 1) hx hb dL_law_323 (by decide) ?_
    refine lv_iadd hx hb dL_law_324 ?_
    refine lv_topi (fun y9 ey9 => ?_)
    obtain rfl : y9 = 55 := by rw [ey9] <;> decide
    refine va_sld hx hb hX hbl hbA hS (zx_bn (by decide)) dL_law_325 ?_
    refine lv_topi (fun y9 ey9 => ?_)
    obtain rfl : y9 = 0 := ey9.trans (by decide)
    refine lv_aload_n hx hb dL_law_326 rfl (lv_at hl 5 rfl) ?_
    refine lv_iload hx hb dL_law_327 (lv_at hl 1 rfl) ?_
    refine lv_iconst (v := 2) hx hb dL_law_329 (by decide) ?_
    refine lv_iadd hx hb dL_law_330 ?_
    refine lv_topi (fun y9 ey9 => ?_)
    obtain rfl : y9 = 56 := by rw [ey9] <;> decide
    refine va_sld hx hb hX hbl hbA hS (zx_bn (by decide)) dL_law_331 ?_
    refine lv_topi (fun y9 ey9 => ?_)
    obtain rfl : y9 = 0 := ey9.trans (by decide)
    have hPc := hP.sub (ws' := [(m0, .inr (20, [.int 0, .ref mp, .int 0, .ref b1, .ref b2, .ref b3, .ref b4, .ref b5, .ref mq])), (mp, .inr (4, [.int mm, .ref ep, .int 9])), (ep, .inl (cy 2, 10, .inr (.inr (.inr (.inr gp)))))]) [2, 3, 4] rfl
    have hDc := hD.sub (ws' := [(m0, .inr (20, [.int 0, .ref mp, .int 0, .ref b1, .ref b2, .ref b3, .ref b4, .ref b5, .ref mq])), (mp, .inr (4, [.int mm, .ref ep, .int 9])), (ep, .inl (cy 2, 10, .inr (.inr (.inr (.inr gp)))))]) [2, 3, 4] (by decide) rfl
    have hFc := va_free (wc := [(m0, .inr (20, [.int 0, .ref mp, .int 0, .ref b1, .ref b2, .ref b3, .ref b4, .ref b5, .ref mq])), (mp, .inr (4, [.int mm, .ref ep, .int 9])), (ep, .inl (cy 2, 10, .inr (.inr (.inr (.inr gp)))))]) hD hS hA [2, 3, 4] rfl
    refine va_calli (va_runV (As := [.int 0, .int 0]) (rest := []) ⟨hx, hb, hml, hown, hts⟩ (c_X15_addPerson_9 l hst D cy ed H.size m0 mp mq b1 b2 b3 b4 b5 0 0 mm ep gp) (cwV 2 hts (zx_GV mm_1603 mm_1604 mm_1605 mm_78 mm_1606) rfl rfl rfl (by decide +kernel) ⟨(Nat.le_of_ble_eq_true rfl), (Nat.le_of_ble_eq_true rfl)⟩) ⟨zx_blind, va_recv hK hPc (ci := 20) (q0 := 0) rfl rfl, zx_give hPc hK hDc hS hFc hZ hN⟩ rfl rfl hl.1 rfl (lv_room (Nat.le_of_ble_eq_true rfl)) dL_law_332 ⟨(Nat.le_of_ble_eq_true rfl), (Nat.le_of_ble_eq_true rfl)⟩) hS (fun q _ h => hFc q h) hFc (fun r9 u t H1 locs ht hvm hw hB hz1 hk1 hS => ?_)
    obtain ⟨mx_1437, qx_1438, g2_1439, y_1440, fy_1441⟩ := u
    obtain ⟨rfl, h_1442⟩ := hw
    obtain ⟨hP, hD⟩ := zx_join (wr := [(ro, .inl (cy 0, 20, .inl f0)), (pa, .inr (4, [.int mc, .ref ed, .int 0])), (mq, .inr (4, [.int mn, .ref ed, .int 0])), (p0, .inr (17, t0)), (p1, .inr (17, t1)), (p2, .inr (17, t2)), (p3, .inr (17, t3)), (p4, .inr (17, t4)), (p5, .inr (17, t5)), (p6, .inr (17, t6)), (p7, .inr (17, t7)), (p8, .inr (17, t8)), (h, .inr (13, [.ref pe, .ref ne, .ref pa, .ref ro, .int 0])), (pe, .inr (9, [.int 10, .ref a1, .ref a2, .ref a3, .ref a4, .ref a5, .ref a6, .ref a7, .ref a8, .ref a9])), (a1, .inl (cy 0, 20, .inl f3_1433)), (a2, .inl (cy 0, 20, .inl f4_1434)), (oa, .inl (cy 3, 1, .inr (.inl o2_1435)))]) (w1 := [(m0, .inr (20, [.int 0, .ref mp, .int 0, .ref b1, .ref b2, .ref b3, .ref b4, .ref b5, .ref mq])), (mp, .inr (4, [.int mx_1437, .ref qx_1438, .int 10])), (qx_1438, .inl (cy 2, 10, .inr (.inr (.inr (.inr g2_1439))))), (y_1440, .inr (17, fy_1441))]) [2, 3, 4] [0, 1, 5, 6, 7, 8, 9, 10, 11, 12, 13, 14, 15, 16, 17, 18, 19] rfl rfl (by decide) (by decide) hP hD hk1 hFc hB ht
    generalize H1 = H at hP hS ⊢
    have hP : va_P D vwCl [(ro, .inl (cy 0, 20, .inl f0)), (pa, .inr (4, [.int mc, .ref ed, .int 0])), (mq, .inr (4, [.int mn, .ref ed, .int 0])), (p0, .inr (17, t0)), (p1, .inr (17, t1)), (p2, .inr (17, t2)), (p3, .inr (17, t3)), (p4, .inr (17, t4)), (p5, .inr (17, t5)), (p6, .inr (17, t6)), (p7, .inr (17, t7)), (p8, .inr (17, t8)), (h, .inr (13, [.ref pe, .ref ne, .ref pa, .ref ro, .int 0])), (pe, .inr (9, [.int 10, .ref a1, .ref a2, .ref a3, .ref a4, .ref a5, .ref a6, .ref a7, .ref a8, .ref a9])), (a1, .inl (cy 0, 20, .inl f3_1433)), (a2, .inl (cy 0, 20, .inl f4_1434)), (oa, .inl (cy 3, 1, .inr (.inl o2_1435))), (m0, .inr (20, [.int 0, .ref mp, .int 0, .ref b1, .ref b2, .ref b3, .ref b4, .ref b5, .ref mq])), (mp, .inr (4, [.int mx_1437, .ref qx_1438, .int 10])), (qx_1438, .inl (cy 2, 10, .inr (.inr (.inr (.inr g2_1439))))), (y_1440, .inr (17, fy_1441))] H := hP
    have hD : va_D A [(ro, .inl (cy 0, 20, .inl f0)), (pa, .inr (4, [.int mc, .ref ed, .int 0])), (mq, .inr (4, [.int mn, .ref ed, .int 0])), (p0, .inr (17, t0)), (p1, .inr (17, t1)), (p2, .inr (17, t2)), (p3, .inr (17, t3)), (p4, .inr (17, t4)), (p5, .inr (17, t5)), (p6, .inr (17, t6)), (p7, .inr (17, t7)), (p8, .inr (17, t8)), (h, .inr (13, [.ref pe, .ref ne, .ref pa, .ref ro, .int 0])), (pe, .inr (9, [.int 10, .ref a1, .ref a2, .ref a3, .ref a4, .ref a5, .ref a6, .ref a7, .ref a8, .ref a9])), (a1, .inl (cy 0, 20, .inl f3_1433)), (a2, .inl (cy 0, 20, .inl f4_1434)), (oa, .inl (cy 3, 1, .inr (.inl o2_1435))), (m0, .inr (20, [.int 0, .ref mp, .int 0, .ref b1, .ref b2, .ref b3, .ref b4, .ref b5, .ref mq])), (mp, .inr (4, [.int mx_1437, .ref qx_1438, .int 10])), (qx_1438, .inl (cy 2, 10, .inr (.inr (.inr (.inr g2_1439))))), (y_1440, .inr (17, fy_1441))] := hD
    refine W.widen (k := 71) (n := 1610) (Nat.le_of_ble_eq_true rfl) (Nat.le_of_ble_eq_true rfl) ?_
    obtain ⟨hs_1443, hs_1444⟩ := h_1442
    refine lv_istore (lv' := [(7, .int 9), (6, .int 0), (5, .int 54), (3, .ref oa), (2, .ref m0), (1, .ref h), (0, .ref b)]) hx hb dL_law_335 hl (by decide) rfl (fun ls hl => ?_)
    refine lv_aload_n hx hb dL_law_337 rfl (lv_at hl 4 rfl) ?_
    have hPc := hP.sub (ws' := [(m0, .inr (20, [.int 0, .ref mp, .int 0, .ref b1, .ref b2, .ref b3, .ref b4, .ref b5, .ref mq]))]) [17] rfl
    have hDc := hD.sub (ws' := [(m0, .inr (20, [.int 0, .ref mp, .int 0, .ref b1, .ref b2, .ref b3, .ref b4, .ref b5, .ref mq]))]) [17] (by decide) rfl
    have hFc := va_free (wc := [(m0, .inr (20, [.int 0, .ref mp, .int 0, .ref b1, .ref b2, .ref b3, .ref b4, .ref b5, .ref mq]))]) hD hS hA [17] rfl
    refine va_calli (va_runV (As := []) (rest := []) ⟨hx, hb, hml, hown, hts⟩ (c_X15_thrown l hst D cy ed H.size m0 mp mq b1 b2 b3 b4 b5 0 0) (cwV 0 hts (zx_GV mm_1599 mm_1600 mm_1601 mm_78 mm_1602) rfl rfl rfl (by decide +kernel) ⟨(Nat.le_of_ble_eq_true rfl), (Nat.le_of_ble_eq_true rfl)⟩) ⟨zx_blind, va_recv hK hPc (ci := 20) (q0 := 0) rfl rfl, zx_give hPc hK hDc hS hFc hZ hN⟩ rfl rfl hl.1 rfl (lv_room (Nat.le_of_ble_eq_true rfl)) dL_law_338 ⟨(Nat.le_of_ble_eq_true rfl), (Nat.le_of_ble_eq_true rfl)⟩) hS (fun q _ h => hFc q h) hFc (fun r9 u t H1 locs ht hvm hw hB hz1 hk1 hS => ?_)
    obtain rfl : r9 = 0 := hw
    obtain ⟨hP, hD⟩ := zx_join (wr := [(ro, .inl (cy 0, 20, .inl f0)), (pa, .inr (4, [.int mc, .ref ed, .int 0])), (mq, .inr (4, [.int mn, .ref ed, .int 0])), (p0, .inr (17, t0)), (p1, .inr (17, t1)), (p2, .inr (17, t2)), (p3, .inr (17, t3)), (p4, .inr (17, t4)), (p5, .inr (17, t5)), (p6, .inr (17, t6)), (p7, .inr (17, t7)), (p8, .inr (17, t8)), (h, .inr (13, [.ref pe, .ref ne, .ref pa, .ref ro, .int 0])), (pe, .inr (9, [.int 10, .ref a1, .ref a2, .ref a3, .ref a4, .ref a5, .ref a6, .ref a7, .ref a8, .ref a9])), (a1, .inl (cy 0, 20, .inl f3_1433)), (a2, .inl (cy 0, 20, .inl f4_1434)), (oa, .inl (cy 3, 1, .inr (.inl o2_1435))), (mp, .inr (4, [.int mx_1437, .ref qx_1438, .int 10])), (qx_1438, .inl (cy 2, 10, .inr (.inr (.inr (.inr g2_1439))))), (y_1440, .inr (17, fy_1441))]) (w1 := [(m0, .inr (20, [.int 0, .ref mp, .int 0, .ref b1, .ref b2, .ref b3, .ref b4, .ref b5, .ref mq]))]) [17] [0, 1, 2, 3, 4, 5, 6, 7, 8, 9, 10, 11, 12, 13, 14, 15, 16, 18, 19, 20] rfl rfl (by decide) (by decide) hP hD hk1 hFc hB ht
    generalize H1 = H at hP hS ⊢
    have hP : va_P D vwCl [(ro, .inl (cy 0, 20, .inl f0)), (pa, .inr (4, [.int mc, .ref ed, .int 0])), (mq, .inr (4, [.int mn, .ref ed, .int 0])), (p0, .inr (17, t0)), (p1, .inr (17, t1)), (p2, .inr (17, t2)), (p3, .inr (17, t3)), (p4, .inr (17, t4)), (p5, .inr (17, t5)), (p6, .inr (17, t6)), (p7, .inr (17, t7)), (p8, .inr (17, t8)), (h, .inr (13, [.ref pe, .ref ne, .ref pa, .ref ro, .int 0])), (pe, .inr (9, [.int 10, .ref a1, .ref a2, .ref a3, .ref a4, .ref a5, .ref a6, .ref a7, .ref a8, .ref a9])), (a1, .inl (cy 0, 20, .inl f3_1433)), (a2, .inl (cy 0, 20, .inl f4_1434)), (oa, .inl (cy 3, 1, .inr (.inl o2_1435))), (mp, .inr (4, [.int mx_1437, .ref qx_1438, .int 10])), (qx_1438, .inl (cy 2, 10, .inr (.inr (.inr (.inr g2_1439))))), (y_1440, .inr (17, fy_1441)), (m0, .inr (20, [.int 0, .ref mp, .int 0, .ref b1, .ref b2, .ref b3, .ref b4, .ref b5, .ref mq]))] H := hP
    have hD : va_D A [(ro, .inl (cy 0, 20, .inl f0)), (pa, .inr (4, [.int mc, .ref ed, .int 0])), (mq, .inr (4, [.int mn, .ref ed, .int 0])), (p0, .inr (17, t0)), (p1, .inr (17, t1)), (p2, .inr (17, t2)), (p3, .inr (17, t3)), (p4, .inr (17, t4)), (p5, .inr (17, t5)), (p6, .inr (17, t6)), (p7, .inr (17, t7)), (p8, .inr (17, t8)), (h, .inr (13, [.ref pe, .ref ne, .ref pa, .ref ro, .int 0])), (pe, .inr (9, [.int 10, .ref a1, .ref a2, .ref a3, .ref a4, .ref a5, .ref a6, .ref a7, .ref a8, .ref a9])), (a1, .inl (cy 0, 20, .inl f3_1433)), (a2, .inl (cy 0, 20, .inl f4_1434)), (oa, .inl (cy 3, 1, .inr (.inl o2_1435))), (mp, .inr (4, [.int mx_1437, .ref qx_1438, .int 10])), (qx_1438, .inl (cy 2, 10, .inr (.inr (.inr (.inr g2_1439))))), (y_1440, .inr (17, fy_1441)), (m0, .inr (20, [.int 0, .ref mp, .int 0, .ref b1, .ref b2, .ref b3, .ref b4, .ref b5, .ref mq]))] := hD
    refine W.widen (k := 71) (n := 1610) (Nat.le_of_ble_eq_true rfl) (Nat.le_of_ble_eq_true rfl) ?_
    refine lv_iload hx hb dL_law_341 (lv_at hl 1 rfl) ?_
    refine lv_icmp_eq (tgt := 348) hx hb dL_law_343 (by decide) (fun _ => ?_) (fun c_1445 => absurd (by decide) c_1445)
    refine lv_iload hx hb dL_law_348 (lv_at hl 1 rfl) ?_
    refine lv_if_ne (tgt := 365) hx hb dL_law_350 (by decide) (fun c_1446 => absurd c_1446 (by decide)) (fun _ => ?_)
    refine lv_aload_n hx hb dL_law_353 rfl (lv_at hl 3 rfl) ?_
    refine lv_iconst (v := 0) hx hb dL_law_354 (by decide) ?_
    refine va_lald hx hb hK hP 16 3 rfl rfl (zx_bn (by decide)) dL_law_355 ?_
    refine lv_iload hx hb dL_law_356 (lv_at hl 0 rfl) ?_
    refine lv_i2l (v := 9) hx hb dL_law_358 rfl ?_
    refine W.lcmp hx hb dL_law_359 ?_
    refine lv_topi (fun y9 ey9 => ?_)
    obtain rfl : y9 = 0 := ey9.trans (zx_lcmpe h_1436)
    refine lv_if_eq (tgt := 365) hx hb dL_law_360 (by decide) (fun _ => ?_) (fun c_1447 => absurd (by decide) c_1447)
    refine lv_goto (tgt := 4257) hx hb dL_law_365 (by decide) ?_
    refine lv_iinc (v := 60) (lv' := [(5, .int 60), (7, .int 9), (6, .int 0), (3, .ref oa), (2, .ref m0), (1, .ref h), (0, .ref b)]) hx hb dL_law_4257 hl (k := 2) rfl (by decide) (by decide) rfl (fun ls hl => ?_)
    refine lv_goto (tgt := 28) hx hb dL_law_4260 (by decide) ?_
    have hP := hP.sub (ws' := [(h, .inr (13, [.ref pe, .ref ne, .ref pa, .ref ro, .int 0])), (pe, .inr (9, [.int 10, .ref a1, .ref a2, .ref a3, .ref a4, .ref a5, .ref a6, .ref a7, .ref a8, .ref a9])), (a1, .inl (cy 0, 20, .inl f3_1433)), (a2, .inl (cy 0, 20, .inl f4_1434)), (ro, .inl (cy 0, 20, .inl f0)), (pa, .inr (4, [.int mc, .ref ed, .int 0])), (m0, .inr (20, [.int 0, .ref mp, .int 0, .ref b1, .ref b2, .ref b3, .ref b4, .ref b5, .ref mq])), (mp, .inr (4, [.int mx_1437, .ref qx_1438, .int 10])), (qx_1438, .inl (cy 2, 10, .inr (.inr (.inr (.inr g2_1439))))), (mq, .inr (4, [.int mn, .ref ed, .int 0])), (oa, .inl (cy 3, 1, .inr (.inl o2_1435))), (p0, .inr (17, t0)), (p1, .inr (17, t1)), (p2, .inr (17, t2)), (p3, .inr (17, t3)), (p4, .inr (17, t4)), (p5, .inr (17, t5)), (p6, .inr (17, t6)), (p7, .inr (17, t7)), (p8, .inr (17, t8)), (y_1440, .inr (17, fy_1441))]) [12, 13, 14, 15, 0, 1, 20, 17, 18, 2, 16, 3, 4, 5, 6, 7, 8, 9, 10, 11, 19] rfl
    have hD := hD.sub (ws' := [(h, .inr (13, [.ref pe, .ref ne, .ref pa, .ref ro, .int 0])), (pe, .inr (9, [.int 10, .ref a1, .ref a2, .ref a3, .ref a4, .ref a5, .ref a6, .ref a7, .ref a8, .ref a9])), (a1, .inl (cy 0, 20, .inl f3_1433)), (a2, .inl (cy 0, 20, .inl f4_1434)), (ro, .inl (cy 0, 20, .inl f0)), (pa, .inr (4, [.int mc, .ref ed, .int 0])), (m0, .inr (20, [.int 0, .ref mp, .int 0, .ref b1, .ref b2, .ref b3, .ref b4, .ref b5, .ref mq])), (mp, .inr (4, [.int mx_1437, .ref qx_1438, .int 10])), (qx_1438, .inl (cy 2, 10, .inr (.inr (.inr (.inr g2_1439))))), (mq, .inr (4, [.int mn, .ref ed, .int 0])), (oa, .inl (cy 3, 1, .inr (.inl o2_1435))), (p0, .inr (17, t0)), (p1, .inr (17, t1)), (p2, .inr (17, t2)), (p3, .inr (17, t3)), (p4, .inr (17, t4)), (p5, .inr (17, t5)), (p6, .inr (17, t6)), (p7, .inr (17, t7)), (p8, .inr (17, t8)), (y_1440, .inr (17, fy_1441))]) [12, 13, 14, 15, 0, 1, 20, 17, 18, 2, 16, 3, 4, 5, 6, 7, 8, 9, 10, 11, 19] (by decide) rfl
    exact hnext _ _ _ ⟨pe, ne, pa, ro, a1, a2, a3, a4, a5, a6, a7, a8, a9, mp, mq, b1, b2, b3, b4, b5, qx_1438, mc, mx_1437, mn, f3_1433, f4_1434, f0, o2_1435, g2_1439, p0, p1, p2, p3, p4, p5, p6, p7, p8, y_1440, t0, t1, t2, t3, t4, t5, t6, t7, t8, fy_1441, hP, hD, ((hs_1444 0 (by decide)).trans hp0), ((hs_1444 1 (by decide)).trans hp1), ((hs_1444 2 (by decide)).trans hp2), ((hs_1444 3 (by decide)).trans hp3), ((hs_1444 4 (by decide)).trans hp4), ((hs_1444 5 (by decide)).trans hp5), ((hs_1444 6 (by decide)).trans hp6), ((hs_1444 7 (by decide)).trans hp7), ((hs_1444 8 (by decide)).trans hp8), hs_1443⟩ hS (lv_sub hl [0, 3, 4, 5, 6] rfl)
set_option maxHeartbeats 4000000 in
set_option maxRecDepth 100000 in
theorem law_step_10 {p : Program} {l : Launch} {e : Env} {s : State} {m : MethodId} {below : List Frame} {meth : Method} {c : Code} {D : va_G} {cy : Nat → ClassId} {ed b : Nat} {A : Nat → Prop} {Q : State → Prop} (C0 : zx_LW p l s m c D cy ed b A) {h m0 oa : Nat} {H : Heap} {locs : List Loc} {ls : Array Slot} (h0 : zx_S10 D cy ed A h m0 oa H) (hS : va_S A s.heap H locs) (hl : lv_has ls 9 [(5, .int 60), (3, .ref oa), (2, .ref m0), (1, .ref h), (0, .ref b)])
    (hnext : ∀ (H : Heap) (locs : List Loc) (ls : Array Slot), zx_S11 D cy ed A h m0 oa H → va_S A s.heap H locs → lv_has ls 9 [(5, .int 66), (3, .ref oa), (2, .ref m0), (1, .ref h), (0, .ref b)] → W p l e zx_R s m #[Value.ref b] below meth c H locs 75 1655 Q (F0 m 28 ls [])) :
    W p l e zx_R s m #[Value.ref b] below meth c H locs 71 1610 Q (F0 m 28 ls []) := by
  obtain ⟨hx, hb, hml, hst, hown, hts, hX, hbl, hbA, hA, hK, hZ, hN⟩ := C0
  obtain ⟨pe, ne, pa, ro, a1, a2, a3, a4, a5, a6, a7, a8, a9, mp, mq, b1, b2, b3, b4, b5, ep, mc, mm, mn, f1, f2, f0, og, gp, p0, p1, p2, p3, p4, p5, p6, p7, p8, p9, t0, t1, t2, t3, t4, t5, t6, t7, t8, t9, hP, hD, hp0, hp1, hp2, hp3, hp4, hp5, hp6, hp7, hp8, hp9⟩ := h0
  refine lv_iload hx hb dL_law_28 (lv_at hl 0 rfl) ?_
  refine lv_aload_n hx hb dL_law_30 rfl (lv_at hl 4 rfl) ?_
  refine va_slen hx hb hX hbl hbA hS dL_law_31 ?_
  refine lv_topi (fun y9 ey9 => ?_)
  obtain rfl : y9 = 3072 := ey9.trans (by decide)
  refine lv_bipush (v := 6) hx hb dL_law_32 (by decide) ?_
  refine lv_isub hx hb dL_law_34 ?_
  refine lv_topi (fun y9 ey9 => ?_)
  obtain rfl : y9 = 3066 := by rw [ey9] <;> decide
  refine lv_icmp_gt (tgt := 4263) hx hb dL_law_35 (by decide) (fun c_1448 => absurd c_1448 (by decide)) (fun _ => ?_)
  refine lv_aload_n hx hb dL_law_38 rfl (lv_at hl 4 rfl) ?_
  refine lv_iload hx hb dL_law_39 (lv_at hl 0 rfl) ?_
  refine va_sld hx hb hX hbl hbA hS (zx_bn (by decide)) dL_law_41 ?_
  refine lv_topi (fun y9 ey9 => ?_)
  obtain rfl : y9 = 0 := ey9.trans (by decide)
  refine lv_bipush (v := 63) hx hb dL_law_42 (by decide) ?_
  refine lv_iand hx hb dL_law_44 ?_
  refine lv_topi (fun y9 ey9 => ?_)
  obtain rfl : y9 = 0 := by rw [ey9] <;> decide
  refine lv_tableIn (off := 255) (tgt := 300) hx hb dL_law_45 (by decide) (by decide) (by decide) (by decide) ?_
  refine lv_aload_n hx hb dL_law_300 rfl (lv_at hl 3 rfl) ?_
  refine lv_aload_n hx hb dL_law_301 rfl (lv_at hl 4 rfl) ?_
  refine lv_iload hx hb dL_law_302 (lv_at hl 0 rfl) ?_
  refine lv_iconst (v := 1) hx hb dL_law_304 (by decide) ?_
  refine lv_iadd hx hb dL_law_305 ?_
  refine lv_topi (fun y9 ey9 => ?_)
  obtain rfl : y9 = 61 := by rw [ey9] <;> decide
  refine va_sld hx hb hX hbl hbA hS (zx_bn (by decide)) dL_law_306 ?_
  refine lv_topi (fun y9 ey9 => ?_)
  obtain rfl : y9 = 0 := ey9.trans (by decide)
  refine lv_aload_n hx hb dL_law_307 rfl (lv_at hl 4 rfl) ?_
  refine lv_iload hx hb dL_law_308 (lv_at hl 0 rfl) ?_
  refine lv_iconst (v := 2) hx hb dL_law_310 (by decide) ?_
  refine lv_iadd hx hb dL_law_311 ?_
  refine lv_topi (fun y9 ey9 => ?_)
  obtain rfl : y9 = 62 := by rw [ey9] <;> decide
  refine va_sld hx hb hX hbl hbA hS (zx_bn (by decide)) dL_law_312 ?_
  refine lv_topi (fun y9 ey9 => ?_)
  obtain rfl : y9 = 0 := ey9.trans (by decide)
  refine lv_aload_n hx hb dL_law_313 rfl (lv_at hl 1 rfl) ?_
  have hPc := hP.sub (ws' := [(h, .inr (13, [.ref pe, .ref ne, .ref pa, .ref ro, .int 0])), (pe, .inr (9, [.int 10, .ref a1, .ref a2, .ref a3, .ref a4, .ref a5, .ref a6, .ref a7, .ref a8, .ref a9])), (a1, .inl (cy 0, 20, .inl f1)), (a2, .inl (cy 0, 20, .inl f2)), (oa, .inl (cy 3, 1, .inr (.inl og)))]) [0, 1, 2, 3, 10] rfl
  have hDc := hD.sub (ws' := [(h, .inr (13, [.ref pe, .ref ne, .ref pa, .ref ro, .int 0])), (pe, .inr (9, [.int 10, .ref a1, .ref a2, .ref a3, .ref a4, .ref a5, .ref a6, .ref a7, .ref a8, .ref a9])), (a1, .inl (cy 0, 20, .inl f1)), (a2, .inl (cy 0, 20, .inl f2)), (oa, .inl (cy 3, 1, .inr (.inl og)))]) [0, 1, 2, 3, 10] (by decide) rfl
  have hFc := va_free (wc := [(h, .inr (13, [.ref pe, .ref ne, .ref pa, .ref ro, .int 0])), (pe, .inr (9, [.int 10, .ref a1, .ref a2, .ref a3, .ref a4, .ref a5, .ref a6, .ref a7, .ref a8, .ref a9])), (a1, .inl (cy 0, 20, .inl f1)), (a2, .inl (cy 0, 20, .inl f2)), (oa, .inl (cy 3, 1, .inr (.inl og)))]) hD hS hA [0, 1, 2, 3, 10] rfl
  refine vx_calli (vx_runSX (As := [.ref h, .int 0, .int 0, .ref oa]) (rest := []) ⟨hx, hb, hml, hown, hts⟩ (c_L_addPerson_10 l hst D cy ed H.size h pe ne pa ro 0 a1 a2 a3 a4 a5 a6 a7 a8 a9 f1 f2 oa og) (vx_cwSW 4 hts (zx_GS mm_329 mm_330 mm_70 mm_331) rfl rfl rfl (by decide +kernel) ⟨(Nat.le_of_ble_eq_true rfl), (Nat.le_of_ble_eq_true rfl)⟩) ⟨zx_blind, zx_give hPc hK hDc hS hFc hZ hN⟩ rfl rfl hl.1 rfl (lv_room (Nat.le_of_ble_eq_true rfl)) dL_law_314 ⟨(Nat.le_of_ble_eq_true rfl), (Nat.le_of_ble_eq_true rfl)⟩) hS (fun q _ h => hFc q h) hFc (fun q _ h => hFc q h) (fun E9 ce9 q9 _ t H locs ht hvm _ hBX hz1 hk1 hS hce hcv hcl => ?_) (fun r9 u t H locs ht hvm hw hB hz1 hk1 hS => ?_)
  · exact hBX.elim
  ·
    obtain ⟨f3_1449, f4_1450, o2_1451⟩ := u
    obtain ⟨rfl, h_1452⟩ := hw
    obtain ⟨hP, hD⟩ := zx_join (wr := [(ro, .inl (cy 0, 20, .inl f0)), (pa, .inr (4, [.int mc, .ref ed, .int 0])), (m0, .inr (20, [.int 0, .ref mp, .int 0, .ref b1, .ref b2, .ref b3, .ref b4, .ref b5, .ref mq])), (mp, .inr (4, [.int mm, .ref ep, .int 10])), (ep, .inl (cy 2, 10, .inr (.inr (.inr (.inr gp))))), (mq, .inr (4, [.int mn, .ref ed, .int 0])), (p0, .inr (17, t0)), (p1, .inr (17, t1)), (p2, .inr (17, t2)), (p3, .inr (17, t3)), (p4, .inr (17, t4)), (p5, .inr (17, t5)), (p6, .inr (17, t6)), (p7, .inr (17, t7)), (p8, .inr (17, t8)), (p9, .inr (17, t9))]) (w1 := [(h, .inr (13, [.ref pe, .ref ne, .ref pa, .ref ro, .int 0])), (pe, .inr (9, [.int 11, .ref a1, .ref a2, .ref a3, .ref a4, .ref a5, .ref a6, .ref a7, .ref a8, .ref a9])), (a1, .inl (cy 0, 20, .inl f3_1449)), (a2, .inl (cy 0, 20, .inl f4_1450)), (oa, .inl (cy 3, 1, .inr (.inl o2_1451)))]) [0, 1, 2, 3, 10] [4, 5, 6, 7, 8, 9, 11, 12, 13, 14, 15, 16, 17, 18, 19, 20] rfl rfl (by decide) (by decide) hP hD hk1 hFc hB ht
    have hP : va_P D vwCl [(ro, .inl (cy 0, 20, .inl f0)), (pa, .inr (4, [.int mc, .ref ed, .int 0])), (m0, .inr (20, [.int 0, .ref mp, .int 0, .ref b1, .ref b2, .ref b3, .ref b4, .ref b5, .ref mq])), (mp, .inr (4, [.int mm, .ref ep, .int 10])), (ep, .inl (cy 2, 10, .inr (.inr (.inr (.inr gp))))), (mq, .inr (4, [.int mn, .ref ed, .int 0])), (p0, .inr (17, t0)), (p1, .inr (17, t1)), (p2, .inr (17, t2)), (p3, .inr (17, t3)), (p4, .inr (17, t4)), (p5, .inr (17, t5)), (p6, .inr (17, t6)), (p7, .inr (17, t7)), (p8, .inr (17, t8)), (p9, .inr (17, t9)), (h, .inr (13, [.ref pe, .ref ne, .ref pa, .ref ro, .int 0])), (pe, .inr (9, [.int 11, .ref a1, .ref a2, .ref a3, .ref a4, .ref a5, .ref a6, .ref a7, .ref a8, .ref a9])), (a1, .inl (cy 0, 20, .inl f3_1449)), (a2, .inl (cy 0, 20, .inl f4_1450)), (oa, .inl (cy 3, 1, .inr (.inl o2_1451)))] H := hP
    have hD : va_D A [(ro, .inl (cy 0, 20, .inl f0)), (pa, .inr (4, [.int mc, .ref ed, .int 0])), (m0, .inr (20, [.int 0, .ref mp, .int 0, .ref b1, .ref b2, .ref b3, .ref b4, .ref b5, .ref mq])), (mp, .inr (4, [.int mm, .ref ep, .int 10])), (ep, .inl (cy 2, 10, .inr (.inr (.inr (.inr gp))))), (mq, .inr (4, [.int mn, .ref ed, .int 0])), (p0, .inr (17, t0)), (p1, .inr (17, t1)), (p2, .inr (17, t2)), (p3, .inr (17, t3)), (p4, .inr (17, t4)), (p5, .inr (17, t5)), (p6, .inr (17, t6)), (p7, .inr (17, t7)), (p8, .inr (17, t8)), (p9, .inr (17, t9)), (h, .inr (13, [.ref pe, .ref ne, .ref pa, .ref ro, .int 0])), (pe, .inr (9, [.int 11, .ref a1, .ref a2, .ref a3, .ref a4, .ref a5, .ref a6, .ref a7, .ref a8, .ref a9])), (a1, .inl (cy 0, 20, .inl f3_1449)), (a2, .inl (cy 0, 20, .inl f4_1450)), (oa, .inl (cy 3, 1, .inr (.inl o2_1451)))] := hD
    refine W.widen (k := 71) (n := 1610) (Nat.le_of_ble_eq_true rfl) (Nat.le_of_ble_eq_true rfl) ?_
    refine lv_istore (lv' := [(6, .int 0), (5, .int 60), (3, .ref oa), (2, .ref m0), (1, .ref h), (0, .ref b)]) hx hb dL_law_317 hl (by decide) rfl (fun ls hl => ?_)
    refine lv_aload_n hx hb dL_law_319 rfl (lv_at hl 3 rfl) ?_
    refine lv_aload_n hx hb dL_law_320 rfl (lv_at hl 5 rfl) ?_
    refine lv_iload hx hb dL_law_321 (lv_at hl 1 rfl) ?_
    refine lv_iconst (v := 1) hx hb dL_law_323 (by decide) ?_
    refine lv_iadd hx hb dL_law_324 ?_
    refine lv_topi (fun y9 ey9 => ?_)
    obtain rfl : y9 = 61 := by rw [ey9] <;> decide
    refine va_sld hx hb hX hbl hbA hS (zx_bn (by decide)) dL_law_325 ?_
    refine lv_topi (fun y9 ey9 => ?_)
    obtain rfl : y9 = 0 := ey9.trans (by decide)
    refine lv_aload_n hx hb dL_law_326 rfl (lv_at hl 5 rfl) ?_
    refine lv_iload hx hb dL_law_327 (lv_at hl 1 rfl) ?_
    refine lv_iconst (v := 2) hx hb dL_law_329 (by decide) ?_
    refine lv_iadd hx hb dL_law_330 ?_
    refine lv_topi (fun y9 ey9 => ?_)
    obtain rfl : y9 = 62 := by rw [ey9] <;> decide
    refine va_sld hx hb hX hbl hbA hS (zx_bn (by decide)) dL_law_331 ?_
    refine lv_topi (fun y9 ey9 => ?_)
    obtain rfl : y9 = 0 := ey9.trans (by decide)
    have hPc := hP.sub (ws' := [(m0, .inr (20, [.int 0, .ref mp, .int 0, .ref b1, .ref b2, .ref b3, .ref b4, .ref b5, .ref mq])), (mp, .inr (4, [.int mm, .ref ep, .int 10])), (ep, .inl (cy 2, 10, .inr (.inr (.inr (.inr gp))))), (p0, .inr (17, t0)), (p1, .inr (17, t1)), (p2, .inr (17, t2)), (p3, .inr (17, t3)), (p4, .inr (17, t4)), (p5, .inr (17, t5)), (p6, .inr (17, t6)), (p7, .inr (17, t7)), (p8, .inr (17, t8)), (p9, .inr (17, t9))]) [2, 3, 4, 6, 7, 8, 9, 10, 11, 12, 13, 14, 15] rfl
    have hDc := hD.sub (ws' := [(m0, .inr (20, [.int 0, .ref mp, .int 0, .ref b1, .ref b2, .ref b3, .ref b4, .ref b5, .ref mq])), (mp, .inr (4, [.int mm, .ref ep, .int 10])), (ep, .inl (cy 2, 10, .inr (.inr (.inr (.inr gp))))), (p0, .inr (17, t0)), (p1, .inr (17, t1)), (p2, .inr (17, t2)), (p3, .inr (17, t3)), (p4, .inr (17, t4)), (p5, .inr (17, t5)), (p6, .inr (17, t6)), (p7, .inr (17, t7)), (p8, .inr (17, t8)), (p9, .inr (17, t9))]) [2, 3, 4, 6, 7, 8, 9, 10, 11, 12, 13, 14, 15] (by decide) rfl
    have hFc := va_free (wc := [(m0, .inr (20, [.int 0, .ref mp, .int 0, .ref b1, .ref b2, .ref b3, .ref b4, .ref b5, .ref mq])), (mp, .inr (4, [.int mm, .ref ep, .int 10])), (ep, .inl (cy 2, 10, .inr (.inr (.inr (.inr gp))))), (p0, .inr (17, t0)), (p1, .inr (17, t1)), (p2, .inr (17, t2)), (p3, .inr (17, t3)), (p4, .inr (17, t4)), (p5, .inr (17, t5)), (p6, .inr (17, t6)), (p7, .inr (17, t7)), (p8, .inr (17, t8)), (p9, .inr (17, t9))]) hD hS hA [2, 3, 4, 6, 7, 8, 9, 10, 11, 12, 13, 14, 15] rfl
    refine va_calli (va_runV (As := [.int 0, .int 0]) (rest := []) ⟨hx, hb, hml, hown, hts⟩ (c_X15_addPerson_10 l hst D cy ed H.size m0 mp mq b1 b2 b3 b4 b5 0 0 mm ep gp p0 p1 p2 p3 p4 p5 p6 p7 p8 p9 t0 t1 t2 t3 t4 t5 t6 t7 t8 t9 hp0 hp1 hp2 hp3 hp4 hp5 hp6 hp7 hp8 hp9) (cwV 2 hts (zx_GV mm_1603 mm_1604 mm_1605 mm_78 mm_1606) rfl rfl rfl (by decide +kernel) ⟨(Nat.le_of_ble_eq_true rfl), (Nat.le_of_ble_eq_true rfl)⟩) ⟨zx_blind, va_recv hK hPc (ci := 20) (q0 := 0) rfl rfl, zx_give hPc hK hDc hS hFc hZ hN⟩ rfl rfl hl.1 rfl (lv_room (Nat.le_of_ble_eq_true rfl)) dL_law_332 ⟨(Nat.le_of_ble_eq_true rfl), (Nat.le_of_ble_eq_true rfl)⟩) hS (fun q _ h => hFc q h) hFc (fun r9 u t H1 locs ht hvm hw hB hz1 hk1 hS => ?_)
    obtain ⟨mx_1453, qx_1454, g2_1455, y_1456, fy_1457⟩ := u
    obtain ⟨rfl, h_1458⟩ := hw
    obtain ⟨hP, hD⟩ := zx_join (wr := [(ro, .inl (cy 0, 20, .inl f0)), (pa, .inr (4, [.int mc, .ref ed, .int 0])), (mq, .inr (4, [.int mn, .ref ed, .int 0])), (h, .inr (13, [.ref pe, .ref ne, .ref pa, .ref ro, .int 0])), (pe, .inr (9, [.int 11, .ref a1, .ref a2, .ref a3, .ref a4, .ref a5, .ref a6, .ref a7, .ref a8, .ref a9])), (a1, .inl (cy 0, 20, .inl f3_1449)), (a2, .inl (cy 0, 20, .inl f4_1450)), (oa, .inl (cy 3, 1, .inr (.inl o2_1451)))]) (w1 := [(m0, .inr (20, [.int 0, .ref mp, .int 0, .ref b1, .ref b2, .ref b3, .ref b4, .ref b5, .ref mq])), (mp, .inr (4, [.int mx_1453, .ref qx_1454, .int 11])), (qx_1454, .inl (cy 2, 15, .inr (.inr (.inr (.inr g2_1455))))), (y_1456, .inr (17, fy_1457)), (p0, .inr (17, t0)), (p1, .inr (17, t1)), (p2, .inr (17, t2)), (p3, .inr (17, t3)), (p4, .inr (17, t4)), (p5, .inr (17, t5)), (p6, .inr (17, t6)), (p7, .inr (17, t7)), (p8, .inr (17, t8)), (p9, .inr (17, t9))]) [2, 3, 4, 6, 7, 8, 9, 10, 11, 12, 13, 14, 15] [0, 1, 5, 16, 17, 18, 19, 20] rfl rfl (by decide) (by decide) hP hD hk1 hFc hB ht
    generalize H1 = H at hP hS ⊢
    have hP : va_P D vwCl [(ro, .inl (cy 0, 20, .inl f0)), (pa, .inr (4, [.int mc, .ref ed, .int 0])), (mq, .inr (4, [.int mn, .ref ed, .int 0])), (h, .inr (13, [.ref pe, .ref ne, .ref pa, .ref ro, .int 0])), (pe, .inr (9, [.int 11, .ref a1, .ref a2, .ref a3, .ref a4, .ref a5, .ref a6, .ref a7, .ref a8, .ref a9])), (a1, .inl (cy 0, 20, .inl f3_1449)), (a2, .inl (cy 0, 20, .inl f4_1450)), (oa, .inl (cy 3, 1, .inr (.inl o2_1451))), (m0, .inr (20, [.int 0, .ref mp, .int 0, .ref b1, .ref b2, .ref b3, .ref b4, .ref b5, .ref mq])), (mp, .inr (4, [.int mx_1453, .ref qx_1454, .int 11])), (qx_1454, .inl (cy 2, 15, .inr (.inr (.inr (.inr g2_1455))))), (y_1456, .inr (17, fy_1457)), (p0, .inr (17, t0)), (p1, .inr (17, t1)), (p2, .inr (17, t2)), (p3, .inr (17, t3)), (p4, .inr (17, t4)), (p5, .inr (17, t5)), (p6, .inr (17, t6)), (p7, .inr (17, t7)), (p8, .inr (17, t8)), (p9, .inr (17, t9))] H := hP
    have hD : va_D A [(ro, .inl (cy 0, 20, .inl f0)), (pa, .inr (4, [.int mc, .ref ed, .int 0])), (mq, .inr (4, [.int mn, .ref ed, .int 0])), (h, .inr (13, [.ref pe, .ref ne, .ref pa, .ref ro, .int 0])), (pe, .inr (9, [.int 11, .ref a1, .ref a2, .ref a3, .ref a4, .ref a5, .ref a6, .ref a7, .ref a8, .ref a9])), (a1, .inl (cy 0, 20, .inl f3_1449)), (a2, .inl (cy 0, 20, .inl f4_1450)), (oa, .inl (cy 3, 1, .inr (.inl o2_1451))), (m0, .inr (20, [.int 0, .ref mp, .int 0, .ref b1, .ref b2, .ref b3, .ref b4, .ref b5, .ref mq])), (mp, .inr (4, [.int mx_1453, .ref qx_1454, .int 11])), (qx_1454, .inl (cy 2, 15, .inr (.inr (.inr (.inr g2_1455))))), (y_1456, .inr (17, fy_1457)), (p0, .inr (17, t0)), (p1, .inr (17, t1)), (p2, .inr (17, t2)), (p3, .inr (17, t3)), (p4, .inr (17, t4)), (p5, .inr (17, t5)), (p6, .inr (17, t6)), (p7, .inr (17, t7)), (p8, .inr (17, t8)), (p9, .inr (17, t9))] := hD
    refine W.widen (k := 75) (n := 1655) (Nat.le_of_ble_eq_true rfl) (Nat.le_of_ble_eq_true rfl) ?_
    obtain ⟨hs_1459, hs_1460⟩ := h_1458
    refine lv_istore (lv' := [(7, .int 10), (6, .int 0), (5, .int 60), (3, .ref oa), (2, .ref m0), (1, .ref h), (0, .ref b)]) hx hb dL_law_335 hl (by decide) rfl (fun ls hl => ?_)
    refine lv_aload_n hx hb dL_law_337 rfl (lv_at hl 4 rfl) ?_
    have hPc := hP.sub (ws' := [(m0, .inr (20, [.int 0, .ref mp, .int 0, .ref b1, .ref b2, .ref b3, .ref b4, .ref b5, .ref mq]))]) [8] rfl
    have hDc := hD.sub (ws' := [(m0, .inr (20, [.int 0, .ref mp, .int 0, .ref b1, .ref b2, .ref b3, .ref b4, .ref b5, .ref mq]))]) [8] (by decide) rfl
    have hFc := va_free (wc := [(m0, .inr (20, [.int 0, .ref mp, .int 0, .ref b1, .ref b2, .ref b3, .ref b4, .ref b5, .ref mq]))]) hD hS hA [8] rfl
    refine va_calli (va_runV (As := []) (rest := []) ⟨hx, hb, hml, hown, hts⟩ (c_X15_thrown l hst D cy ed H.size m0 mp mq b1 b2 b3 b4 b5 0 0) (cwV 0 hts (zx_GV mm_1599 mm_1600 mm_1601 mm_78 mm_1602) rfl rfl rfl (by decide +kernel) ⟨(Nat.le_of_ble_eq_true rfl), (Nat.le_of_ble_eq_true rfl)⟩) ⟨zx_blind, va_recv hK hPc (ci := 20) (q0 := 0) rfl rfl, zx_give hPc hK hDc hS hFc hZ hN⟩ rfl rfl hl.1 rfl (lv_room (Nat.le_of_ble_eq_true rfl)) dL_law_338 ⟨(Nat.le_of_ble_eq_true rfl), (Nat.le_of_ble_eq_true rfl)⟩) hS (fun q _ h => hFc q h) hFc (fun r9 u t H1 locs ht hvm hw hB hz1 hk1 hS => ?_)
    obtain rfl : r9 = 0 := hw
    obtain ⟨hP, hD⟩ := zx_join (wr := [(ro, .inl (cy 0, 20, .inl f0)), (pa, .inr (4, [.int mc, .ref ed, .int 0])), (mq, .inr (4, [.int mn, .ref ed, .int 0])), (h, .inr (13, [.ref pe, .ref ne, .ref pa, .ref ro, .int 0])), (pe, .inr (9, [.int 11, .ref a1, .ref a2, .ref a3, .ref a4, .ref a5, .ref a6, .ref a7, .ref a8, .ref a9])), (a1, .inl (cy 0, 20, .inl f3_1449)), (a2, .inl (cy 0, 20, .inl f4_1450)), (oa, .inl (cy 3, 1, .inr (.inl o2_1451))), (mp, .inr (4, [.int mx_1453, .ref qx_1454, .int 11])), (qx_1454, .inl (cy 2, 15, .inr (.inr (.inr (.inr g2_1455))))), (y_1456, .inr (17, fy_1457)), (p0, .inr (17, t0)), (p1, .inr (17, t1)), (p2, .inr (17, t2)), (p3, .inr (17, t3)), (p4, .inr (17, t4)), (p5, .inr (17, t5)), (p6, .inr (17, t6)), (p7, .inr (17, t7)), (p8, .inr (17, t8)), (p9, .inr (17, t9))]) (w1 := [(m0, .inr (20, [.int 0, .ref mp, .int 0, .ref b1, .ref b2, .ref b3, .ref b4, .ref b5, .ref mq]))]) [8] [0, 1, 2, 3, 4, 5, 6, 7, 9, 10, 11, 12, 13, 14, 15, 16, 17, 18, 19, 20, 21] rfl rfl (by decide) (by decide) hP hD hk1 hFc hB ht
    generalize H1 = H at hP hS ⊢
    have hP : va_P D vwCl [(ro, .inl (cy 0, 20, .inl f0)), (pa, .inr (4, [.int mc, .ref ed, .int 0])), (mq, .inr (4, [.int mn, .ref ed, .int 0])), (h, .inr (13, [.ref pe, .ref ne, .ref pa, .ref ro, .int 0])), (pe, .inr (9, [.int 11, .ref a1, .ref a2, .ref a3, .ref a4, .ref a5, .ref a6, .ref a7, .ref a8, .ref a9])), (a1, .inl (cy 0, 20, .inl f3_1449)), (a2, .inl (cy 0, 20, .inl f4_1450)), (oa, .inl (cy 3, 1, .inr (.inl o2_1451))), (mp, .inr (4, [.int mx_1453, .ref qx_1454, .int 11])), (qx_1454, .inl (cy 2, 15, .inr (.inr (.inr (.inr g2_1455))))), (y_1456, .inr (17, fy_1457)), (p0, .inr (17, t0)), (p1, .inr (17, t1)), (p2, .inr (17, t2)), (p3, .inr (17, t3)), (p4, .inr (17, t4)), (p5, .inr (17, t5)), (p6, .inr (17, t6)), (p7, .inr (17, t7)), (p8, .inr (17, t8)), (p9, .inr (17, t9)), (m0, .inr (20, [.int 0, .ref mp, .int 0, .ref b1, .ref b2, .ref b3, .ref b4, .ref b5, .ref mq]))] H := hP
    have hD : va_D A [(ro, .inl (cy 0, 20, .inl f0)), (pa, .inr (4, [.int mc, .ref ed, .int 0])), (mq, .inr (4, [.int mn, .ref ed, .int 0])), (h, .inr (13, [.ref pe, .ref ne, .ref pa, .ref ro, .int 0])), (pe, .inr (9, [.int 11, .ref a1, .ref a2, .ref a3, .ref a4, .ref a5, .ref a6, .ref a7, .ref a8, .ref a9])), (a1, .inl (cy 0, 20, .inl f3_1449)), (a2, .inl (cy 0, 20, .inl f4_1450)), (oa, .inl (cy 3, 1, .inr (.inl o2_1451))), (mp, .inr (4, [.int mx_1453, .ref qx_1454, .int 11])), (qx_1454, .inl (cy 2, 15, .inr (.inr (.inr (.inr g2_1455))))), (y_1456, .inr (17, fy_1457)), (p0, .inr (17, t0)), (p1, .inr (17, t1)), (p2, .inr (17, t2)), (p3, .inr (17, t3)), (p4, .inr (17, t4)), (p5, .inr (17, t5)), (p6, .inr (17, t6)), (p7, .inr (17, t7)), (p8, .inr (17, t8)), (p9, .inr (17, t9)), (m0, .inr (20, [.int 0, .ref mp, .int 0, .ref b1, .ref b2, .ref b3, .ref b4, .ref b5, .ref mq]))] := hD
    refine W.widen (k := 75) (n := 1655) (Nat.le_of_ble_eq_true rfl) (Nat.le_of_ble_eq_true rfl) ?_
    refine lv_iload hx hb dL_law_341 (lv_at hl 1 rfl) ?_
    refine lv_icmp_eq (tgt := 348) hx hb dL_law_343 (by decide) (fun _ => ?_) (fun c_1461 => absurd (by decide) c_1461)
    refine lv_iload hx hb dL_law_348 (lv_at hl 1 rfl) ?_
    refine lv_if_ne (tgt := 365) hx hb dL_law_350 (by decide) (fun c_1462 => absurd c_1462 (by decide)) (fun _ => ?_)
    refine lv_aload_n hx hb dL_law_353 rfl (lv_at hl 3 rfl) ?_
    refine lv_iconst (v := 0) hx hb dL_law_354 (by decide) ?_
    refine va_lald hx hb hK hP 7 3 rfl rfl (zx_bn (by decide)) dL_law_355 ?_
    refine lv_iload hx hb dL_law_356 (lv_at hl 0 rfl) ?_
    refine lv_i2l (v := 10) hx hb dL_law_358 rfl ?_
    refine W.lcmp hx hb dL_law_359 ?_
    refine lv_topi (fun y9 ey9 => ?_)
    obtain rfl : y9 = 0 := ey9.trans (zx_lcmpe h_1452)
    refine lv_if_eq (tgt := 365) hx hb dL_law_360 (by decide) (fun _ => ?_) (fun c_1463 => absurd (by decide) c_1463)
    refine lv_goto (tgt := 4257) hx hb dL_law_365 (by decide) ?_
    refine lv_iinc (v := 66) (lv' := [(5, .int 66), (7, .int 10), (6, .int 0), (3, .ref oa), (2, .ref m0), (1, .ref h), (0, .ref b)]) hx hb dL_law_4257 hl (k := 2) rfl (by decide) (by decide) rfl (fun ls hl => ?_)
    refine lv_goto (tgt := 28) hx hb dL_law_4260 (by decide) ?_
    have hP := hP.sub (ws' := [(h, .inr (13, [.ref pe, .ref ne, .ref pa, .ref ro, .int 0])), (pe, .inr (9, [.int 11, .ref a1, .ref a2, .ref a3, .ref a4, .ref a5, .ref a6, .ref a7, .ref a8, .ref a9])), (a1, .inl (cy 0, 20, .inl f3_1449)), (a2, .inl (cy 0, 20, .inl f4_1450)), (ro, .inl (cy 0, 20, .inl f0)), (pa, .inr (4, [.int mc, .ref ed, .int 0])), (m0, .inr (20, [.int 0, .ref mp, .int 0, .ref b1, .ref b2, .ref b3, .ref b4, .ref b5, .ref mq])), (mp, .inr (4, [.int mx_1453, .ref qx_1454, .int 11])), (qx_1454, .inl (cy 2, 15, .inr (.inr (.inr (.inr g2_1455))))), (mq, .inr (4, [.int mn, .ref ed, .int 0])), (oa, .inl (cy 3, 1, .inr (.inl o2_1451))), (p0, .inr (17, t0)), (p1, .inr (17, t1)), (p2, .inr (17, t2)), (p3, .inr (17, t3)), (p4, .inr (17, t4)), (p5, .inr (17, t5)), (p6, .inr (17, t6)), (p7, .inr (17, t7)), (p8, .inr (17, t8)), (p9, .inr (17, t9)), (y_1456, .inr (17, fy_1457))]) [3, 4, 5, 6, 0, 1, 21, 8, 9, 2, 7, 11, 12, 13, 14, 15, 16, 17, 18, 19, 20, 10] rfl
    have hD := hD.sub (ws' := [(h, .inr (13, [.ref pe, .ref ne, .ref pa, .ref ro, .int 0])), (pe, .inr (9, [.int 11, .ref a1, .ref a2, .ref a3, .ref a4, .ref a5, .ref a6, .ref a7, .ref a8, .ref a9])), (a1, .inl (cy 0, 20, .inl f3_1449)), (a2, .inl (cy 0, 20, .inl f4_1450)), (ro, .inl (cy 0, 20, .inl f0)), (pa, .inr (4, [.int mc, .ref ed, .int 0])), (m0, .inr (20, [.int 0, .ref mp, .int 0, .ref b1, .ref b2, .ref b3, .ref b4, .ref b5, .ref mq])), (mp, .inr (4, [.int mx_1453, .ref qx_1454, .int 11])), (qx_1454, .inl (cy 2, 15, .inr (.inr (.inr (.inr g2_1455))))), (mq, .inr (4, [.int mn, .ref ed, .int 0])), (oa, .inl (cy 3, 1, .inr (.inl o2_1451))), (p0, .inr (17, t0)), (p1, .inr (17, t1)), (p2, .inr (17, t2)), (p3, .inr (17, t3)), (p4, .inr (17, t4)), (p5, .inr (17, t5)), (p6, .inr (17, t6)), (p7, .inr (17, t7)), (p8, .inr (17, t8)), (p9, .inr (17, t9)), (y_1456, .inr (17, fy_1457))]) [3, 4, 5, 6, 0, 1, 21, 8, 9, 2, 7, 11, 12, 13, 14, 15, 16, 17, 18, 19, 20, 10] (by decide) rfl
    exact hnext _ _ _ ⟨pe, ne, pa, ro, a1, a2, a3, a4, a5, a6, a7, a8, a9, mp, mq, b1, b2, b3, b4, b5, qx_1454, mc, mx_1453, mn, f3_1449, f4_1450, f0, o2_1451, g2_1455, p0, p1, p2, p3, p4, p5, p6, p7, p8, p9, y_1456, t0, t1, t2, t3, t4, t5, t6, t7, t8, t9, fy_1457, hP, hD, ((hs_1460 0 (by decide)).trans hp0), ((hs_1460 1 (by decide)).trans hp1), ((hs_1460 2 (by decide)).trans hp2), ((hs_1460 3 (by decide)).trans hp3), ((hs_1460 4 (by decide)).trans hp4), ((hs_1460 5 (by decide)).trans hp5), ((hs_1460 6 (by decide)).trans hp6), ((hs_1460 7 (by decide)).trans hp7), ((hs_1460 8 (by decide)).trans hp8), ((hs_1460 9 (by decide)).trans hp9), hs_1459⟩ hS (lv_sub hl [0, 3, 4, 5, 6] rfl)
set_option maxHeartbeats 4000000 in
set_option maxRecDepth 100000 in
theorem law_step_11 {p : Program} {l : Launch} {e : Env} {s : State} {m : MethodId} {below : List Frame} {meth : Method} {c : Code} {D : va_G} {cy : Nat → ClassId} {ed b : Nat} {A : Nat → Prop} {Q : State → Prop} (C0 : zx_LW p l s m c D cy ed b A) {h m0 oa : Nat} {H : Heap} {locs : List Loc} {ls : Array Slot} (h0 : zx_S11 D cy ed A h m0 oa H) (hS : va_S A s.heap H locs) (hl : lv_has ls 9 [(5, .int 66), (3, .ref oa), (2, .ref m0), (1, .ref h), (0, .ref b)])
    (hnext : ∀ (H : Heap) (locs : List Loc) (ls : Array Slot), zx_S12 D cy ed A h m0 oa H → va_S A s.heap H locs → lv_has ls 9 [(5, .int 72), (3, .ref oa), (2, .ref m0), (1, .ref h), (0, .ref b)] → W p l e zx_R s m #[Value.ref b] below meth c H locs 78 1685 Q (F0 m 28 ls [])) :
    W p l e zx_R s m #[Value.ref b] below meth c H locs 75 1655 Q (F0 m 28 ls []) := by
  obtain ⟨hx, hb, hml, hst, hown, hts, hX, hbl, hbA, hA, hK, hZ, hN⟩ := C0
  obtain ⟨pe, ne, pa, ro, a1, a2, a3, a4, a5, a6, a7, a8, a9, mp, mq, b1, b2, b3, b4, b5, ep, mc, mm, mn, f1, f2, f0, og, gp, p0, p1, p2, p3, p4, p5, p6, p7, p8, p9, p10, t0, t1, t2, t3, t4, t5, t6, t7, t8, t9, t10, hP, hD, hp0, hp1, hp2, hp3, hp4, hp5, hp6, hp7, hp8, hp9, hp10⟩ := h0
  refine lv_iload hx hb dL_law_28 (lv_at hl 0 rfl) ?_
  refine lv_aload_n hx hb dL_law_30 rfl (lv_at hl 4 rfl) ?_
  refine va_slen hx hb hX hbl hbA hS dL_law_31 ?_
  refine lv_topi (fun y9 ey9 => ?_)
  obtain rfl : y9 = 3072 := ey9.trans (by decide)
  refine lv_bipush (v := 6) hx hb dL_law_32 (by decide) ?_
  refine lv_isub hx hb dL_law_34 ?_
  refine lv_topi (fun y9 ey9 => ?_)
  obtain rfl : y9 = 3066 := by rw [ey9] <;> decide
  refine lv_icmp_gt (tgt := 4263) hx hb dL_law_35 (by decide) (fun c_1464 => absurd c_1464 (by decide)) (fun _ => ?_)
  refine lv_aload_n hx hb dL_law_38 rfl (lv_at hl 4 rfl) ?_
  refine lv_iload hx hb dL_law_39 (lv_at hl 0 rfl) ?_
  refine va_sld hx hb hX hbl hbA hS (zx_bn (by decide)) dL_law_41 ?_
  refine lv_topi (fun y9 ey9 => ?_)
  obtain rfl : y9 = 0 := ey9.trans (by decide)
  refine lv_bipush (v := 63) hx hb dL_law_42 (by decide) ?_
  refine lv_iand hx hb dL_law_44 ?_
  refine lv_topi (fun y9 ey9 => ?_)
  obtain rfl : y9 = 0 := by rw [ey9] <;> decide
  refine lv_tableIn (off := 255) (tgt := 300) hx hb dL_law_45 (by decide) (by decide) (by decide) (by decide) ?_
  refine lv_aload_n hx hb dL_law_300 rfl (lv_at hl 3 rfl) ?_
  refine lv_aload_n hx hb dL_law_301 rfl (lv_at hl 4 rfl) ?_
  refine lv_iload hx hb dL_law_302 (lv_at hl 0 rfl) ?_
  refine lv_iconst (v := 1) hx hb dL_law_304 (by decide) ?_
  refine lv_iadd hx hb dL_law_305 ?_
  refine lv_topi (fun y9 ey9 => ?_)
  obtain rfl : y9 = 67 := by rw [ey9] <;> decide
  refine va_sld hx hb hX hbl hbA hS (zx_bn (by decide)) dL_law_306 ?_
  refine lv_topi (fun y9 ey9 => ?_)
  obtain rfl : y9 = 0 := ey9.trans (by decide)
  refine lv_aload_n hx hb dL_law_307 rfl (lv_at hl 4 rfl) ?_
  refine lv_iload hx hb dL_law_308 (lv_at hl 0 rfl) ?_
  refine lv_iconst (v := 2) hx hb dL_law_310 (by decide) ?_
  refine lv_iadd hx hb dL_law_311 ?_
  refine lv_topi (fun y9 ey9 => ?_)
  obtain rfl : y9 = 68 := by rw [ey9] <;> decide
  refine va_sld hx hb hX hbl hbA hS (zx_bn (by decide)) dL_law_312 ?_
  refine lv_topi (fun y9 ey9 => ?_)
  obtain rfl : y9 = 0 := ey9.trans (by decide)
  refine lv_aload_n hx hb dL_law_313 rfl (lv_at hl 1 rfl) ?_
  have hPc := hP.sub (ws' := [(h, .inr (13, [.ref pe, .ref ne, .ref pa, .ref ro, .int 0])), (pe, .inr (9, [.int 11, .ref a1, .ref a2, .ref a3, .ref a4, .ref a5, .ref a6, .ref a7, .ref a8, .ref a9])), (a1, .inl (cy 0, 20, .inl f1)), (a2, .inl (cy 0, 20, .inl f2)), (oa, .inl (cy 3, 1, .inr (.inl og)))]) [0, 1, 2, 3, 10] rfl
  have hDc := hD.sub (ws' := [(h, .inr (13, [.ref pe, .ref ne, .ref pa, .ref ro, .int 0])), (pe, .inr (9, [.int 11, .ref a1, .ref a2, .ref a3, .ref a4, .ref a5, .ref a6, .ref a7, .ref a8, .ref a9])), (a1, .inl (cy 0, 20, .inl f1)), (a2, .inl (cy 0, 20, .inl f2)), (oa, .inl (cy 3, 1, .inr (.inl og)))]) [0, 1, 2, 3, 10] (by decide) rfl
  have hFc := va_free (wc := [(h, .inr (13, [.ref pe, .ref ne, .ref pa, .ref ro, .int 0])), (pe, .inr (9, [.int 11, .ref a1, .ref a2, .ref a3, .ref a4, .ref a5, .ref a6, .ref a7, .ref a8, .ref a9])), (a1, .inl (cy 0, 20, .inl f1)), (a2, .inl (cy 0, 20, .inl f2)), (oa, .inl (cy 3, 1, .inr (.inl og)))]) hD hS hA [0, 1, 2, 3, 10] rfl
  refine vx_calli (vx_runSX (As := [.ref h, .int 0, .int 0, .ref oa]) (rest := []) ⟨hx, hb, hml, hown, hts⟩ (c_L_addPerson_11 l hst D cy ed H.size h pe ne pa ro 0 a1 a2 a3 a4 a5 a6 a7 a8 a9 f1 f2 oa og) (vx_cwSW 4 hts (zx_GS mm_329 mm_330 mm_70 mm_331) rfl rfl rfl (by decide +kernel) ⟨(Nat.le_of_ble_eq_true rfl), (Nat.le_of_ble_eq_true rfl)⟩) ⟨zx_blind, zx_give hPc hK hDc hS hFc hZ hN⟩ rfl rfl hl.1 rfl (lv_room (Nat.le_of_ble_eq_true rfl)) dL_law_314 ⟨(Nat.le_of_ble_eq_true rfl), (Nat.le_of_ble_eq_true rfl)⟩) hS (fun q _ h => hFc q h) hFc (fun q _ h => hFc q h) (fun E9 ce9 q9 _ t H locs ht hvm _ hBX hz1 hk1 hS hce hcv hcl => ?_) (fun r9 u t H locs ht hvm hw hB hz1 hk1 hS => ?_)
  · exact hBX.elim
  ·
    obtain ⟨f3_1465, f4_1466, o2_1467⟩ := u
    obtain ⟨rfl, h_1468⟩ := hw
    obtain ⟨hP, hD⟩ := zx_join (wr := [(ro, .inl (cy 0, 20, .inl f0)), (pa, .inr (4, [.int mc, .ref ed, .int 0])), (m0, .inr (20, [.int 0, .ref mp, .int 0, .ref b1, .ref b2, .ref b3, .ref b4, .ref b5, .ref mq])), (mp, .inr (4, [.int mm, .ref ep, .int 11])), (ep, .inl (cy 2, 15, .inr (.inr (.inr (.inr gp))))), (mq, .inr (4, [.int mn, .ref ed, .int 0])), (p0, .inr (17, t0)), (p1, .inr (17, t1)), (p2, .inr (17, t2)), (p3, .inr (17, t3)), (p4, .inr (17, t4)), (p5, .inr (17, t5)), (p6, .inr (17, t6)), (p7, .inr (17, t7)), (p8, .inr (17, t8)), (p9, .inr (17, t9)), (p10, .inr (17, t10))]) (w1 := [(h, .inr (13, [.ref pe, .ref ne, .ref pa, .ref ro, .int 0])), (pe, .inr (9, [.int 12, .ref a1, .ref a2, .ref a3, .ref a4, .ref a5, .ref a6, .ref a7, .ref a8, .ref a9])), (a1, .inl (cy 0, 20, .inl f3_1465)), (a2, .inl (cy 0, 20, .inl f4_1466)), (oa, .inl (cy 3, 1, .inr (.inl o2_1467)))]) [0, 1, 2, 3, 10] [4, 5, 6, 7, 8, 9, 11, 12, 13, 14, 15, 16, 17, 18, 19, 20, 21] rfl rfl (by decide) (by decide) hP hD hk1 hFc hB ht
    have hP : va_P D vwCl [(ro, .inl (cy 0, 20, .inl f0)), (pa, .inr (4, [.int mc, .ref ed, .int 0])), (m0, .inr (20, [.int 0, .ref mp, .int 0, .ref b1, .ref b2, .ref b3, .ref b4, .ref b5, .ref mq])), (mp, .inr (4, [.int mm, .ref ep, .int 11])), (ep, .inl (cy 2, 15, .inr (.inr (.inr (.inr gp))))), (mq, .inr (4, [.int mn, .ref ed, .int 0])), (p0, .inr (17, t0)), (p1, .inr (17, t1)), (p2, .inr (17, t2)), (p3, .inr (17, t3)), (p4, .inr (17, t4)), (p5, .inr (17, t5)), (p6, .inr (17, t6)), (p7, .inr (17, t7)), (p8, .inr (17, t8)), (p9, .inr (17, t9)), (p10, .inr (17, t10)), (h, .inr (13, [.ref pe, .ref ne, .ref pa, .ref ro, .int 0])), (pe, .inr (9, [.int 12, .ref a1, .ref a2, .ref a3, .ref a4, .ref a5, .ref a6, .ref a7, .ref a8, .ref a9])), (a1, .inl (cy 0, 20, .inl f3_1465)), (a2, .inl (cy 0, 20, .inl f4_1466)), (oa, .inl (cy 3, 1, .inr (.inl o2_1467)))] H := hP
    have hD : va_D A [(ro, .inl (cy 0, 20, .inl f0)), (pa, .inr (4, [.int mc, .ref ed, .int 0])), (m0, .inr (20, [.int 0, .ref mp, .int 0, .ref b1, .ref b2, .ref b3, .ref b4, .ref b5, .ref mq])), (mp, .inr (4, [.int mm, .ref ep, .int 11])), (ep, .inl (cy 2, 15, .inr (.inr (.inr (.inr gp))))), (mq, .inr (4, [.int mn, .ref ed, .int 0])), (p0, .inr (17, t0)), (p1, .inr (17, t1)), (p2, .inr (17, t2)), (p3, .inr (17, t3)), (p4, .inr (17, t4)), (p5, .inr (17, t5)), (p6, .inr (17, t6)), (p7, .inr (17, t7)), (p8, .inr (17, t8)), (p9, .inr (17, t9)), (p10, .inr (17, t10)), (h, .inr (13, [.ref pe, .ref ne, .ref pa, .ref ro, .int 0])), (pe, .inr (9, [.int 12, .ref a1, .ref a2, .ref a3, .ref a4, .ref a5, .ref a6, .ref a7, .ref a8, .ref a9])), (a1, .inl (cy 0, 20, .inl f3_1465)), (a2, .inl (cy 0, 20, .inl f4_1466)), (oa, .inl (cy 3, 1, .inr (.inl o2_1467)))] := hD
    refine W.widen (k := 75) (n := 1655) (Nat.le_of_ble_eq_true rfl) (Nat.le_of_ble_eq_true rfl) ?_
    refine lv_istore (lv' := [(6, .int 0), (5, .int 66), (3, .ref oa), (2, .ref m0), (1, .ref h), (0, .ref b)]) hx hb dL_law_317 hl (by decide) rfl (fun ls hl => ?_)
    refine lv_aload_n hx hb dL_law_319 rfl (lv_at hl 3 rfl) ?_
    refine lv_aload_n hx hb dL_law_320 rfl (lv_at hl 5 rfl) ?_
    refine lv_iload hx hb dL_law_321 (lv_at hl 1 rfl) ?_
    refine lv_iconst (v := 1) hx hb dL_law_323 (by decide) ?_
    refine lv_iadd hx hb dL_law_324 ?_
    refine lv_topi (fun y9 ey9 => ?_)
    obtain rfl : y9 = 67 := by rw [ey9] <;> decide
    refine va_sld hx hb hX hbl hbA hS (zx_bn (by decide)) dL_law_325 ?_
    refine lv_topi (fun y9 ey9 => ?_)
    obtain rfl : y9 = 0 := ey9.trans (by decide)
    refine lv_aload_n hx hb dL_law_326 rfl (lv_at hl 5 rfl) ?_
    refine lv_iload hx hb dL_law_327 (lv_at hl 1 rfl) ?_
    refine lv_iconst (v := 2) hx hb dL_law_329 (by decide) ?_
    refine lv_iadd hx hb dL_law_330 ?_
    refine lv_topi (fun y9 ey9 => ?_)
    obtain rfl : y9 = 68 := by rw [ey9] <;> decide
    refine va_sld hx hb hX hbl hbA hS (zx_bn (by decide)) dL_law_331 ?_
    refine lv_topi (fun y9 ey9 => ?_)
    obtain rfl : y9 = 0 := ey9.trans (by decide)
    have hPc := hP.sub (ws' := [(m0, .inr (20, [.int 0, .ref mp, .int 0, .ref b1, .ref b2, .ref b3, .ref b4, .ref b5, .ref mq])), (mp, .inr (4, [.int mm, .ref ep, .int 11])), (ep, .inl (cy 2, 15, .inr (.inr (.inr (.inr gp)))))]) [2, 3, 4] rfl
    have hDc := hD.sub (ws' := [(m0, .inr (20, [.int 0, .ref mp, .int 0, .ref b1, .ref b2, .ref b3, .ref b4, .ref b5, .ref mq])), (mp, .inr (4, [.int mm, .ref ep, .int 11])), (ep, .inl (cy 2, 15, .inr (.inr (.inr (.inr gp)))))]) [2, 3, 4] (by decide) rfl
    have hFc := va_free (wc := [(m0, .inr (20, [.int 0, .ref mp, .int 0, .ref b1, .ref b2, .ref b3, .ref b4, .ref b5, .ref mq])), (mp, .inr (4, [.int mm, .ref ep, .int 11])), (ep, .inl (cy 2, 15, .inr (.inr (.inr (.inr gp)))))]) hD hS hA [2, 3, 4] rfl
    refine va_calli (va_runV (As := [.int 0, .int 0]) (rest := []) ⟨hx, hb, hml, hown, hts⟩ (c_X15_addPerson_11 l hst D cy ed H.size m0 mp mq b1 b2 b3 b4 b5 0 0 mm ep gp) (cwV 2 hts (zx_GV mm_1603 mm_1604 mm_1605 mm_78 mm_1606) rfl rfl rfl (by decide +kernel) ⟨(Nat.le_of_ble_eq_true rfl), (Nat.le_of_ble_eq_true rfl)⟩) ⟨zx_blind, va_recv hK hPc (ci := 20) (q0 := 0) rfl rfl, zx_give hPc hK hDc hS hFc hZ hN⟩ rfl rfl hl.1 rfl (lv_room (Nat.le_of_ble_eq_true rfl)) dL_law_332 ⟨(Nat.le_of_ble_eq_true rfl), (Nat.le_of_ble_eq_true rfl)⟩) hS (fun q _ h => hFc q h) hFc (fun r9 u t H1 locs ht hvm hw hB hz1 hk1 hS => ?_)
    obtain ⟨mx_1469, qx_1470, g2_1471, y_1472, fy_1473⟩ := u
    obtain ⟨rfl, h_1474⟩ := hw
    obtain ⟨hP, hD⟩ := zx_join (wr := [(ro, .inl (cy 0, 20, .inl f0)), (pa, .inr (4, [.int mc, .ref ed, .int 0])), (mq, .inr (4, [.int mn, .ref ed, .int 0])), (p0, .inr (17, t0)), (p1, .inr (17, t1)), (p2, .inr (17, t2)), (p3, .inr (17, t3)), (p4, .inr (17, t4)), (p5, .inr (17, t5)), (p6, .inr (17, t6)), (p7, .inr (17, t7)), (p8, .inr (17, t8)), (p9, .inr (17, t9)), (p10, .inr (17, t10)), (h, .inr (13, [.ref pe, .ref ne, .ref pa, .ref ro, .int 0])), (pe, .inr (9, [.int 12, .ref a1, .ref a2, .ref a3, .ref a4, .ref a5, .ref a6, .ref a7, .ref a8, .ref a9])), (a1, .inl (cy 0, 20, .inl f3_1465)), (a2, .inl (cy 0, 20, .inl f4_1466)), (oa, .inl (cy 3, 1, .inr (.inl o2_1467)))]) (w1 := [(m0, .inr (20, [.int 0, .ref mp, .int 0, .ref b1, .ref b2, .ref b3, .ref b4, .ref b5, .ref mq])), (mp, .inr (4, [.int mx_1469, .ref qx_1470, .int 12])), (qx_1470, .inl (cy 2, 15, .inr (.inr (.inr (.inr g2_1471))))), (y_1472, .inr (17, fy_1473))]) [2, 3, 4] [0, 1, 5, 6, 7, 8, 9, 10, 11, 12, 13, 14, 15, 16, 17, 18, 19, 20, 21] rfl rfl (by decide) (by decide) hP hD hk1 hFc hB ht
    generalize H1 = H at hP hS ⊢
    have hP : va_P D vwCl [(ro, .inl (cy 0, 20, .inl f0)), (pa, .inr (4, [.int mc, .ref ed, .int 0])), (mq, .inr (4, [.int mn, .ref ed, .int 0])), (p0, .inr (17, t0)), (p1, .inr (17, t1)), (p2, .inr (17, t2)), (p3, .inr (17, t3)), (p4, .inr (17, t4)), (p5, .inr (17, t5)), (p6, .inr (17, t6)), (p7, .inr (17, t7)), (p8, .inr (17, t8)), (p9, .inr (17, t9)), (p10, .inr (17, t10)), (h, .inr (13, [.ref pe, .ref ne, .ref pa, .ref ro, .int 0])), (pe, .inr (9, [.int 12, .ref a1, .ref a2, .ref a3, .ref a4, .ref a5, .ref a6, .ref a7, .ref a8, .ref a9])), (a1, .inl (cy 0, 20, .inl f3_1465)), (a2, .inl (cy 0, 20, .inl f4_1466)), (oa, .inl (cy 3, 1, .inr (.inl o2_1467))), (m0, .inr (20, [.int 0, .ref mp, .int 0, .ref b1, .ref b2, .ref b3, .ref b4, .ref b5, .ref mq])), (mp, .inr (4, [.int mx_1469, .ref qx_1470, .int 12])), (qx_1470, .inl (cy 2, 15, .inr (.inr (.inr (.inr g2_1471))))), (y_1472, .inr (17, fy_1473))] H := hP
    have hD : va_D A [(ro, .inl (cy 0, 20, .inl f0)), (pa, .inr (4, [.int mc, .ref ed, .int 0])), (mq, .inr (4, [.int mn, .ref ed, .int 0])), (p0, .inr (17, t0)), (p1, .inr (17, t1)), (p2, .inr (17, t2)), (p3, .inr (17, t3)), (p4, .inr (17, t4)), (p5, .inr (17, t5)), (p6, .inr (17, t6)), (p7, .inr (17, t7)), (p8, .inr (17, t8)), (p9, .inr (17, t9)), (p10, .inr (17, t10)), (h, .inr (13, [.ref pe, .ref ne, .ref pa, .ref ro, .int 0])), (pe, .inr (9, [.int 12, .ref a1, .ref a2, .ref a3, .ref a4, .ref a5, .ref a6, .ref a7, .ref a8, .ref a9])), (a1, .inl (cy 0, 20, .inl f3_1465)), (a2, .inl (cy 0, 20, .inl f4_1466)), (oa, .inl (cy 3, 1, .inr (.inl o2_1467))), (m0, .inr (20, [.int 0, .ref mp, .int 0, .ref b1, .ref b2, .ref b3, .ref b4, .ref b5, .ref mq])), (mp, .inr (4, [.int mx_1469, .ref qx_1470, .int 12])), (qx_1470, .inl (cy 2, 15, .inr (.inr (.inr (.inr g2_1471))))), (y_1472, .inr (17, fy_1473))] := hD
    refine W.widen (k := 78) (n := 1685) (Nat.le_of_ble_eq_true rfl) (Nat.le_of_ble_eq_true rfl) ?_
    obtain ⟨hs_1475, hs_1476⟩ := h_1474
    refine lv_istore (lv' := [(7, .int 11), (6, .int 0), (5, .int 66), (3, .ref oa), (2, .ref m0), (1, .ref h), (0, .ref b)]) hx hb dL_law_335 hl (by decide) rfl (fun ls hl => ?_)
    refine lv_aload_n hx hb dL_law_337 rfl (lv_at hl 4 rfl) ?_
    have hPc := hP.sub (ws' := [(m0, .inr (20, [.int 0, .ref mp, .int 0, .ref b1, .ref b2, .ref b3, .ref b4, .ref b5, .ref mq]))]) [19] rfl
    have hDc := hD.sub (ws' := [(m0, .inr (20, [.int 0, .ref mp, .int 0, .ref b1, .ref b2, .ref b3, .ref b4, .ref b5, .ref mq]))]) [19] (by decide) rfl
    have hFc := va_free (wc := [(m0, .inr (20, [.int 0, .ref mp, .int 0, .ref b1, .ref b2, .ref b3, .ref b4, .ref b5, .ref mq]))]) hD hS hA [19] rfl
    refine va_calli (va_runV (As := []) (rest := []) ⟨hx, hb, hml, hown, hts⟩ (c_X15_thrown l hst D cy ed H.size m0 mp mq b1 b2 b3 b4 b5 0 0) (cwV 0 hts (zx_GV mm_1599 mm_1600 mm_1601 mm_78 mm_1602) rfl rfl rfl (by decide +kernel) ⟨(Nat.le_of_ble_eq_true rfl), (Nat.le_of_ble_eq_true rfl)⟩) ⟨zx_blind, va_recv hK hPc (ci := 20) (q0 := 0) rfl rfl, zx_give hPc hK hDc hS hFc hZ hN⟩ rfl rfl hl.1 rfl (lv_room (Nat.le_of_ble_eq_true rfl)) dL_law_338 ⟨(Nat.le_of_ble_eq_true rfl), (Nat.le_of_ble_eq_true rfl)⟩) hS (fun q _ h => hFc q h) hFc (fun r9 u t H1 locs ht hvm hw hB hz1 hk1 hS => ?_)
    obtain rfl : r9 = 0 := hw
    obtain ⟨hP, hD⟩ := zx_join (wr := [(ro, .inl (cy 0, 20, .inl f0)), (pa, .inr (4, [.int mc, .ref ed, .int 0])), (mq, .inr (4, [.int mn, .ref ed, .int 0])), (p0, .inr (17, t0)), (p1, .inr (17, t1)), (p2, .inr (17, t2)), (p3, .inr (17, t3)), (p4, .inr (17, t4)), (p5, .inr (17, t5)), (p6, .inr (17, t6)), (p7, .inr (17, t7)), (p8, .inr (17, t8)), (p9, .inr (17, t9)), (p10, .inr (17, t10)), (h, .inr (13, [.ref pe, .ref ne, .ref pa, .ref ro, .int 0])), (pe, .inr (9, [.int 12, .ref a1, .ref a2, .ref a3, .ref a4, .ref a5, .ref a6, .ref a7, .ref a8, .ref a9])), (a1, .inl (cy 0, 20, .inl f3_1465)), (a2, .inl (cy 0, 20, .inl f4_1466)), (oa, .inl (cy 3, 1, .inr (.inl o2_1467))), (mp, .inr (4, [.int mx_1469, .ref qx_1470, .int 12])), (qx_1470, .inl (cy 2, 15, .inr (.inr (.inr (.inr g2_1471))))), (y_1472, .inr (17, fy_1473))]) (w1 := [(m0, .inr (20, [.int 0, .ref mp, .int 0, .ref b1, .ref b2, .ref b3, .ref b4, .ref b5, .ref mq]))]) [19] [0, 1, 2, 3, 4, 5, 6, 7, 8, 9, 10, 11, 12, 13, 14, 15, 16, 17, 18, 20, 21, 22] rfl rfl (by decide) (by decide) hP hD hk1 hFc hB ht
    generalize H1 = H at hP hS ⊢
    have hP : va_P D vwCl [(ro, .inl (cy 0, 20, .inl f0)), (pa, .inr (4, [.int mc, .ref ed, .int 0])), (mq, .inr (4, [.int mn, .ref ed, .int 0])), (p0, .inr (17, t0)), (p1, .inr (17, t1)), (p2, .inr (17, t2)), (p3, .inr (17, t3)), (p4, .inr (17, t4)), (p5, .inr (17, t5)), (p6, .inr (17, t6)), (p7, .inr (17, t7)), (p8, .inr (17, t8)), (p9, .inr (17, t9)), (p10, .inr (17, t10)), (h, .inr (13, [.ref pe, .ref ne, .ref pa, .ref ro, .int 0])), (pe, .inr (9, [.int 12, .ref a1, .ref a2, .ref a3, .ref a4, .ref a5, .ref a6, .ref a7, .ref a8, .ref a9])), (a1, .inl (cy 0, 20, .inl f3_1465)), (a2, .inl (cy 0, 20, .inl f4_1466)), (oa, .inl (cy 3, 1, .inr (.inl o2_1467))), (mp, .inr (4, [.int mx_1469, .ref qx_1470, .int 12])), (qx_1470, .inl (cy 2, 15, .inr (.inr (.inr (.inr g2_1471))))), (y_1472, .inr (17, fy_1473)), (m0, .inr (20, [.int 0, .ref mp, .int 0, .ref b1, .ref b2, .ref b3, .ref b4, .ref b5, .ref mq]))] H := hP
    have hD : va_D A [(ro, .inl (cy 0, 20, .inl f0)), (pa, .inr (4, [.int mc, .ref ed, .int 0])), (mq, .inr (4, [.int mn, .ref ed, .int 0])), (p0, .inr (17, t0)), (p1, .inr (17, t1)), (p2, .inr (17, t2)), (p3, .inr (17, t3)), (p4, .inr (17, t4)), (p5, .inr (17, t5)), (p6, .inr (17, t6)), (p7, .inr (17, t7)), (p8, .inr (17, t8)), (p9, .inr (17, t9)), (p10, .inr (17, t10)), (h, .inr (13, [.ref pe, .ref ne, .ref pa, .ref ro, .int 0])), (pe, .inr (9, [.int 12, .ref a1, .ref a2, .ref a3, .ref a4, .ref a5, .ref a6, .ref a7, .ref a8, .ref a9])), (a1, .inl (cy 0, 20, .inl f3_1465)), (a2, .inl (cy 0, 20, .inl f4_1466)), (oa, .inl (cy 3, 1, .inr (.inl o2_1467))), (mp, .inr (4, [.int mx_1469, .ref qx_1470, .int 12])), (qx_1470, .inl (cy 2, 15, .inr (.inr (.inr (.inr g2_1471))))), (y_1472, .inr (17, fy_1473)), (m0, .inr (20, [.int 0, .ref mp, .int 0, .ref b1, .ref b2, .ref b3, .ref b4, .ref b5, .ref mq]))] := hD
    refine W.widen (k := 78) (n := 1685) (Nat.le_of_ble_eq_true rfl) (Nat.le_of_ble_eq_true rfl) ?_
    refine lv_iload hx hb dL_law_341 (lv_at hl 1 rfl) ?_
    refine lv_icmp_eq (tgt := 348) hx hb dL_law_343 (by decide) (fun _ => ?_) (fun c_1477 => absurd (by decide) c_1477)
    refine lv_iload hx hb dL_law_348 (lv_at hl 1 rfl) ?_
    refine lv_if_ne (tgt := 365) hx hb dL_law_350 (by decide) (fun c_1478 => absurd c_1478 (by decide)) (fun _ => ?_)
    refine lv_aload_n hx hb dL_law_353 rfl (lv_at hl 3 rfl) ?_
    refine lv_iconst (v := 0) hx hb dL_law_354 (by decide) ?_
    refine va_lald hx hb hK hP 18 3 rfl rfl (zx_bn (by decide)) dL_law_355 ?_
    refine lv_iload hx hb dL_law_356 (lv_at hl 0 rfl) ?_
    refine lv_i2l (v := 11) hx hb dL_law_358 rfl ?_
    refine W.lcmp hx hb dL_law_359 ?_
    refine lv_topi (fun y9 ey9 => ?_)
    obtain rfl : y9 = 0 := ey9.trans (zx_lcmpe h_1468)
    refine lv_if_eq (tgt := 365) hx hb dL_law_360 (by decide) (fun _ => ?_) (fun c_1479 => absurd (by decide) c_1479)
    refine lv_goto (tgt := 4257) hx hb dL_law_365 (by decide) ?_
    refine lv_iinc (v := 72) (lv' := [(5, .int 72), (7, .int 11), (6, .int 0), (3, .ref oa), (2, .ref m0), (1, .ref h), (0, .ref b)]) hx hb dL_law_4257 hl (k := 2) rfl (by decide) (by decide) rfl (fun ls hl => ?_)
    refine lv_goto (tgt := 28) hx hb dL_law_4260 (by decide) ?_
    have hP := hP.sub (ws' := [(h, .inr (13, [.ref pe, .ref ne, .ref pa, .ref ro, .int 0])), (pe, .inr (9, [.int 12, .ref a1, .ref a2, .ref a3, .ref a4, .ref a5, .ref a6, .ref a7, .ref a8, .ref a9])), (a1, .inl (cy 0, 20, .inl f3_1465)), (a2, .inl (cy 0, 20, .inl f4_1466)), (ro, .inl (cy 0, 20, .inl f0)), (pa, .inr (4, [.int mc, .ref ed, .int 0])), (m0, .inr (20, [.int 0, .ref mp, .int 0, .ref b1, .ref b2, .ref b3, .ref b4, .ref b5, .ref mq])), (mp, .inr (4, [.int mx_1469, .ref qx_1470, .int 12])), (qx_1470, .inl (cy 2, 15, .inr (.inr (.inr (.inr g2_1471))))), (mq, .inr (4, [.int mn, .ref ed, .int 0])), (oa, .inl (cy 3, 1, .inr (.inl o2_1467))), (p0, .inr (17, t0)), (p1, .inr (17, t1)), (p2, .inr (17, t2)), (p3, .inr (17, t3)), (p4, .inr (17, t4)), (p5, .inr (17, t5)), (p6, .inr (17, t6)), (p7, .inr (17, t7)), (p8, .inr (17, t8)), (p9, .inr (17, t9)), (p10, .inr (17, t10)), (y_1472, .inr (17, fy_1473))]) [14, 15, 16, 17, 0, 1, 22, 19, 20, 2, 18, 3, 4, 5, 6, 7, 8, 9, 10, 11, 12, 13, 21] rfl
    have hD := hD.sub (ws' := [(h, .inr (13, [.ref pe, .ref ne, .ref pa, .ref ro, .int 0])), (pe, .inr (9, [.int 12, .ref a1, .ref a2, .ref a3, .ref a4, .ref a5, .ref a6, .ref a7, .ref a8, .ref a9])), (a1, .inl (cy 0, 20, .inl f3_1465)), (a2, .inl (cy 0, 20, .inl f4_1466)), (ro, .inl (cy 0, 20, .inl f0)), (pa, .inr (4, [.int mc, .ref ed, .int 0])), (m0, .inr (20, [.int 0, .ref mp, .int 0, .ref b1, .ref b2, .ref b3, .ref b4, .ref b5, .ref mq])), (mp, .inr (4, [.int mx_1469, .ref qx_1470, .int 12])), (qx_1470, .inl (cy 2, 15, .inr (.inr (.inr (.inr g2_1471))))), (mq, .inr (4, [.int mn, .ref ed, .int 0])), (oa, .inl (cy 3, 1, .inr (.inl o2_1467))), (p0, .inr (17, t0)), (p1, .inr (17, t1)), (p2, .inr (17, t2)), (p3, .inr (17, t3)), (p4, .inr (17, t4)), (p5, .inr (17, t5)), (p6, .inr (17, t6)), (p7, .inr (17, t7)), (p8, .inr (17, t8)), (p9, .inr (17, t9)), (p10, .inr (17, t10)), (y_1472, .inr (17, fy_1473))]) [14, 15, 16, 17, 0, 1, 22, 19, 20, 2, 18, 3, 4, 5, 6, 7, 8, 9, 10, 11, 12, 13, 21] (by decide) rfl
    exact hnext _ _ _ ⟨pe, ne, pa, ro, a1, a2, a3, a4, a5, a6, a7, a8, a9, mp, mq, b1, b2, b3, b4, b5, qx_1470, mc, mx_1469, mn, f3_1465, f4_1466, f0, o2_1467, g2_1471, p0, p1, p2, p3, p4, p5, p6, p7, p8, p9, p10, y_1472, t0, t1, t2, t3, t4, t5, t6, t7, t8, t9, t10, fy_1473, hP, hD, ((hs_1476 0 (by decide)).trans hp0), ((hs_1476 1 (by decide)).trans hp1), ((hs_1476 2 (by decide)).trans hp2), ((hs_1476 3 (by decide)).trans hp3), ((hs_1476 4 (by decide)).trans hp4), ((hs_1476 5 (by decide)).trans hp5), ((hs_1476 6 (by decide)).trans hp6), ((hs_1476 7 (by decide)).trans hp7), ((hs_1476 8 (by decide)).trans hp8), ((hs_1476 9 (by decide)).trans hp9), ((hs_1476 10 (by decide)).trans hp10), hs_1475⟩ hS (lv_sub hl [0, 3, 4, 5, 6] rfl)
set_option maxHeartbeats 4000000 in
set_option maxRecDepth 100000 in
theorem law_step_12 {p : Program} {l : Launch} {e : Env} {s : State} {m : MethodId} {below : List Frame} {meth : Method} {c : Code} {D : va_G} {cy : Nat → ClassId} {ed b : Nat} {A : Nat → Prop} {Q : State → Prop} (C0 : zx_LW p l s m c D cy ed b A) {h m0 oa : Nat} {H : Heap} {locs : List Loc} {ls : Array Slot} (h0 : zx_S12 D cy ed A h m0 oa H) (hS : va_S A s.heap H locs) (hl : lv_has ls 9 [(5, .int 72), (3, .ref oa), (2, .ref m0), (1, .ref h), (0, .ref b)])
    (hnext : ∀ (H : Heap) (locs : List Loc) (ls : Array Slot), zx_S13 D cy ed A h m0 oa H → va_S A s.heap H locs → lv_has ls 9 [(5, .int 78), (3, .ref oa), (2, .ref m0), (1, .ref h), (0, .ref b)] → W p l e zx_R s m #[Value.ref b] below meth c H locs 81 1715 Q (F0 m 28 ls [])) :
    W p l e zx_R s m #[Value.ref b] below meth c H locs 78 1685 Q (F0 m 28 ls []) := by
  obtain ⟨hx, hb, hml, hst, hown, hts, hX, hbl, hbA, hA, hK, hZ, hN⟩ := C0
  obtain ⟨pe, ne, pa, ro, a1, a2, a3, a4, a5, a6, a7, a8, a9, mp, mq, b1, b2, b3, b4, b5, ep, mc, mm, mn, f1, f2, f0, og, gp, p0, p1, p2, p3, p4, p5, p6, p7, p8, p9, p10, p11, t0, t1, t2, t3, t4, t5, t6, t7, t8, t9, t10, t11, hP, hD, hp0, hp1, hp2, hp3, hp4, hp5, hp6, hp7, hp8, hp9, hp10, hp11⟩ := h0
  refine lv_iload hx hb dL_law_28 (lv_at hl 0 rfl) ?_
  refine lv_aload_n hx hb dL_law_30 rfl (lv_at hl 4 rfl) ?_
  refine va_slen hx hb hX hbl hbA hS dL_law_31 ?_
  refine lv_topi (fun y9 ey9 => ?_)
  obtain rfl : y9 = 3072 := ey9.trans (by decide)
  refine lv_bipush (v := 6) hx hb dL_law_32 (by decide) ?_
  refine lv_isub hx hb dL_law_34 ?_
  refine lv_topi (fun y9 ey9 => ?_)
  obtain rfl : y9 = 3066 := by rw [ey9] <;> decide
  refine lv_icmp_gt (tgt := 4263) hx hb dL_law_35 (by decide) (fun c_1480 => absurd c_1480 (by decide)) (fun _ => ?_)
  refine lv_aload_n hx hb dL_law_38 rfl (lv_at hl 4 rfl) ?_
  refine lv_iload hx hb dL_law_39 (lv_at hl 0 rfl) ?_
  refine va_sld hx hb hX hbl hbA hS (zx_bn (by decide)) dL_law_41 ?_
  refine lv_topi (fun y9 ey9 => ?_)
  obtain rfl : y9 = 0 := ey9.trans (by decide)
  refine lv_bipush (v := 63) hx hb dL_law_42 (by decide) ?_
  refine lv_iand hx hb dL_law_44 ?_
  refine lv_topi (fun y9 ey9 => ?_)
  obtain rfl : y9 = 0 := by rw [ey9] <;> decide
  refine lv_tableIn (off := 255) (tgt := 300) hx hb dL_law_45 (by decide) (by decide) (by decide) (by decide) ?_
  refine lv_aload_n hx hb dL_law_300 rfl (lv_at hl 3 rfl) ?_
  refine lv_aload_n hx hb dL_law_301 rfl (lv_at hl 4 rfl) ?_
  refine lv_iload hx hb dL_law_302 (lv_at hl 0 rfl) ?_
  refine lv_iconst (v := 1) hx hb dL_law_304 (by decide) ?_
  refine lv_iadd hx hb dL_law_305 ?_
  refine lv_topi (fun y9 ey9 => ?_)
  obtain rfl : y9 = 73 := by rw [ey9] <;> decide
  refine va_sld hx hb hX hbl hbA hS (zx_bn (by decide)) dL_law_306 ?_
  refine lv_topi (fun y9 ey9 => ?_)
  obtain rfl : y9 = 0 := ey9.trans (by decide)
  refine lv_aload_n hx hb dL_law_307 rfl (lv_at hl 4 rfl) ?_
  refine lv_iload hx hb dL_law_308 (lv_at hl 0 rfl) ?_
  refine lv_iconst (v := 2) hx hb dL_law_310 (by decide) ?_
  refine lv_iadd hx hb dL_law_311 ?_
  refine lv_topi (fun y9 ey9 => ?_)
  obtain rfl : y9 = 74 := by rw [ey9] <;> decide
  refine va_sld hx hb hX hbl hbA hS (zx_bn (by decide)) dL_law_312 ?_
  refine lv_topi (fun y9 ey9 => ?_)
  obtain rfl : y9 = 0 := ey9.trans (by decide)
  refine lv_aload_n hx hb dL_law_313 rfl (lv_at hl 1 rfl) ?_
  have hPc := hP.sub (ws' := [(h, .inr (13, [.ref pe, .ref ne, .ref pa, .ref ro, .int 0])), (pe, .inr (9, [.int 12, .ref a1, .ref a2, .ref a3, .ref a4, .ref a5, .ref a6, .ref a7, .ref a8, .ref a9])), (a1, .inl (cy 0, 20, .inl f1)), (a2, .inl (cy 0, 20, .inl f2)), (oa, .inl (cy 3, 1, .inr (.inl og)))]) [0, 1, 2, 3, 10] rfl
  have hDc := hD.sub (ws' := [(h, .inr (13, [.ref pe, .ref ne, .ref pa, .ref ro, .int 0])), (pe, .inr (9, [.int 12, .ref a1, .ref a2, .ref a3, .ref a4, .ref a5, .ref a6, .ref a7, .ref a8, .ref a9])), (a1, .inl (cy 0, 20, .inl f1)), (a2, .inl (cy 0, 20, .inl f2)), (oa, .inl (cy 3, 1, .inr (.inl og)))]) [0, 1, 2, 3, 10] (by decide) rfl
  have hFc := va_free (wc := [(h, .inr (13, [.ref pe, .ref ne, .ref pa, .ref ro, .int 0])), (pe, .inr (9, [.int 12, .ref a1, .ref a2, .ref a3, .ref a4, .ref a5, .ref a6, .ref a7, .ref a8, .ref a9])), (a1, .inl (cy 0, 20, .inl f1)), (a2, .inl (cy 0, 20, .inl f2)), (oa, .inl (cy 3, 1, .inr (.inl og)))]) hD hS hA [0, 1, 2, 3, 10] rfl
  refine vx_calli (vx_runSX (As := [.ref h, .int 0, .int 0, .ref oa]) (rest := []) ⟨hx, hb, hml, hown, hts⟩ (c_L_addPerson_12 l hst D cy ed H.size h pe ne pa ro 0 a1 a2 a3 a4 a5 a6 a7 a8 a9 f1 f2 oa og) (vx_cwSW 4 hts (zx_GS mm_329 mm_330 mm_70 mm_331) rfl rfl rfl (by decide +kernel) ⟨(Nat.le_of_ble_eq_true rfl), (Nat.le_of_ble_eq_true rfl)⟩) ⟨zx_blind, zx_give hPc hK hDc hS hFc hZ hN⟩ rfl rfl hl.1 rfl (lv_room (Nat.le_of_ble_eq_true rfl)) dL_law_314 ⟨(Nat.le_of_ble_eq_true rfl), (Nat.le_of_ble_eq_true rfl)⟩) hS (fun q _ h => hFc q h) hFc (fun q _ h => hFc q h) (fun E9 ce9 q9 _ t H locs ht hvm _ hBX hz1 hk1 hS hce hcv hcl => ?_) (fun r9 u t H locs ht hvm hw hB hz1 hk1 hS => ?_)
  · exact hBX.elim
  ·
    obtain ⟨f3_1481, f4_1482, o2_1483⟩ := u
    obtain ⟨rfl, h_1484⟩ := hw
    obtain ⟨hP, hD⟩ := zx_join (wr := [(ro, .inl (cy 0, 20, .inl f0)), (pa, .inr (4, [.int mc, .ref ed, .int 0])), (m0, .inr (20, [.int 0, .ref mp, .int 0, .ref b1, .ref b2, .ref b3, .ref b4, .ref b5, .ref mq])), (mp, .inr (4, [.int mm, .ref ep, .int 12])), (ep, .inl (cy 2, 15, .inr (.inr (.inr (.inr gp))))), (mq, .inr (4, [.int mn, .ref ed, .int 0])), (p0, .inr (17, t0)), (p1, .inr (17, t1)), (p2, .inr (17, t2)), (p3, .inr (17, t3)), (p4, .inr (17, t4)), (p5, .inr (17, t5)), (p6, .inr (17, t6)), (p7, .inr (17, t7)), (p8, .inr (17, t8)), (p9, .inr (17, t9)), (p10, .inr (17, t10)), (p11, .inr (17, t11))]) (w1 := [(h, .inr (13, [.ref pe, .ref ne, .ref pa, .ref ro, .int 0])), (pe, .inr (9, [.int 13, .ref a1, .ref a2, .ref a3, .ref a4, .ref a5, .ref a6, .ref a7, .ref a8, .ref a9])), (a1, .inl (cy 0, 20, .inl f3_1481)), (a2, .inl (cy 0, 20, .inl f4_1482)), (oa, .inl (cy 3, 1, .inr (.inl o2_1483)))]) [0, 1, 2, 3, 10] [4, 5, 6, 7, 8, 9, 11, 12, 13, 14, 15, 16, 17, 18, 19, 20, 21, 22] rfl rfl (by decide) (by decide) hP hD hk1 hFc hB ht
    have hP : va_P D vwCl [(ro, .inl (cy 0, 20, .inl f0)), (pa, .inr (4, [.int mc, .ref ed, .int 0])), (m0, .inr (20, [.int 0, .ref mp, .int 0, .ref b1, .ref b2, .ref b3, .ref b4, .ref b5, .ref mq])), (mp, .inr (4, [.int mm, .ref ep, .int 12])), (ep, .inl (cy 2, 15, .inr (.inr (.inr (.inr gp))))), (mq, .inr (4, [.int mn, .ref ed, .int 0])), (p0, .inr (17, t0)), (p1, .inr (17, t1)), (p2, .inr (17, t2)), (p3, .inr (17, t3)), (p4, .inr (17, t4)), (p5, .inr (17, t5)), (p6, .inr (17, t6)), (p7, .inr (17, t7)), (p8, .inr (17, t8)), (p9, .inr (17, t9)), (p10, .inr (17, t10)), (p11, .inr (17, t11)), (h, .inr (13, [.ref pe, .ref ne, .ref pa, .ref ro, .int 0])), (pe, .inr (9, [.int 13, .ref a1, .ref a2, .ref a3, .ref a4, .ref a5, .ref a6, .ref a7, .ref a8, .ref a9])), (a1, .inl (cy 0, 20, .inl f3_1481)), (a2, .inl (cy 0, 20, .inl f4_1482)), (oa, .inl (cy 3, 1, .inr (.inl o2_1483)))] H := hP
    have hD : va_D A [(ro, .inl (cy 0, 20, .inl f0)), (pa, .inr (4, [.int mc, .ref ed, .int 0])), (m0, .inr (20, [.int 0, .ref mp, .int 0, .ref b1, .ref b2, .ref b3, .ref b4, .ref b5, .ref mq])), (mp, .inr (4, [.int mm, .ref ep, .int 12])), (ep, .inl (cy 2, 15, .inr (.inr (.inr (.inr gp))))), (mq, .inr (4, [.int mn, .ref ed, .int 0])), (p0, .inr (17, t0)), (p1, .inr (17, t1)), (p2, .inr (17, t2)), (p3, .inr (17, t3)), (p4, .inr (17, t4)), (p5, .inr (17, t5)), (p6, .inr (17, t6)), (p7, .inr (17, t7)), (p8, .inr (17, t8)), (p9, .inr (17, t9)), (p10, .inr (17, t10)), (p11, .inr (17, t11)), (h, .inr (13, [.ref pe, .ref ne, .ref pa, .ref ro, .int 0])), (pe, .inr (9, [.int 13, .ref a1, .ref a2, .ref a3, .ref a4, .ref a5, .ref a6, .ref a7, .ref a8, .ref a9])), (a1, .inl (cy 0, 20, .inl f3_1481)), (a2, .inl (cy 0, 20, .inl f4_1482)), (oa, .inl (cy 3, 1, .inr (.inl o2_1483)))] := hD
    refine W.widen (k := 78) (n := 1685) (Nat.le_of_ble_eq_true rfl) (Nat.le_of_ble_eq_true rfl) ?_
    refine lv_istore (lv' := [(6, .int 0), (5, .int 72), (3, .ref oa), (2, .ref m0), (1, .ref h), (0, .ref b)]) hx hb dL_law_317 hl (by decide) rfl (fun ls hl => ?_)
    refine lv_aload_n hx hb dL_law_319 rfl (lv_at hl 3 rfl) ?_
    refine lv_aload_n hx hb dL_law_320 rfl (lv_at hl 5 rfl) ?_
    refine lv_iload hx hb dL_law_321 (lv_at hl 1 rfl) ?_
    refine lv_iconst (v := 1) hx hb dL_law_323 (by decide) ?_
    refine lv_iadd hx hb dL_law_324 ?_
    refine lv_topi (fun y9 ey9 => ?_)
    obtain rfl : y9 = 73 := by rw [ey9] <;> decide
    refine va_sld hx hb hX hbl hbA hS (zx_bn (by decide)) dL_law_325 ?_
    refine lv_topi (fun y9 ey9 => ?_)
    obtain rfl : y9 = 0 := ey9.trans (by decide)
    refine lv_aload_n hx hb dL_law_326 rfl (lv_at hl 5 rfl) ?_
    refine lv_iload hx hb dL_law_327 (lv_at hl 1 rfl) ?_
    refine lv_iconst (v := 2) hx hb dL_law_329 (by decide) ?_
    refine lv_iadd hx hb dL_law_330 ?_
    refine lv_topi (fun y9 ey9 => ?_)
    obtain rfl : y9 = 74 := by rw [ey9] <;> decide
    refine va_sld hx hb hX hbl hbA hS (zx_bn (by decide)) dL_law_331 ?_
    refine lv_topi (fun y9 ey9 => ?_)
    obtain rfl : y9 = 0 := ey9.trans (by decide)
    have hPc := hP.sub (ws' := [(m0, .inr (20, [.int 0, .ref mp, .int 0, .ref b1, .ref b2, .ref b3, .ref b4, .ref b5, .ref mq])), (mp, .inr (4, [.int mm, .ref ep, .int 12])), (ep, .inl (cy 2, 15, .inr (.inr (.inr (.inr gp)))))]) [2, 3, 4] rfl
    have hDc := hD.sub (ws' := [(m0, .inr (20, [.int 0, .ref mp, .int 0, .ref b1, .ref b2, .ref b3, .ref b4, .ref b5, .ref mq])), (mp, .inr (4, [.int mm, .ref ep, .int 12])), (ep, .inl (cy 2, 15, .inr (.inr (.inr (.inr gp)))))]) [2, 3, 4] (by decide) rfl
    have hFc := va_free (wc := [(m0, .inr (20, [.int 0, .ref mp, .int 0, .ref b1, .ref b2, .ref b3, .ref b4, .ref b5, .ref mq])), (mp, .inr (4, [.int mm, .ref ep, .int 12])), (ep, .inl (cy 2, 15, .inr (.inr (.inr (.inr gp)))))]) hD hS hA [2, 3, 4] rfl
    refine va_calli (va_runV (As := [.int 0, .int 0]) (rest := []) ⟨hx, hb, hml, hown, hts⟩ (c_X15_addPerson_12 l hst D cy ed H.size m0 mp mq b1 b2 b3 b4 b5 0 0 mm ep gp) (cwV 2 hts (zx_GV mm_1603 mm_1604 mm_1605 mm_78 mm_1606) rfl rfl rfl (by decide +kernel) ⟨(Nat.le_of_ble_eq_true rfl), (Nat.le_of_ble_eq_true rfl)⟩) ⟨zx_blind, va_recv hK hPc (ci := 20) (q0 := 0) rfl rfl, zx_give hPc hK hDc hS hFc hZ hN⟩ rfl rfl hl.1 rfl (lv_room (Nat.le_of_ble_eq_true rfl)) dL_law_332 ⟨(Nat.le_of_ble_eq_true rfl), (Nat.le_of_ble_eq_true rfl)⟩) hS (fun q _ h => hFc q h) hFc (fun r9 u t H1 locs ht hvm hw hB hz1 hk1 hS => ?_)
    obtain ⟨mx_1485, qx_1486, g2_1487, y_1488, fy_1489⟩ := u
    obtain ⟨rfl, h_1490⟩ := hw
    obtain ⟨hP, hD⟩ := zx_join (wr := [(ro, .inl (cy 0, 20, .inl f0)), (pa, .inr (4, [.int mc, .ref ed, .int 0])), (mq, .inr (4, [.int mn, .ref ed, .int 0])), (p0, .inr (17, t0)), (p1, .inr (17, t1)), (p2, .inr (17, t2)), (p3, .inr (17, t3)), (p4, .inr (17, t4)), (p5, .inr (17, t5)), (p6, .inr (17, t6)), (p7, .inr (17, t7)), (p8, .inr (17, t8)), (p9, .inr (17, t9)), (p10, .inr (17, t10)), (p11, .inr (17, t11)), (h, .inr (13, [.ref pe, .ref ne, .ref pa, .ref ro, .int 0])), (pe, .inr (9, [.int 13, .ref a1, .ref a2, .ref a3, .ref a4, .ref a5, .ref a6, .ref a7, .ref a8, .ref a9])), (a1, .inl (cy 0, 20, .inl f3_1481)), (a2, .inl (cy 0, 20, .inl f4_1482)), (oa, .inl (cy 3, 1, .inr (.inl o2_1483)))]) (w1 := [(m0, .inr (20, [.int 0, .ref mp, .int 0, .ref b1, .ref b2, .ref b3, .ref b4, .ref b5, .ref mq])), (mp, .inr (4, [.int mx_1485, .ref qx_1486, .int 13])), (qx_1486, .inl (cy 2, 15, .inr (.inr (.inr (.inr g2_1487))))), (y_1488, .inr (17, fy_1489))]) [2, 3, 4] [0, 1, 5, 6, 7, 8, 9, 10, 11, 12, 13, 14, 15, 16, 17, 18, 19, 20, 21, 22] rfl rfl (by decide) (by decide) hP hD hk1 hFc hB ht
    generalize H1 = H at hP hS ⊢
    have hP : va_P D vwCl [(ro, .inl (cy 0, 20, .inl f0)), (pa, .inr (4, [.int mc, .ref ed, .int 0])), (mq, .inr (4, [.int mn, .ref ed, .int 0])), (p0, .inr (17, t0)), (p1, .inr (17, t1)), (p2, .inr (17, t2)), (p3, .inr (17, t3)), (p4, .inr (17, t4)), (p5, .inr (17, t5)), (p6, .inr (17, t6)), (p7, .inr (17, t7)), (p8, .inr (17, t8)), (p9, .inr (17, t9)), (p10, .inr (17, t10)), (p11, .inr (17, t11)), (h, .inr (13, [.ref pe, .ref ne, .ref pa, .ref ro, .int 0])), (pe, .inr (9, [.int 13, .ref a1, .ref a2, .ref a3, .ref a4, .ref a5, .ref a6, .ref a7, .ref a8, .ref a9])), (a1, .inl (cy 0, 20, .inl f3_1481)), (a2, .inl (cy 0, 20, .inl f4_1482)), (oa, .inl (cy 3, 1, .inr (.inl o2_1483))), (m0, .inr (20, [.int 0, .ref mp, .int 0, .ref b1, .ref b2, .ref b3, .ref b4, .ref b5, .ref mq])), (mp, .inr (4, [.int mx_1485, .ref qx_1486, .int 13])), (qx_1486, .inl (cy 2, 15, .inr (.inr (.inr (.inr g2_1487))))), (y_1488, .inr (17, fy_1489))] H := hP
    have hD : va_D A [(ro, .inl (cy 0, 20, .inl f0)), (pa, .inr (4, [.int mc, .ref ed, .int 0])), (mq, .inr (4, [.int mn, .ref ed, .int 0])), (p0, .inr (17, t0)), (p1, .inr (17, t1)), (p2, .inr (17, t2)), (p3, .inr (17, t3)), (p4, .inr (17, t4)), (p5, .inr (17, t5)), (p6, .inr (17, t6)), (p7, .inr (17, t7)), (p8, .inr (17, t8)), (p9, .inr (17, t9)), (p10, .inr (17, t10)), (p11, .inr (17, t11)), (h, .inr (13, [.ref pe, .ref ne, .ref pa, .ref ro, .int 0])), (pe, .inr (9, [.int 13, .ref a1, .ref a2, .ref a3, .ref a4, .ref a5, .ref a6, .ref a7, .ref a8, .ref a9])), (a1, .inl (cy 0, 20, .inl f3_1481)), (a2, .inl (cy 0, 20, .inl f4_1482)), (oa, .inl (cy 3, 1, .inr (.inl o2_1483))), (m0, .inr (20, [.int 0, .ref mp, .int 0, .ref b1, .ref b2, .ref b3, .ref b4, .ref b5, .ref mq])), (mp, .inr (4, [.int mx_1485, .ref qx_1486, .int 13])), (qx_1486, .inl (cy 2, 15, .inr (.inr (.inr (.inr g2_1487))))), (y_1488, .inr (17, fy_1489))] := hD
    refine W.widen (k := 81) (n := 1715) (Nat.le_of_ble_eq_true rfl) (Nat.le_of_ble_eq_true rfl) ?_
    obtain ⟨hs_1491, hs_1492⟩ := h_1490
    refine lv_istore (lv' := [(7, .int 12), (6, .int 0), (5, .int 72), (3, .ref oa), (2, .ref m0), (1, .ref h), (0, .ref b)]) hx hb dL_law_335 hl (by decide) rfl (fun ls hl => ?_)
    refine lv_aload_n hx hb dL_law_337 rfl (lv_at hl 4 rfl) ?_
    have hPc := hP.sub (ws' := [(m0, .inr (20, [.int 0, .ref mp, .int 0, .ref b1, .ref b2, .ref b3, .ref b4, .ref b5, .ref mq]))]) [20] rfl
    have hDc := hD.sub (ws' := [(m0, .inr (20, [.int 0, .ref mp, .int 0, .ref b1, .ref b2, .ref b3, .ref b4, .ref b5, .ref mq]))]) [20] (by decide) rfl
    have hFc := va_free (wc := [(m0, .inr (20, [.int 0, .ref mp, .int 0, .ref b1, .ref b2, .ref b3, .ref b4, .ref b5, .ref mq]))]) hD hS hA [20] rfl
    refine va_calli (va_runV (As := []) (rest := []) ⟨hx, hb, hml, hown, hts⟩ (c_X15_thrown l hst D cy ed H.size m0 mp mq b1 b2 b3 b4 b5 0 0) (cwV 0 hts (zx_GV mm_1599 mm_1600 mm_1601 mm_78 mm_1602) rfl rfl rfl (by decide +kernel) ⟨(Nat.le_of_ble_eq_true rfl), (Nat.le_of_ble_eq_true rfl)⟩) ⟨zx_blind, va_recv hK hPc (ci := 20) (q0 := 0) rfl rfl, zx_give hPc hK hDc hS hFc hZ hN⟩ rfl rfl hl.1 rfl (lv_room (Nat.le_of_ble_eq_true rfl)) dL_law_338 ⟨(Nat.le_of_ble_eq_true rfl), (Nat.le_of_ble_eq_true rfl)⟩) hS (fun q _ h => hFc q h) hFc (fun r9 u t H1 locs ht hvm hw hB hz1 hk1 hS => ?_)
    obtain rfl : r9 = 0 := hw
    obtain ⟨hP, hD⟩ := zx_join (wr := [(ro, .inl (cy 0, 20, .inl f0)), (pa, .inr (4, [.int mc, .ref ed, .int 0])), (mq, .inr (4, [.int mn, .ref ed, .int 0])), (p0, .inr (17, t0)), (p1, .inr (17, t1)), (p2, .inr (17, t2)), (p3, .inr (17, t3)), (p4, .inr (17, t4)), (p5, .inr (17, t5)), (p6, .inr (17, t6)), (p7, .inr (17, t7)), (p8, .inr (17, t8)), (p9, .inr (17, t9)), (p10, .inr (17, t10)), (p11, .inr (17, t11)), (h, .inr (13, [.ref pe, .ref ne, .ref pa, .ref ro, .int 0])), (pe, .inr (9, [.int 13, .ref a1, .ref a2, .ref a3, .ref a4, .ref a5, .ref a6, .ref a7, .ref a8, .ref a9])), (a1, .inl (cy 0, 20, .inl f3_1481)), (a2, .inl (cy 0, 20, .inl f4_1482)), (oa, .inl (cy 3, 1, .inr (.inl o2_1483))), (mp, .inr (4, [.int mx_1485, .ref qx_1486, .int 13])), (qx_1486, .inl (cy 2, 15, .inr (.inr (.inr (.inr g2_1487))))), (y_1488, .inr (17, fy_1489))]) (w1 := [(m0, .inr (20, [.int 0, .ref mp, .int 0, .ref b1, .ref b2, .ref b3, .ref b4, .ref b5, .ref mq]))]) [20] [0, 1, 2, 3, 4, 5, 6, 7, 8, 9, 10, 11, 12, 13, 14, 15, 16, 17, 18, 19, 21, 22, 23] rfl rfl (by decide) (by decide) hP hD hk1 hFc hB ht
    generalize H1 = H at hP hS ⊢
    have hP : va_P D vwCl [(ro, .inl (cy 0, 20, .inl f0)), (pa, .inr (4, [.int mc, .ref ed, .int 0])), (mq, .inr (4, [.int mn, .ref ed, .int 0])), (p0, .inr (17, t0)), (p1, .inr (17, t1)), (p2, .inr (17, t2)), (p3, .inr (17, t3)), (p4, .inr (17, t4)), (p5, .inr (17, t5)), (p6, .inr (17, t6)), (p7, .inr (17, t7)), (p8, .inr (17, t8)), (p9, .inr (17, t9)), (p10, .inr (17, t10)), (p11, .inr (17, t11)), (h, .inr (13, [.ref pe, .ref ne, .ref pa, .ref ro, .int 0])), (pe, .inr (9, [.int 13, .ref a1, .ref a2, .ref a3, .ref a4, .ref a5, .ref a6, .ref a7, .ref a8, .ref a9])), (a1, .inl (cy 0, 20, .inl f3_1481)), (a2, .inl (cy 0, 20, .inl f4_1482)), (oa, .inl (cy 3, 1, .inr (.inl o2_1483))), (mp, .inr (4, [.int mx_1485, .ref qx_1486, .int 13])), (qx_1486, .inl (cy 2, 15, .inr (.inr (.inr (.inr g2_1487))))), (y_1488, .inr (17, fy_1489)), (m0, .inr (20, [.int 0, .ref mp, .int 0, .ref b1, .ref b2, .ref b3, .ref b4, .ref b5, .ref mq]))] H := hP
    have hD : va_D A [(ro, .inl (cy 0, 20, .inl f0)), (pa, .inr (4, [.int mc, .ref ed, .int 0])), (mq, .inr (4, [.int mn, .ref ed, .int 0])), (p0, .inr (17, t0)), (p1, .inr (17, t1)), (p2, .inr (17, t2)), (p3, .inr (17, t3)), (p4, .inr (17, t4)), (p5, .inr (17, t5)), (p6, .inr (17, t6)), (p7, .inr (17, t7)), (p8, .inr (17, t8)), (p9, .inr (17, t9)), (p10, .inr (17, t10)), (p11, .inr (17, t11)), (h, .inr (13, [.ref pe, .ref ne, .ref pa, .ref ro, .int 0])), (pe, .inr (9, [.int 13, .ref a1, .ref a2, .ref a3, .ref a4, .ref a5, .ref a6, .ref a7, .ref a8, .ref a9])), (a1, .inl (cy 0, 20, .inl f3_1481)), (a2, .inl (cy 0, 20, .inl f4_1482)), (oa, .inl (cy 3, 1, .inr (.inl o2_1483))), (mp, .inr (4, [.int mx_1485, .ref qx_1486, .int 13])), (qx_1486, .inl (cy 2, 15, .inr (.inr (.inr (.inr g2_1487))))), (y_1488, .inr (17, fy_1489)), (m0, .inr (20, [.int 0, .ref mp, .int 0, .ref b1, .ref b2, .ref b3, .ref b4, .ref b5, .ref mq]))] := hD
    refine W.widen (k := 81) (n := 1715) (Nat.le_of_ble_eq_true rfl) (Nat.le_of_ble_eq_true rfl) ?_
    refine lv_iload hx hb dL_law_341 (lv_at hl 1 rfl) ?_
    refine lv_icmp_eq (tgt := 348) hx hb dL_law_343 (by decide) (fun _ => ?_) (fun c_1493 => absurd (by decide) c_1493)
    refine lv_iload hx hb dL_law_348 (lv_at hl 1 rfl) ?_
    refine lv_if_ne (tgt := 365) hx hb dL_law_350 (by decide) (fun c_1494 => absurd c_1494 (by decide)) (fun _ => ?_)
    refine lv_aload_n hx hb dL_law_353 rfl (lv_at hl 3 rfl) ?_
    refine lv_iconst (v := 0) hx hb dL_law_354 (by decide) ?_
    refine va_lald hx hb hK hP 19 3 rfl rfl (zx_bn (by decide)) dL_law_355 ?_
    refine lv_iload hx hb dL_law_356 (lv_at hl 0 rfl) ?_
    refine lv_i2l (v := 12) hx hb dL_law_358 rfl ?_
    refine W.lcmp hx hb dL_law_359 ?_
    refine lv_topi (fun y9 ey9 => ?_)
    obtain rfl : y9 = 0 := ey9.trans (zx_lcmpe h_1484)
    refine lv_if_eq (tgt := 365) hx hb dL_law_360 (by decide) (fun _ => ?_) (fun c_1495 => absurd (by decide) c_1495)
    refine lv_goto (tgt := 4257) hx hb dL_law_365 (by decide) ?_
    refine lv_iinc (v := 78) (lv' := [(5, .int 78), (7, .int 12), (6, .int 0), (3, .ref oa), (2, .ref m0), (1, .ref h), (0, .ref b)]) hx hb dL_law_4257 hl (k := 2) rfl (by decide) (by decide) rfl (fun ls hl => ?_)
    refine lv_goto (tgt := 28) hx hb dL_law_4260 (by decide) ?_
    have hP := hP.sub (ws' := [(h, .inr (13, [.ref pe, .ref ne, .ref pa, .ref ro, .int 0])), (pe, .inr (9, [.int 13, .ref a1, .ref a2, .ref a3, .ref a4, .ref a5, .ref a6, .ref a7, .ref a8, .ref a9])), (a1, .inl (cy 0, 20, .inl f3_1481)), (a2, .inl (cy 0, 20, .inl f4_1482)), (ro, .inl (cy 0, 20, .inl f0)), (pa, .inr (4, [.int mc, .ref ed, .int 0])), (m0, .inr (20, [.int 0, .ref mp, .int 0, .ref b1, .ref b2, .ref b3, .ref b4, .ref b5, .ref mq])), (mp, .inr (4, [.int mx_1485, .ref qx_1486, .int 13])), (qx_1486, .inl (cy 2, 15, .inr (.inr (.inr (.inr g2_1487))))), (mq, .inr (4, [.int mn, .ref ed, .int 0])), (oa, .inl (cy 3, 1, .inr (.inl o2_1483))), (p0, .inr (17, t0)), (p1, .inr (17, t1)), (p2, .inr (17, t2)), (p3, .inr (17, t3)), (p4, .inr (17, t4)), (p5, .inr (17, t5)), (p6, .inr (17, t6)), (p7, .inr (17, t7)), (p8, .inr (17, t8)), (p9, .inr (17, t9)), (p10, .inr (17, t10)), (p11, .inr (17, t11)), (y_1488, .inr (17, fy_1489))]) [15, 16, 17, 18, 0, 1, 23, 20, 21, 2, 19, 3, 4, 5, 6, 7, 8, 9, 10, 11, 12, 13, 14, 22] rfl
    have hD := hD.sub (ws' := [(h, .inr (13, [.ref pe, .ref ne, .ref pa, .ref ro, .int 0])), (pe, .inr (9, [.int 13, .ref a1, .ref a2, .ref a3, .ref a4, .ref a5, .ref a6, .ref a7, .ref a8, .ref a9])), (a1, .inl (cy 0, 20, .inl f3_1481)), (a2, .inl (cy 0, 20, .inl f4_1482)), (ro, .inl (cy 0, 20, .inl f0)), (pa, .inr (4, [.int mc, .ref ed, .int 0])), (m0, .inr (20, [.int 0, .ref mp, .int 0, .ref b1, .ref b2, .ref b3, .ref b4, .ref b5, .ref mq])), (mp, .inr (4, [.int mx_1485, .ref qx_1486, .int 13])), (qx_1486, .inl (cy 2, 15, .inr (.inr (.inr (.inr g2_1487))))), (mq, .inr (4, [.int mn, .ref ed, .int 0])), (oa, .inl (cy 3, 1, .inr (.inl o2_1483))), (p0, .inr (17, t0)), (p1, .inr (17, t1)), (p2, .inr (17, t2)), (p3, .inr (17, t3)), (p4, .inr (17, t4)), (p5, .inr (17, t5)), (p6, .inr (17, t6)), (p7, .inr (17, t7)), (p8, .inr (17, t8)), (p9, .inr (17, t9)), (p10, .inr (17, t10)), (p11, .inr (17, t11)), (y_1488, .inr (17, fy_1489))]) [15, 16, 17, 18, 0, 1, 23, 20, 21, 2, 19, 3, 4, 5, 6, 7, 8, 9, 10, 11, 12, 13, 14, 22] (by decide) rfl
    exact hnext _ _ _ ⟨pe, ne, pa, ro, a1, a2, a3, a4, a5, a6, a7, a8, a9, mp, mq, b1, b2, b3, b4, b5, qx_1486, mc, mx_1485, mn, f3_1481, f4_1482, f0, o2_1483, g2_1487, p0, p1, p2, p3, p4, p5, p6, p7, p8, p9, p10, p11, y_1488, t0, t1, t2, t3, t4, t5, t6, t7, t8, t9, t10, t11, fy_1489, hP, hD, ((hs_1492 0 (by decide)).trans hp0), ((hs_1492 1 (by decide)).trans hp1), ((hs_1492 2 (by decide)).trans hp2), ((hs_1492 3 (by decide)).trans hp3), ((hs_1492 4 (by decide)).trans hp4), ((hs_1492 5 (by decide)).trans hp5), ((hs_1492 6 (by decide)).trans hp6), ((hs_1492 7 (by decide)).trans hp7), ((hs_1492 8 (by decide)).trans hp8), ((hs_1492 9 (by decide)).trans hp9), ((hs_1492 10 (by decide)).trans hp10), ((hs_1492 11 (by decide)).trans hp11), hs_1491⟩ hS (lv_sub hl [0, 3, 4, 5, 6] rfl)
set_option maxHeartbeats 4000000 in
set_option maxRecDepth 100000 in
theorem law_step_13 {p : Program} {l : Launch} {e : Env} {s : State} {m : MethodId} {below : List Frame} {meth : Method} {c : Code} {D : va_G} {cy : Nat → ClassId} {ed b : Nat} {A : Nat → Prop} {Q : State → Prop} (C0 : zx_LW p l s m c D cy ed b A) {h m0 oa : Nat} {H : Heap} {locs : List Loc} {ls : Array Slot} (h0 : zx_S13 D cy ed A h m0 oa H) (hS : va_S A s.heap H locs) (hl : lv_has ls 9 [(5, .int 78), (3, .ref oa), (2, .ref m0), (1, .ref h), (0, .ref b)])
    (hnext : ∀ (H : Heap) (locs : List Loc) (ls : Array Slot), zx_S14 D cy ed A h m0 oa H → va_S A s.heap H locs → lv_has ls 9 [(5, .int 84), (3, .ref oa), (2, .ref m0), (1, .ref h), (0, .ref b)] → W p l e zx_R s m #[Value.ref b] below meth c H locs 84 1745 Q (F0 m 28 ls [])) :
    W p l e zx_R s m #[Value.ref b] below meth c H locs 81 1715 Q (F0 m 28 ls []) := by
  obtain ⟨hx, hb, hml, hst, hown, hts, hX, hbl, hbA, hA, hK, hZ, hN⟩ := C0
  obtain ⟨pe, ne, pa, ro, a1, a2, a3, a4, a5, a6, a7, a8, a9, mp, mq, b1, b2, b3, b4, b5, ep, mc, mm, mn, f1, f2, f0, og, gp, p0, p1, p2, p3, p4, p5, p6, p7, p8, p9, p10, p11, p12, t0, t1, t2, t3, t4, t5, t6, t7, t8, t9, t10, t11, t12, hP, hD, hp0, hp1, hp2, hp3, hp4, hp5, hp6, hp7, hp8, hp9, hp10, hp11, hp12⟩ := h0
  refine lv_iload hx hb dL_law_28 (lv_at hl 0 rfl) ?_
  refine lv_aload_n hx hb dL_law_30 rfl (lv_at hl 4 rfl) ?_
  refine va_slen hx hb hX hbl hbA hS dL_law_31 ?_
  refine lv_topi (fun y9 ey9 => ?_)
  obtain rfl : y9 = 3072 := ey9.trans (by decide)
  refine lv_bipush (v := 6) hx hb dL_law_32 (by decide) ?_
  refine lv_isub hx hb dL_law_34 ?_
  refine lv_topi (fun y9 ey9 => ?_)
  obtain rfl : y9 = 3066 := by rw [ey9] <;> decide
  refine lv_icmp_gt (tgt := 4263) hx hb dL_law_35 (by decide) (fun c_1496 => absurd c_1496 (by decide)) (fun _ => ?_)
  refine lv_aload_n hx hb dL_law_38 rfl (lv_at hl 4 rfl) ?_
  refine lv_iload hx hb dL_law_39 (lv_at hl 0 rfl) ?_
  refine va_sld hx hb hX hbl hbA hS (zx_bn (by decide)) dL_law_41 ?_
  refine lv_topi (fun y9 ey9 => ?_)
  obtain rfl : y9 = 0 := ey9.trans (by decide)
  refine lv_bipush (v := 63) hx hb dL_law_42 (by decide) ?_
  refine lv_iand hx hb dL_law_44 ?_
  refine lv_topi (fun y9 ey9 => ?_)
  obtain rfl : y9 = 0 := by rw [ey9] <;> decide
  refine lv_tableIn (off := 255) (tgt := 300) hx hb dL_law_45 (by decide) (by decide) (by decide) (by decide) ?_
  refine lv_aload_n hx hb dL_law_300 rfl (lv_at hl 3 rfl) ?_
  refine lv_aload_n hx hb dL_law_301 rfl (lv_at hl 4 rfl) ?_
  refine lv_iload hx hb dL_law_302 (lv_at hl 0 rfl) ?_
  refine lv_iconst (v := 1) hx hb dL_law_304 (by decide) ?_
  refine lv_iadd hx hb dL_law_305 ?_
  refine lv_topi (fun y9 ey9 => ?_)
  obtain rfl : y9 = 79 := by rw [ey9] <;> decide
  refine va_sld hx hb hX hbl hbA hS (zx_bn (by decide)) dL_law_306 ?_
  refine lv_topi (fun y9 ey9 => ?_)
  obtain rfl : y9 = 0 := ey9.trans (by decide)
  refine lv_aload_n hx hb dL_law_307 rfl (lv_at hl 4 rfl) ?_
  refine lv_iload hx hb dL_law_308 (lv_at hl 0 rfl) ?_
  refine lv_iconst (v := 2) hx hb dL_law_310 (by decide) ?_
  refine lv_iadd hx hb dL_law_311 ?_
  refine lv_topi (fun y9 ey9 => ?_)
  obtain rfl : y9 = 80 := by rw [ey9] <;> decide
  refine va_sld hx hb hX hbl hbA hS (zx_bn (by decide)) dL_law_312 ?_
  refine lv_topi (fun y9 ey9 => ?_)
  obtain rfl : y9 = 0 := ey9.trans (by decide)
  refine lv_aload_n hx hb dL_law_313 rfl (lv_at hl 1 rfl) ?_
  have hPc := hP.sub (ws' := [(h, .inr (13, [.ref pe, .ref ne, .ref pa, .ref ro, .int 0])), (pe, .inr (9, [.int 13, .ref a1, .ref a2, .ref a3, .ref a4, .ref a5, .ref a6, .ref a7, .ref a8, .ref a9])), (a1, .inl (cy 0, 20, .inl f1)), (a2, .inl (cy 0, 20, .inl f2)), (oa, .inl (cy 3, 1, .inr (.inl og)))]) [0, 1, 2, 3, 10] rfl
  have hDc := hD.sub (ws' := [(h, .inr (13, [.ref pe, .ref ne, .ref pa, .ref ro, .int 0])), (pe, .inr (9, [.int 13, .ref a1, .ref a2, .ref a3, .ref a4, .ref a5, .ref a6, .ref a7, .ref a8, .ref a9])), (a1, .inl (cy 0, 20, .inl f1)), (a2, .inl (cy 0, 20, .inl f2)), (oa, .inl (cy 3, 1, .inr (.inl og)))]) [0, 1, 2, 3, 10] (by decide) rfl
  have hFc := va_free (wc := [(h, .inr (13, [.ref pe, .ref ne, .ref pa, .ref ro, .int 0])), (pe, .inr (9, [.int 13, .ref a1, .ref a2, .ref a3, .ref a4, .ref a5, .ref a6, .ref a7, .ref a8, .ref a9])), (a1, .inl (cy 0, 20, .inl f1)), (a2, .inl (cy 0, 20, .inl f2)), (oa, .inl (cy 3, 1, .inr (.inl og)))]) hD hS hA [0, 1, 2, 3, 10] rfl
  refine vx_calli (vx_runSX (As := [.ref h, .int 0, .int 0, .ref oa]) (rest := []) ⟨hx, hb, hml, hown, hts⟩ (c_L_addPerson_13 l hst D cy ed H.size h pe ne pa ro 0 a1 a2 a3 a4 a5 a6 a7 a8 a9 f1 f2 oa og) (vx_cwSW 4 hts (zx_GS mm_329 mm_330 mm_70 mm_331) rfl rfl rfl (by decide +kernel) ⟨(Nat.le_of_ble_eq_true rfl), (Nat.le_of_ble_eq_true rfl)⟩) ⟨zx_blind, zx_give hPc hK hDc hS hFc hZ hN⟩ rfl rfl hl.1 rfl (lv_room (Nat.le_of_ble_eq_true rfl)) dL_law_314 ⟨(Nat.le_of_ble_eq_true rfl), (Nat.le_of_ble_eq_true rfl)⟩) hS (fun q _ h => hFc q h) hFc (fun q _ h => hFc q h) (fun E9 ce9 q9 _ t H locs ht hvm _ hBX hz1 hk1 hS hce hcv hcl => ?_) (fun r9 u t H locs ht hvm hw hB hz1 hk1 hS => ?_)
  · exact hBX.elim
  ·
    obtain ⟨f3_1497, f4_1498, o2_1499⟩ := u
    obtain ⟨rfl, h_1500⟩ := hw
    obtain ⟨hP, hD⟩ := zx_join (wr := [(ro, .inl (cy 0, 20, .inl f0)), (pa, .inr (4, [.int mc, .ref ed, .int 0])), (m0, .inr (20, [.int 0, .ref mp, .int 0, .ref b1, .ref b2, .ref b3, .ref b4, .ref b5, .ref mq])), (mp, .inr (4, [.int mm, .ref ep, .int 13])), (ep, .inl (cy 2, 15, .inr (.inr (.inr (.inr gp))))), (mq, .inr (4, [.int mn, .ref ed, .int 0])), (p0, .inr (17, t0)), (p1, .inr (17, t1)), (p2, .inr (17, t2)), (p3, .inr (17, t3)), (p4, .inr (17, t4)), (p5, .inr (17, t5)), (p6, .inr (17, t6)), (p7, .inr (17, t7)), (p8, .inr (17, t8)), (p9, .inr (17, t9)), (p10, .inr (17, t10)), (p11, .inr (17, t11)), (p12, .inr (17, t12))]) (w1 := [(h, .inr (13, [.ref pe, .ref ne, .ref pa, .ref ro, .int 0])), (pe, .inr (9, [.int 14, .ref a1, .ref a2, .ref a3, .ref a4, .ref a5, .ref a6, .ref a7, .ref a8, .ref a9])), (a1, .inl (cy 0, 20, .inl f3_1497)), (a2, .inl (cy 0, 20, .inl f4_1498)), (oa, .inl (cy 3, 1, .inr (.inl o2_1499)))]) [0, 1, 2, 3, 10] [4, 5, 6, 7, 8, 9, 11, 12, 13, 14, 15, 16, 17, 18, 19, 20, 21, 22, 23] rfl rfl (by decide) (by decide) hP hD hk1 hFc hB ht
    have hP : va_P D vwCl [(ro, .inl (cy 0, 20, .inl f0)), (pa, .inr (4, [.int mc, .ref ed, .int 0])), (m0, .inr (20, [.int 0, .ref mp, .int 0, .ref b1, .ref b2, .ref b3, .ref b4, .ref b5, .ref mq])), (mp, .inr (4, [.int mm, .ref ep, .int 13])), (ep, .inl (cy 2, 15, .inr (.inr (.inr (.inr gp))))), (mq, .inr (4, [.int mn, .ref ed, .int 0])), (p0, .inr (17, t0)), (p1, .inr (17, t1)), (p2, .inr (17, t2)), (p3, .inr (17, t3)), (p4, .inr (17, t4)), (p5, .inr (17, t5)), (p6, .inr (17, t6)), (p7, .inr (17, t7)), (p8, .inr (17, t8)), (p9, .inr (17, t9)), (p10, .inr (17, t10)), (p11, .inr (17, t11)), (p12, .inr (17, t12)), (h, .inr (13, [.ref pe, .ref ne, .ref pa, .ref ro, .int 0])), (pe, .inr (9, [.int 14, .ref a1, .ref a2, .ref a3, .ref a4, .ref a5, .ref a6, .ref a7, .ref a8, .ref a9])), (a1, .inl (cy 0, 20, .inl f3_1497)), (a2, .inl (cy 0, 20, .inl f4_1498)), (oa, .inl (cy 3, 1, .inr (.inl o2_1499)))] H := hP
    have hD : va_D A [(ro, .inl (cy 0, 20, .inl f0)), (pa, .inr (4, [.int mc, .ref ed, .int 0])), (m0, .inr (20, [.int 0, .ref mp, .int 0, .ref b1, .ref b2, .ref b3, .ref b4, .ref b5, .ref mq])), (mp, .inr (4, [.int mm, .ref ep, .int 13])), (ep, .inl (cy 2, 15, .inr (.inr (.inr (.inr gp))))), (mq, .inr (4, [.int mn, .ref ed, .int 0])), (p0, .inr (17, t0)), (p1, .inr (17, t1)), (p2, .inr (17, t2)), (p3, .inr (17, t3)), (p4, .inr (17, t4)), (p5, .inr (17, t5)), (p6, .inr (17, t6)), (p7, .inr (17, t7)), (p8, .inr (17, t8)), (p9, .inr (17, t9)), (p10, .inr (17, t10)), (p11, .inr (17, t11)), (p12, .inr (17, t12)), (h, .inr (13, [.ref pe, .ref ne, .ref pa, .ref ro, .int 0])), (pe, .inr (9, [.int 14, .ref a1, .ref a2, .ref a3, .ref a4, .ref a5, .ref a6, .ref a7, .ref a8, .ref a9])), (a1, .inl (cy 0, 20, .inl f3_1497)), (a2, .inl (cy 0, 20, .inl f4_1498)), (oa, .inl (cy 3, 1, .inr (.inl o2_1499)))] := hD
    refine W.widen (k := 81) (n := 1715) (Nat.le_of_ble_eq_true rfl) (Nat.le_of_ble_eq_true rfl) ?_
    refine lv_istore (lv' := [(6, .int 0), (5, .int 78), (3, .ref oa), (2, .ref m0), (1, .ref h), (0, .ref b)]) hx hb dL_law_317 hl (by decide) rfl (fun ls hl => ?_)
    refine lv_aload_n hx hb dL_law_319 rfl (lv_at hl 3 rfl) ?_
    refine lv_aload_n hx hb dL_law_320 rfl (lv_at hl 5 rfl) ?_
    refine lv_iload hx hb dL_law_321 (lv_at hl 1 rfl) ?_
    refine lv_iconst (v := 1) hx hb dL_law_323 (by decide) ?_
    refine lv_iadd hx hb dL_law_324 ?_
    refine lv_topi (fun y9 ey9 => ?_)
    obtain rfl : y9 = 79 := by rw [ey9] <;> decide
    refine va_sld hx hb hX hbl hbA hS (zx_bn (by decide)) dL_law_325 ?_
    refine lv_topi (fun y9 ey9 => ?_)
    obtain rfl : y9 = 0 := ey9.trans (by decide)
    refine lv_aload_n hx hb dL_law_326 rfl (lv_at hl 5 rfl) ?_
    refine lv_iload hx hb dL_law_327 (lv_at hl 1 rfl) ?_
    refine lv_iconst (v := 2) hx hb dL_law_329 (by decide) ?_
    refine lv_iadd hx hb dL_law_330 ?_
    refine lv_topi (fun y9 ey9 => ?_)
    obtain rfl : y9 = 80 := by rw [ey9] <;> decide
    refine va_sld hx hb hX hbl hbA hS (zx_bn (by decide)) dL_law_331 ?_
    refine lv_topi (fun y9 ey9 => ?_)
    obtain rfl : y9 = 0 := ey9.trans (by decide)
    have hPc := hP.sub (ws' := [(m0, .inr (20, [.int 0, .ref mp, .int 0, .ref b1, .ref b2, .ref b3, .ref b4, .ref b5, .ref mq])), (mp, .inr (4, [.int mm, .ref ep, .int 13])), (ep, .inl (cy 2, 15, .inr (.inr (.inr (.inr gp)))))]) [2, 3, 4] rfl
    have hDc := hD.sub (ws' := [(m0, .inr (20, [.int 0, .ref mp, .int 0, .ref b1, .ref b2, .ref b3, .ref b4, .ref b5, .ref mq])), (mp, .inr (4, [.int mm, .ref ep, .int 13])), (ep, .inl (cy 2, 15, .inr (.inr (.inr (.inr gp)))))]) [2, 3, 4] (by decide) rfl
    have hFc := va_free (wc := [(m0, .inr (20, [.int 0, .ref mp, .int 0, .ref b1, .ref b2, .ref b3, .ref b4, .ref b5, .ref mq])), (mp, .inr (4, [.int mm, .ref ep, .int 13])), (ep, .inl (cy 2, 15, .inr (.inr (.inr (.inr gp)))))]) hD hS hA [2, 3, 4] rfl
    refine va_calli (va_runV (As := [.int 0, .int 0]) (rest := []) ⟨hx, hb, hml, hown, hts⟩ (c_X15_addPerson_13 l hst D cy ed H.size m0 mp mq b1 b2 b3 b4 b5 0 0 mm ep gp) (cwV 2 hts (zx_GV mm_1603 mm_1604 mm_1605 mm_78 mm_1606) rfl rfl rfl (by decide +kernel) ⟨(Nat.le_of_ble_eq_true rfl), (Nat.le_of_ble_eq_true rfl)⟩) ⟨zx_blind, va_recv hK hPc (ci := 20) (q0 := 0) rfl rfl, zx_give hPc hK hDc hS hFc hZ hN⟩ rfl rfl hl.1 rfl (lv_room (Nat.le_of_ble_eq_true rfl)) dL_law_332 ⟨(Nat.le_of_ble_eq_true rfl), (Nat.le_of_ble_eq_true rfl)⟩) hS (fun q _ h => hFc q h) hFc (fun r9 u t H1 locs ht hvm hw hB hz1 hk1 hS => ?_)
    obtain ⟨mx_1501, qx_1502, g2_1503, y_1504, fy_1505⟩ := u
    obtain ⟨rfl, h_1506⟩ := hw
    obtain ⟨hP, hD⟩ := zx_join (wr := [(ro, .inl (cy 0, 20, .inl f0)), (pa, .inr (4, [.int mc, .ref ed, .int 0])), (mq, .inr (4, [.int mn, .ref ed, .int 0])), (p0, .inr (17, t0)), (p1, .inr (17, t1)), (p2, .inr (17, t2)), (p3, .inr (17, t3)), (p4, .inr (17, t4)), (p5, .inr (17, t5)), (p6, .inr (17, t6)), (p7, .inr (17, t7)), (p8, .inr (17, t8)), (p9, .inr (17, t9)), (p10, .inr (17, t10)), (p11, .inr (17, t11)), (p12, .inr (17, t12)), (h, .inr (13, [.ref pe, .ref ne, .ref pa, .ref ro, .int 0])), (pe, .inr (9, [.int 14, .ref a1, .ref a2, .ref a3, .ref a4, .ref a5, .ref a6, .ref a7, .ref a8, .ref a9])), (a1, .inl (cy 0, 20, .inl f3_1497)), (a2, .inl (cy 0, 20, .inl f4_1498)), (oa, .inl (cy 3, 1, .inr (.inl o2_1499)))]) (w1 := [(m0, .inr (20, [.int 0, .ref mp, .int 0, .ref b1, .ref b2, .ref b3, .ref b4, .ref b5, .ref mq])), (mp, .inr (4, [.int mx_1501, .ref qx_1502, .int 14])), (qx_1502, .inl (cy 2, 15, .inr (.inr (.inr (.inr g2_1503))))), (y_1504, .inr (17, fy_1505))]) [2, 3, 4] [0, 1, 5, 6, 7, 8, 9, 10, 11, 12, 13, 14, 15, 16, 17, 18, 19, 20, 21, 22, 23] rfl rfl (by decide) (by decide) hP hD hk1 hFc hB ht
    generalize H1 = H at hP hS ⊢
    have hP : va_P D vwCl [(ro, .inl (cy 0, 20, .inl f0)), (pa, .inr (4, [.int mc, .ref ed, .int 0])), (mq, .inr (4, [.int mn, .ref ed, .int 0])), (p0, .inr (17, t0)), (p1, .inr (17, t1)), (p2, .inr (17, t2)), (p3, .inr (17, t3)), (p4, .inr (17, t4)), (p5, .inr (17, t5)), (p6, .inr (17, t6)), (p7, .inr (17, t7)), (p8, .inr (17, t8)), (p9, .inr (17, t9)), (p10, .inr (17, t10)), (p11, .inr (17, t11)), (p12, .inr (17, t12)), (h, .inr (13, [.ref pe, .ref ne, .ref pa, .ref ro, .int 0])), (pe, .inr (9, [.int 14, .ref a1, .ref a2, .ref a3, .ref a4, .ref a5, .ref a6, .ref a7, .ref a8, .ref a9])), (a1, .inl (cy 0, 20, .inl f3_1497)), (a2, .inl (cy 0, 20, .inl f4_1498)), (oa, .inl (cy 3, 1, .inr (.inl o2_1499))), (m0, .inr (20, [.int 0, .ref mp, .int 0, .ref b1, .ref b2, .ref b3, .ref b4, .ref b5, .ref mq])), (mp, .inr (4, [.int mx_1501, .ref qx_1502, .int 14])), (qx_1502, .inl (cy 2, 15, .inr (.inr (.inr (.inr g2_1503))))), (y_1504, .inr (17, fy_1505))] H := hP
    have hD : va_D A [(ro, .inl (cy 0, 20, .inl f0)), (pa, .inr (4, [.int mc, .ref ed, .int 0])), (mq, .inr (4, [.int mn, .ref ed, .int 0])), (p0, .inr (17, t0)), (p1, .inr (17, t1)), (p2, .inr (17, t2)), (p3, .inr (17, t3)), (p4, .inr (17, t4)), (p5, .inr (17, t5)), (p6, .inr (17, t6)), (p7, .inr (17, t7)), (p8, .inr (17, t8)), (p9, .inr (17, t9)), (p10, .inr (17, t10)), (p11, .inr (17, t11)), (p12, .inr (17, t12)), (h, .inr (13, [.ref pe, .ref ne, .ref pa, .ref ro, .int 0])), (pe, .inr (9, [.int 14, .ref a1, .ref a2, .ref a3, .ref a4, .ref a5, .ref a6, .ref a7, .ref a8, .ref a9])), (a1, .inl (cy 0, 20, .inl f3_1497)), (a2, .inl (cy 0, 20, .inl f4_1498)), (oa, .inl (cy 3, 1, .inr (.inl o2_1499))), (m0, .inr (20, [.int 0, .ref mp, .int 0, .ref b1, .ref b2, .ref b3, .ref b4, .ref b5, .ref mq])), (mp, .inr (4, [.int mx_1501, .ref qx_1502, .int 14])), (qx_1502, .inl (cy 2, 15, .inr (.inr (.inr (.inr g2_1503))))), (y_1504, .inr (17, fy_1505))] := hD
    refine W.widen (k := 84) (n := 1745) (Nat.le_of_ble_eq_true rfl) (Nat.le_of_ble_eq_true rfl) ?_
    obtain ⟨hs_1507, hs_1508⟩ := h_1506
    refine lv_istore (lv' := [(7, .int 13), (6, .int 0), (5, .int 78), (3, .ref oa), (2, .ref m0), (1, .ref h), (0, .ref b)]) hx hb dL_law_335 hl (by decide) rfl (fun ls hl => ?_)
    refine lv_aload_n hx hb dL_law_337 rfl (lv_at hl 4 rfl) ?_
    have hPc := hP.sub (ws' := [(m0, .inr (20, [.int 0, .ref mp, .int 0, .ref b1, .ref b2, .ref b3, .ref b4, .ref b5, .ref mq]))]) [21] rfl
    have hDc := hD.sub (ws' := [(m0, .inr (20, [.int 0, .ref mp, .int 0, .ref b1, .ref b2, .ref b3, .ref b4, .ref b5, .ref mq]))]) [21] (by decide) rfl
    have hFc := va_free (wc := [(m0, .inr (20, [.int 0, .ref mp, .int 0, .ref b1, .ref b2, .ref b3, .ref b4, .ref b5, .ref mq]))]) hD hS hA [21] rfl
    refine va_calli (va_runV (As := []) (rest := []) ⟨hx, hb, hml, hown, hts⟩ (c_X15_thrown l hst D cy ed H.size m0 mp mq b1 b2 b3 b4 b5 0 0) (cwV 0 hts (zx_GV mm_1599 mm_1600 mm_1601 mm_78 mm_1602) rfl rfl rfl (by decide +kernel) ⟨(Nat.le_of_ble_eq_true rfl), (Nat.le_of_ble_eq_true rfl)⟩) ⟨zx_blind, va_recv hK hPc (ci := 20) (q0 := 0) rfl rfl, zx_give hPc hK hDc hS hFc hZ hN⟩ rfl rfl hl.1 rfl (lv_room (Nat.le_of_ble_eq_true rfl)) dL_law_338 ⟨(Nat.le_of_ble_eq_true rfl), (Nat.le_of_ble_eq_true rfl)⟩) hS (fun q _ h => hFc q h) hFc (fun r9 u t H1 locs ht hvm hw hB hz1 hk1 hS => ?_)
    obtain rfl : r9 = 0 := hw
    obtain ⟨hP, hD⟩ := zx_join (wr := [(ro, .inl (cy 0, 20, .inl f0)), (pa, .inr (4, [.int mc, .ref ed, .int 0])), (mq, .inr (4, [.int mn, .ref ed, .int 0])), (p0, .inr (17, t0)), (p1, .inr (17, t1)), (p2, .inr (17, t2)), (p3, .inr (17, t3)), (p4, .inr (17, t4)), (p5, .inr (17, t5)), (p6, .inr (17, t6)), (p7, .inr (17, t7)), (p8, .inr (17, t8)), (p9, .inr (17, t9)), (p10, .inr (17, t10)), (p11, .inr (17, t11)), (p12, .inr (17, t12)), (h, .inr (13, [.ref pe, .ref ne, .ref pa, .ref ro, .int 0])), (pe, .inr (9, [.int 14, .ref a1, .ref a2, .ref a3, .ref a4, .ref a5, .ref a6, .ref a7, .ref a8, .ref a9])), (a1, .inl (cy 0, 20, .inl f3_1497)), (a2, .inl (cy 0, 20, .inl f4_1498)), (oa, .inl (cy 3, 1, .inr (.inl o2_1499))), (mp, .inr (4, [.int mx_1501, .ref qx_1502, .int 14])), (qx_1502, .inl (cy 2, 15, .inr (.inr (.inr (.inr g2_1503))))), (y_1504, .inr (17, fy_1505))]) (w1 := [(m0, .inr (20, [.int 0, .ref mp, .int 0, .ref b1, .ref b2, .ref b3, .ref b4, .ref b5, .ref mq]))]) [21] [0, 1, 2, 3, 4, 5, 6, 7, 8, 9, 10, 11, 12, 13, 14, 15, 16, 17, 18, 19, 20, 22, 23, 24] rfl rfl (by decide) (by decide) hP hD hk1 hFc hB ht
    generalize H1 = H at hP hS ⊢
    have hP : va_P D vwCl [(ro, .inl (cy 0, 20, .inl f0)), (pa, .inr (4, [.int mc, .ref ed, .int 0])), (mq, .inr (4, [.int mn, .ref ed, .int 0])), (p0, .inr (17, t0)), (p1, .inr (17, t1)), (p2, .inr (17, t2)), (p3, .inr (17, t3)), (p4, .inr (17, t4)), (p5, .inr (17, t5)), (p6, .inr (17, t6)), (p7, .inr (17, t7)), (p8, .inr (17, t8)), (p9, .inr (17, t9)), (p10, .inr (17, t10)), (p11, .inr (17, t11)), (p12, .inr (17, t12)), (h, .inr (13, [.ref pe, .ref ne, .ref pa, .ref ro, .int 0])), (pe, .inr (9, [.int 14, .ref a1, .ref a2, .ref a3, .ref a4, .ref a5, .ref a6, .ref a7, .ref a8, .ref a9])), (a1, .inl (cy 0, 20, .inl f3_1497)), (a2, .inl (cy 0, 20, .inl f4_1498)), (oa, .inl (cy 3, 1, .inr (.inl o2_1499))), (mp, .inr (4, [.int mx_1501, .ref qx_1502, .int 14])), (qx_1502, .inl (cy 2, 15, .inr (.inr (.inr (.inr g2_1503))))), (y_1504, .inr (17, fy_1505)), (m0, .inr (20, [.int 0, .ref mp, .int 0, .ref b1, .ref b2, .ref b3, .ref b4, .ref b5, .ref mq]))] H := hP
    have hD : va_D A [(ro, .inl (cy 0, 20, .inl f0)), (pa, .inr (4, [.int mc, .ref ed, .int 0])), (mq, .inr (4, [.int mn, .ref ed, .int 0])), (p0, .inr (17, t0)), (p1, .inr (17, t1)), (p2, .inr (17, t2)), (p3, .inr (17, t3)), (p4, .inr (17, t4)), (p5, .inr (17, t5)), (p6, .inr (17, t6)), (p7, .inr (17, t7)), (p8, .inr (17, t8)), (p9, .inr (17, t9)), (p10, .inr (17, t10)), (p11, .inr (17, t11)), (p12, .inr (17, t12)), (h, .inr (13, [.ref pe, .ref ne, .ref pa, .ref ro, .int 0])), (pe, .inr (9, [.int 14, .ref a1, .ref a2, .ref a3, .ref a4, .ref a5, .ref a6, .ref a7, .ref a8, .ref a9])), (a1, .inl (cy 0, 20, .inl f3_1497)), (a2, .inl (cy 0, 20, .inl f4_1498)), (oa, .inl (cy 3, 1, .inr (.inl o2_1499))), (mp, .inr (4, [.int mx_1501, .ref qx_1502, .int 14])), (qx_1502, .inl (cy 2, 15, .inr (.inr (.inr (.inr g2_1503))))), (y_1504, .inr (17, fy_1505)), (m0, .inr (20, [.int 0, .ref mp, .int 0, .ref b1, .ref b2, .ref b3, .ref b4, .ref b5, .ref mq]))] := hD
    refine W.widen (k := 84) (n := 1745) (Nat.le_of_ble_eq_true rfl) (Nat.le_of_ble_eq_true rfl) ?_
    refine lv_iload hx hb dL_law_341 (lv_at hl 1 rfl) ?_
    refine lv_icmp_eq (tgt := 348) hx hb dL_law_343 (by decide) (fun _ => ?_) (fun c_1509 => absurd (by decide) c_1509)
    refine lv_iload hx hb dL_law_348 (lv_at hl 1 rfl) ?_
    refine lv_if_ne (tgt := 365) hx hb dL_law_350 (by decide) (fun c_1510 => absurd c_1510 (by decide)) (fun _ => ?_)
    refine lv_aload_n hx hb dL_law_353 rfl (lv_at hl 3 rfl) ?_
    refine lv_iconst (v := 0) hx hb dL_law_354 (by decide) ?_
    refine va_lald hx hb hK hP 20 3 rfl rfl (zx_bn (by decide)) dL_law_355 ?_
    refine lv_iload hx hb dL_law_356 (lv_at hl 0 rfl) ?_
    refine lv_i2l (v := 13) hx hb dL_law_358 rfl ?_
    refine W.lcmp hx hb dL_law_359 ?_
    refine lv_topi (fun y9 ey9 => ?_)
    obtain rfl : y9 = 0 := ey9.trans (zx_lcmpe h_1500)
    refine lv_if_eq (tgt := 365) hx hb dL_law_360 (by decide) (fun _ => ?_) (fun c_1511 => absurd (by decide) c_1511)
    refine lv_goto (tgt := 4257) hx hb dL_law_365 (by decide) ?_
    refine lv_iinc (v := 84) (lv' := [(5, .int 84), (7, .int 13), (6, .int 0), (3, .ref oa), (2, .ref m0), (1, .ref h), (0, .ref b)]) hx hb dL_law_4257 hl (k := 2) rfl (by decide) (by decide) rfl (fun ls hl => ?_)
    refine lv_goto (tgt := 28) hx hb dL_law_4260 (by decide) ?_
    have hP := hP.sub (ws' := [(h, .inr (13, [.ref pe, .ref ne, .ref pa, .ref ro, .int 0])), (pe, .inr (9, [.int 14, .ref a1, .ref a2, .ref a3, .ref a4, .ref a5, .ref a6, .ref a7, .ref a8, .ref a9])), (a1, .inl (cy 0, 20, .inl f3_1497)), (a2, .inl (cy 0, 20, .inl f4_1498)), (ro, .inl (cy 0, 20, .inl f0)), (pa, .inr (4, [.int mc, .ref ed, .int 0])), (m0, .inr (20, [.int 0, .ref mp, .int 0, .ref b1, .ref b2, .ref b3, .ref b4, .ref b5, .ref mq])), (mp, .inr (4, [.int mx_1501, .ref qx_1502, .int 14])), (qx_1502, .inl (cy 2, 15, .inr (.inr (.inr (.inr g2_1503))))), (mq, .inr (4, [.int mn, .ref ed, .int 0])), (oa, .inl (cy 3, 1, .inr (.inl o2_1499))), (p0, .inr (17, t0)), (p1, .inr (17, t1)), (p2, .inr (17, t2)), (p3, .inr (17, t3)), (p4, .inr (17, t4)), (p5, .inr (17, t5)), (p6, .inr (17, t6)), (p7, .inr (17, t7)), (p8, .inr (17, t8)), (p9, .inr (17, t9)), (p10, .inr (17, t10)), (p11, .inr (17, t11)), (p12, .inr (17, t12)), (y_1504, .inr (17, fy_1505))]) [16, 17, 18, 19, 0, 1, 24, 21, 22, 2, 20, 3, 4, 5, 6, 7, 8, 9, 10, 11, 12, 13, 14, 15, 23] rfl
    have hD := hD.sub (ws' := [(h, .inr (13, [.ref pe, .ref ne, .ref pa, .ref ro, .int 0])), (pe, .inr (9, [.int 14, .ref a1, .ref a2, .ref a3, .ref a4, .ref a5, .ref a6, .ref a7, .ref a8, .ref a9])), (a1, .inl (cy 0, 20, .inl f3_1497)), (a2, .inl (cy 0, 20, .inl f4_1498)), (ro, .inl (cy 0, 20, .inl f0)), (pa, .inr (4, [.int mc, .ref ed, .int 0])), (m0, .inr (20, [.int 0, .ref mp, .int 0, .ref b1, .ref b2, .ref b3, .ref b4, .ref b5, .ref mq])), (mp, .inr (4, [.int mx_1501, .ref qx_1502, .int 14])), (qx_1502, .inl (cy 2, 15, .inr (.inr (.inr (.inr g2_1503))))), (mq, .inr (4, [.int mn, .ref ed, .int 0])), (oa, .inl (cy 3, 1, .inr (.inl o2_1499))), (p0, .inr (17, t0)), (p1, .inr (17, t1)), (p2, .inr (17, t2)), (p3, .inr (17, t3)), (p4, .inr (17, t4)), (p5, .inr (17, t5)), (p6, .inr (17, t6)), (p7, .inr (17, t7)), (p8, .inr (17, t8)), (p9, .inr (17, t9)), (p10, .inr (17, t10)), (p11, .inr (17, t11)), (p12, .inr (17, t12)), (y_1504, .inr (17, fy_1505))]) [16, 17, 18, 19, 0, 1, 24, 21, 22, 2, 20, 3, 4, 5, 6, 7, 8, 9, 10, 11, 12, 13, 14, 15, 23] (by decide) rfl
    exact hnext _ _ _ ⟨pe, ne, pa, ro, a1, a2, a3, a4, a5, a6, a7, a8, a9, mp, mq, b1, b2, b3, b4, b5, qx_1502, mc, mx_1501, mn, f3_1497, f4_1498, f0, o2_1499, g2_1503, p0, p1, p2, p3, p4, p5, p6, p7, p8, p9, p10, p11, p12, y_1504, t0, t1, t2, t3, t4, t5, t6, t7, t8, t9, t10, t11, t12, fy_1505, hP, hD, ((hs_1508 0 (by decide)).trans hp0), ((hs_1508 1 (by decide)).trans hp1), ((hs_1508 2 (by decide)).trans hp2), ((hs_1508 3 (by decide)).trans hp3), ((hs_1508 4 (by decide)).trans hp4), ((hs_1508 5 (by decide)).trans hp5), ((hs_1508 6 (by decide)).trans hp6), ((hs_1508 7 (by decide)).trans hp7), ((hs_1508 8 (by decide)).trans hp8), ((hs_1508 9 (by decide)).trans hp9), ((hs_1508 10 (by decide)).trans hp10), ((hs_1508 11 (by decide)).trans hp11), ((hs_1508 12 (by decide)).trans hp12), hs_1507⟩ hS (lv_sub hl [0, 3, 4, 5, 6] rfl)
set_option maxHeartbeats 4000000 in
set_option maxRecDepth 100000 in
theorem law_step_14 {p : Program} {l : Launch} {e : Env} {s : State} {m : MethodId} {below : List Frame} {meth : Method} {c : Code} {D : va_G} {cy : Nat → ClassId} {ed b : Nat} {A : Nat → Prop} {Q : State → Prop} (C0 : zx_LW p l s m c D cy ed b A) {h m0 oa : Nat} {H : Heap} {locs : List Loc} {ls : Array Slot} (h0 : zx_S14 D cy ed A h m0 oa H) (hS : va_S A s.heap H locs) (hl : lv_has ls 9 [(5, .int 84), (3, .ref oa), (2, .ref m0), (1, .ref h), (0, .ref b)])
    (hnext : ∀ (H : Heap) (locs : List Loc) (ls : Array Slot), zx_S15 D cy ed A h m0 oa H → va_S A s.heap H locs → lv_has ls 9 [(5, .int 90), (3, .ref oa), (2, .ref m0), (1, .ref h), (0, .ref b)] → W p l e zx_R s m #[Value.ref b] below meth c H locs 87 1775 Q (F0 m 28 ls [])) :
    W p l e zx_R s m #[Value.ref b] below meth c H locs 84 1745 Q (F0 m 28 ls []) := by
  obtain ⟨hx, hb, hml, hst, hown, hts, hX, hbl, hbA, hA, hK, hZ, hN⟩ := C0
  obtain ⟨pe, ne, pa, ro, a1, a2, a3, a4, a5, a6, a7, a8, a9, mp, mq, b1, b2, b3, b4, b5, ep, mc, mm, mn, f1, f2, f0, og, gp, p0, p1, p2, p3, p4, p5, p6, p7, p8, p9, p10, p11, p12, p13, t0, t1, t2, t3, t4, t5, t6, t7, t8, t9, t10, t11, t12, t13, hP, hD, hp0, hp1, hp2, hp3, hp4, hp5, hp6, hp7, hp8, hp9, hp10, hp11, hp12, hp13⟩ := h0
  refine lv_iload hx hb dL_law_28 (lv_at hl 0 rfl) ?_
  refine lv_aload_n hx hb dL_law_30 rfl (lv_at hl 4 rfl) ?_
  refine va_slen hx hb hX hbl hbA hS dL_law_31 ?_
  refine lv_topi (fun y9 ey9 => ?_)
  obtain rfl : y9 = 3072 := ey9.trans (by decide)
  refine lv_bipush (v := 6) hx hb dL_law_32 (by decide) ?_
  refine lv_isub hx hb dL_law_34 ?_
  refine lv_topi (fun y9 ey9 => ?_)
  obtain rfl : y9 = 3066 := by rw [ey9] <;> decide
  refine lv_icmp_gt (tgt := 4263) hx hb dL_law_35 (by decide) (fun c_1512 => absurd c_1512 (by decide)) (fun _ => ?_)
  refine lv_aload_n hx hb dL_law_38 rfl (lv_at hl 4 rfl) ?_
  refine lv_iload hx hb dL_law_39 (lv_at hl 0 rfl) ?_
  refine va_sld hx hb hX hbl hbA hS (zx_bn (by decide)) dL_law_41 ?_
  refine lv_topi (fun y9 ey9 => ?_)
  obtain rfl : y9 = 0 := ey9.trans (by decide)
  refine lv_bipush (v := 63) hx hb dL_law_42 (by decide) ?_
  refine lv_iand hx hb dL_law_44 ?_
  refine lv_topi (fun y9 ey9 => ?_)
  obtain rfl : y9 = 0 := by rw [ey9] <;> decide
  refine lv_tableIn (off := 255) (tgt := 300) hx hb dL_law_45 (by decide) (by decide) (by decide) (by decide) ?_
  refine lv_aload_n hx hb dL_law_300 rfl (lv_at hl 3 rfl) ?_
  refine lv_aload_n hx hb dL_law_301 rfl (lv_at hl 4 rfl) ?_
  refine lv_iload hx hb dL_law_302 (lv_at hl 0 rfl) ?_
  refine lv_iconst (v := 1) hx hb dL_law_304 (by decide) ?_
  refine lv_iadd hx hb dL_law_305 ?_
  refine lv_topi (fun y9 ey9 => ?_)
  obtain rfl : y9 = 85 := by rw [ey9] <;> decide
  refine va_sld hx hb hX hbl hbA hS (zx_bn (by decide)) dL_law_306 ?_
  refine lv_topi (fun y9 ey9 => ?_)
  obtain rfl : y9 = 0 := ey9.trans (by decide)
  refine lv_aload_n hx hb dL_law_307 rfl (lv_at hl 4 rfl) ?_
  refine lv_iload hx hb dL_law_308 (lv_at hl 0 rfl) ?_
  refine lv_iconst (v := 2) hx hb dL_law_310 (by decide) ?_
  refine lv_iadd hx hb dL_law_311 ?_
  refine lv_topi (fun y9 ey9 => ?_)
  obtain rfl : y9 = 86 := by rw [ey9] <;> decide
  refine va_sld hx hb hX hbl hbA hS (zx_bn (by decide)) dL_law_312 ?_
  refine lv_topi (fun y9 ey9 => ?_)
  obtain rfl : y9 = 0 := ey9.trans (by decide)
  refine lv_aload_n hx hb dL_law_313 rfl (lv_at hl 1 rfl) ?_
  have hPc := hP.sub (ws' := [(h, .inr (13, [.ref pe, .ref ne, .ref pa, .ref ro, .int 0])), (pe, .inr (9, [.int 14, .ref a1, .ref a2, .ref a3, .ref a4, .ref a5, .ref a6, .ref a7, .ref a8, .ref a9])), (a1, .inl (cy 0, 20, .inl f1)), (a2, .inl (cy 0, 20, .inl f2)), (oa, .inl (cy 3, 1, .inr (.inl og)))]) [0, 1, 2, 3, 10] rfl
  have hDc := hD.sub (ws' := [(h, .inr (13, [.ref pe, .ref ne, .ref pa, .ref ro, .int 0])), (pe, .inr (9, [.int 14, .ref a1, .ref a2, .ref a3, .ref a4, .ref a5, .ref a6, .ref a7, .ref a8, .ref a9])), (a1, .inl (cy 0, 20, .inl f1)), (a2, .inl (cy 0, 20, .inl f2)), (oa, .inl (cy 3, 1, .inr (.inl og)))]) [0, 1, 2, 3, 10] (by decide) rfl
  have hFc := va_free (wc := [(h, .inr (13, [.ref pe, .ref ne, .ref pa, .ref ro, .int 0])), (pe, .inr (9, [.int 14, .ref a1, .ref a2, .ref a3, .ref a4, .ref a5, .ref a6, .ref a7, .ref a8, .ref a9])), (a1, .inl (cy 0, 20, .inl f1)), (a2, .inl (cy 0, 20, .inl f2)), (oa, .inl (cy 3, 1, .inr (.inl og)))]) hD hS hA [0, 1, 2, 3, 10] rfl
  refine vx_calli (vx_runSX (As := [.ref h, .int 0, .int 0, .ref oa]) (rest := []) ⟨hx, hb, hml, hown, hts⟩ (c_L_addPerson_14 l hst D cy ed H.size h pe ne pa ro 0 a1 a2 a3 a4 a5 a6 a7 a8 a9 f1 f2 oa og) (vx_cwSW 4 hts (zx_GS mm_329 mm_330 mm_70 mm_331) rfl rfl rfl (by decide +kernel) ⟨(Nat.le_of_ble_eq_true rfl), (Nat.le_of_ble_eq_true rfl)⟩) ⟨zx_blind, zx_give hPc hK hDc hS hFc hZ hN⟩ rfl rfl hl.1 rfl (lv_room (Nat.le_of_ble_eq_true rfl)) dL_law_314 ⟨(Nat.le_of_ble_eq_true rfl), (Nat.le_of_ble_eq_true rfl)⟩) hS (fun q _ h => hFc q h) hFc (fun q _ h => hFc q h) (fun E9 ce9 q9 _ t H locs ht hvm _ hBX hz1 hk1 hS hce hcv hcl => ?_) (fun r9 u t H locs ht hvm hw hB hz1 hk1 hS => ?_)
  · exact hBX.elim
  ·
    obtain ⟨f3_1513, f4_1514, o2_1515⟩ := u
    obtain ⟨rfl, h_1516⟩ := hw
    obtain ⟨hP, hD⟩ := zx_join (wr := [(ro, .inl (cy 0, 20, .inl f0)), (pa, .inr (4, [.int mc, .ref ed, .int 0])), (m0, .inr (20, [.int 0, .ref mp, .int 0, .ref b1, .ref b2, .ref b3, .ref b4, .ref b5, .ref mq])), (mp, .inr (4, [.int mm, .ref ep, .int 14])), (ep, .inl (cy 2, 15, .inr (.inr (.inr (.inr gp))))), (mq, .inr (4, [.int mn, .ref ed, .int 0])), (p0, .inr (17, t0)), (p1, .inr (17, t1)), (p2, .inr (17, t2)), (p3, .inr (17, t3)), (p4, .inr (17, t4)), (p5, .inr (17, t5)), (p6, .inr (17, t6)), (p7, .inr (17, t7)), (p8, .inr (17, t8)), (p9, .inr (17, t9)), (p10, .inr (17, t10)), (p11, .inr (17, t11)), (p12, .inr (17, t12)), (p13, .inr (17, t13))]) (w1 := [(h, .inr (13, [.ref pe, .ref ne, .ref pa, .ref ro, .int 0])), (pe, .inr (9, [.int 15, .ref a1, .ref a2, .ref a3, .ref a4, .ref a5, .ref a6, .ref a7, .ref a8, .ref a9])), (a1, .inl (cy 0, 20, .inl f3_1513)), (a2, .inl (cy 0, 20, .inl f4_1514)), (oa, .inl (cy 3, 1, .inr (.inl o2_1515)))]) [0, 1, 2, 3, 10] [4, 5, 6, 7, 8, 9, 11, 12, 13, 14, 15, 16, 17, 18, 19, 20, 21, 22, 23, 24] rfl rfl (by decide) (by decide) hP hD hk1 hFc hB ht
    have hP : va_P D vwCl [(ro, .inl (cy 0, 20, .inl f0)), (pa, .inr (4, [.int mc, .ref ed, .int 0])), (m0, .inr (20, [.int 0, .ref mp, .int 0, .ref b1, .ref b2, .ref b3, .ref b4, .ref b5, .ref mq])), (mp, .inr (4, [.int mm, .ref ep, .int 14])), (ep, .inl (cy 2, 15, .inr (.inr (.inr (.inr gp))))), (mq, .inr (4, [.int mn, .ref ed, .int 0])), (p0, .inr (17, t0)), (p1, .inr (17, t1)), (p2, .inr (17, t2)), (p3, .inr (17, t3)), (p4, .inr (17, t4)), (p5, .inr (17, t5)), (p6, .inr (17, t6)), (p7, .inr (17, t7)), (p8, .inr (17, t8)), (p9, .inr (17, t9)), (p10, .inr (17, t10)), (p11, .inr (17, t11)), (p12, .inr (17, t12)), (p13, .inr (17, t13)), (h, .inr (13, [.ref pe, .ref ne, .ref pa, .ref ro, .int 0])), (pe, .inr (9, [.int 15, .ref a1, .ref a2, .ref a3, .ref a4, .ref a5, .ref a6, .ref a7, .ref a8, .ref a9])), (a1, .inl (cy 0, 20, .inl f3_1513)), (a2, .inl (cy 0, 20, .inl f4_1514)), (oa, .inl (cy 3, 1, .inr (.inl o2_1515)))] H := hP
    have hD : va_D A [(ro, .inl (cy 0, 20, .inl f0)), (pa, .inr (4, [.int mc, .ref ed, .int 0])), (m0, .inr (20, [.int 0, .ref mp, .int 0, .ref b1, .ref b2, .ref b3, .ref b4, .ref b5, .ref mq])), (mp, .inr (4, [.int mm, .ref ep, .int 14])), (ep, .inl (cy 2, 15, .inr (.inr (.inr (.inr gp))))), (mq, .inr (4, [.int mn, .ref ed, .int 0])), (p0, .inr (17, t0)), (p1, .inr (17, t1)), (p2, .inr (17, t2)), (p3, .inr (17, t3)), (p4, .inr (17, t4)), (p5, .inr (17, t5)), (p6, .inr (17, t6)), (p7, .inr (17, t7)), (p8, .inr (17, t8)), (p9, .inr (17, t9)), (p10, .inr (17, t10)), (p11, .inr (17, t11)), (p12, .inr (17, t12)), (p13, .inr (17, t13)), (h, .inr (13, [.ref pe, .ref ne, .ref pa, .ref ro, .int 0])), (pe, .inr (9, [.int 15, .ref a1, .ref a2, .ref a3, .ref a4, .ref a5, .ref a6, .ref a7, .ref a8, .ref a9])), (a1, .inl (cy 0, 20, .inl f3_1513)), (a2, .inl (cy 0, 20, .inl f4_1514)), (oa, .inl (cy 3, 1, .inr (.inl o2_1515)))] := hD
    refine W.widen (k := 84) (n := 1745) (Nat.le_of_ble_eq_true rfl) (Nat.le_of_ble_eq_true rfl) ?_
    refine lv_istore (lv' := [(6, .int 0), (5, .int 84), (3, .ref oa), (2, .ref m0), (1, .ref h), (0, .ref b)]) hx hb dL_law_317 hl (by decide) rfl (fun ls hl => ?_)
    refine lv_aload_n hx hb dL_law_319 rfl (lv_at hl 3 rfl) ?_
    refine lv_aload_n hx hb dL_law_320 rfl (lv_at hl 5 rfl) ?_
    refine lv_iload hx hb dL_law_321 (lv_at hl 1 rfl) ?_
    refine lv_iconst (v := 1) hx hb dL_law_323 (by decide) ?_
    refine lv_iadd hx hb dL_law_324 ?_
    refine lv_topi (fun y9 ey9 => ?_)
    obtain rfl : y9 = 85 := by rw [ey9] <;> decide
    refine va_sld hx hb hX hbl hbA hS (zx_bn (by decide)) dL_law_325 ?_
    refine lv_topi (fun y9 ey9 => ?_)
    obtain rfl : y9 = 0 := ey9.trans (by decide)
    refine lv_aload_n hx hb dL_law_326 rfl (lv_at hl 5 rfl) ?_
    refine lv_iload hx hb dL_law_327 (lv_at hl 1 rfl) ?_
    refine lv_iconst (v := 2) hx hb dL_law_329 (by decide) ?_
    refine lv_iadd hx hb dL_law_330 ?_
    refine lv_topi (fun y9 ey9 => ?_)
    obtain rfl : y9 = 86 := by rw [ey9] <;> decide
    refine va_sld hx hb hX hbl hbA hS (zx_bn (by decide)) dL_law_331 ?_
    refine lv_topi (fun y9 ey9 => ?_)
    obtain rfl : y9 = 0 := ey9.trans (by decide)
    have hPc := hP.sub (ws' := [(m0, .inr (20, [.int 0, .ref mp, .int 0, .ref b1, .ref b2, .ref b3, .ref b4, .ref b5, .ref mq])), (mp, .inr (4, [.int mm, .ref ep, .int 14])), (ep, .inl (cy 2, 15, .inr (.inr (.inr (.inr gp)))))]) [2, 3, 4] rfl
    have hDc := hD.sub (ws' := [(m0, .inr (20, [.int 0, .ref mp, .int 0, .ref b1, .ref b2, .ref b3, .ref b4, .ref b5, .ref mq])), (mp, .inr (4, [.int mm, .ref ep, .int 14])), (ep, .inl (cy 2, 15, .inr (.inr (.inr (.inr gp)))))]) [2, 3, 4] (by decide) rfl
    have hFc := va_free (wc := [(m0, .inr (20, [.int 0, .ref mp, .int 0, .ref b1, .ref b2, .ref b3, .ref b4, .ref b5, .ref mq])), (mp, .inr (4, [.int mm, .ref ep, .int 14])), (ep, .inl (cy 2, 15, .inr (.inr (.inr (.inr gp)))))]) hD hS hA [2, 3, 4] rfl
    refine va_calli (va_runV (As := [.int 0, .int 0]) (rest := []) ⟨hx, hb, hml, hown, hts⟩ (c_X15_addPerson_14 l hst D cy ed H.size m0 mp mq b1 b2 b3 b4 b5 0 0 mm ep gp) (cwV 2 hts (zx_GV mm_1603 mm_1604 mm_1605 mm_78 mm_1606) rfl rfl rfl (by decide +kernel) ⟨(Nat.le_of_ble_eq_true rfl), (Nat.le_of_ble_eq_true rfl)⟩) ⟨zx_blind, va_recv hK hPc (ci := 20) (q0 := 0) rfl rfl, zx_give hPc hK hDc hS hFc hZ hN⟩ rfl rfl hl.1 rfl (lv_room (Nat.le_of_ble_eq_true rfl)) dL_law_332 ⟨(Nat.le_of_ble_eq_true rfl), (Nat.le_of_ble_eq_true rfl)⟩) hS (fun q _ h => hFc q h) hFc (fun r9 u t H1 locs ht hvm hw hB hz1 hk1 hS => ?_)
    obtain ⟨mx_1517, qx_1518, g2_1519, y_1520, fy_1521⟩ := u
    obtain ⟨rfl, h_1522⟩ := hw
    obtain ⟨hP, hD⟩ := zx_join (wr := [(ro, .inl (cy 0, 20, .inl f0)), (pa, .inr (4, [.int mc, .ref ed, .int 0])), (mq, .inr (4, [.int mn, .ref ed, .int 0])), (p0, .inr (17, t0)), (p1, .inr (17, t1)), (p2, .inr (17, t2)), (p3, .inr (17, t3)), (p4, .inr (17, t4)), (p5, .inr (17, t5)), (p6, .inr (17, t6)), (p7, .inr (17, t7)), (p8, .inr (17, t8)), (p9, .inr (17, t9)), (p10, .inr (17, t10)), (p11, .inr (17, t11)), (p12, .inr (17, t12)), (p13, .inr (17, t13)), (h, .inr (13, [.ref pe, .ref ne, .ref pa, .ref ro, .int 0])), (pe, .inr (9, [.int 15, .ref a1, .ref a2, .ref a3, .ref a4, .ref a5, .ref a6, .ref a7, .ref a8, .ref a9])), (a1, .inl (cy 0, 20, .inl f3_1513)), (a2, .inl (cy 0, 20, .inl f4_1514)), (oa, .inl (cy 3, 1, .inr (.inl o2_1515)))]) (w1 := [(m0, .inr (20, [.int 0, .ref mp, .int 0, .ref b1, .ref b2, .ref b3, .ref b4, .ref b5, .ref mq])), (mp, .inr (4, [.int mx_1517, .ref qx_1518, .int 15])), (qx_1518, .inl (cy 2, 15, .inr (.inr (.inr (.inr g2_1519))))), (y_1520, .inr (17, fy_1521))]) [2, 3, 4] [0, 1, 5, 6, 7, 8, 9, 10, 11, 12, 13, 14, 15, 16, 17, 18, 19, 20, 21, 22, 23, 24] rfl rfl (by decide) (by decide) hP hD hk1 hFc hB ht
    generalize H1 = H at hP hS ⊢
    have hP : va_P D vwCl [(ro, .inl (cy 0, 20, .inl f0)), (pa, .inr (4, [.int mc, .ref ed, .int 0])), (mq, .inr (4, [.int mn, .ref ed, .int 0])), (p0, .inr (17, t0)), (p1, .inr (17, t1)), (p2, .inr (17, t2)), (p3, .inr (17, t3)), (p4, .inr (17, t4)), (p5, .inr (17, t5)), (p6, .inr (17, t6)), (p7, .inr (17, t7)), (p8, .inr (17, t8)), (p9, .inr (17, t9)), (p10, .inr (17, t10)), (p11, .inr (17, t11)), (p12, .inr (17, t12)), (p13, .inr (17, t13)), (h, .inr (13, [.ref pe, .ref ne, .ref pa, .ref ro, .int 0])), (pe, .inr (9, [.int 15, .ref a1, .ref a2, .ref a3, .ref a4, .ref a5, .ref a6, .ref a7, .ref a8, .ref a9])), (a1, .inl (cy 0, 20, .inl f3_1513)), (a2, .inl (cy 0, 20, .inl f4_1514)), (oa, .inl (cy 3, 1, .inr (.inl o2_1515))), (m0, .inr (20, [.int 0, .ref mp, .int 0, .ref b1, .ref b2, .ref b3, .ref b4, .ref b5, .ref mq])), (mp, .inr (4, [.int mx_1517, .ref qx_1518, .int 15])), (qx_1518, .inl (cy 2, 15, .inr (.inr (.inr (.inr g2_1519))))), (y_1520, .inr (17, fy_1521))] H := hP
    have hD : va_D A [(ro, .inl (cy 0, 20, .inl f0)), (pa, .inr (4, [.int mc, .ref ed, .int 0])), (mq, .inr (4, [.int mn, .ref ed, .int 0])), (p0, .inr (17, t0)), (p1, .inr (17, t1)), (p2, .inr (17, t2)), (p3, .inr (17, t3)), (p4, .inr (17, t4)), (p5, .inr (17, t5)), (p6, .inr (17, t6)), (p7, .inr (17, t7)), (p8, .inr (17, t8)), (p9, .inr (17, t9)), (p10, .inr (17, t10)), (p11, .inr (17, t11)), (p12, .inr (17, t12)), (p13, .inr (17, t13)), (h, .inr (13, [.ref pe, .ref ne, .ref pa, .ref ro, .int 0])), (pe, .inr (9, [.int 15, .ref a1, .ref a2, .ref a3, .ref a4, .ref a5, .ref a6, .ref a7, .ref a8, .ref a9])), (a1, .inl (cy 0, 20, .inl f3_1513)), (a2, .inl (cy 0, 20, .inl f4_1514)), (oa, .inl (cy 3, 1, .inr (.inl o2_1515))), (m0, .inr (20, [.int 0, .ref mp, .int 0, .ref b1, .ref b2, .ref b3, .ref b4, .ref b5, .ref mq])), (mp, .inr (4, [.int mx_1517, .ref qx_1518, .int 15])), (qx_1518, .inl (cy 2, 15, .inr (.inr (.inr (.inr g2_1519))))), (y_1520, .inr (17, fy_1521))] := hD
    refine W.widen (k := 87) (n := 1775) (Nat.le_of_ble_eq_true rfl) (Nat.le_of_ble_eq_true rfl) ?_
    obtain ⟨hs_1523, hs_1524⟩ := h_1522
    refine lv_istore (lv' := [(7, .int 14), (6, .int 0), (5, .int 84), (3, .ref oa), (2, .ref m0), (1, .ref h), (0, .ref b)]) hx hb dL_law_335 hl (by decide) rfl (fun ls hl => ?_)
    refine lv_aload_n hx hb dL_law_337 rfl (lv_at hl 4 rfl) ?_
    have hPc := hP.sub (ws' := [(m0, .inr (20, [.int 0, .ref mp, .int 0, .ref b1, .ref b2, .ref b3, .ref b4, .ref b5, .ref mq]))]) [22] rfl
    have hDc := hD.sub (ws' := [(m0, .inr (20, [.int 0, .ref mp, .int 0, .ref b1, .ref b2, .ref b3, .ref b4, .ref b5, .ref mq]))]) [22] (by decide) rfl
    have hFc := va_free (wc := [(m0, .inr (20, [.int 0, .ref mp, .int 0, .ref b1, .ref b2, .ref b3, .ref b4, .ref b5, .ref mq]))]) hD hS hA [22] rfl
    refine va_calli (va_runV (As := []) (rest := []) ⟨hx, hb, hml, hown, hts⟩ (c_X15_thrown l hst D cy ed H.size m0 mp mq b1 b2 b3 b4 b5 0 0) (cwV 0 hts (zx_GV mm_1599 mm_1600 mm_1601 mm_78 mm_1602) rfl rfl rfl (by decide +kernel) ⟨(Nat.le_of_ble_eq_true rfl), (Nat.le_of_ble_eq_true rfl)⟩) ⟨zx_blind, va_recv hK hPc (ci := 20) (q0 := 0) rfl rfl, zx_give hPc hK hDc hS hFc hZ hN⟩ rfl rfl hl.1 rfl (lv_room (Nat.le_of_ble_eq_true rfl)) dL_law_338 ⟨(Nat.le_of_ble_eq_true rfl), (Nat.le_of_ble_eq_true rfl)⟩) hS (fun q _ h => hFc q h) hFc (fun r9 u t H1 locs ht hvm hw hB hz1 hk1 hS => ?_)
    obtain rfl : r9 = 0 := hw
    obtain ⟨hP, hD⟩ := zx_join (wr := [(ro, .inl (cy 0, 20, .inl f0)), (pa, .inr (4, [.int mc, .ref ed, .int 0])), (mq, .inr (4, [.int mn, .ref ed, .int 0])), (p0, .inr (17, t0)), (p1, .inr (17, t1)), (p2, .inr (17, t2)), (p3, .inr (17, t3)), (p4, .inr (17, t4)), (p5, .inr (17, t5)), (p6, .inr (17, t6)), (p7, .inr (17, t7)), (p8, .inr (17, t8)), (p9, .inr (17, t9)), (p10, .inr (17, t10)), (p11, .inr (17, t11)), (p12, .inr (17, t12)), (p13, .inr (17, t13)), (h, .inr (13, [.ref pe, .ref ne, .ref pa, .ref ro, .int 0])), (pe, .inr (9, [.int 15, .ref a1, .ref a2, .ref a3, .ref a4, .ref a5, .ref a6, .ref a7, .ref a8, .ref a9])), (a1, .inl (cy 0, 20, .inl f3_1513)), (a2, .inl (cy 0, 20, .inl f4_1514)), (oa, .inl (cy 3, 1, .inr (.inl o2_1515))), (mp, .inr (4, [.int mx_1517, .ref qx_1518, .int 15])), (qx_1518, .inl (cy 2, 15, .inr (.inr (.inr (.inr g2_1519))))), (y_1520, .inr (17, fy_1521))]) (w1 := [(m0, .inr (20, [.int 0, .ref mp, .int 0, .ref b1, .ref b2, .ref b3, .ref b4, .ref b5, .ref mq]))]) [22] [0, 1, 2, 3, 4, 5, 6, 7, 8, 9, 10, 11, 12, 13, 14, 15, 16, 17, 18, 19, 20, 21, 23, 24, 25] rfl rfl (by decide) (by decide) hP hD hk1 hFc hB ht
    generalize H1 = H at hP hS ⊢
    have hP : va_P D vwCl [(ro, .inl (cy 0, 20, .inl f0)), (pa, .inr (4, [.int mc, .ref ed, .int 0])), (mq, .inr (4, [.int mn, .ref ed, .int 0])), (p0, .inr (17, t0)), (p1, .inr (17, t1)), (p2, .inr (17, t2)), (p3, .inr (17, t3)), (p4, .inr (17, t4)), (p5, .inr (17, t5)), (p6, .inr (17, t6)), (p7, .inr (17, t7)), (p8, .inr (17, t8)), (p9, .inr (17, t9)), (p10, .inr (17, t10)), (p11, .inr (17, t11)), (p12, .inr (17, t12)), (p13, .inr (17, t13)), (h, .inr (13, [.ref pe, .ref ne, .ref pa, .ref ro, .int 0])), (pe, .inr (9, [.int 15, .ref a1, .ref a2, .ref a3, .ref a4, .ref a5, .ref a6, .ref a7, .ref a8, .ref a9])), (a1, .inl (cy 0, 20, .inl f3_1513)), (a2, .inl (cy 0, 20, .inl f4_1514)), (oa, .inl (cy 3, 1, .inr (.inl o2_1515))), (mp, .inr (4, [.int mx_1517, .ref qx_1518, .int 15])), (qx_1518, .inl (cy 2, 15, .inr (.inr (.inr (.inr g2_1519))))), (y_1520, .inr (17, fy_1521)), (m0, .inr (20, [.int 0, .ref mp, .int 0, .ref b1, .ref b2, .ref b3, .ref b4, .ref b5, .ref mq]))] H := hP
    have hD : va_D A [(ro, .inl (cy 0, 20, .inl f0)), (pa, .inr (4, [.int mc, .ref ed, .int 0])), (mq, .inr (4, [.int mn, .ref ed, .int 0])), (p0, .inr (17, t0)), (p1, .inr (17, t1)), (p2, .inr (17, t2)), (p3, .inr (17, t3)), (p4, .inr (17, t4)), (p5, .inr (17, t5)), (p6, .inr (17, t6)), (p7, .inr (17, t7)), (p8, .inr (17, t8)), (p9, .inr (17, t9)), (p10, .inr (17, t10)), (p11, .inr (17, t11)), (p12, .inr (17, t12)), (p13, .inr (17, t13)), (h, .inr (13, [.ref pe, .ref ne, .ref pa, .ref ro, .int 0])), (pe, .inr (9, [.int 15, .ref a1, .ref a2, .ref a3, .ref a4, .ref a5, .ref a6, .ref a7, .ref a8, .ref a9])), (a1, .inl (cy 0, 20, .inl f3_1513)), (a2, .inl (cy 0, 20, .inl f4_1514)), (oa, .inl (cy 3, 1, .inr (.inl o2_1515))), (mp, .inr (4, [.int mx_1517, .ref qx_1518, .int 15])), (qx_1518, .inl (cy 2, 15, .inr (.inr (.inr (.inr g2_1519))))), (y_1520, .inr (17, fy_1521)), (m0, .inr (20, [.int 0, .ref mp, .int 0, .ref b1, .ref b2, .ref b3, .ref b4, .ref b5, .ref mq]))] := hD
    refine W.widen (k := 87) (n := 1775) (Nat.le_of_ble_eq_true rfl) (Nat.le_of_ble_eq_true rfl) ?_
    refine lv_iload hx hb dL_law_341 (lv_at hl 1 rfl) ?_
    refine lv_icmp_eq (tgt := 348) hx hb dL_law_343 (by decide) (fun _ => ?_) (fun c_1525 => absurd (by decide) c_1525)
    refine lv_iload hx hb dL_law_348 (lv_at hl 1 rfl) ?_
    refine lv_if_ne (tgt := 365) hx hb dL_law_350 (by decide) (fun c_1526 => absurd c_1526 (by decide)) (fun _ => ?_)
    refine lv_aload_n hx hb dL_law_353 rfl (lv_at hl 3 rfl) ?_
    refine lv_iconst (v := 0) hx hb dL_law_354 (by decide) ?_
    refine va_lald hx hb hK hP 21 3 rfl rfl (zx_bn (by decide)) dL_law_355 ?_
    refine lv_iload hx hb dL_law_356 (lv_at hl 0 rfl) ?_
    refine lv_i2l (v := 14) hx hb dL_law_358 rfl ?_
    refine W.lcmp hx hb dL_law_359 ?_
    refine lv_topi (fun y9 ey9 => ?_)
    obtain rfl : y9 = 0 := ey9.trans (zx_lcmpe h_1516)
    refine lv_if_eq (tgt := 365) hx hb dL_law_360 (by decide) (fun _ => ?_) (fun c_1527 => absurd (by decide) c_1527)
    refine lv_goto (tgt := 4257) hx hb dL_law_365 (by decide) ?_
    refine lv_iinc (v := 90) (lv' := [(5, .int 90), (7, .int 14), (6, .int 0), (3, .ref oa), (2, .ref m0), (1, .ref h), (0, .ref b)]) hx hb dL_law_4257 hl (k := 2) rfl (by decide) (by decide) rfl (fun ls hl => ?_)
    refine lv_goto (tgt := 28) hx hb dL_law_4260 (by decide) ?_
    have hP := hP.sub (ws' := [(h, .inr (13, [.ref pe, .ref ne, .ref pa, .ref ro, .int 0])), (pe, .inr (9, [.int 15, .ref a1, .ref a2, .ref a3, .ref a4, .ref a5, .ref a6, .ref a7, .ref a8, .ref a9])), (a1, .inl (cy 0, 20, .inl f3_1513)), (a2, .inl (cy 0, 20, .inl f4_1514)), (ro, .inl (cy 0, 20, .inl f0)), (pa, .inr (4, [.int mc, .ref ed, .int 0])), (m0, .inr (20, [.int 0, .ref mp, .int 0, .ref b1, .ref b2, .ref b3, .ref b4, .ref b5, .ref mq])), (mp, .inr (4, [.int mx_1517, .ref qx_1518, .int 15])), (qx_1518, .inl (cy 2, 15, .inr (.inr (.inr (.inr g2_1519))))), (mq, .inr (4, [.int mn, .ref ed, .int 0])), (oa, .inl (cy 3, 1, .inr (.inl o2_1515))), (p0, .inr (17, t0)), (p1, .inr (17, t1)), (p2, .inr (17, t2)), (p3, .inr (17, t3)), (p4, .inr (17, t4)), (p5, .inr (17, t5)), (p6, .inr (17, t6)), (p7, .inr (17, t7)), (p8, .inr (17, t8)), (p9, .inr (17, t9)), (p10, .inr (17, t10)), (p11, .inr (17, t11)), (p12, .inr (17, t12)), (p13, .inr (17, t13)), (y_1520, .inr (17, fy_1521))]) [17, 18, 19, 20, 0, 1, 25, 22, 23, 2, 21, 3, 4, 5, 6, 7, 8, 9, 10, 11, 12, 13, 14, 15, 16, 24] rfl
    have hD := hD.sub (ws' := [(h, .inr (13, [.ref pe, .ref ne, .ref pa, .ref ro, .int 0])), (pe, .inr (9, [.int 15, .ref a1, .ref a2, .ref a3, .ref a4, .ref a5, .ref a6, .ref a7, .ref a8, .ref a9])), (a1, .inl (cy 0, 20, .inl f3_1513)), (a2, .inl (cy 0, 20, .inl f4_1514)), (ro, .inl (cy 0, 20, .inl f0)), (pa, .inr (4, [.int mc, .ref ed, .int 0])), (m0, .inr (20, [.int 0, .ref mp, .int 0, .ref b1, .ref b2, .ref b3, .ref b4, .ref b5, .ref mq])), (mp, .inr (4, [.int mx_1517, .ref qx_1518, .int 15])), (qx_1518, .inl (cy 2, 15, .inr (.inr (.inr (.inr g2_1519))))), (mq, .inr (4, [.int mn, .ref ed, .int 0])), (oa, .inl (cy 3, 1, .inr (.inl o2_1515))), (p0, .inr (17, t0)), (p1, .inr (17, t1)), (p2, .inr (17, t2)), (p3, .inr (17, t3)), (p4, .inr (17, t4)), (p5, .inr (17, t5)), (p6, .inr (17, t6)), (p7, .inr (17, t7)), (p8, .inr (17, t8)), (p9, .inr (17, t9)), (p10, .inr (17, t10)), (p11, .inr (17, t11)), (p12, .inr (17, t12)), (p13, .inr (17, t13)), (y_1520, .inr (17, fy_1521))]) [17, 18, 19, 20, 0, 1, 25, 22, 23, 2, 21, 3, 4, 5, 6, 7, 8, 9, 10, 11, 12, 13, 14, 15, 16, 24] (by decide) rfl
    exact hnext _ _ _ ⟨pe, ne, pa, ro, a1, a2, a3, a4, a5, a6, a7, a8, a9, mp, mq, b1, b2, b3, b4, b5, qx_1518, mc, mx_1517, mn, f3_1513, f4_1514, f0, o2_1515, g2_1519, p0, p1, p2, p3, p4, p5, p6, p7, p8, p9, p10, p11, p12, p13, y_1520, t0, t1, t2, t3, t4, t5, t6, t7, t8, t9, t10, t11, t12, t13, fy_1521, hP, hD, ((hs_1524 0 (by decide)).trans hp0), ((hs_1524 1 (by decide)).trans hp1), ((hs_1524 2 (by decide)).trans hp2), ((hs_1524 3 (by decide)).trans hp3), ((hs_1524 4 (by decide)).trans hp4), ((hs_1524 5 (by decide)).trans hp5), ((hs_1524 6 (by decide)).trans hp6), ((hs_1524 7 (by decide)).trans hp7), ((hs_1524 8 (by decide)).trans hp8), ((hs_1524 9 (by decide)).trans hp9), ((hs_1524 10 (by decide)).trans hp10), ((hs_1524 11 (by decide)).trans hp11), ((hs_1524 12 (by decide)).trans hp12), ((hs_1524 13 (by decide)).trans hp13), hs_1523⟩ hS (lv_sub hl [0, 3, 4, 5, 6] rfl)
set_option maxHeartbeats 4000000 in
set_option maxRecDepth 100000 in
theorem law_step_15 {p : Program} {l : Launch} {e : Env} {s : State} {m : MethodId} {below : List Frame} {meth : Method} {c : Code} {D : va_G} {cy : Nat → ClassId} {ed b : Nat} {A : Nat → Prop} {Q : State → Prop} (C0 : zx_LW p l s m c D cy ed b A) {h m0 oa : Nat} {H : Heap} {locs : List Loc} {ls : Array Slot} (h0 : zx_S15 D cy ed A h m0 oa H) (hS : va_S A s.heap H locs) (hl : lv_has ls 9 [(5, .int 90), (3, .ref oa), (2, .ref m0), (1, .ref h), (0, .ref b)])
    (hnext : ∀ (H : Heap) (locs : List Loc) (ls : Array Slot), zx_S16 D cy ed A h m0 oa H → va_S A s.heap H locs → lv_has ls 9 [(5, .int 96), (3, .ref oa), (2, .ref m0), (1, .ref h), (0, .ref b)] → W p l e zx_R s m #[Value.ref b] below meth c H locs 91 1827 Q (F0 m 28 ls [])) :
    W p l e zx_R s m #[Value.ref b] below meth c H locs 87 1775 Q (F0 m 28 ls []) := by
  obtain ⟨hx, hb, hml, hst, hown, hts, hX, hbl, hbA, hA, hK, hZ, hN⟩ := C0
  obtain ⟨pe, ne, pa, ro, a1, a2, a3, a4, a5, a6, a7, a8, a9, mp, mq, b1, b2, b3, b4, b5, ep, mc, mm, mn, f1, f2, f0, og, gp, p0, p1, p2, p3, p4, p5, p6, p7, p8, p9, p10, p11, p12, p13, p14, t0, t1, t2, t3, t4, t5, t6, t7, t8, t9, t10, t11, t12, t13, t14, hP, hD, hp0, hp1, hp2, hp3, hp4, hp5, hp6, hp7, hp8, hp9, hp10, hp11, hp12, hp13, hp14⟩ := h0
  refine lv_iload hx hb dL_law_28 (lv_at hl 0 rfl) ?_
  refine lv_aload_n hx hb dL_law_30 rfl (lv_at hl 4 rfl) ?_
  refine va_slen hx hb hX hbl hbA hS dL_law_31 ?_
  refine lv_topi (fun y9 ey9 => ?_)
  obtain rfl : y9 = 3072 := ey9.trans (by decide)
  refine lv_bipush (v := 6) hx hb dL_law_32 (by decide) ?_
  refine lv_isub hx hb dL_law_34 ?_
  refine lv_topi (fun y9 ey9 => ?_)
  obtain rfl : y9 = 3066 := by rw [ey9] <;> decide
  refine lv_icmp_gt (tgt := 4263) hx hb dL_law_35 (by decide) (fun c_1528 => absurd c_1528 (by decide)) (fun _ => ?_)
  refine lv_aload_n hx hb dL_law_38 rfl (lv_at hl 4 rfl) ?_
  refine lv_iload hx hb dL_law_39 (lv_at hl 0 rfl) ?_
  refine va_sld hx hb hX hbl hbA hS (zx_bn (by decide)) dL_law_41 ?_
  refine lv_topi (fun y9 ey9 => ?_)
  obtain rfl : y9 = 0 := ey9.trans (by decide)
  refine lv_bipush (v := 63) hx hb dL_law_42 (by decide) ?_
  refine lv_iand hx hb dL_law_44 ?_
  refine lv_topi (fun y9 ey9 => ?_)
  obtain rfl : y9 = 0 := by rw [ey9] <;> decide
  refine lv_tableIn (off := 255) (tgt := 300) hx hb dL_law_45 (by decide) (by decide) (by decide) (by decide) ?_
  refine lv_aload_n hx hb dL_law_300 rfl (lv_at hl 3 rfl) ?_
  refine lv_aload_n hx hb dL_law_301 rfl (lv_at hl 4 rfl) ?_
  refine lv_iload hx hb dL_law_302 (lv_at hl 0 rfl) ?_
  refine lv_iconst (v := 1) hx hb dL_law_304 (by decide) ?_
  refine lv_iadd hx hb dL_law_305 ?_
  refine lv_topi (fun y9 ey9 => ?_)
  obtain rfl : y9 = 91 := by rw [ey9] <;> decide
  refine va_sld hx hb hX hbl hbA hS (zx_bn (by decide)) dL_law_306 ?_
  refine lv_topi (fun y9 ey9 => ?_)
  obtain rfl : y9 = 0 := ey9.trans (by decide)
  refine lv_aload_n hx hb dL_law_307 rfl (lv_at hl 4 rfl) ?_
  refine lv_iload hx hb dL_law_308 (lv_at hl 0 rfl) ?_
  refine lv_iconst (v := 2) hx hb dL_law_310 (by decide) ?_
  refine lv_iadd hx hb dL_law_311 ?_
  refine lv_topi (fun y9 ey9 => ?_)
  obtain rfl : y9 = 92 := by rw [ey9] <;> decide
  refine va_sld hx hb hX hbl hbA hS (zx_bn (by decide)) dL_law_312 ?_
  refine lv_topi (fun y9 ey9 => ?_)
  obtain rfl : y9 = 0 := ey9.trans (by decide)
  refine lv_aload_n hx hb dL_law_313 rfl (lv_at hl 1 rfl) ?_
  have hPc := hP.sub (ws' := [(h, .inr (13, [.ref pe, .ref ne, .ref pa, .ref ro, .int 0])), (pe, .inr (9, [.int 15, .ref a1, .ref a2, .ref a3, .ref a4, .ref a5, .ref a6, .ref a7, .ref a8, .ref a9])), (a1, .inl (cy 0, 20, .inl f1)), (a2, .inl (cy 0, 20, .inl f2)), (oa, .inl (cy 3, 1, .inr (.inl og)))]) [0, 1, 2, 3, 10] rfl
  have hDc := hD.sub (ws' := [(h, .inr (13, [.ref pe, .ref ne, .ref pa, .ref ro, .int 0])), (pe, .inr (9, [.int 15, .ref a1, .ref a2, .ref a3, .ref a4, .ref a5, .ref a6, .ref a7, .ref a8, .ref a9])), (a1, .inl (cy 0, 20, .inl f1)), (a2, .inl (cy 0, 20, .inl f2)), (oa, .inl (cy 3, 1, .inr (.inl og)))]) [0, 1, 2, 3, 10] (by decide) rfl
  have hFc := va_free (wc := [(h, .inr (13, [.ref pe, .ref ne, .ref pa, .ref ro, .int 0])), (pe, .inr (9, [.int 15, .ref a1, .ref a2, .ref a3, .ref a4, .ref a5, .ref a6, .ref a7, .ref a8, .ref a9])), (a1, .inl (cy 0, 20, .inl f1)), (a2, .inl (cy 0, 20, .inl f2)), (oa, .inl (cy 3, 1, .inr (.inl og)))]) hD hS hA [0, 1, 2, 3, 10] rfl
  refine vx_calli (vx_runSX (As := [.ref h, .int 0, .int 0, .ref oa]) (rest := []) ⟨hx, hb, hml, hown, hts⟩ (c_L_addPerson_15 l hst D cy ed H.size h pe ne pa ro 0 a1 a2 a3 a4 a5 a6 a7 a8 a9 f1 f2 oa og) (vx_cwSW 4 hts (zx_GS mm_329 mm_330 mm_70 mm_331) rfl rfl rfl (by decide +kernel) ⟨(Nat.le_of_ble_eq_true rfl), (Nat.le_of_ble_eq_true rfl)⟩) ⟨zx_blind, zx_give hPc hK hDc hS hFc hZ hN⟩ rfl rfl hl.1 rfl (lv_room (Nat.le_of_ble_eq_true rfl)) dL_law_314 ⟨(Nat.le_of_ble_eq_true rfl), (Nat.le_of_ble_eq_true rfl)⟩) hS (fun q _ h => hFc q h) hFc (fun q _ h => hFc q h) (fun E9 ce9 q9 _ t H locs ht hvm _ hBX hz1 hk1 hS hce hcv hcl => ?_) (fun r9 u t H locs ht hvm hw hB hz1 hk1 hS => ?_)
  · exact hBX.elim
  ·
    obtain ⟨f3_1529, f4_1530, o2_1531⟩ := u
    obtain ⟨rfl, h_1532⟩ := hw
    obtain ⟨hP, hD⟩ := zx_join (wr := [(ro, .inl (cy 0, 20, .inl f0)), (pa, .inr (4, [.int mc, .ref ed, .int 0])), (m0, .inr (20, [.int 0, .ref mp, .int 0, .ref b1, .ref b2, .ref b3, .ref b4, .ref b5, .ref mq])), (mp, .inr (4, [.int mm, .ref ep, .int 15])), (ep, .inl (cy 2, 15, .inr (.inr (.inr (.inr gp))))), (mq, .inr (4, [.int mn, .ref ed, .int 0])), (p0, .inr (17, t0)), (p1, .inr (17, t1)), (p2, .inr (17, t2)), (p3, .inr (17, t3)), (p4, .inr (17, t4)), (p5, .inr (17, t5)), (p6, .inr (17, t6)), (p7, .inr (17, t7)), (p8, .inr (17, t8)), (p9, .inr (17, t9)), (p10, .inr (17, t10)), (p11, .inr (17, t11)), (p12, .inr (17, t12)), (p13, .inr (17, t13)), (p14, .inr (17, t14))]) (w1 := [(h, .inr (13, [.ref pe, .ref ne, .ref pa, .ref ro, .int 0])), (pe, .inr (9, [.int 16, .ref a1, .ref a2, .ref a3, .ref a4, .ref a5, .ref a6, .ref a7, .ref a8, .ref a9])), (a1, .inl (cy 0, 20, .inl f3_1529)), (a2, .inl (cy 0, 20, .inl f4_1530)), (oa, .inl (cy 3, 1, .inr (.inl o2_1531)))]) [0, 1, 2, 3, 10] [4, 5, 6, 7, 8, 9, 11, 12, 13, 14, 15, 16, 17, 18, 19, 20, 21, 22, 23, 24, 25] rfl rfl (by decide) (by decide) hP hD hk1 hFc hB ht
    have hP : va_P D vwCl [(ro, .inl (cy 0, 20, .inl f0)), (pa, .inr (4, [.int mc, .ref ed, .int 0])), (m0, .inr (20, [.int 0, .ref mp, .int 0, .ref b1, .ref b2, .ref b3, .ref b4, .ref b5, .ref mq])), (mp, .inr (4, [.int mm, .ref ep, .int 15])), (ep, .inl (cy 2, 15, .inr (.inr (.inr (.inr gp))))), (mq, .inr (4, [.int mn, .ref ed, .int 0])), (p0, .inr (17, t0)), (p1, .inr (17, t1)), (p2, .inr (17, t2)), (p3, .inr (17, t3)), (p4, .inr (17, t4)), (p5, .inr (17, t5)), (p6, .inr (17, t6)), (p7, .inr (17, t7)), (p8, .inr (17, t8)), (p9, .inr (17, t9)), (p10, .inr (17, t10)), (p11, .inr (17, t11)), (p12, .inr (17, t12)), (p13, .inr (17, t13)), (p14, .inr (17, t14)), (h, .inr (13, [.ref pe, .ref ne, .ref pa, .ref ro, .int 0])), (pe, .inr (9, [.int 16, .ref a1, .ref a2, .ref a3, .ref a4, .ref a5, .ref a6, .ref a7, .ref a8, .ref a9])), (a1, .inl (cy 0, 20, .inl f3_1529)), (a2, .inl (cy 0, 20, .inl f4_1530)), (oa, .inl (cy 3, 1, .inr (.inl o2_1531)))] H := hP
    have hD : va_D A [(ro, .inl (cy 0, 20, .inl f0)), (pa, .inr (4, [.int mc, .ref ed, .int 0])), (m0, .inr (20, [.int 0, .ref mp, .int 0, .ref b1, .ref b2, .ref b3, .ref b4, .ref b5, .ref mq])), (mp, .inr (4, [.int mm, .ref ep, .int 15])), (ep, .inl (cy 2, 15, .inr (.inr (.inr (.inr gp))))), (mq, .inr (4, [.int mn, .ref ed, .int 0])), (p0, .inr (17, t0)), (p1, .inr (17, t1)), (p2, .inr (17, t2)), (p3, .inr (17, t3)), (p4, .inr (17, t4)), (p5, .inr (17, t5)), (p6, .inr (17, t6)), (p7, .inr (17, t7)), (p8, .inr (17, t8)), (p9, .inr (17, t9)), (p10, .inr (17, t10)), (p11, .inr (17, t11)), (p12, .inr (17, t12)), (p13, .inr (17, t13)), (p14, .inr (17, t14)), (h, .inr (13, [.ref pe, .ref ne, .ref pa, .ref ro, .int 0])), (pe, .inr (9, [.int 16, .ref a1, .ref a2, .ref a3, .ref a4, .ref a5, .ref a6, .ref a7, .ref a8, .ref a9])), (a1, .inl (cy 0, 20, .inl f3_1529)), (a2, .inl (cy 0, 20, .inl f4_1530)), (oa, .inl (cy 3, 1, .inr (.inl o2_1531)))] := hD
    refine W.widen (k := 87) (n := 1775) (Nat.le_of_ble_eq_true rfl) (Nat.le_of_ble_eq_true rfl) ?_
    refine lv_istore (lv' := [(6, .int 0), (5, .int 90), (3, .ref oa), (2, .ref m0), (1, .ref h), (0, .ref b)]) hx hb dL_law_317 hl (by decide) rfl (fun ls hl => ?_)
    refine lv_aload_n hx hb dL_law_319 rfl (lv_at hl 3 rfl) ?_
    refine lv_aload_n hx hb dL_law_320 rfl (lv_at hl 5 rfl) ?_
    refine lv_iload hx hb dL_law_321 (lv_at hl 1 rfl) ?_
    refine lv_iconst (v := 1) hx hb dL_law_323 (by decide) ?_
    refine lv_iadd hx hb dL_law_324 ?_
    refine lv_topi (fun y9 ey9 => ?_)
    obtain rfl : y9 = 91 := by rw [ey9] <;> decide
    refine va_sld hx hb hX hbl hbA hS (zx_bn (by decide)) dL_law_325 ?_
    refine lv_topi (fun y9 ey9 => ?_)
    obtain rfl : y9 = 0 := ey9.trans (by decide)
    refine lv_aload_n hx hb dL_law_326 rfl (lv_at hl 5 rfl) ?_
    refine lv_iload hx hb dL_law_327 (lv_at hl 1 rfl) ?_
    refine lv_iconst (v := 2) hx hb dL_law_329 (by decide) ?_
    refine lv_iadd hx hb dL_law_330 ?_
    refine lv_topi (fun y9 ey9 => ?_)
    obtain rfl : y9 = 92 := by rw [ey9] <;> decide
    refine va_sld hx hb hX hbl hbA hS (zx_bn (by decide)) dL_law_331 ?_
    refine lv_topi (fun y9 ey9 => ?_)
    obtain rfl : y9 = 0 := ey9.trans (by decide)
    have hPc := hP.sub (ws' := [(m0, .inr (20, [.int 0, .ref mp, .int 0, .ref b1, .ref b2, .ref b3, .ref b4, .ref b5, .ref mq])), (mp, .inr (4, [.int mm, .ref ep, .int 15])), (ep, .inl (cy 2, 15, .inr (.inr (.inr (.inr gp))))), (p0, .inr (17, t0)), (p1, .inr (17, t1)), (p2, .inr (17, t2)), (p3, .inr (17, t3)), (p4, .inr (17, t4)), (p5, .inr (17, t5)), (p6, .inr (17, t6)), (p7, .inr (17, t7)), (p8, .inr (17, t8)), (p9, .inr (17, t9)), (p10, .inr (17, t10)), (p11, .inr (17, t11)), (p12, .inr (17, t12)), (p13, .inr (17, t13)), (p14, .inr (17, t14))]) [2, 3, 4, 6, 7, 8, 9, 10, 11, 12, 13, 14, 15, 16, 17, 18, 19, 20] rfl
    have hDc := hD.sub (ws' := [(m0, .inr (20, [.int 0, .ref mp, .int 0, .ref b1, .ref b2, .ref b3, .ref b4, .ref b5, .ref mq])), (mp, .inr (4, [.int mm, .ref ep, .int 15])), (ep, .inl (cy 2, 15, .inr (.inr (.inr (.inr gp))))), (p0, .inr (17, t0)), (p1, .inr (17, t1)), (p2, .inr (17, t2)), (p3, .inr (17, t3)), (p4, .inr (17, t4)), (p5, .inr (17, t5)), (p6, .inr (17, t6)), (p7, .inr (17, t7)), (p8, .inr (17, t8)), (p9, .inr (17, t9)), (p10, .inr (17, t10)), (p11, .inr (17, t11)), (p12, .inr (17, t12)), (p13, .inr (17, t13)), (p14, .inr (17, t14))]) [2, 3, 4, 6, 7, 8, 9, 10, 11, 12, 13, 14, 15, 16, 17, 18, 19, 20] (by decide) rfl
    have hFc := va_free (wc := [(m0, .inr (20, [.int 0, .ref mp, .int 0, .ref b1, .ref b2, .ref b3, .ref b4, .ref b5, .ref mq])), (mp, .inr (4, [.int mm, .ref ep, .int 15])), (ep, .inl (cy 2, 15, .inr (.inr (.inr (.inr gp))))), (p0, .inr (17, t0)), (p1, .inr (17, t1)), (p2, .inr (17, t2)), (p3, .inr (17, t3)), (p4, .inr (17, t4)), (p5, .inr (17, t5)), (p6, .inr (17, t6)), (p7, .inr (17, t7)), (p8, .inr (17, t8)), (p9, .inr (17, t9)), (p10, .inr (17, t10)), (p11, .inr (17, t11)), (p12, .inr (17, t12)), (p13, .inr (17, t13)), (p14, .inr (17, t14))]) hD hS hA [2, 3, 4, 6, 7, 8, 9, 10, 11, 12, 13, 14, 15, 16, 17, 18, 19, 20] rfl
    refine va_calli (va_runV (As := [.int 0, .int 0]) (rest := []) ⟨hx, hb, hml, hown, hts⟩ (c_X15_addPerson_15 l hst D cy ed H.size m0 mp mq b1 b2 b3 b4 b5 0 0 mm ep gp p0 p1 p2 p3 p4 p5 p6 p7 p8 p9 p10 p11 p12 p13 p14 t0 t1 t2 t3 t4 t5 t6 t7 t8 t9 t10 t11 t12 t13 t14 hp0 hp1 hp2 hp3 hp4 hp5 hp6 hp7 hp8 hp9 hp10 hp11 hp12 hp13 hp14) (cwV 2 hts (zx_GV mm_1603 mm_1604 mm_1605 mm_78 mm_1606) rfl rfl rfl (by decide +kernel) ⟨(Nat.le_of_ble_eq_true rfl), (Nat.le_of_ble_eq_true rfl)⟩) ⟨zx_blind, va_recv hK hPc (ci := 20) (q0 := 0) rfl rfl, zx_give hPc hK hDc hS hFc hZ hN⟩ rfl rfl hl.1 rfl (lv_room (Nat.le_of_ble_eq_true rfl)) dL_law_332 ⟨(Nat.le_of_ble_eq_true rfl), (Nat.le_of_ble_eq_true rfl)⟩) hS (fun q _ h => hFc q h) hFc (fun r9 u t H1 locs ht hvm hw hB hz1 hk1 hS => ?_)
    obtain ⟨mx_1533, qx_1534, g2_1535, y_1536, fy_1537⟩ := u
    obtain ⟨rfl, h_1538⟩ := hw
    obtain ⟨hP, hD⟩ := zx_join (wr := [(ro, .inl (cy 0, 20, .inl f0)), (pa, .inr (4, [.int mc, .ref ed, .int 0])), (mq, .inr (4, [.int mn, .ref ed, .int 0])), (h, .inr (13, [.ref pe, .ref ne, .ref pa, .ref ro, .int 0])), (pe, .inr (9, [.int 16, .ref a1, .ref a2, .ref a3, .ref a4, .ref a5, .ref a6, .ref a7, .ref a8, .ref a9])), (a1, .inl (cy 0, 20, .inl f3_1529)), (a2, .inl (cy 0, 20, .inl f4_1530)), (oa, .inl (cy 3, 1, .inr (.inl o2_1531)))]) (w1 := [(m0, .inr (20, [.int 0, .ref mp, .int 0, .ref b1, .ref b2, .ref b3, .ref b4, .ref b5, .ref mq])), (mp, .inr (4, [.int mx_1533, .ref qx_1534, .int 16])), (qx_1534, .inl (cy 2, 22, .inr (.inr (.inr (.inr g2_1535))))), (y_1536, .inr (17, fy_1537)), (p0, .inr (17, t0)), (p1, .inr (17, t1)), (p2, .inr (17, t2)), (p3, .inr (17, t3)), (p4, .inr (17, t4)), (p5, .inr (17, t5)), (p6, .inr (17, t6)), (p7, .inr (17, t7)), (p8, .inr (17, t8)), (p9, .inr (17, t9)), (p10, .inr (17, t10)), (p11, .inr (17, t11)), (p12, .inr (17, t12)), (p13, .inr (17, t13)), (p14, .inr (17, t14))]) [2, 3, 4, 6, 7, 8, 9, 10, 11, 12, 13, 14, 15, 16, 17, 18, 19, 20] [0, 1, 5, 21, 22, 23, 24, 25] rfl rfl (by decide) (by decide) hP hD hk1 hFc hB ht
    generalize H1 = H at hP hS ⊢
    have hP : va_P D vwCl [(ro, .inl (cy 0, 20, .inl f0)), (pa, .inr (4, [.int mc, .ref ed, .int 0])), (mq, .inr (4, [.int mn, .ref ed, .int 0])), (h, .inr (13, [.ref pe, .ref ne, .ref pa, .ref ro, .int 0])), (pe, .inr (9, [.int 16, .ref a1, .ref a2, .ref a3, .ref a4, .ref a5, .ref a6, .ref a7, .ref a8, .ref a9])), (a1, .inl (cy 0, 20, .inl f3_1529)), (a2, .inl (cy 0, 20, .inl f4_1530)), (oa, .inl (cy 3, 1, .inr (.inl o2_1531))), (m0, .inr (20, [.int 0, .ref mp, .int 0, .ref b1, .ref b2, .ref b3, .ref b4, .ref b5, .ref mq])), (mp, .inr (4, [.int mx_1533, .ref qx_1534, .int 16])), (qx_1534, .inl (cy 2, 22, .inr (.inr (.inr (.inr g2_1535))))), (y_1536, .inr (17, fy_1537)), (p0, .inr (17, t0)), (p1, .inr (17, t1)), (p2, .inr (17, t2)), (p3, .inr (17, t3)), (p4, .inr (17, t4)), (p5, .inr (17, t5)), (p6, .inr (17, t6)), (p7, .inr (17, t7)), (p8, .inr (17, t8)), (p9, .inr (17, t9)), (p10, .inr (17, t10)), (p11, .inr (17, t11)), (p12, .inr (17, t12)), (p13, .inr (17, t13)), (p14, .inr (17, t14))] H := hP
    have hD : va_D A [(ro, .inl (cy 0, 20, .inl f0)), (pa, .inr (4, [.int mc, .ref ed, .int 0])), (mq, .inr (4, [.int mn, .ref ed, .int 0])), (h, .inr (13, [.ref pe, .ref ne, .ref pa, .ref ro, .int 0])), (pe, .inr (9, [.int 16, .ref a1, .ref a2, .ref a3, .ref a4, .ref a5, .ref a6, .ref a7, .ref a8, .ref a9])), (a1, .inl (cy 0, 20, .inl f3_1529)), (a2, .inl (cy 0, 20, .inl f4_1530)), (oa, .inl (cy 3, 1, .inr (.inl o2_1531))), (m0, .inr (20, [.int 0, .ref mp, .int 0, .ref b1, .ref b2, .ref b3, .ref b4, .ref b5, .ref mq])), (mp, .inr (4, [.int mx_1533, .ref qx_1534, .int 16])), (qx_1534, .inl (cy 2, 22, .inr (.inr (.inr (.inr g2_1535))))), (y_1536, .inr (17, fy_1537)), (p0, .inr (17, t0)), (p1, .inr (17, t1)), (p2, .inr (17, t2)), (p3, .inr (17, t3)), (p4, .inr (17, t4)), (p5, .inr (17, t5)), (p6, .inr (17, t6)), (p7, .inr (17, t7)), (p8, .inr (17, t8)), (p9, .inr (17, t9)), (p10, .inr (17, t10)), (p11, .inr (17, t11)), (p12, .inr (17, t12)), (p13, .inr (17, t13)), (p14, .inr (17, t14))] := hD
    refine W.widen (k := 91) (n := 1827) (Nat.le_of_ble_eq_true rfl) (Nat.le_of_ble_eq_true rfl) ?_
    obtain ⟨hs_1539, hs_1540⟩ := h_1538
    refine lv_istore (lv' := [(7, .int 15), (6, .int 0), (5, .int 90), (3, .ref oa), (2, .ref m0), (1, .ref h), (0, .ref b)]) hx hb dL_law_335 hl (by decide) rfl (fun ls hl => ?_)
    refine lv_aload_n hx hb dL_law_337 rfl (lv_at hl 4 rfl) ?_
    have hPc := hP.sub (ws' := [(m0, .inr (20, [.int 0, .ref mp, .int 0, .ref b1, .ref b2, .ref b3, .ref b4, .ref b5, .ref mq]))]) [8] rfl
    have hDc := hD.sub (ws' := [(m0, .inr (20, [.int 0, .ref mp, .int 0, .ref b1, .ref b2, .ref b3, .ref b4, .ref b5, .ref mq]))]) [8] (by decide) rfl
    have hFc := va_free (wc := [(m0, .inr (20, [.int 0, .ref mp, .int 0, .ref b1, .ref b2, .ref b3, .ref b4, .ref b5, .ref mq]))]) hD hS hA [8] rfl
    refine va_calli (va_runV (As := []) (rest := []) ⟨hx, hb, hml, hown, hts⟩ (c_X15_thrown l hst D cy ed H.size m0 mp mq b1 b2 b3 b4 b5 0 0) (cwV 0 hts (zx_GV mm_1599 mm_1600 mm_1601 mm_78 mm_1602) rfl rfl rfl (by decide +kernel) ⟨(Nat.le_of_ble_eq_true rfl), (Nat.le_of_ble_eq_true rfl)⟩) ⟨zx_blind, va_recv hK hPc (ci := 20) (q0 := 0) rfl rfl, zx_give hPc hK hDc hS hFc hZ hN⟩ rfl rfl hl.1 rfl (lv_room (Nat.le_of_ble_eq_true rfl)) dL_law_338 ⟨(Nat.le_of_ble_eq_true rfl), (Nat.le_of_ble_eq_true rfl)⟩) hS (fun q _ h => hFc q h) hFc (fun r9 u t H1 locs ht hvm hw hB hz1 hk1 hS => ?_)
    obtain rfl : r9 = 0 := hw
    obtain ⟨hP, hD⟩ := zx_join (wr := [(ro, .inl (cy 0, 20, .inl f0)), (pa, .inr (4, [.int mc, .ref ed, .int 0])), (mq, .inr (4, [.int mn, .ref ed, .int 0])), (h, .inr (13, [.ref pe, .ref ne, .ref pa, .ref ro, .int 0])), (pe, .inr (9, [.int 16, .ref a1, .ref a2, .ref a3, .ref a4, .ref a5, .ref a6, .ref a7, .ref a8, .ref a9])), (a1, .inl (cy 0, 20, .inl f3_1529)), (a2, .inl (cy 0, 20, .inl f4_1530)), (oa, .inl (cy 3, 1, .inr (.inl o2_1531))), (mp, .inr (4, [.int mx_1533, .ref qx_1534, .int 16])), (qx_1534, .inl (cy 2, 22, .inr (.inr (.inr (.inr g2_1535))))), (y_1536, .inr (17, fy_1537)), (p0, .inr (17, t0)), (p1, .inr (17, t1)), (p2, .inr (17, t2)), (p3, .inr (17, t3)), (p4, .inr (17, t4)), (p5, .inr (17, t5)), (p6, .inr (17, t6)), (p7, .inr (17, t7)), (p8, .inr (17, t8)), (p9, .inr (17, t9)), (p10, .inr (17, t10)), (p11, .inr (17, t11)), (p12, .inr (17, t12)), (p13, .inr (17, t13)), (p14, .inr (17, t14))]) (w1 := [(m0, .inr (20, [.int 0, .ref mp, .int 0, .ref b1, .ref b2, .ref b3, .ref b4, .ref b5, .ref mq]))]) [8] [0, 1, 2, 3, 4, 5, 6, 7, 9, 10, 11, 12, 13, 14, 15, 16, 17, 18, 19, 20, 21, 22, 23, 24, 25, 26] rfl rfl (by decide) (by decide) hP hD hk1 hFc hB ht
    generalize H1 = H at hP hS ⊢
    have hP : va_P D vwCl [(ro, .inl (cy 0, 20, .inl f0)), (pa, .inr (4, [.int mc, .ref ed, .int 0])), (mq, .inr (4, [.int mn, .ref ed, .int 0])), (h, .inr (13, [.ref pe, .ref ne, .ref pa, .ref ro, .int 0])), (pe, .inr (9, [.int 16, .ref a1, .ref a2, .ref a3, .ref a4, .ref a5, .ref a6, .ref a7, .ref a8, .ref a9])), (a1, .inl (cy 0, 20, .inl f3_1529)), (a2, .inl (cy 0, 20, .inl f4_1530)), (oa, .inl (cy 3, 1, .inr (.inl o2_1531))), (mp, .inr (4, [.int mx_1533, .ref qx_1534, .int 16])), (qx_1534, .inl (cy 2, 22, .inr (.inr (.inr (.inr g2_1535))))), (y_1536, .inr (17, fy_1537)), (p0, .inr (17, t0)), (p1, .inr (17, t1)), (p2, .inr (17, t2)), (p3, .inr (17, t3)), (p4, .inr (17, t4)), (p5, .inr (17, t5)), (p6, .inr (17, t6)), (p7, .inr (17, t7)), (p8, .inr (17, t8)), (p9, .inr (17, t9)), (p10, .inr (17, t10)), (p11, .inr (17, t11)), (p12, .inr (17, t12)), (p13, .inr (17, t13)), (p14, .inr (17, t14)), (m0, .inr (20, [.int 0, .ref mp, .int 0, .ref b1, .ref b2, .ref b3, .ref b4, .ref b5, .ref mq]))] H := hP
    have hD : va_D A [(ro, .inl (cy 0, 20, .inl f0)), (pa, .inr (4, [.int mc, .ref ed, .int 0])), (mq, .inr (4, [.int mn, .ref ed, .int 0])), (h, .inr (13, [.ref pe, .ref ne, .ref pa, .ref ro, .int 0])), (pe, .inr (9, [.int 16, .ref a1, .ref a2, .ref a3, .ref a4, .ref a5, .ref a6, .ref a7, .ref a8, .ref a9])), (a1, .inl (cy 0, 20, .inl f3_1529)), (a2, .inl (cy 0, 20, .inl f4_1530)), (oa, .inl (cy 3, 1, .inr (.inl o2_1531))), (mp, .inr (4, [.int mx_1533, .ref qx_1534, .int 16])), (qx_1534, .inl (cy 2, 22, .inr (.inr (.inr (.inr g2_1535))))), (y_1536, .inr (17, fy_1537)), (p0, .inr (17, t0)), (p1, .inr (17, t1)), (p2, .inr (17, t2)), (p3, .inr (17, t3)), (p4, .inr (17, t4)), (p5, .inr (17, t5)), (p6, .inr (17, t6)), (p7, .inr (17, t7)), (p8, .inr (17, t8)), (p9, .inr (17, t9)), (p10, .inr (17, t10)), (p11, .inr (17, t11)), (p12, .inr (17, t12)), (p13, .inr (17, t13)), (p14, .inr (17, t14)), (m0, .inr (20, [.int 0, .ref mp, .int 0, .ref b1, .ref b2, .ref b3, .ref b4, .ref b5, .ref mq]))] := hD
    refine W.widen (k := 91) (n := 1827) (Nat.le_of_ble_eq_true rfl) (Nat.le_of_ble_eq_true rfl) ?_
    refine lv_iload hx hb dL_law_341 (lv_at hl 1 rfl) ?_
    refine lv_icmp_eq (tgt := 348) hx hb dL_law_343 (by decide) (fun _ => ?_) (fun c_1541 => absurd (by decide) c_1541)
    refine lv_iload hx hb dL_law_348 (lv_at hl 1 rfl) ?_
    refine lv_if_ne (tgt := 365) hx hb dL_law_350 (by decide) (fun c_1542 => absurd c_1542 (by decide)) (fun _ => ?_)
    refine lv_aload_n hx hb dL_law_353 rfl (lv_at hl 3 rfl) ?_
    refine lv_iconst (v := 0) hx hb dL_law_354 (by decide) ?_
    refine va_lald hx hb hK hP 7 3 rfl rfl (zx_bn (by decide)) dL_law_355 ?_
    refine lv_iload hx hb dL_law_356 (lv_at hl 0 rfl) ?_
    refine lv_i2l (v := 15) hx hb dL_law_358 rfl ?_
    refine W.lcmp hx hb dL_law_359 ?_
    refine lv_topi (fun y9 ey9 => ?_)
    obtain rfl : y9 = 0 := ey9.trans (zx_lcmpe h_1532)
    refine lv_if_eq (tgt := 365) hx hb dL_law_360 (by decide) (fun _ => ?_) (fun c_1543 => absurd (by decide) c_1543)
    refine lv_goto (tgt := 4257) hx hb dL_law_365 (by decide) ?_
    refine lv_iinc (v := 96) (lv' := [(5, .int 96), (7, .int 15), (6, .int 0), (3, .ref oa), (2, .ref m0), (1, .ref h), (0, .ref b)]) hx hb dL_law_4257 hl (k := 2) rfl (by decide) (by decide) rfl (fun ls hl => ?_)
    refine lv_goto (tgt := 28) hx hb dL_law_4260 (by decide) ?_
    have hP := hP.sub (ws' := [(h, .inr (13, [.ref pe, .ref ne, .ref pa, .ref ro, .int 0])), (pe, .inr (9, [.int 16, .ref a1, .ref a2, .ref a3, .ref a4, .ref a5, .ref a6, .ref a7, .ref a8, .ref a9])), (a1, .inl (cy 0, 20, .inl f3_1529)), (a2, .inl (cy 0, 20, .inl f4_1530)), (ro, .inl (cy 0, 20, .inl f0)), (pa, .inr (4, [.int mc, .ref ed, .int 0])), (m0, .inr (20, [.int 0, .ref mp, .int 0, .ref b1, .ref b2, .ref b3, .ref b4, .ref b5, .ref mq])), (mp, .inr (4, [.int mx_1533, .ref qx_1534, .int 16])), (qx_1534, .inl (cy 2, 22, .inr (.inr (.inr (.inr g2_1535))))), (mq, .inr (4, [.int mn, .ref ed, .int 0])), (oa, .inl (cy 3, 1, .inr (.inl o2_1531)))]) [3, 4, 5, 6, 0, 1, 26, 8, 9, 2, 7] rfl
    have hD := hD.sub (ws' := [(h, .inr (13, [.ref pe, .ref ne, .ref pa, .ref ro, .int 0])), (pe, .inr (9, [.int 16, .ref a1, .ref a2, .ref a3, .ref a4, .ref a5, .ref a6, .ref a7, .ref a8, .ref a9])), (a1, .inl (cy 0, 20, .inl f3_1529)), (a2, .inl (cy 0, 20, .inl f4_1530)), (ro, .inl (cy 0, 20, .inl f0)), (pa, .inr (4, [.int mc, .ref ed, .int 0])), (m0, .inr (20, [.int 0, .ref mp, .int 0, .ref b1, .ref b2, .ref b3, .ref b4, .ref b5, .ref mq])), (mp, .inr (4, [.int mx_1533, .ref qx_1534, .int 16])), (qx_1534, .inl (cy 2, 22, .inr (.inr (.inr (.inr g2_1535))))), (mq, .inr (4, [.int mn, .ref ed, .int 0])), (oa, .inl (cy 3, 1, .inr (.inl o2_1531)))]) [3, 4, 5, 6, 0, 1, 26, 8, 9, 2, 7] (by decide) rfl
    exact hnext _ _ _ ⟨pe, ne, pa, ro, a1, a2, a3, a4, a5, a6, a7, a8, a9, mp, mq, b1, b2, b3, b4, b5, qx_1534, mc, mx_1533, mn, f3_1529, f4_1530, f0, o2_1531, g2_1535, hP, hD⟩ hS (lv_sub hl [0, 3, 4, 5, 6] rfl)
set_option maxHeartbeats 4000000 in
set_option maxRecDepth 100000 in
theorem law_step_16 {p : Program} {l : Launch} {e : Env} {s : State} {m : MethodId} {below : List Frame} {meth : Method} {c : Code} {D : va_G} {cy : Nat → ClassId} {ed b : Nat} {A : Nat → Prop} {Q : State → Prop} (C0 : zx_LW p l s m c D cy ed b A) {h m0 oa : Nat} {H : Heap} {locs : List Loc} {ls : Array Slot} (h0 : zx_S16 D cy ed A h m0 oa H) (hS : va_S A s.heap H locs) (hl : lv_has ls 9 [(5, .int 96), (3, .ref oa), (2, .ref m0), (1, .ref h), (0, .ref b)])
    (hnext : ∀ (H : Heap) (locs : List Loc) (ls : Array Slot), zx_S17 D cy ed A h m0 oa H → va_S A s.heap H locs → lv_has ls 9 [(5, .int 102), (3, .ref oa), (2, .ref m0), (1, .ref h), (0, .ref b)] → W p l e zx_R s m #[Value.ref b] below meth c H locs 94 1857 Q (F0 m 28 ls [])) :
    W p l e zx_R s m #[Value.ref b] below meth c H locs 91 1827 Q (F0 m 28 ls []) := by
  obtain ⟨hx, hb, hml, hst, hown, hts, hX, hbl, hbA, hA, hK, hZ, hN⟩ := C0
  obtain ⟨pe, ne, pa, ro, a1, a2, a3, a4, a5, a6, a7, a8, a9, mp, mq, b1, b2, b3, b4, b5, ep, mc, mm, mn, f1, f2, f0, og, gp, hP, hD⟩ := h0
  refine lv_iload hx hb dL_law_28 (lv_at hl 0 rfl) ?_
  refine lv_aload_n hx hb dL_law_30 rfl (lv_at hl 4 rfl) ?_
  refine va_slen hx hb hX hbl hbA hS dL_law_31 ?_
  refine lv_topi (fun y9 ey9 => ?_)
  obtain rfl : y9 = 3072 := ey9.trans (by decide)
  refine lv_bipush (v := 6) hx hb dL_law_32 (by decide) ?_
  refine lv_isub hx hb dL_law_34 ?_
  refine lv_topi (fun y9 ey9 => ?_)
  obtain rfl : y9 = 3066 := by rw [ey9] <;> decide
  refine lv_icmp_gt (tgt := 4263) hx hb dL_law_35 (by decide) (fun c_1544 => absurd c_1544 (by decide)) (fun _ => ?_)
  refine lv_aload_n hx hb dL_law_38 rfl (lv_at hl 4 rfl) ?_
  refine lv_iload hx hb dL_law_39 (lv_at hl 0 rfl) ?_
  refine va_sld hx hb hX hbl hbA hS (zx_bn (by decide)) dL_law_41 ?_
  refine lv_topi (fun y9 ey9 => ?_)
  obtain rfl : y9 = 0 := ey9.trans (by decide)
  refine lv_bipush (v := 63) hx hb dL_law_42 (by decide) ?_
  refine lv_iand hx hb dL_law_44 ?_
  refine lv_topi (fun y9 ey9 => ?_)
  obtain rfl : y9 = 0 := by rw [ey9] <;> decide
  refine lv_tableIn (off := 255) (tgt := 300) hx hb dL_law_45 (by decide) (by decide) (by decide) (by decide) ?_
  refine lv_aload_n hx hb dL_law_300 rfl (lv_at hl 3 rfl) ?_
  refine lv_aload_n hx hb dL_law_301 rfl (lv_at hl 4 rfl) ?_
  refine lv_iload hx hb dL_law_302 (lv_at hl 0 rfl) ?_
  refine lv_iconst (v := 1) hx hb dL_law_304 (by decide) ?_
  refine lv_iadd hx hb dL_law_305 ?_
  refine lv_topi (fun y9 ey9 => ?_)
  obtain rfl : y9 = 97 := by rw [ey9] <;> decide
  refine va_sld hx hb hX hbl hbA hS (zx_bn (by decide)) dL_law_306 ?_
  refine lv_topi (fun y9 ey9 => ?_)
  obtain rfl : y9 = 0 := ey9.trans (by decide)
  refine lv_aload_n hx hb dL_law_307 rfl (lv_at hl 4 rfl) ?_
  refine lv_iload hx hb dL_law_308 (lv_at hl 0 rfl) ?_
  refine lv_iconst (v := 2) hx hb dL_law_310 (by decide) ?_
  refine lv_iadd hx hb dL_law_311 ?_
  refine lv_topi (fun y9 ey9 => ?_)
  obtain rfl : y9 = 98 := by rw [ey9] <;> decide
  refine va_sld hx hb hX hbl hbA hS (zx_bn (by decide)) dL_law_312 ?_
  refine lv_topi (fun y9 ey9 => ?_)
  obtain rfl : y9 = 0 := ey9.trans (by decide)
  refine lv_aload_n hx hb dL_law_313 rfl (lv_at hl 1 rfl) ?_
  have hPc := hP.sub (ws' := [(h, .inr (13, [.ref pe, .ref ne, .ref pa, .ref ro, .int 0])), (pe, .inr (9, [.int 16, .ref a1, .ref a2, .ref a3, .ref a4, .ref a5, .ref a6, .ref a7, .ref a8, .ref a9])), (a1, .inl (cy 0, 20, .inl f1)), (a2, .inl (cy 0, 20, .inl f2)), (oa, .inl (cy 3, 1, .inr (.inl og)))]) [0, 1, 2, 3, 10] rfl
  have hDc := hD.sub (ws' := [(h, .inr (13, [.ref pe, .ref ne, .ref pa, .ref ro, .int 0])), (pe, .inr (9, [.int 16, .ref a1, .ref a2, .ref a3, .ref a4, .ref a5, .ref a6, .ref a7, .ref a8, .ref a9])), (a1, .inl (cy 0, 20, .inl f1)), (a2, .inl (cy 0, 20, .inl f2)), (oa, .inl (cy 3, 1, .inr (.inl og)))]) [0, 1, 2, 3, 10] (by decide) rfl
  have hFc := va_free (wc := [(h, .inr (13, [.ref pe, .ref ne, .ref pa, .ref ro, .int 0])), (pe, .inr (9, [.int 16, .ref a1, .ref a2, .ref a3, .ref a4, .ref a5, .ref a6, .ref a7, .ref a8, .ref a9])), (a1, .inl (cy 0, 20, .inl f1)), (a2, .inl (cy 0, 20, .inl f2)), (oa, .inl (cy 3, 1, .inr (.inl og)))]) hD hS hA [0, 1, 2, 3, 10] rfl
  refine vx_calli (vx_runSX (As := [.ref h, .int 0, .int 0, .ref oa]) (rest := []) ⟨hx, hb, hml, hown, hts⟩ (c_L_addPerson_16 l hst D cy ed H.size h pe ne pa ro 0 a1 a2 a3 a4 a5 a6 a7 a8 a9 f1 f2 oa og) (vx_cwSW 4 hts (zx_GS mm_329 mm_330 mm_70 mm_331) rfl rfl rfl (by decide +kernel) ⟨(Nat.le_of_ble_eq_true rfl), (Nat.le_of_ble_eq_true rfl)⟩) ⟨zx_blind, zx_give hPc hK hDc hS hFc hZ hN⟩ rfl rfl hl.1 rfl (lv_room (Nat.le_of_ble_eq_true rfl)) dL_law_314 ⟨(Nat.le_of_ble_eq_true rfl), (Nat.le_of_ble_eq_true rfl)⟩) hS (fun q _ h => hFc q h) hFc (fun q _ h => hFc q h) (fun E9 ce9 q9 _ t H locs ht hvm _ hBX hz1 hk1 hS hce hcv hcl => ?_) (fun r9 u t H locs ht hvm hw hB hz1 hk1 hS => ?_)
  · exact hBX.elim
  ·
    obtain ⟨f3_1545, f4_1546, o2_1547⟩ := u
    obtain ⟨rfl, h_1548⟩ := hw
    obtain ⟨hP, hD⟩ := zx_join (wr := [(ro, .inl (cy 0, 20, .inl f0)), (pa, .inr (4, [.int mc, .ref ed, .int 0])), (m0, .inr (20, [.int 0, .ref mp, .int 0, .ref b1, .ref b2, .ref b3, .ref b4, .ref b5, .ref mq])), (mp, .inr (4, [.int mm, .ref ep, .int 16])), (ep, .inl (cy 2, 22, .inr (.inr (.inr (.inr gp))))), (mq, .inr (4, [.int mn, .ref ed, .int 0]))]) (w1 := [(h, .inr (13, [.ref pe, .ref ne, .ref pa, .ref ro, .int 0])), (pe, .inr (9, [.int 17, .ref a1, .ref a2, .ref a3, .ref a4, .ref a5, .ref a6, .ref a7, .ref a8, .ref a9])), (a1, .inl (cy 0, 20, .inl f3_1545)), (a2, .inl (cy 0, 20, .inl f4_1546)), (oa, .inl (cy 3, 1, .inr (.inl o2_1547)))]) [0, 1, 2, 3, 10] [4, 5, 6, 7, 8, 9] rfl rfl (by decide) (by decide) hP hD hk1 hFc hB ht
    have hP : va_P D vwCl [(ro, .inl (cy 0, 20, .inl f0)), (pa, .inr (4, [.int mc, .ref ed, .int 0])), (m0, .inr (20, [.int 0, .ref mp, .int 0, .ref b1, .ref b2, .ref b3, .ref b4, .ref b5, .ref mq])), (mp, .inr (4, [.int mm, .ref ep, .int 16])), (ep, .inl (cy 2, 22, .inr (.inr (.inr (.inr gp))))), (mq, .inr (4, [.int mn, .ref ed, .int 0])), (h, .inr (13, [.ref pe, .ref ne, .ref pa, .ref ro, .int 0])), (pe, .inr (9, [.int 17, .ref a1, .ref a2, .ref a3, .ref a4, .ref a5, .ref a6, .ref a7, .ref a8, .ref a9])), (a1, .inl (cy 0, 20, .inl f3_1545)), (a2, .inl (cy 0, 20, .inl f4_1546)), (oa, .inl (cy 3, 1, .inr (.inl o2_1547)))] H := hP
    have hD : va_D A [(ro, .inl (cy 0, 20, .inl f0)), (pa, .inr (4, [.int mc, .ref ed, .int 0])), (m0, .inr (20, [.int 0, .ref mp, .int 0, .ref b1, .ref b2, .ref b3, .ref b4, .ref b5, .ref mq])), (mp, .inr (4, [.int mm, .ref ep, .int 16])), (ep, .inl (cy 2, 22, .inr (.inr (.inr (.inr gp))))), (mq, .inr (4, [.int mn, .ref ed, .int 0])), (h, .inr (13, [.ref pe, .ref ne, .ref pa, .ref ro, .int 0])), (pe, .inr (9, [.int 17, .ref a1, .ref a2, .ref a3, .ref a4, .ref a5, .ref a6, .ref a7, .ref a8, .ref a9])), (a1, .inl (cy 0, 20, .inl f3_1545)), (a2, .inl (cy 0, 20, .inl f4_1546)), (oa, .inl (cy 3, 1, .inr (.inl o2_1547)))] := hD
    refine W.widen (k := 91) (n := 1827) (Nat.le_of_ble_eq_true rfl) (Nat.le_of_ble_eq_true rfl) ?_
    refine lv_istore (lv' := [(6, .int 0), (5, .int 96), (3, .ref oa), (2, .ref m0), (1, .ref h), (0, .ref b)]) hx hb dL_law_317 hl (by decide) rfl (fun ls hl => ?_)
    refine lv_aload_n hx hb dL_law_319 rfl (lv_at hl 3 rfl) ?_
    refine lv_aload_n hx hb dL_law_320 rfl (lv_at hl 5 rfl) ?_
    refine lv_iload hx hb dL_law_321 (lv_at hl 1 rfl) ?_
    refine lv_iconst (v := 1) hx hb dL_law_323 (by decide) ?_
    refine lv_iadd hx hb dL_law_324 ?_
    refine lv_topi (fun y9 ey9 => ?_)
    obtain rfl : y9 = 97 := by rw [ey9] <;> decide
    refine va_sld hx hb hX hbl hbA hS (zx_bn (by decide)) dL_law_325 ?_
    refine lv_topi (fun y9 ey9 => ?_)
    obtain rfl : y9 = 0 := ey9.trans (by decide)
    refine lv_aload_n hx hb dL_law_326 rfl (lv_at hl 5 rfl) ?_
    refine lv_iload hx hb dL_law_327 (lv_at hl 1 rfl) ?_
    refine lv_iconst (v := 2) hx hb dL_law_329 (by decide) ?_
    refine lv_iadd hx hb dL_law_330 ?_
    refine lv_topi (fun y9 ey9 => ?_)
    obtain rfl : y9 = 98 := by rw [ey9] <;> decide
    refine va_sld hx hb hX hbl hbA hS (zx_bn (by decide)) dL_law_331 ?_
    refine lv_topi (fun y9 ey9 => ?_)
    obtain rfl : y9 = 0 := ey9.trans (by decide)
    have hPc := hP.sub (ws' := [(m0, .inr (20, [.int 0, .ref mp, .int 0, .ref b1, .ref b2, .ref b3, .ref b4, .ref b5, .ref mq])), (mp, .inr (4, [.int mm, .ref ep, .int 16])), (ep, .inl (cy 2, 22, .inr (.inr (.inr (.inr gp)))))]) [2, 3, 4] rfl
    have hDc := hD.sub (ws' := [(m0, .inr (20, [.int 0, .ref mp, .int 0, .ref b1, .ref b2, .ref b3, .ref b4, .ref b5, .ref mq])), (mp, .inr (4, [.int mm, .ref ep, .int 16])), (ep, .inl (cy 2, 22, .inr (.inr (.inr (.inr gp)))))]) [2, 3, 4] (by decide) rfl
    have hFc := va_free (wc := [(m0, .inr (20, [.int 0, .ref mp, .int 0, .ref b1, .ref b2, .ref b3, .ref b4, .ref b5, .ref mq])), (mp, .inr (4, [.int mm, .ref ep, .int 16])), (ep, .inl (cy 2, 22, .inr (.inr (.inr (.inr gp)))))]) hD hS hA [2, 3, 4] rfl
    refine va_calli (va_runV (As := [.int 0, .int 0]) (rest := []) ⟨hx, hb, hml, hown, hts⟩ (c_X15_addPerson_16 l hst D cy ed H.size m0 mp mq b1 b2 b3 b4 b5 0 0 mm ep gp) (cwV 2 hts (zx_GV mm_1603 mm_1604 mm_1605 mm_78 mm_1606) rfl rfl rfl (by decide +kernel) ⟨(Nat.le_of_ble_eq_true rfl), (Nat.le_of_ble_eq_true rfl)⟩) ⟨zx_blind, va_recv hK hPc (ci := 20) (q0 := 0) rfl rfl, zx_give hPc hK hDc hS hFc hZ hN⟩ rfl rfl hl.1 rfl (lv_room (Nat.le_of_ble_eq_true rfl)) dL_law_332 ⟨(Nat.le_of_ble_eq_true rfl), (Nat.le_of_ble_eq_true rfl)⟩) hS (fun q _ h => hFc q h) hFc (fun r9 u t H1 locs ht hvm hw hB hz1 hk1 hS => ?_)
    obtain ⟨mx_1549, qx_1550, g2_1551, y_1552, fy_1553⟩ := u
    obtain ⟨rfl, h_1554⟩ := hw
    obtain ⟨hP, hD⟩ := zx_join (wr := [(ro, .inl (cy 0, 20, .inl f0)), (pa, .inr (4, [.int mc, .ref ed, .int 0])), (mq, .inr (4, [.int mn, .ref ed, .int 0])), (h, .inr (13, [.ref pe, .ref ne, .ref pa, .ref ro, .int 0])), (pe, .inr (9, [.int 17, .ref a1, .ref a2, .ref a3, .ref a4, .ref a5, .ref a6, .ref a7, .ref a8, .ref a9])), (a1, .inl (cy 0, 20, .inl f3_1545)), (a2, .inl (cy 0, 20, .inl f4_1546)), (oa, .inl (cy 3, 1, .inr (.inl o2_1547)))]) (w1 := [(m0, .inr (20, [.int 0, .ref mp, .int 0, .ref b1, .ref b2, .ref b3, .ref b4, .ref b5, .ref mq])), (mp, .inr (4, [.int mx_1549, .ref qx_1550, .int 17])), (qx_1550, .inl (cy 2, 22, .inr (.inr (.inr (.inr g2_1551))))), (y_1552, .inr (17, fy_1553))]) [2, 3, 4] [0, 1, 5, 6, 7, 8, 9, 10] rfl rfl (by decide) (by decide) hP hD hk1 hFc hB ht
    generalize H1 = H at hP hS ⊢
    have hP : va_P D vwCl [(ro, .inl (cy 0, 20, .inl f0)), (pa, .inr (4, [.int mc, .ref ed, .int 0])), (mq, .inr (4, [.int mn, .ref ed, .int 0])), (h, .inr (13, [.ref pe, .ref ne, .ref pa, .ref ro, .int 0])), (pe, .inr (9, [.int 17, .ref a1, .ref a2, .ref a3, .ref a4, .ref a5, .ref a6, .ref a7, .ref a8, .ref a9])), (a1, .inl (cy 0, 20, .inl f3_1545)), (a2, .inl (cy 0, 20, .inl f4_1546)), (oa, .inl (cy 3, 1, .inr (.inl o2_1547))), (m0, .inr (20, [.int 0, .ref mp, .int 0, .ref b1, .ref b2, .ref b3, .ref b4, .ref b5, .ref mq])), (mp, .inr (4, [.int mx_1549, .ref qx_1550, .int 17])), (qx_1550, .inl (cy 2, 22, .inr (.inr (.inr (.inr g2_1551))))), (y_1552, .inr (17, fy_1553))] H := hP
    have hD : va_D A [(ro, .inl (cy 0, 20, .inl f0)), (pa, .inr (4, [.int mc, .ref ed, .int 0])), (mq, .inr (4, [.int mn, .ref ed, .int 0])), (h, .inr (13, [.ref pe, .ref ne, .ref pa, .ref ro, .int 0])), (pe, .inr (9, [.int 17, .ref a1, .ref a2, .ref a3, .ref a4, .ref a5, .ref a6, .ref a7, .ref a8, .ref a9])), (a1, .inl (cy 0, 20, .inl f3_1545)), (a2, .inl (cy 0, 20, .inl f4_1546)), (oa, .inl (cy 3, 1, .inr (.inl o2_1547))), (m0, .inr (20, [.int 0, .ref mp, .int 0, .ref b1, .ref b2, .ref b3, .ref b4, .ref b5, .ref mq])), (mp, .inr (4, [.int mx_1549, .ref qx_1550, .int 17])), (qx_1550, .inl (cy 2, 22, .inr (.inr (.inr (.inr g2_1551))))), (y_1552, .inr (17, fy_1553))] := hD
    refine W.widen (k := 94) (n := 1857) (Nat.le_of_ble_eq_true rfl) (Nat.le_of_ble_eq_true rfl) ?_
    obtain ⟨hs_1555, hs_1556⟩ := h_1554
    refine lv_istore (lv' := [(7, .int 16), (6, .int 0), (5, .int 96), (3, .ref oa), (2, .ref m0), (1, .ref h), (0, .ref b)]) hx hb dL_law_335 hl (by decide) rfl (fun ls hl => ?_)
    refine lv_aload_n hx hb dL_law_337 rfl (lv_at hl 4 rfl) ?_
    have hPc := hP.sub (ws' := [(m0, .inr (20, [.int 0, .ref mp, .int 0, .ref b1, .ref b2, .ref b3, .ref b4, .ref b5, .ref mq]))]) [8] rfl
    have hDc := hD.sub (ws' := [(m0, .inr (20, [.int 0, .ref mp, .int 0, .ref b1, .ref b2, .ref b3, .ref b4, .ref b5, .ref mq]))]) [8] (by decide) rfl
    have hFc := va_free (wc := [(m0, .inr (20, [.int 0, .ref mp, .int 0, .ref b1, .ref b2, .ref b3, .ref b4, .ref b5, .ref mq]))]) hD hS hA [8] rfl
    refine va_calli (va_runV (As := []) (rest := []) ⟨hx, hb, hml, hown, hts⟩ (c_X15_thrown l hst D cy ed H.size m0 mp mq b1 b2 b3 b4 b5 0 0) (cwV 0 hts (zx_GV mm_1599 mm_1600 mm_1601 mm_78 mm_1602) rfl rfl rfl (by decide +kernel) ⟨(Nat.le_of_ble_eq_true rfl), (Nat.le_of_ble_eq_true rfl)⟩) ⟨zx_blind, va_recv hK hPc (ci := 20) (q0 := 0) rfl rfl, zx_give hPc hK hDc hS hFc hZ hN⟩ rfl rfl hl.1 rfl (lv_room (Nat.le_of_ble_eq_true rfl)) dL_law_338 ⟨(Nat.le_of_ble_eq_true rfl), (Nat.le_of_ble_eq_true rfl)⟩) hS (fun q _ h => hFc q h) hFc (fun r9 u t H1 locs ht hvm hw hB hz1 hk1 hS => ?_)
    obtain rfl : r9 = 0 := hw
    obtain ⟨hP, hD⟩ := zx_join (wr := [(ro, .inl (cy 0, 20, .inl f0)), (pa, .inr (4, [.int mc, .ref ed, .int 0])), (mq, .inr (4, [.int mn, .ref ed, .int 0])), (h, .inr (13, [.ref pe, .ref ne, .ref pa, .ref ro, .int 0])), (pe, .inr (9, [.int 17, .ref a1, .ref a2, .ref a3, .ref a4, .ref a5, .ref a6, .ref a7, .ref a8, .ref a9])), (a1, .inl (cy 0, 20, .inl f3_1545)), (a2, .inl (cy 0, 20, .inl f4_1546)), (oa, .inl (cy 3, 1, .inr (.inl o2_1547))), (mp, .inr (4, [.int mx_1549, .ref qx_1550, .int 17])), (qx_1550, .inl (cy 2, 22, .inr (.inr (.inr (.inr g2_1551))))), (y_1552, .inr (17, fy_1553))]) (w1 := [(m0, .inr (20, [.int 0, .ref mp, .int 0, .ref b1, .ref b2, .ref b3, .ref b4, .ref b5, .ref mq]))]) [8] [0, 1, 2, 3, 4, 5, 6, 7, 9, 10, 11] rfl rfl (by decide) (by decide) hP hD hk1 hFc hB ht
    generalize H1 = H at hP hS ⊢
    have hP : va_P D vwCl [(ro, .inl (cy 0, 20, .inl f0)), (pa, .inr (4, [.int mc, .ref ed, .int 0])), (mq, .inr (4, [.int mn, .ref ed, .int 0])), (h, .inr (13, [.ref pe, .ref ne, .ref pa, .ref ro, .int 0])), (pe, .inr (9, [.int 17, .ref a1, .ref a2, .ref a3, .ref a4, .ref a5, .ref a6, .ref a7, .ref a8, .ref a9])), (a1, .inl (cy 0, 20, .inl f3_1545)), (a2, .inl (cy 0, 20, .inl f4_1546)), (oa, .inl (cy 3, 1, .inr (.inl o2_1547))), (mp, .inr (4, [.int mx_1549, .ref qx_1550, .int 17])), (qx_1550, .inl (cy 2, 22, .inr (.inr (.inr (.inr g2_1551))))), (y_1552, .inr (17, fy_1553)), (m0, .inr (20, [.int 0, .ref mp, .int 0, .ref b1, .ref b2, .ref b3, .ref b4, .ref b5, .ref mq]))] H := hP
    have hD : va_D A [(ro, .inl (cy 0, 20, .inl f0)), (pa, .inr (4, [.int mc, .ref ed, .int 0])), (mq, .inr (4, [.int mn, .ref ed, .int 0])), (h, .inr (13, [.ref pe, .ref ne, .ref pa, .ref ro, .int 0])), (pe, .inr (9, [.int 17, .ref a1, .ref a2, .ref a3, .ref a4, .ref a5, .ref a6, .ref a7, .ref a8, .ref a9])), (a1, .inl (cy 0, 20, .inl f3_1545)), (a2, .inl (cy 0, 20, .inl f4_1546)), (oa, .inl (cy 3, 1, .inr (.inl o2_1547))), (mp, .inr (4, [.int mx_1549, .ref qx_1550, .int 17])), (qx_1550, .inl (cy 2, 22, .inr (.inr (.inr (.inr g2_1551))))), (y_1552, .inr (17, fy_1553)), (m0, .inr (20, [.int 0, .ref mp, .int 0, .ref b1, .ref b2, .ref b3, .ref b4, .ref b5, .ref mq]))] := hD
    refine W.widen (k := 94) (n := 1857) (Nat.le_of_ble_eq_true rfl) (Nat.le_of_ble_eq_true rfl) ?_
    refine lv_iload hx hb dL_law_341 (lv_at hl 1 rfl) ?_
    refine lv_icmp_eq (tgt := 348) hx hb dL_law_343 (by decide) (fun _ => ?_) (fun c_1557 => absurd (by decide) c_1557)
    refine lv_iload hx hb dL_law_348 (lv_at hl 1 rfl) ?_
    refine lv_if_ne (tgt := 365) hx hb dL_law_350 (by decide) (fun c_1558 => absurd c_1558 (by decide)) (fun _ => ?_)
    refine lv_aload_n hx hb dL_law_353 rfl (lv_at hl 3 rfl) ?_
    refine lv_iconst (v := 0) hx hb dL_law_354 (by decide) ?_
    refine va_lald hx hb hK hP 7 3 rfl rfl (zx_bn (by decide)) dL_law_355 ?_
    refine lv_iload hx hb dL_law_356 (lv_at hl 0 rfl) ?_
    refine lv_i2l (v := 16) hx hb dL_law_358 rfl ?_
    refine W.lcmp hx hb dL_law_359 ?_
    refine lv_topi (fun y9 ey9 => ?_)
    obtain rfl : y9 = 0 := ey9.trans (zx_lcmpe h_1548)
    refine lv_if_eq (tgt := 365) hx hb dL_law_360 (by decide) (fun _ => ?_) (fun c_1559 => absurd (by decide) c_1559)
    refine lv_goto (tgt := 4257) hx hb dL_law_365 (by decide) ?_
    refine lv_iinc (v := 102) (lv' := [(5, .int 102), (7, .int 16), (6, .int 0), (3, .ref oa), (2, .ref m0), (1, .ref h), (0, .ref b)]) hx hb dL_law_4257 hl (k := 2) rfl (by decide) (by decide) rfl (fun ls hl => ?_)
    refine lv_goto (tgt := 28) hx hb dL_law_4260 (by decide) ?_
    have hP := hP.sub (ws' := [(h, .inr (13, [.ref pe, .ref ne, .ref pa, .ref ro, .int 0])), (pe, .inr (9, [.int 17, .ref a1, .ref a2, .ref a3, .ref a4, .ref a5, .ref a6, .ref a7, .ref a8, .ref a9])), (a1, .inl (cy 0, 20, .inl f3_1545)), (a2, .inl (cy 0, 20, .inl f4_1546)), (ro, .inl (cy 0, 20, .inl f0)), (pa, .inr (4, [.int mc, .ref ed, .int 0])), (m0, .inr (20, [.int 0, .ref mp, .int 0, .ref b1, .ref b2, .ref b3, .ref b4, .ref b5, .ref mq])), (mp, .inr (4, [.int mx_1549, .ref qx_1550, .int 17])), (qx_1550, .inl (cy 2, 22, .inr (.inr (.inr (.inr g2_1551))))), (mq, .inr (4, [.int mn, .ref ed, .int 0])), (oa, .inl (cy 3, 1, .inr (.inl o2_1547)))]) [3, 4, 5, 6, 0, 1, 11, 8, 9, 2, 7] rfl
    have hD := hD.sub (ws' := [(h, .inr (13, [.ref pe, .ref ne, .ref pa, .ref ro, .int 0])), (pe, .inr (9, [.int 17, .ref a1, .ref a2, .ref a3, .ref a4, .ref a5, .ref a6, .ref a7, .ref a8, .ref a9])), (a1, .inl (cy 0, 20, .inl f3_1545)), (a2, .inl (cy 0, 20, .inl f4_1546)), (ro, .inl (cy 0, 20, .inl f0)), (pa, .inr (4, [.int mc, .ref ed, .int 0])), (m0, .inr (20, [.int 0, .ref mp, .int 0, .ref b1, .ref b2, .ref b3, .ref b4, .ref b5, .ref mq])), (mp, .inr (4, [.int mx_1549, .ref qx_1550, .int 17])), (qx_1550, .inl (cy 2, 22, .inr (.inr (.inr (.inr g2_1551))))), (mq, .inr (4, [.int mn, .ref ed, .int 0])), (oa, .inl (cy 3, 1, .inr (.inl o2_1547)))]) [3, 4, 5, 6, 0, 1, 11, 8, 9, 2, 7] (by decide) rfl
    exact hnext _ _ _ ⟨pe, ne, pa, ro, a1, a2, a3, a4, a5, a6, a7, a8, a9, mp, mq, b1, b2, b3, b4, b5, qx_1550, mc, mx_1549, mn, f3_1545, f4_1546, f0, o2_1547, g2_1551, hP, hD⟩ hS (lv_sub hl [0, 3, 4, 5, 6] rfl)
set_option maxHeartbeats 4000000 in
set_option maxRecDepth 100000 in
theorem law_step_17 {p : Program} {l : Launch} {e : Env} {s : State} {m : MethodId} {below : List Frame} {meth : Method} {c : Code} {D : va_G} {cy : Nat → ClassId} {ed b : Nat} {A : Nat → Prop} {Q : State → Prop} (C0 : zx_LW p l s m c D cy ed b A) {h m0 oa : Nat} {H : Heap} {locs : List Loc} {ls : Array Slot} (h0 : zx_S17 D cy ed A h m0 oa H) (hS : va_S A s.heap H locs) (hl : lv_has ls 9 [(5, .int 102), (3, .ref oa), (2, .ref m0), (1, .ref h), (0, .ref b)])
    (hnext : ∀ (H : Heap) (locs : List Loc) (ls : Array Slot), zx_S18 D cy ed A h m0 oa H → va_S A s.heap H locs → lv_has ls 9 [(5, .int 108), (3, .ref oa), (2, .ref m0), (1, .ref h), (0, .ref b)] → W p l e zx_R s m #[Value.ref b] below meth c H locs 97 1887 Q (F0 m 28 ls [])) :
    W p l e zx_R s m #[Value.ref b] below meth c H locs 94 1857 Q (F0 m 28 ls []) := by
  obtain ⟨hx, hb, hml, hst, hown, hts, hX, hbl, hbA, hA, hK, hZ, hN⟩ := C0
  obtain ⟨pe, ne, pa, ro, a1, a2, a3, a4, a5, a6, a7, a8, a9, mp, mq, b1, b2, b3, b4, b5, ep, mc, mm, mn, f1, f2, f0, og, gp, hP, hD⟩ := h0
  refine lv_iload hx hb dL_law_28 (lv_at hl 0 rfl) ?_
  refine lv_aload_n hx hb dL_law_30 rfl (lv_at hl 4 rfl) ?_
  refine va_slen hx hb hX hbl hbA hS dL_law_31 ?_
  refine lv_topi (fun y9 ey9 => ?_)
  obtain rfl : y9 = 3072 := ey9.trans (by decide)
  refine lv_bipush (v := 6) hx hb dL_law_32 (by decide) ?_
  refine lv_isub hx hb dL_law_34 ?_
  refine lv_topi (fun y9 ey9 => ?_)
  obtain rfl : y9 = 3066 := by rw [ey9] <;> decide
  refine lv_icmp_gt (tgt := 4263) hx hb dL_law_35 (by decide) (fun c_1560 => absurd c_1560 (by decide)) (fun _ => ?_)
  refine lv_aload_n hx hb dL_law_38 rfl (lv_at hl 4 rfl) ?_
  refine lv_iload hx hb dL_law_39 (lv_at hl 0 rfl) ?_
  refine va_sld hx hb hX hbl hbA hS (zx_bn (by decide)) dL_law_41 ?_
  refine lv_topi (fun y9 ey9 => ?_)
  obtain rfl : y9 = 0 := ey9.trans (by decide)
  refine lv_bipush (v := 63) hx hb dL_law_42 (by decide) ?_
  refine lv_iand hx hb dL_law_44 ?_
  refine lv_topi (fun y9 ey9 => ?_)
  obtain rfl : y9 = 0 := by rw [ey9] <;> decide
  refine lv_tableIn (off := 255) (tgt := 300) hx hb dL_law_45 (by decide) (by decide) (by decide) (by decide) ?_
  refine lv_aload_n hx hb dL_law_300 rfl (lv_at hl 3 rfl) ?_
  refine lv_aload_n hx hb dL_law_301 rfl (lv_at hl 4 rfl) ?_
  refine lv_iload hx hb dL_law_302 (lv_at hl 0 rfl) ?_
  refine lv_iconst (v := 1) hx hb dL_law_304 (by decide) ?_
  refine lv_iadd hx hb dL_law_305 ?_
  refine lv_topi (fun y9 ey9 => ?_)
  obtain rfl : y9 = 103 := by rw [ey9] <;> decide
  refine va_sld hx hb hX hbl hbA hS (zx_bn (by decide)) dL_law_306 ?_
  refine lv_topi (fun y9 ey9 => ?_)
  obtain rfl : y9 = 0 := ey9.trans (by decide)
  refine lv_aload_n hx hb dL_law_307 rfl (lv_at hl 4 rfl) ?_
  refine lv_iload hx hb dL_law_308 (lv_at hl 0 rfl) ?_
  refine lv_iconst (v := 2) hx hb dL_law_310 (by decide) ?_
  refine lv_iadd hx hb dL_law_311 ?_
  refine lv_topi (fun y9 ey9 => ?_)
  obtain rfl : y9 = 104 := by rw [ey9] <;> decide
  refine va_sld hx hb hX hbl hbA hS (zx_bn (by decide)) dL_law_312 ?_
  refine lv_topi (fun y9 ey9 => ?_)
  obtain rfl : y9 = 0 := ey9.trans (by decide)
  refine lv_aload_n hx hb dL_law_313 rfl (lv_at hl 1 rfl) ?_
  have hPc := hP.sub (ws' := [(h, .inr (13, [.ref pe, .ref ne, .ref pa, .ref ro, .int 0])), (pe, .inr (9, [.int 17, .ref a1, .ref a2, .ref a3, .ref a4, .ref a5, .ref a6, .ref a7, .ref a8, .ref a9])), (a1, .inl (cy 0, 20, .inl f1)), (a2, .inl (cy 0, 20, .inl f2)), (oa, .inl (cy 3, 1, .inr (.inl og)))]) [0, 1, 2, 3, 10] rfl
  have hDc := hD.sub (ws' := [(h, .inr (13, [.ref pe, .ref ne, .ref pa, .ref ro, .int 0])), (pe, .inr (9, [.int 17, .ref a1, .ref a2, .ref a3, .ref a4, .ref a5, .ref a6, .ref a7, .ref a8, .ref a9])), (a1, .inl (cy 0, 20, .inl f1)), (a2, .inl (cy 0, 20, .inl f2)), (oa, .inl (cy 3, 1, .inr (.inl og)))]) [0, 1, 2, 3, 10] (by decide) rfl
  have hFc := va_free (wc := [(h, .inr (13, [.ref pe, .ref ne, .ref pa, .ref ro, .int 0])), (pe, .inr (9, [.int 17, .ref a1, .ref a2, .ref a3, .ref a4, .ref a5, .ref a6, .ref a7, .ref a8, .ref a9])), (a1, .inl (cy 0, 20, .inl f1)), (a2, .inl (cy 0, 20, .inl f2)), (oa, .inl (cy 3, 1, .inr (.inl og)))]) hD hS hA [0, 1, 2, 3, 10] rfl
  refine vx_calli (vx_runSX (As := [.ref h, .int 0, .int 0, .ref oa]) (rest := []) ⟨hx, hb, hml, hown, hts⟩ (c_L_addPerson_17 l hst D cy ed H.size h pe ne pa ro 0 a1 a2 a3 a4 a5 a6 a7 a8 a9 f1 f2 oa og) (vx_cwSW 4 hts (zx_GS mm_329 mm_330 mm_70 mm_331) rfl rfl rfl (by decide +kernel) ⟨(Nat.le_of_ble_eq_true rfl), (Nat.le_of_ble_eq_true rfl)⟩) ⟨zx_blind, zx_give hPc hK hDc hS hFc hZ hN⟩ rfl rfl hl.1 rfl (lv_room (Nat.le_of_ble_eq_true rfl)) dL_law_314 ⟨(Nat.le_of_ble_eq_true rfl), (Nat.le_of_ble_eq_true rfl)⟩) hS (fun q _ h => hFc q h) hFc (fun q _ h => hFc q h) (fun E9 ce9 q9 _ t H locs ht hvm _ hBX hz1 hk1 hS hce hcv hcl => ?_) (fun r9 u t H locs ht hvm hw hB hz1 hk1 hS => ?_)
  · exact hBX.elim
  ·
    obtain ⟨f3_1561, f4_1562, o2_1563⟩ := u
    obtain ⟨rfl, h_1564⟩ := hw
    obtain ⟨hP, hD⟩ := zx_join (wr := [(ro, .inl (cy 0, 20, .inl f0)), (pa, .inr (4, [.int mc, .ref ed, .int 0])), (m0, .inr (20, [.int 0, .ref mp, .int 0, .ref b1, .ref b2, .ref b3, .ref b4, .ref b5, .ref mq])), (mp, .inr (4, [.int mm, .ref ep, .int 17])), (ep, .inl (cy 2, 22, .inr (.inr (.inr (.inr gp))))), (mq, .inr (4, [.int mn, .ref ed, .int 0]))]) (w1 := [(h, .inr (13, [.ref pe, .ref ne, .ref pa, .ref ro, .int 0])), (pe, .inr (9, [.int 18, .ref a1, .ref a2, .ref a3, .ref a4, .ref a5, .ref a6, .ref a7, .ref a8, .ref a9])), (a1, .inl (cy 0, 20, .inl f3_1561)), (a2, .inl (cy 0, 20, .inl f4_1562)), (oa, .inl (cy 3, 1, .inr (.inl o2_1563)))]) [0, 1, 2, 3, 10] [4, 5, 6, 7, 8, 9] rfl rfl (by decide) (by decide) hP hD hk1 hFc hB ht
    have hP : va_P D vwCl [(ro, .inl (cy 0, 20, .inl f0)), (pa, .inr (4, [.int mc, .ref ed, .int 0])), (m0, .inr (20, [.int 0, .ref mp, .int 0, .ref b1, .ref b2, .ref b3, .ref b4, .ref b5, .ref mq])), (mp, .inr (4, [.int mm, .ref ep, .int 17])), (ep, .inl (cy 2, 22, .inr (.inr (.inr (.inr gp))))), (mq, .inr (4, [.int mn, .ref ed, .int 0])), (h, .inr (13, [.ref pe, .ref ne, .ref pa, .ref ro, .int 0])), (pe, .inr (9, [.int 18, .ref a1, .ref a2, .ref a3, .ref a4, .ref a5, .ref a6, .ref a7, .ref a8, .ref a9])), (a1, .inl (cy 0, 20, .inl f3_1561)), (a2, .inl (cy 0, 20, .inl f4_1562)), (oa, .inl (cy 3, 1, .inr (.inl o2_1563)))] H := hP
    have hD : va_D A [(ro, .inl (cy 0, 20, .inl f0)), (pa, .inr (4, [.int mc, .ref ed, .int 0])), (m0, .inr (20, [.int 0, .ref mp, .int 0, .ref b1, .ref b2, .ref b3, .ref b4, .ref b5, .ref mq])), (mp, .inr (4, [.int mm, .ref ep, .int 17])), (ep, .inl (cy 2, 22, .inr (.inr (.inr (.inr gp))))), (mq, .inr (4, [.int mn, .ref ed, .int 0])), (h, .inr (13, [.ref pe, .ref ne, .ref pa, .ref ro, .int 0])), (pe, .inr (9, [.int 18, .ref a1, .ref a2, .ref a3, .ref a4, .ref a5, .ref a6, .ref a7, .ref a8, .ref a9])), (a1, .inl (cy 0, 20, .inl f3_1561)), (a2, .inl (cy 0, 20, .inl f4_1562)), (oa, .inl (cy 3, 1, .inr (.inl o2_1563)))] := hD
    refine W.widen (k := 94) (n := 1857) (Nat.le_of_ble_eq_true rfl) (Nat.le_of_ble_eq_true rfl) ?_
    refine lv_istore (lv' := [(6, .int 0), (5, .int 102), (3, .ref oa), (2, .ref m0), (1, .ref h), (0, .ref b)]) hx hb dL_law_317 hl (by decide) rfl (fun ls hl => ?_)
    refine lv_aload_n hx hb dL_law_319 rfl (lv_at hl 3 rfl) ?_
    refine lv_aload_n hx hb dL_law_320 rfl (lv_at hl 5 rfl) ?_
    refine lv_iload hx hb dL_law_321 (lv_at hl 1 rfl) ?_
    refine lv_iconst (v := 1) hx hb dL_law_323 (by decide) ?_
    refine lv_iadd hx hb dL_law_324 ?_
    refine lv_topi (fun y9 ey9 => ?_)
    obtain rfl : y9 = 103 := by rw [ey9] <;> decide
    refine va_sld hx hb hX hbl hbA hS (zx_bn (by decide)) dL_law_325 ?_
    refine lv_topi (fun y9 ey9 => ?_)
    obtain rfl : y9 = 0 := ey9.trans (by decide)
    refine lv_aload_n hx hb dL_law_326 rfl (lv_at hl 5 rfl) ?_
    refine lv_iload hx hb dL_law_327 (lv_at hl 1 rfl) ?_
    refine lv_iconst (v := 2) hx hb dL_law_329 (by decide) ?_
    refine lv_iadd hx hb dL_law_330 ?_
    refine lv_topi (fun y9 ey9 => ?_)
    obtain rfl : y9 = 104 := by rw [ey9] <;> decide
    refine va_sld hx hb hX hbl hbA hS (zx_bn (by decide)) dL_law_331 ?_
    refine lv_topi (fun y9 ey9 => ?_)
    obtain rfl : y9 = 0 := ey9.trans (by decide)
    have hPc := hP.sub (ws' := [(m0, .inr (20, [.int 0, .ref mp, .int 0, .ref b1, .ref b2, .ref b3, .ref b4, .ref b5, .ref mq])), (mp, .inr (4, [.int mm, .ref ep, .int 17])), (ep, .inl (cy 2, 22, .inr (.inr (.inr (.inr gp)))))]) [2, 3, 4] rfl
    have hDc := hD.sub (ws' := [(m0, .inr (20, [.int 0, .ref mp, .int 0, .ref b1, .ref b2, .ref b3, .ref b4, .ref b5, .ref mq])), (mp, .inr (4, [.int mm, .ref ep, .int 17])), (ep, .inl (cy 2, 22, .inr (.inr (.inr (.inr gp)))))]) [2, 3, 4] (by decide) rfl
    have hFc := va_free (wc := [(m0, .inr (20, [.int 0, .ref mp, .int 0, .ref b1, .ref b2, .ref b3, .ref b4, .ref b5, .ref mq])), (mp, .inr (4, [.int mm, .ref ep, .int 17])), (ep, .inl (cy 2, 22, .inr (.inr (.inr (.inr gp)))))]) hD hS hA [2, 3, 4] rfl
    refine va_calli (va_runV (As := [.int 0, .int 0]) (rest := []) ⟨hx, hb, hml, hown, hts⟩ (c_X15_addPerson_17 l hst D cy ed H.size m0 mp mq b1 b2 b3 b4 b5 0 0 mm ep gp) (cwV 2 hts (zx_GV mm_1603 mm_1604 mm_1605 mm_78 mm_1606) rfl rfl rfl (by decide +kernel) ⟨(Nat.le_of_ble_eq_true rfl), (Nat.le_of_ble_eq_true rfl)⟩) ⟨zx_blind, va_recv hK hPc (ci := 20) (q0 := 0) rfl rfl, zx_give hPc hK hDc hS hFc hZ hN⟩ rfl rfl hl.1 rfl (lv_room (Nat.le_of_ble_eq_true rfl)) dL_law_332 ⟨(Nat.le_of_ble_eq_true rfl), (Nat.le_of_ble_eq_true rfl)⟩) hS (fun q _ h => hFc q h) hFc (fun r9 u t H1 locs ht hvm hw hB hz1 hk1 hS => ?_)
    obtain ⟨mx_1565, qx_1566, g2_1567, y_1568, fy_1569⟩ := u
    obtain ⟨rfl, h_1570⟩ := hw
    obtain ⟨hP, hD⟩ := zx_join (wr := [(ro, .inl (cy 0, 20, .inl f0)), (pa, .inr (4, [.int mc, .ref ed, .int 0])), (mq, .inr (4, [.int mn, .ref ed, .int 0])), (h, .inr (13, [.ref pe, .ref ne, .ref pa, .ref ro, .int 0])), (pe, .inr (9, [.int 18, .ref a1, .ref a2, .ref a3, .ref a4, .ref a5, .ref a6, .ref a7, .ref a8, .ref a9])), (a1, .inl (cy 0, 20, .inl f3_1561)), (a2, .inl (cy 0, 20, .inl f4_1562)), (oa, .inl (cy 3, 1, .inr (.inl o2_1563)))]) (w1 := [(m0, .inr (20, [.int 0, .ref mp, .int 0, .ref b1, .ref b2, .ref b3, .ref b4, .ref b5, .ref mq])), (mp, .inr (4, [.int mx_1565, .ref qx_1566, .int 18])), (qx_1566, .inl (cy 2, 22, .inr (.inr (.inr (.inr g2_1567))))), (y_1568, .inr (17, fy_1569))]) [2, 3, 4] [0, 1, 5, 6, 7, 8, 9, 10] rfl rfl (by decide) (by decide) hP hD hk1 hFc hB ht
    generalize H1 = H at hP hS ⊢
    have hP : va_P D vwCl [(ro, .inl (cy 0, 20, .inl f0)), (pa, .inr (4, [.int mc, .ref ed, .int 0])), (mq, .inr (4, [.int mn, .ref ed, .int 0])), (h, .inr (13, [.ref pe, .ref ne, .ref pa, .ref ro, .int 0])), (pe, .inr (9, [.int 18, .ref a1, .ref a2, .ref a3, .ref a4, .ref a5, .ref a6, .ref a7, .ref a8, .ref a9])), (a1, .inl (cy 0, 20, .inl f3_1561)), (a2, .inl (cy 0, 20, .inl f4_1562)), (oa, .inl (cy 3, 1, .inr (.inl o2_1563))), (m0, .inr (20, [.int 0, .ref mp, .int 0, .ref b1, .ref b2, .ref b3, .ref b4, .ref b5, .ref mq])), (mp, .inr (4, [.int mx_1565, .ref qx_1566, .int 18])), (qx_1566, .inl (cy 2, 22, .inr (.inr (.inr (.inr g2_1567))))), (y_1568, .inr (17, fy_1569))] H := hP
    have hD : va_D A [(ro, .inl (cy 0, 20, .inl f0)), (pa, .inr (4, [.int mc, .ref ed, .int 0])), (mq, .inr (4, [.int mn, .ref ed, .int 0])), (h, .inr (13, [.ref pe, .ref ne, .ref pa, .ref ro, .int 0])), (pe, .inr (9, [.int 18, .ref a1, .ref a2, .ref a3, .ref a4, .ref a5, .ref a6, .ref a7, .ref a8, .ref a9])), (a1, .inl (cy 0, 20, .inl f3_1561)), (a2, .inl (cy 0, 20, .inl f4_1562)), (oa, .inl (cy 3, 1, .inr (.inl o2_1563))), (m0, .inr (20, [.int 0, .ref mp, .int 0, .ref b1, .ref b2, .ref b3, .ref b4, .ref b5, .ref mq])), (mp, .inr (4, [.int mx_1565, .ref qx_1566, .int 18])), (qx_1566, .inl (cy 2, 22, .inr (.inr (.inr (.inr g2_1567))))), (y_1568, .inr (17, fy_1569))] := hD
    refine W.widen (k := 97) (n := 1887) (Nat.le_of_ble_eq_true rfl) (Nat.le_of_ble_eq_true rfl) ?_
    obtain ⟨hs_1571, hs_1572⟩ := h_1570
    refine lv_istore (lv' := [(7, .int 17), (6, .int 0), (5, .int 102), (3, .ref oa), (2, .ref m0), (1, .ref h), (0, .ref b)]) hx hb dL_law_335 hl (by decide) rfl (fun ls hl => ?_)
    refine lv_aload_n hx hb dL_law_337 rfl (lv_at hl 4 rfl) ?_
    have hPc := hP.sub (ws' := [(m0, .inr (20, [.int 0, .ref mp, .int 0, .ref b1, .ref b2, .ref b3, .ref b4, .ref b5, .ref mq]))]) [8] rfl
    have hDc := hD.sub (ws' := [(m0, .inr (20, [.int 0, .ref mp, .int 0, .ref b1, .ref b2, .ref b3, .ref b4, .ref b5, .ref mq]))]) [8] (by decide) rfl
    have hFc := va_free (wc := [(m0, .inr (20, [.int 0, .ref mp, .int 0, .ref b1, .ref b2, .ref b3, .ref b4, .ref b5, .ref mq]))]) hD hS hA [8] rfl
    refine va_calli (va_runV (As := []) (rest := []) ⟨hx, hb, hml, hown, hts⟩ (c_X15_thrown l hst D cy ed H.size m0 mp mq b1 b2 b3 b4 b5 0 0) (cwV 0 hts (zx_GV mm_1599 mm_1600 mm_1601 mm_78 mm_1602) rfl rfl rfl (by decide +kernel) ⟨(Nat.le_of_ble_eq_true rfl), (Nat.le_of_ble_eq_true rfl)⟩) ⟨zx_blind, va_recv hK hPc (ci := 20) (q0 := 0) rfl rfl, zx_give hPc hK hDc hS hFc hZ hN⟩ rfl rfl hl.1 rfl (lv_room (Nat.le_of_ble_eq_true rfl)) dL_law_338 ⟨(Nat.le_of_ble_eq_true rfl), (Nat.le_of_ble_eq_true rfl)⟩) hS (fun q _ h => hFc q h) hFc (fun r9 u t H1 locs ht hvm hw hB hz1 hk1 hS => ?_)
    obtain rfl : r9 = 0 := hw
    obtain ⟨hP, hD⟩ := zx_join (wr := [(ro, .inl (cy 0, 20, .inl f0)), (pa, .inr (4, [.int mc, .ref ed, .int 0])), (mq, .inr (4, [.int mn, .ref ed, .int 0])), (h, .inr (13, [.ref pe, .ref ne, .ref pa, .ref ro, .int 0])), (pe, .inr (9, [.int 18, .ref a1, .ref a2, .ref a3, .ref a4, .ref a5, .ref a6, .ref a7, .ref a8, .ref a9])), (a1, .inl (cy 0, 20, .inl f3_1561)), (a2, .inl (cy 0, 20, .inl f4_1562)), (oa, .inl (cy 3, 1, .inr (.inl o2_1563))), (mp, .inr (4, [.int mx_1565, .ref qx_1566, .int 18])), (qx_1566, .inl (cy 2, 22, .inr (.inr (.inr (.inr g2_1567))))), (y_1568, .inr (17, fy_1569))]) (w1 := [(m0, .inr (20, [.int 0, .ref mp, .int 0, .ref b1, .ref b2, .ref b3, .ref b4, .ref b5, .ref mq]))]) [8] [0, 1, 2, 3, 4, 5, 6, 7, 9, 10, 11] rfl rfl (by decide) (by decide) hP hD hk1 hFc hB ht
    generalize H1 = H at hP hS ⊢
    have hP : va_P D vwCl [(ro, .inl (cy 0, 20, .inl f0)), (pa, .inr (4, [.int mc, .ref ed, .int 0])), (mq, .inr (4, [.int mn, .ref ed, .int 0])), (h, .inr (13, [.ref pe, .ref ne, .ref pa, .ref ro, .int 0])), (pe, .inr (9, [.int 18, .ref a1, .ref a2, .ref a3, .ref a4, .ref a5, .ref a6, .ref a7, .ref a8, .ref a9])), (a1, .inl (cy 0, 20, .inl f3_1561)), (a2, .inl (cy 0, 20, .inl f4_1562)), (oa, .inl (cy 3, 1, .inr (.inl o2_1563))), (mp, .inr (4, [.int mx_1565, .ref qx_1566, .int 18])), (qx_1566, .inl (cy 2, 22, .inr (.inr (.inr (.inr g2_1567))))), (y_1568, .inr (17, fy_1569)), (m0, .inr (20, [.int 0, .ref mp, .int 0, .ref b1, .ref b2, .ref b3, .ref b4, .ref b5, .ref mq]))] H := hP
    have hD : va_D A [(ro, .inl (cy 0, 20, .inl f0)), (pa, .inr (4, [.int mc, .ref ed, .int 0])), (mq, .inr (4, [.int mn, .ref ed, .int 0])), (h, .inr (13, [.ref pe, .ref ne, .ref pa, .ref ro, .int 0])), (pe, .inr (9, [.int 18, .ref a1, .ref a2, .ref a3, .ref a4, .ref a5, .ref a6, .ref a7, .ref a8, .ref a9])), (a1, .inl (cy 0, 20, .inl f3_1561)), (a2, .inl (cy 0, 20, .inl f4_1562)), (oa, .inl (cy 3, 1, .inr (.inl o2_1563))), (mp, .inr (4, [.int mx_1565, .ref qx_1566, .int 18])), (qx_1566, .inl (cy 2, 22, .inr (.inr (.inr (.inr g2_1567))))), (y_1568, .inr (17, fy_1569)), (m0, .inr (20, [.int 0, .ref mp, .int 0, .ref b1, .ref b2, .ref b3, .ref b4, .ref b5, .ref mq]))] := hD
    refine W.widen (k := 97) (n := 1887) (Nat.le_of_ble_eq_true rfl) (Nat.le_of_ble_eq_true rfl) ?_
    refine lv_iload hx hb dL_law_341 (lv_at hl 1 rfl) ?_
    refine lv_icmp_eq (tgt := 348) hx hb dL_law_343 (by decide) (fun _ => ?_) (fun c_1573 => absurd (by decide) c_1573)
    refine lv_iload hx hb dL_law_348 (lv_at hl 1 rfl) ?_
    refine lv_if_ne (tgt := 365) hx hb dL_law_350 (by decide) (fun c_1574 => absurd c_1574 (by decide)) (fun _ => ?_)
    refine lv_aload_n hx hb dL_law_353 rfl (lv_at hl 3 rfl) ?_
    refine lv_iconst (v := 0) hx hb dL_law_354 (by decide) ?_
    refine va_lald hx hb hK hP 7 3 rfl rfl (zx_bn (by decide)) dL_law_355 ?_
    refine lv_iload hx hb dL_law_356 (lv_at hl 0 rfl) ?_
    refine lv_i2l (v := 17) hx hb dL_law_358 rfl ?_
    refine W.lcmp hx hb dL_law_359 ?_
    refine lv_topi (fun y9 ey9 => ?_)
    obtain rfl : y9 = 0 := ey9.trans (zx_lcmpe h_1564)
    refine lv_if_eq (tgt := 365) hx hb dL_law_360 (by decide) (fun _ => ?_) (fun c_1575 => absurd (by decide) c_1575)
    refine lv_goto (tgt := 4257) hx hb dL_law_365 (by decide) ?_
    refine lv_iinc (v := 108) (lv' := [(5, .int 108), (7, .int 17), (6, .int 0), (3, .ref oa), (2, .ref m0), (1, .ref h), (0, .ref b)]) hx hb dL_law_4257 hl (k := 2) rfl (by decide) (by decide) rfl (fun ls hl => ?_)
    refine lv_goto (tgt := 28) hx hb dL_law_4260 (by decide) ?_
    have hP := hP.sub (ws' := [(h, .inr (13, [.ref pe, .ref ne, .ref pa, .ref ro, .int 0])), (pe, .inr (9, [.int 18, .ref a1, .ref a2, .ref a3, .ref a4, .ref a5, .ref a6, .ref a7, .ref a8, .ref a9])), (a1, .inl (cy 0, 20, .inl f3_1561)), (a2, .inl (cy 0, 20, .inl f4_1562)), (ro, .inl (cy 0, 20, .inl f0)), (pa, .inr (4, [.int mc, .ref ed, .int 0])), (m0, .inr (20, [.int 0, .ref mp, .int 0, .ref b1, .ref b2, .ref b3, .ref b4, .ref b5, .ref mq])), (mp, .inr (4, [.int mx_1565, .ref qx_1566, .int 18])), (qx_1566, .inl (cy 2, 22, .inr (.inr (.inr (.inr g2_1567))))), (mq, .inr (4, [.int mn, .ref ed, .int 0])), (oa, .inl (cy 3, 1, .inr (.inl o2_1563)))]) [3, 4, 5, 6, 0, 1, 11, 8, 9, 2, 7] rfl
    have hD := hD.sub (ws' := [(h, .inr (13, [.ref pe, .ref ne, .ref pa, .ref ro, .int 0])), (pe, .inr (9, [.int 18, .ref a1, .ref a2, .ref a3, .ref a4, .ref a5, .ref a6, .ref a7, .ref a8, .ref a9])), (a1, .inl (cy 0, 20, .inl f3_1561)), (a2, .inl (cy 0, 20, .inl f4_1562)), (ro, .inl (cy 0, 20, .inl f0)), (pa, .inr (4, [.int mc, .ref ed, .int 0])), (m0, .inr (20, [.int 0, .ref mp, .int 0, .ref b1, .ref b2, .ref b3, .ref b4, .ref b5, .ref mq])), (mp, .inr (4, [.int mx_1565, .ref qx_1566, .int 18])), (qx_1566, .inl (cy 2, 22, .inr (.inr (.inr (.inr g2_1567))))), (mq, .inr (4, [.int mn, .ref ed, .int 0])), (oa, .inl (cy 3, 1, .inr (.inl o2_1563)))]) [3, 4, 5, 6, 0, 1, 11, 8, 9, 2, 7] (by decide) rfl
    exact hnext _ _ _ ⟨pe, ne, pa, ro, a1, a2, a3, a4, a5, a6, a7, a8, a9, mp, mq, b1, b2, b3, b4, b5, qx_1566, mc, mx_1565, mn, f3_1561, f4_1562, f0, o2_1563, g2_1567, hP, hD⟩ hS (lv_sub hl [0, 3, 4, 5, 6] rfl)
set_option maxHeartbeats 4000000 in
set_option maxRecDepth 100000 in
theorem law_step_18 {p : Program} {l : Launch} {e : Env} {s : State} {m : MethodId} {below : List Frame} {meth : Method} {c : Code} {D : va_G} {cy : Nat → ClassId} {ed b : Nat} {A : Nat → Prop} {Q : State → Prop} (C0 : zx_LW p l s m c D cy ed b A) {h m0 oa : Nat} {H : Heap} {locs : List Loc} {ls : Array Slot} (h0 : zx_S18 D cy ed A h m0 oa H) (hS : va_S A s.heap H locs) (hl : lv_has ls 9 [(5, .int 108), (3, .ref oa), (2, .ref m0), (1, .ref h), (0, .ref b)])
    (hnext : ∀ (H : Heap) (locs : List Loc) (ls : Array Slot), zx_S19 D cy ed A h m0 oa H → va_S A s.heap H locs → lv_has ls 9 [(5, .int 114), (3, .ref oa), (2, .ref m0), (1, .ref h), (0, .ref b)] → W p l e zx_R s m #[Value.ref b] below meth c H locs 100 1917 Q (F0 m 28 ls [])) :
    W p l e zx_R s m #[Value.ref b] below meth c H locs 97 1887 Q (F0 m 28 ls []) := by
  obtain ⟨hx, hb, hml, hst, hown, hts, hX, hbl, hbA, hA, hK, hZ, hN⟩ := C0
  obtain ⟨pe, ne, pa, ro, a1, a2, a3, a4, a5, a6, a7, a8, a9, mp, mq, b1, b2, b3, b4, b5, ep, mc, mm, mn, f1, f2, f0, og, gp, hP, hD⟩ := h0
  refine lv_iload hx hb dL_law_28 (lv_at hl 0 rfl) ?_
  refine lv_aload_n hx hb dL_law_30 rfl (lv_at hl 4 rfl) ?_
  refine va_slen hx hb hX hbl hbA hS dL_law_31 ?_
  refine lv_topi (fun y9 ey9 => ?_)
  obtain rfl : y9 = 3072 := ey9.trans (by decide)
  refine lv_bipush (v := 6) hx hb dL_law_32 (by decide) ?_
  refine lv_isub hx hb dL_law_34 ?_
  refine lv_topi (fun y9 ey9 => ?_)
  obtain rfl : y9 = 3066 := by rw [ey9] <;> decide
  refine lv_icmp_gt (tgt := 4263) hx hb dL_law_35 (by decide) (fun c_1576 => absurd c_1576 (by decide)) (fun _ => ?_)
  refine lv_aload_n hx hb dL_law_38 rfl (lv_at hl 4 rfl) ?_
  refine lv_iload hx hb dL_law_39 (lv_at hl 0 rfl) ?_
  refine va_sld hx hb hX hbl hbA hS (zx_bn (by decide)) dL_law_41 ?_
  refine lv_topi (fun y9 ey9 => ?_)
  obtain rfl : y9 = 0 := ey9.trans (by decide)
  refine lv_bipush (v := 63) hx hb dL_law_42 (by decide) ?_
  refine lv_iand hx hb dL_law_44 ?_
  refine lv_topi (fun y9 ey9 => ?_)
  obtain rfl : y9 = 0 := by rw [ey9] <;> decide
  refine lv_tableIn (off := 255) (tgt := 300) hx hb dL_law_45 (by decide) (by decide) (by decide) (by decide) ?_
  refine lv_aload_n hx hb dL_law_300 rfl (lv_at hl 3 rfl) ?_
  refine lv_aload_n hx hb dL_law_301 rfl (lv_at hl 4 rfl) ?_
  refine lv_iload hx hb dL_law_302 (lv_at hl 0 rfl) ?_
  refine lv_iconst (v := 1) hx hb dL_law_304 (by decide) ?_
  refine lv_iadd hx hb dL_law_305 ?_
  refine lv_topi (fun y9 ey9 => ?_)
  obtain rfl : y9 = 109 := by rw [ey9] <;> decide
  refine va_sld hx hb hX hbl hbA hS (zx_bn (by decide)) dL_law_306 ?_
  refine lv_topi (fun y9 ey9 => ?_)
  obtain rfl : y9 = 0 := ey9.trans (by decide)
  refine lv_aload_n hx hb dL_law_307 rfl (lv_at hl 4 rfl) ?_
  refine lv_iload hx hb dL_law_308 (lv_at hl 0 rfl) ?_
  refine lv_iconst (v := 2) hx hb dL_law_310 (by decide) ?_
  refine lv_iadd hx hb dL_law_311 ?_
  refine lv_topi (fun y9 ey9 => ?_)
  obtain rfl : y9 = 110 := by rw [ey9] <;> decide
  refine va_sld hx hb hX hbl hbA hS (zx_bn (by decide)) dL_law_312 ?_
  refine lv_topi (fun y9 ey9 => ?_)
  obtain rfl : y9 = 0 := ey9.trans (by decide)
  refine lv_aload_n hx hb dL_law_313 rfl (lv_at hl 1 rfl) ?_
  have hPc := hP.sub (ws' := [(h, .inr (13, [.ref pe, .ref ne, .ref pa, .ref ro, .int 0])), (pe, .inr (9, [.int 18, .ref a1, .ref a2, .ref a3, .ref a4, .ref a5, .ref a6, .ref a7, .ref a8, .ref a9])), (a1, .inl (cy 0, 20, .inl f1)), (a2, .inl (cy 0, 20, .inl f2)), (oa, .inl (cy 3, 1, .inr (.inl og)))]) [0, 1, 2, 3, 10] rfl
  have hDc := hD.sub (ws' := [(h, .inr (13, [.ref pe, .ref ne, .ref pa, .ref ro, .int 0])), (pe, .inr (9, [.int 18, .ref a1, .ref a2, .ref a3, .ref a4, .ref a5, .ref a6, .ref a7, .ref a8, .ref a9])), (a1, .inl (cy 0, 20, .inl f1)), (a2, .inl (cy 0, 20, .inl f2)), (oa, .inl (cy 3, 1, .inr (.inl og)))]) [0, 1, 2, 3, 10] (by decide) rfl
  have hFc := va_free (wc := [(h, .inr (13, [.ref pe, .ref ne, .ref pa, .ref ro, .int 0])), (pe, .inr (9, [.int 18, .ref a1, .ref a2, .ref a3, .ref a4, .ref a5, .ref a6, .ref a7, .ref a8, .ref a9])), (a1, .inl (cy 0, 20, .inl f1)), (a2, .inl (cy 0, 20, .inl f2)), (oa, .inl (cy 3, 1, .inr (.inl og)))]) hD hS hA [0, 1, 2, 3, 10] rfl
  refine vx_calli (vx_runSX (As := [.ref h, .int 0, .int 0, .ref oa]) (rest := []) ⟨hx, hb, hml, hown, hts⟩ (c_L_addPerson_18 l hst D cy ed H.size h pe ne pa ro 0 a1 a2 a3 a4 a5 a6 a7 a8 a9 f1 f2 oa og) (vx_cwSW 4 hts (zx_GS mm_329 mm_330 mm_70 mm_331) rfl rfl rfl (by decide +kernel) ⟨(Nat.le_of_ble_eq_true rfl), (Nat.le_of_ble_eq_true rfl)⟩) ⟨zx_blind, zx_give hPc hK hDc hS hFc hZ hN⟩ rfl rfl hl.1 rfl (lv_room (Nat.le_of_ble_eq_true rfl)) dL_law_314 ⟨(Nat.le_of_ble_eq_true rfl), (Nat.le_of_ble_eq_true rfl)⟩) hS (fun q _ h => hFc q h) hFc (fun q _ h => hFc q h) (fun E9 ce9 q9 _ t H locs ht hvm _ hBX hz1 hk1 hS hce hcv hcl => ?_) (fun r9 u t H locs ht hvm hw hB hz1 hk1 hS => ?_)
  · exact hBX.elim
  ·
    obtain ⟨f3_1577, f4_1578, o2_1579⟩ := u
    obtain ⟨rfl, h_1580⟩ := hw
    obtain ⟨hP, hD⟩ := zx_join (wr := [(ro, .inl (cy 0, 20, .inl f0)), (pa, .inr (4, [.int mc, .ref ed, .int 0])), (m0, .inr (20, [.int 0, .ref mp, .int 0, .ref b1, .ref b2, .ref b3, .ref b4, .ref b5, .ref mq])), (mp, .inr (4, [.int mm, .ref ep, .int 18])), (ep, .inl (cy 2, 22, .inr (.inr (.inr (.inr gp))))), (mq, .inr (4, [.int mn, .ref ed, .int 0]))]) (w1 := [(h, .inr (13, [.ref pe, .ref ne, .ref pa, .ref ro, .int 0])), (pe, .inr (9, [.int 19, .ref a1, .ref a2, .ref a3, .ref a4, .ref a5, .ref a6, .ref a7, .ref a8, .ref a9])), (a1, .inl (cy 0, 20, .inl f3_1577)), (a2, .inl (cy 0, 20, .inl f4_1578)), (oa, .inl (cy 3, 1, .inr (.inl o2_1579)))]) [0, 1, 2, 3, 10] [4, 5, 6, 7, 8, 9] rfl rfl (by decide) (by decide) hP hD hk1 hFc hB ht
    have hP : va_P D vwCl [(ro, .inl (cy 0, 20, .inl f0)), (pa, .inr (4, [.int mc, .ref ed, .int 0])), (m0, .inr (20, [.int 0, .ref mp, .int 0, .ref b1, .ref b2, .ref b3, .ref b4, .ref b5, .ref mq])), (mp, .inr (4, [.int mm, .ref ep, .int 18])), (ep, .inl (cy 2, 22, .inr (.inr (.inr (.inr gp))))), (mq, .inr (4, [.int mn, .ref ed, .int 0])), (h, .inr (13, [.ref pe, .ref ne, .ref pa, .ref ro, .int 0])), (pe, .inr (9, [.int 19, .ref a1, .ref a2, .ref a3, .ref a4, .ref a5, .ref a6, .ref a7, .ref a8, .ref a9])), (a1, .inl (cy 0, 20, .inl f3_1577)), (a2, .inl (cy 0, 20, .inl f4_1578)), (oa, .inl (cy 3, 1, .inr (.inl o2_1579)))] H := hP
    have hD : va_D A [(ro, .inl (cy 0, 20, .inl f0)), (pa, .inr (4, [.int mc, .ref ed, .int 0])), (m0, .inr (20, [.int 0, .ref mp, .int 0, .ref b1, .ref b2, .ref b3, .ref b4, .ref b5, .ref mq])), (mp, .inr (4, [.int mm, .ref ep, .int 18])), (ep, .inl (cy 2, 22, .inr (.inr (.inr (.inr gp))))), (mq, .inr (4, [.int mn, .ref ed, .int 0])), (h, .inr (13, [.ref pe, .ref ne, .ref pa, .ref ro, .int 0])), (pe, .inr (9, [.int 19, .ref a1, .ref a2, .ref a3, .ref a4, .ref a5, .ref a6, .ref a7, .ref a8, .ref a9])), (a1, .inl (cy 0, 20, .inl f3_1577)), (a2, .inl (cy 0, 20, .inl f4_1578)), (oa, .inl (cy 3, 1, .inr (.inl o2_1579)))] := hD
    refine W.widen (k := 97) (n := 1887) (Nat.le_of_ble_eq_true rfl) (Nat.le_of_ble_eq_true rfl) ?_
    refine lv_istore (lv' := [(6, .int 0), (5, .int 108), (3, .ref oa), (2, .ref m0), (1, .ref h), (0, .ref b)]) hx hb dL_law_317 hl (by decide) rfl (fun ls hl => ?_)
    refine lv_aload_n hx hb dL_law_319 rfl (lv_at hl 3 rfl) ?_
    refine lv_aload_n hx hb dL_law_320 rfl (lv_at hl 5 rfl) ?_
    refine lv_iload hx hb dL_law_321 (lv_at hl 1 rfl) ?_
    refine lv_iconst (v := 1) hx hb dL_law_323 (by decide) ?_
    refine lv_iadd hx hb dL_law_324 ?_
    refine lv_topi (fun y9 ey9 => ?_)
    obtain rfl : y9 = 109 := by rw [ey9] <;> decide
    refine va_sld hx hb hX hbl hbA hS (zx_bn (by decide)) dL_law_325 ?_
    refine lv_topi (fun y9 ey9 => ?_)
    obtain rfl : y9 = 0 := ey9.trans (by decide)
    refine lv_aload_n hx hb dL_law_326 rfl (lv_at hl 5 rfl) ?_
    refine lv_iload hx hb dL_law_327 (lv_at hl 1 rfl) ?_
    refine lv_iconst (v := 2) hx hb dL_law_329 (by decide) ?_
    refine lv_iadd hx hb dL_law_330 ?_
    refine lv_topi (fun y9 ey9 => ?_)
    obtain rfl : y9 = 110 := by rw [ey9] <;> decide
    refine va_sld hx hb hX hbl hbA hS (zx_bn (by decide)) dL_law_331 ?_
    refine lv_topi (fun y9 ey9 => ?_)
    obtain rfl : y9 = 0 := ey9.trans (by decide)
    have hPc := hP.sub (ws' := [(m0, .inr (20, [.int 0, .ref mp, .int 0, .ref b1, .ref b2, .ref b3, .ref b4, .ref b5, .ref mq])), (mp, .inr (4, [.int mm, .ref ep, .int 18])), (ep, .inl (cy 2, 22, .inr (.inr (.inr (.inr gp)))))]) [2, 3, 4] rfl
    have hDc := hD.sub (ws' := [(m0, .inr (20, [.int 0, .ref mp, .int 0, .ref b1, .ref b2, .ref b3, .ref b4, .ref b5, .ref mq])), (mp, .inr (4, [.int mm, .ref ep, .int 18])), (ep, .inl (cy 2, 22, .inr (.inr (.inr (.inr gp)))))]) [2, 3, 4] (by decide) rfl
    have hFc := va_free (wc := [(m0, .inr (20, [.int 0, .ref mp, .int 0, .ref b1, .ref b2, .ref b3, .ref b4, .ref b5, .ref mq])), (mp, .inr (4, [.int mm, .ref ep, .int 18])), (ep, .inl (cy 2, 22, .inr (.inr (.inr (.inr gp)))))]) hD hS hA [2, 3, 4] rfl
    refine va_calli (va_runV (As := [.int 0, .int 0]) (rest := []) ⟨hx, hb, hml, hown, hts⟩ (c_X15_addPerson_18 l hst D cy ed H.size m0 mp mq b1 b2 b3 b4 b5 0 0 mm ep gp) (cwV 2 hts (zx_GV mm_1603 mm_1604 mm_1605 mm_78 mm_1606) rfl rfl rfl (by decide +kernel) ⟨(Nat.le_of_ble_eq_true rfl), (Nat.le_of_ble_eq_true rfl)⟩) ⟨zx_blind, va_recv hK hPc (ci := 20) (q0 := 0) rfl rfl, zx_give hPc hK hDc hS hFc hZ hN⟩ rfl rfl hl.1 rfl (lv_room (Nat.le_of_ble_eq_true rfl)) dL_law_332 ⟨(Nat.le_of_ble_eq_true rfl), (Nat.le_of_ble_eq_true rfl)⟩) hS (fun q _ h => hFc q h) hFc (fun r9 u t H1 locs ht hvm hw hB hz1 hk1 hS => ?_)
    obtain ⟨mx_1581, qx_1582, g2_1583, y_1584, fy_1585⟩ := u
    obtain ⟨rfl, h_1586⟩ := hw
    obtain ⟨hP, hD⟩ := zx_join (wr := [(ro, .inl (cy 0, 20, .inl f0)), (pa, .inr (4, [.int mc, .ref ed, .int 0])), (mq, .inr (4, [.int mn, .ref ed, .int 0])), (h, .inr (13, [.ref pe, .ref ne, .ref pa, .ref ro, .int 0])), (pe, .inr (9, [.int 19, .ref a1, .ref a2, .ref a3, .ref a4, .ref a5, .ref a6, .ref a7, .ref a8, .ref a9])), (a1, .inl (cy 0, 20, .inl f3_1577)), (a2, .inl (cy 0, 20, .inl f4_1578)), (oa, .inl (cy 3, 1, .inr (.inl o2_1579)))]) (w1 := [(m0, .inr (20, [.int 0, .ref mp, .int 0, .ref b1, .ref b2, .ref b3, .ref b4, .ref b5, .ref mq])), (mp, .inr (4, [.int mx_1581, .ref qx_1582, .int 19])), (qx_1582, .inl (cy 2, 22, .inr (.inr (.inr (.inr g2_1583))))), (y_1584, .inr (17, fy_1585))]) [2, 3, 4] [0, 1, 5, 6, 7, 8, 9, 10] rfl rfl (by decide) (by decide) hP hD hk1 hFc hB ht
    generalize H1 = H at hP hS ⊢
    have hP : va_P D vwCl [(ro, .inl (cy 0, 20, .inl f0)), (pa, .inr (4, [.int mc, .ref ed, .int 0])), (mq, .inr (4, [.int mn, .ref ed, .int 0])), (h, .inr (13, [.ref pe, .ref ne, .ref pa, .ref ro, .int 0])), (pe, .inr (9, [.int 19, .ref a1, .ref a2, .ref a3, .ref a4, .ref a5, .ref a6, .ref a7, .ref a8, .ref a9])), (a1, .inl (cy 0, 20, .inl f3_1577)), (a2, .inl (cy 0, 20, .inl f4_1578)), (oa, .inl (cy 3, 1, .inr (.inl o2_1579))), (m0, .inr (20, [.int 0, .ref mp, .int 0, .ref b1, .ref b2, .ref b3, .ref b4, .ref b5, .ref mq])), (mp, .inr (4, [.int mx_1581, .ref qx_1582, .int 19])), (qx_1582, .inl (cy 2, 22, .inr (.inr (.inr (.inr g2_1583))))), (y_1584, .inr (17, fy_1585))] H := hP
    have hD : va_D A [(ro, .inl (cy 0, 20, .inl f0)), (pa, .inr (4, [.int mc, .ref ed, .int 0])), (mq, .inr (4, [.int mn, .ref ed, .int 0])), (h, .inr (13, [.ref pe, .ref ne, .ref pa, .ref ro, .int 0])), (pe, .inr (9, [.int 19, .ref a1, .ref a2, .ref a3, .ref a4, .ref a5, .ref a6, .ref a7, .ref a8, .ref a9])), (a1, .inl (cy 0, 20, .inl f3_1577)), (a2, .inl (cy 0, 20, .inl f4_1578)), (oa, .inl (cy 3, 1, .inr (.inl o2_1579))), (m0, .inr (20, [.int 0, .ref mp, .int 0, .ref b1, .ref b2, .ref b3, .ref b4, .ref b5, .ref mq])), (mp, .inr (4, [.int mx_1581, .ref qx_1582, .int 19])), (qx_1582, .inl (cy 2, 22, .inr (.inr (.inr (.inr g2_1583))))), (y_1584, .inr (17, fy_1585))] := hD
    refine W.widen (k := 100) (n := 1917) (Nat.le_of_ble_eq_true rfl) (Nat.le_of_ble_eq_true rfl) ?_
    obtain ⟨hs_1587, hs_1588⟩ := h_1586
    refine lv_istore (lv' := [(7, .int 18), (6, .int 0), (5, .int 108), (3, .ref oa), (2, .ref m0), (1, .ref h), (0, .ref b)]) hx hb dL_law_335 hl (by decide) rfl (fun ls hl => ?_)
    refine lv_aload_n hx hb dL_law_337 rfl (lv_at hl 4 rfl) ?_
    have hPc := hP.sub (ws' := [(m0, .inr (20, [.int 0, .ref mp, .int 0, .ref b1, .ref b2, .ref b3, .ref b4, .ref b5, .ref mq]))]) [8] rfl
    have hDc := hD.sub (ws' := [(m0, .inr (20, [.int 0, .ref mp, .int 0, .ref b1, .ref b2, .ref b3, .ref b4, .ref b5, .ref mq]))]) [8] (by decide) rfl
    have hFc := va_free (wc := [(m0, .inr (20, [.int 0, .ref mp, .int 0, .ref b1, .ref b2, .ref b3, .ref b4, .ref b5, .ref mq]))]) hD hS hA [8] rfl
    refine va_calli (va_runV (As := []) (rest := []) ⟨hx, hb, hml, hown, hts⟩ (c_X15_thrown l hst D cy ed H.size m0 mp mq b1 b2 b3 b4 b5 0 0) (cwV 0 hts (zx_GV mm_1599 mm_1600 mm_1601 mm_78 mm_1602) rfl rfl rfl (by decide +kernel) ⟨(Nat.le_of_ble_eq_true rfl), (Nat.le_of_ble_eq_true rfl)⟩) ⟨zx_blind, va_recv hK hPc (ci := 20) (q0 := 0) rfl rfl, zx_give hPc hK hDc hS hFc hZ hN⟩ rfl rfl hl.1 rfl (lv_room (Nat.le_of_ble_eq_true rfl)) dL_law_338 ⟨(Nat.le_of_ble_eq_true rfl), (Nat.le_of_ble_eq_true rfl)⟩) hS (fun q _ h => hFc q h) hFc (fun r9 u t H1 locs ht hvm hw hB hz1 hk1 hS => ?_)
    obtain rfl : r9 = 0 := hw
    obtain ⟨hP, hD⟩ := zx_join (wr := [(ro, .inl (cy 0, 20, .inl f0)), (pa, .inr (4, [.int mc, .ref ed, .int 0])), (mq, .inr (4, [.int mn, .ref ed, .int 0])), (h, .inr (13, [.ref pe, .ref ne, .ref pa, .ref ro, .int 0])), (pe, .inr (9, [.int 19, .ref a1, .ref a2, .ref a3, .ref a4, .ref a5, .ref a6, .ref a7, .ref a8, .ref a9])), (a1, .inl (cy 0, 20, .inl f3_1577)), (a2, .inl (cy 0, 20, .inl f4_1578)), (oa, .inl (cy 3, 1, .inr (.inl o2_1579))), (mp, .inr (4, [.int mx_1581, .ref qx_1582, .int 19])), (qx_1582, .inl (cy 2, 22, .inr (.inr (.inr (.inr g2_1583))))), (y_1584, .inr (17, fy_1585))]) (w1 := [(m0, .inr (20, [.int 0, .ref mp, .int 0, .ref b1, .ref b2, .ref b3, .ref b4, .ref b5, .ref mq]))]) [8] [0, 1, 2, 3, 4, 5, 6, 7, 9, 10, 11] rfl rfl (by decide) (by decide) hP hD hk1 hFc hB ht
    generalize H1 = H at hP hS ⊢
    have hP : va_P D vwCl [(ro, .inl (cy 0, 20, .inl f0)), (pa, .inr (4, [.int mc, .ref ed, .int 0])), (mq, .inr (4, [.int mn, .ref ed, .int 0])), (h, .inr (13, [.ref pe, .ref ne, .ref pa, .ref ro, .int 0])), (pe, .inr (9, [.int 19, .ref a1, .ref a2, .ref a3, .ref a4, .ref a5, .ref a6, .ref a7, .ref a8, .ref a9])), (a1, .inl (cy 0, 20, .inl f3_1577)), (a2, .inl (cy 0, 20, .inl f4_1578)), (oa, .inl (cy 3, 1, .inr (.inl o2_1579))), (mp, .inr (4, [.int mx_1581, .ref qx_1582, .int 19])), (qx_1582, .inl (cy 2, 22, .inr (.inr (.inr (.inr g2_1583))))), (y_1584, .inr (17, fy_1585)), (m0, .inr (20, [.int 0, .ref mp, .int 0, .ref b1, .ref b2, .ref b3, .ref b4, .ref b5, .ref mq]))] H := hP
    have hD : va_D A [(ro, .inl (cy 0, 20, .inl f0)), (pa, .inr (4, [.int mc, .ref ed, .int 0])), (mq, .inr (4, [.int mn, .ref ed, .int 0])), (h, .inr (13, [.ref pe, .ref ne, .ref pa, .ref ro, .int 0])), (pe, .inr (9, [.int 19, .ref a1, .ref a2, .ref a3, .ref a4, .ref a5, .ref a6, .ref a7, .ref a8, .ref a9])), (a1, .inl (cy 0, 20, .inl f3_1577)), (a2, .inl (cy 0, 20, .inl f4_1578)), (oa, .inl (cy 3, 1, .inr (.inl o2_1579))), (mp, .inr (4, [.int mx_1581, .ref qx_1582, .int 19])), (qx_1582, .inl (cy 2, 22, .inr (.inr (.inr (.inr g2_1583))))), (y_1584, .inr (17, fy_1585)), (m0, .inr (20, [.int 0, .ref mp, .int 0, .ref b1, .ref b2, .ref b3, .ref b4, .ref b5, .ref mq]))] := hD
    refine W.widen (k := 100) (n := 1917) (Nat.le_of_ble_eq_true rfl) (Nat.le_of_ble_eq_true rfl) ?_
    refine lv_iload hx hb dL_law_341 (lv_at hl 1 rfl) ?_
    refine lv_icmp_eq (tgt := 348) hx hb dL_law_343 (by decide) (fun _ => ?_) (fun c_1589 => absurd (by decide) c_1589)
    refine lv_iload hx hb dL_law_348 (lv_at hl 1 rfl) ?_
    refine lv_if_ne (tgt := 365) hx hb dL_law_350 (by decide) (fun c_1590 => absurd c_1590 (by decide)) (fun _ => ?_)
    refine lv_aload_n hx hb dL_law_353 rfl (lv_at hl 3 rfl) ?_
    refine lv_iconst (v := 0) hx hb dL_law_354 (by decide) ?_
    refine va_lald hx hb hK hP 7 3 rfl rfl (zx_bn (by decide)) dL_law_355 ?_
    refine lv_iload hx hb dL_law_356 (lv_at hl 0 rfl) ?_
    refine lv_i2l (v := 18) hx hb dL_law_358 rfl ?_
    refine W.lcmp hx hb dL_law_359 ?_
    refine lv_topi (fun y9 ey9 => ?_)
    obtain rfl : y9 = 0 := ey9.trans (zx_lcmpe h_1580)
    refine lv_if_eq (tgt := 365) hx hb dL_law_360 (by decide) (fun _ => ?_) (fun c_1591 => absurd (by decide) c_1591)
    refine lv_goto (tgt := 4257) hx hb dL_law_365 (by decide) ?_
    refine lv_iinc (v := 114) (lv' := [(5, .int 114), (7, .int 18), (6, .int 0), (3, .ref oa), (2, .ref m0), (1, .ref h), (0, .ref b)]) hx hb dL_law_4257 hl (k := 2) rfl (by decide) (by decide) rfl (fun ls hl => ?_)
    refine lv_goto (tgt := 28) hx hb dL_law_4260 (by decide) ?_
    have hP := hP.sub (ws' := [(h, .inr (13, [.ref pe, .ref ne, .ref pa, .ref ro, .int 0])), (pe, .inr (9, [.int 19, .ref a1, .ref a2, .ref a3, .ref a4, .ref a5, .ref a6, .ref a7, .ref a8, .ref a9])), (a1, .inl (cy 0, 20, .inl f3_1577)), (a2, .inl (cy 0, 20, .inl f4_1578)), (ro, .inl (cy 0, 20, .inl f0)), (pa, .inr (4, [.int mc, .ref ed, .int 0])), (m0, .inr (20, [.int 0, .ref mp, .int 0, .ref b1, .ref b2, .ref b3, .ref b4, .ref b5, .ref mq])), (mp, .inr (4, [.int mx_1581, .ref qx_1582, .int 19])), (qx_1582, .inl (cy 2, 22, .inr (.inr (.inr (.inr g2_1583))))), (mq, .inr (4, [.int mn, .ref ed, .int 0])), (oa, .inl (cy 3, 1, .inr (.inl o2_1579)))]) [3, 4, 5, 6, 0, 1, 11, 8, 9, 2, 7] rfl
    have hD := hD.sub (ws' := [(h, .inr (13, [.ref pe, .ref ne, .ref pa, .ref ro, .int 0])), (pe, .inr (9, [.int 19, .ref a1, .ref a2, .ref a3, .ref a4, .ref a5, .ref a6, .ref a7, .ref a8, .ref a9])), (a1, .inl (cy 0, 20, .inl f3_1577)), (a2, .inl (cy 0, 20, .inl f4_1578)), (ro, .inl (cy 0, 20, .inl f0)), (pa, .inr (4, [.int mc, .ref ed, .int 0])), (m0, .inr (20, [.int 0, .ref mp, .int 0, .ref b1, .ref b2, .ref b3, .ref b4, .ref b5, .ref mq])), (mp, .inr (4, [.int mx_1581, .ref qx_1582, .int 19])), (qx_1582, .inl (cy 2, 22, .inr (.inr (.inr (.inr g2_1583))))), (mq, .inr (4, [.int mn, .ref ed, .int 0])), (oa, .inl (cy 3, 1, .inr (.inl o2_1579)))]) [3, 4, 5, 6, 0, 1, 11, 8, 9, 2, 7] (by decide) rfl
    exact hnext _ _ _ ⟨pe, ne, pa, ro, a1, a2, a3, a4, a5, a6, a7, a8, a9, mp, mq, b1, b2, b3, b4, b5, qx_1582, mc, mx_1581, mn, f3_1577, f4_1578, f0, o2_1579, g2_1583, hP, hD⟩ hS (lv_sub hl [0, 3, 4, 5, 6] rfl)
set_option maxHeartbeats 4000000 in
set_option maxRecDepth 100000 in
theorem law_step_19 {p : Program} {l : Launch} {e : Env} {s : State} {m : MethodId} {below : List Frame} {meth : Method} {c : Code} {D : va_G} {cy : Nat → ClassId} {ed b : Nat} {A : Nat → Prop} {Q : State → Prop} (C0 : zx_LW p l s m c D cy ed b A) {h m0 oa : Nat} {H : Heap} {locs : List Loc} {ls : Array Slot} (h0 : zx_S19 D cy ed A h m0 oa H) (hS : va_S A s.heap H locs) (hl : lv_has ls 9 [(5, .int 114), (3, .ref oa), (2, .ref m0), (1, .ref h), (0, .ref b)])
    (hnext : ∀ (H : Heap) (locs : List Loc) (ls : Array Slot), zx_S20 D cy ed A h m0 oa H → va_S A s.heap H locs → lv_has ls 9 [(5, .int 120), (3, .ref oa), (2, .ref m0), (1, .ref h), (0, .ref b)] → W p l e zx_R s m #[Value.ref b] below meth c H locs 103 1947 Q (F0 m 28 ls [])) :
    W p l e zx_R s m #[Value.ref b] below meth c H locs 100 1917 Q (F0 m 28 ls []) := by
  obtain ⟨hx, hb, hml, hst, hown, hts, hX, hbl, hbA, hA, hK, hZ, hN⟩ := C0
  obtain ⟨pe, ne, pa, ro, a1, a2, a3, a4, a5, a6, a7, a8, a9, mp, mq, b1, b2, b3, b4, b5, ep, mc, mm, mn, f1, f2, f0, og, gp, hP, hD⟩ := h0
  refine lv_iload hx hb dL_law_28 (lv_at hl 0 rfl) ?_
  refine lv_aload_n hx hb dL_law_30 rfl (lv_at hl 4 rfl) ?_
  refine va_slen hx hb hX hbl hbA hS dL_law_31 ?_
  refine lv_topi (fun y9 ey9 => ?_)
  obtain rfl : y9 = 3072 := ey9.trans (by decide)
  refine lv_bipush (v := 6) hx hb dL_law_32 (by decide) ?_
  refine lv_isub hx hb dL_law_34 ?_
  refine lv_topi (fun y9 ey9 => ?_)
  obtain rfl : y9 = 3066 := by rw [ey9] <;> decide
  refine lv_icmp_gt (tgt := 4263) hx hb dL_law_35 (by decide) (fun c_1592 => absurd c_1592 (by decide)) (fun _ => ?_)
  refine lv_aload_n hx hb dL_law_38 rfl (lv_at hl 4 rfl) ?_
  refine lv_iload hx hb dL_law_39 (lv_at hl 0 rfl) ?_
  refine va_sld hx hb hX hbl hbA hS (zx_bn (by decide)) dL_law_41 ?_
  refine lv_topi (fun y9 ey9 => ?_)
  obtain rfl : y9 = 0 := ey9.trans (by decide)
  refine lv_bipush (v := 63) hx hb dL_law_42 (by decide) ?_
  refine lv_iand hx hb dL_law_44 ?_
  refine lv_topi (fun y9 ey9 => ?_)
  obtain rfl : y9 = 0 := by rw [ey9] <;> decide
  refine lv_tableIn (off := 255) (tgt := 300) hx hb dL_law_45 (by decide) (by decide) (by decide) (by decide) ?_
  refine lv_aload_n hx hb dL_law_300 rfl (lv_at hl 3 rfl) ?_
  refine lv_aload_n hx hb dL_law_301 rfl (lv_at hl 4 rfl) ?_
  refine lv_iload hx hb dL_law_302 (lv_at hl 0 rfl) ?_
  refine lv_iconst (v := 1) hx hb dL_law_304 (by decide) ?_
  refine lv_iadd hx hb dL_law_305 ?_
  refine lv_topi (fun y9 ey9 => ?_)
  obtain rfl : y9 = 115 := by rw [ey9] <;> decide
  refine va_sld hx hb hX hbl hbA hS (zx_bn (by decide)) dL_law_306 ?_
  refine lv_topi (fun y9 ey9 => ?_)
  obtain rfl : y9 = 0 := ey9.trans (by decide)
  refine lv_aload_n hx hb dL_law_307 rfl (lv_at hl 4 rfl) ?_
  refine lv_iload hx hb dL_law_308 (lv_at hl 0 rfl) ?_
  refine lv_iconst (v := 2) hx hb dL_law_310 (by decide) ?_
  refine lv_iadd hx hb dL_law_311 ?_
  refine lv_topi (fun y9 ey9 => ?_)
  obtain rfl : y9 = 116 := by rw [ey9] <;> decide
  refine va_sld hx hb hX hbl hbA hS (zx_bn (by decide)) dL_law_312 ?_
  refine lv_topi (fun y9 ey9 => ?_)
  obtain rfl : y9 = 0 := ey9.trans (by decide)
  refine lv_aload_n hx hb dL_law_313 rfl (lv_at hl 1 rfl) ?_
  have hPc := hP.sub (ws' := [(h, .inr (13, [.ref pe, .ref ne, .ref pa, .ref ro, .int 0])), (pe, .inr (9, [.int 19, .ref a1, .ref a2, .ref a3, .ref a4, .ref a5, .ref a6, .ref a7, .ref a8, .ref a9])), (a1, .inl (cy 0, 20, .inl f1)), (a2, .inl (cy 0, 20, .inl f2)), (oa, .inl (cy 3, 1, .inr (.inl og)))]) [0, 1, 2, 3, 10] rfl
  have hDc := hD.sub (ws' := [(h, .inr (13, [.ref pe, .ref ne, .ref pa, .ref ro, .int 0])), (pe, .inr (9, [.int 19, .ref a1, .ref a2, .ref a3, .ref a4, .ref a5, .ref a6, .ref a7, .ref a8, .ref a9])), (a1, .inl (cy 0, 20, .inl f1)), (a2, .inl (cy 0, 20, .inl f2)), (oa, .inl (cy 3, 1, .inr (.inl og)))]) [0, 1, 2, 3, 10] (by decide) rfl
  have hFc := va_free (wc := [(h, .inr (13, [.ref pe, .ref ne, .ref pa, .ref ro, .int 0])), (pe, .inr (9, [.int 19, .ref a1, .ref a2, .ref a3, .ref a4, .ref a5, .ref a6, .ref a7, .ref a8, .ref a9])), (a1, .inl (cy 0, 20, .inl f1)), (a2, .inl (cy 0, 20, .inl f2)), (oa, .inl (cy 3, 1, .inr (.inl og)))]) hD hS hA [0, 1, 2, 3, 10] rfl
  refine vx_calli (vx_runSX (As := [.ref h, .int 0, .int 0, .ref oa]) (rest := []) ⟨hx, hb, hml, hown, hts⟩ (c_L_addPerson_19 l hst D cy ed H.size h pe ne pa ro 0 a1 a2 a3 a4 a5 a6 a7 a8 a9 f1 f2 oa og) (vx_cwSW 4 hts (zx_GS mm_329 mm_330 mm_70 mm_331) rfl rfl rfl (by decide +kernel) ⟨(Nat.le_of_ble_eq_true rfl), (Nat.le_of_ble_eq_true rfl)⟩) ⟨zx_blind, zx_give hPc hK hDc hS hFc hZ hN⟩ rfl rfl hl.1 rfl (lv_room (Nat.le_of_ble_eq_true rfl)) dL_law_314 ⟨(Nat.le_of_ble_eq_true rfl), (Nat.le_of_ble_eq_true rfl)⟩) hS (fun q _ h => hFc q h) hFc (fun q _ h => hFc q h) (fun E9 ce9 q9 _ t H locs ht hvm _ hBX hz1 hk1 hS hce hcv hcl => ?_) (fun r9 u t H locs ht hvm hw hB hz1 hk1 hS => ?_)
  · exact hBX.elim
  ·
    obtain ⟨f3_1593, f4_1594, o2_1595⟩ := u
    obtain ⟨rfl, h_1596⟩ := hw
    obtain ⟨hP, hD⟩ := zx_join (wr := [(ro, .inl (cy 0, 20, .inl f0)), (pa, .inr (4, [.int mc, .ref ed, .int 0])), (m0, .inr (20, [.int 0, .ref mp, .int 0, .ref b1, .ref b2, .ref b3, .ref b4, .ref b5, .ref mq])), (mp, .inr (4, [.int mm, .ref ep, .int 19])), (ep, .inl (cy 2, 22, .inr (.inr (.inr (.inr gp))))), (mq, .inr (4, [.int mn, .ref ed, .int 0]))]) (w1 := [(h, .inr (13, [.ref pe, .ref ne, .ref pa, .ref ro, .int 0])), (pe, .inr (9, [.int 20, .ref a1, .ref a2, .ref a3, .ref a4, .ref a5, .ref a6, .ref a7, .ref a8, .ref a9])), (a1, .inl (cy 0, 20, .inl f3_1593)), (a2, .inl (cy 0, 20, .inl f4_1594)), (oa, .inl (cy 3, 1, .inr (.inl o2_1595)))]) [0, 1, 2, 3, 10] [4, 5, 6, 7, 8, 9] rfl rfl (by decide) (by decide) hP hD hk1 hFc hB ht
    have hP : va_P D vwCl [(ro, .inl (cy 0, 20, .inl f0)), (pa, .inr (4, [.int mc, .ref ed, .int 0])), (m0, .inr (20, [.int 0, .ref mp, .int 0, .ref b1, .ref b2, .ref b3, .ref b4, .ref b5, .ref mq])), (mp, .inr (4, [.int mm, .ref ep, .int 19])), (ep, .inl (cy 2, 22, .inr (.inr (.inr (.inr gp))))), (mq, .inr (4, [.int mn, .ref ed, .int 0])), (h, .inr (13, [.ref pe, .ref ne, .ref pa, .ref ro, .int 0])), (pe, .inr (9, [.int 20, .ref a1, .ref a2, .ref a3, .ref a4, .ref a5, .ref a6, .ref a7, .ref a8, .ref a9])), (a1, .inl (cy 0, 20, .inl f3_1593)), (a2, .inl (cy 0, 20, .inl f4_1594)), (oa, .inl (cy 3, 1, .inr (.inl o2_1595)))] H := hP
    have hD : va_D A [(ro, .inl (cy 0, 20, .inl f0)), (pa, .inr (4, [.int mc, .ref ed, .int 0])), (m0, .inr (20, [.int 0, .ref mp, .int 0, .ref b1, .ref b2, .ref b3, .ref b4, .ref b5, .ref mq])), (mp, .inr (4, [.int mm, .ref ep, .int 19])), (ep, .inl (cy 2, 22, .inr (.inr (.inr (.inr gp))))), (mq, .inr (4, [.int mn, .ref ed, .int 0])), (h, .inr (13, [.ref pe, .ref ne, .ref pa, .ref ro, .int 0])), (pe, .inr (9, [.int 20, .ref a1, .ref a2, .ref a3, .ref a4, .ref a5, .ref a6, .ref a7, .ref a8, .ref a9])), (a1, .inl (cy 0, 20, .inl f3_1593)), (a2, .inl (cy 0, 20, .inl f4_1594)), (oa, .inl (cy 3, 1, .inr (.inl o2_1595)))] := hD
    refine W.widen (k := 100) (n := 1917) (Nat.le_of_ble_eq_true rfl) (Nat.le_of_ble_eq_true rfl) ?_
    refine lv_istore (lv' := [(6, .int 0), (5, .int 114), (3, .ref oa), (2, .ref m0), (1, .ref h), (0, .ref b)]) hx hb dL_law_317 hl (by decide) rfl (fun ls hl => ?_)
    refine lv_aload_n hx hb dL_law_319 rfl (lv_at hl 3 rfl) ?_
    refine lv_aload_n hx hb dL_law_320 rfl (lv_at hl 5 rfl) ?_
    refine lv_iload hx hb dL_law_321 (lv_at hl 1 rfl) ?_
    refine lv_iconst (v := 1) hx hb dL_law_323 (by decide) ?_
    refine lv_iadd hx hb dL_law_324 ?_
    refine lv_topi (fun y9 ey9 => ?_)
    obtain rfl : y9 = 115 := by rw [ey9] <;> decide
    refine va_sld hx hb hX hbl hbA hS (zx_bn (by decide)) dL_law_325 ?_
    refine lv_topi (fun y9 ey9 => ?_)
    obtain rfl : y9 = 0 := ey9.trans (by decide)
    refine lv_aload_n hx hb dL_law_326 rfl (lv_at hl 5 rfl) ?_
    refine lv_iload hx hb dL_law_327 (lv_at hl 1 rfl) ?_
    refine lv_iconst (v := 2) hx hb dL_law_329 (by decide) ?_
    refine lv_iadd hx hb dL_law_330 ?_
    refine lv_topi (fun y9 ey9 => ?_)
    obtain rfl : y9 = 116 := by rw [ey9] <;> decide
    refine va_sld hx hb hX hbl hbA hS (zx_bn (by decide)) dL_law_331 ?_
    refine lv_topi (fun y9 ey9 => ?_)
    obtain rfl : y9 = 0 := ey9.trans (by decide)
    have hPc := hP.sub (ws' := [(m0, .inr (20, [.int 0, .ref mp, .int 0, .ref b1, .ref b2, .ref b3, .ref b4, .ref b5, .ref mq])), (mp, .inr (4, [.int mm, .ref ep, .int 19])), (ep, .inl (cy 2, 22, .inr (.inr (.inr (.inr gp)))))]) [2, 3, 4] rfl
    have hDc := hD.sub (ws' := [(m0, .inr (20, [.int 0, .ref mp, .int 0, .ref b1, .ref b2, .ref b3, .ref b4, .ref b5, .ref mq])), (mp, .inr (4, [.int mm, .ref ep, .int 19])), (ep, .inl (cy 2, 22, .inr (.inr (.inr (.inr gp)))))]) [2, 3, 4] (by decide) rfl
    have hFc := va_free (wc := [(m0, .inr (20, [.int 0, .ref mp, .int 0, .ref b1, .ref b2, .ref b3, .ref b4, .ref b5, .ref mq])), (mp, .inr (4, [.int mm, .ref ep, .int 19])), (ep, .inl (cy 2, 22, .inr (.inr (.inr (.inr gp)))))]) hD hS hA [2, 3, 4] rfl
    refine va_calli (va_runV (As := [.int 0, .int 0]) (rest := []) ⟨hx, hb, hml, hown, hts⟩ (c_X15_addPerson_19 l hst D cy ed H.size m0 mp mq b1 b2 b3 b4 b5 0 0 mm ep gp) (cwV 2 hts (zx_GV mm_1603 mm_1604 mm_1605 mm_78 mm_1606) rfl rfl rfl (by decide +kernel) ⟨(Nat.le_of_ble_eq_true rfl), (Nat.le_of_ble_eq_true rfl)⟩) ⟨zx_blind, va_recv hK hPc (ci := 20) (q0 := 0) rfl rfl, zx_give hPc hK hDc hS hFc hZ hN⟩ rfl rfl hl.1 rfl (lv_room (Nat.le_of_ble_eq_true rfl)) dL_law_332 ⟨(Nat.le_of_ble_eq_true rfl), (Nat.le_of_ble_eq_true rfl)⟩) hS (fun q _ h => hFc q h) hFc (fun r9 u t H1 locs ht hvm hw hB hz1 hk1 hS => ?_)
    obtain ⟨mx_1597, qx_1598, g2_1599, y_1600, fy_1601⟩ := u
    obtain ⟨rfl, h_1602⟩ := hw
    obtain ⟨hP, hD⟩ := zx_join (wr := [(ro, .inl (cy 0, 20, .inl f0)), (pa, .inr (4, [.int mc, .ref ed, .int 0])), (mq, .inr (4, [.int mn, .ref ed, .int 0])), (h, .inr (13, [.ref pe, .ref ne, .ref pa, .ref ro, .int 0])), (pe, .inr (9, [.int 20, .ref a1, .ref a2, .ref a3, .ref a4, .ref a5, .ref a6, .ref a7, .ref a8, .ref a9])), (a1, .inl (cy 0, 20, .inl f3_1593)), (a2, .inl (cy 0, 20, .inl f4_1594)), (oa, .inl (cy 3, 1, .inr (.inl o2_1595)))]) (w1 := [(m0, .inr (20, [.int 0, .ref mp, .int 0, .ref b1, .ref b2, .ref b3, .ref b4, .ref b5, .ref mq])), (mp, .inr (4, [.int mx_1597, .ref qx_1598, .int 20])), (qx_1598, .inl (cy 2, 22, .inr (.inr (.inr (.inr g2_1599))))), (y_1600, .inr (17, fy_1601))]) [2, 3, 4] [0, 1, 5, 6, 7, 8, 9, 10] rfl rfl (by decide) (by decide) hP hD hk1 hFc hB ht
    generalize H1 = H at hP hS ⊢
    have hP : va_P D vwCl [(ro, .inl (cy 0, 20, .inl f0)), (pa, .inr (4, [.int mc, .ref ed, .int 0])), (mq, .inr (4, [.int mn, .ref ed, .int 0])), (h, .inr (13, [.ref pe, .ref ne, .ref pa, .ref ro, .int 0])), (pe, .inr (9, [.int 20, .ref a1, .ref a2, .ref a3, .ref a4, .ref a5, .ref a6, .ref a7, .ref a8, .ref a9])), (a1, .inl (cy 0, 20, .inl f3_1593)), (a2, .inl (cy 0, 20, .inl f4_1594)), (oa, .inl (cy 3, 1, .inr (.inl o2_1595))), (m0, .inr (20, [.int 0, .ref mp, .int 0, .ref b1, .ref b2, .ref b3, .ref b4, .ref b5, .ref mq])), (mp, .inr (4, [.int mx_1597, .ref qx_1598, .int 20])), (qx_1598, .inl (cy 2, 22, .inr (.inr (.inr (.inr g2_1599))))), (y_1600, .inr (17, fy_1601))] H := hP
    have hD : va_D A [(ro, .inl (cy 0, 20, .inl f0)), (pa, .inr (4, [.int mc, .ref ed, .int 0])), (mq, .inr (4, [.int mn, .ref ed, .int 0])), (h, .inr (13, [.ref pe, .ref ne, .ref pa, .ref ro, .int 0])), (pe, .inr (9, [.int 20, .ref a1, .ref a2, .ref a3, .ref a4, .ref a5, .ref a6, .ref a7, .ref a8, .ref a9])), (a1, .inl (cy 0, 20, .inl f3_1593)), (a2, .inl (cy 0, 20, .inl f4_1594)), (oa, .inl (cy 3, 1, .inr (.inl o2_1595))), (m0, .inr (20, [.int 0, .ref mp, .int 0, .ref b1, .ref b2, .ref b3, .ref b4, .ref b5, .ref mq])), (mp, .inr (4, [.int mx_1597, .ref qx_1598, .int 20])), (qx_1598, .inl (cy 2, 22, .inr (.inr (.inr (.inr g2_1599))))), (y_1600, .inr (17, fy_1601))] := hD
    refine W.widen (k := 103) (n := 1947) (Nat.le_of_ble_eq_true rfl) (Nat.le_of_ble_eq_true rfl) ?_
    obtain ⟨hs_1603, hs_1604⟩ := h_1602
    refine lv_istore (lv' := [(7, .int 19), (6, .int 0), (5, .int 114), (3, .ref oa), (2, .ref m0), (1, .ref h), (0, .ref b)]) hx hb dL_law_335 hl (by decide) rfl (fun ls hl => ?_)
    refine lv_aload_n hx hb dL_law_337 rfl (lv_at hl 4 rfl) ?_
    have hPc := hP.sub (ws' := [(m0, .inr (20, [.int 0, .ref mp, .int 0, .ref b1, .ref b2, .ref b3, .ref b4, .ref b5, .ref mq]))]) [8] rfl
    have hDc := hD.sub (ws' := [(m0, .inr (20, [.int 0, .ref mp, .int 0, .ref b1, .ref b2, .ref b3, .ref b4, .ref b5, .ref mq]))]) [8] (by decide) rfl
    have hFc := va_free (wc := [(m0, .inr (20, [.int 0, .ref mp, .int 0, .ref b1, .ref b2, .ref b3, .ref b4, .ref b5, .ref mq]))]) hD hS hA [8] rfl
    refine va_calli (va_runV (As := []) (rest := []) ⟨hx, hb, hml, hown, hts⟩ (c_X15_thrown l hst D cy ed H.size m0 mp mq b1 b2 b3 b4 b5 0 0) (cwV 0 hts (zx_GV mm_1599 mm_1600 mm_1601 mm_78 mm_1602) rfl rfl rfl (by decide +kernel) ⟨(Nat.le_of_ble_eq_true rfl), (Nat.le_of_ble_eq_true rfl)⟩) ⟨zx_blind, va_recv hK hPc (ci := 20) (q0 := 0) rfl rfl, zx_give hPc hK hDc hS hFc hZ hN⟩ rfl rfl hl.1 rfl (lv_room (Nat.le_of_ble_eq_true rfl)) dL_law_338 ⟨(Nat.le_of_ble_eq_true rfl), (Nat.le_of_ble_eq_true rfl)⟩) hS (fun q _ h => hFc q h) hFc (fun r9 u t H1 locs ht hvm hw hB hz1 hk1 hS => ?_)
    obtain rfl : r9 = 0 := hw
    obtain ⟨hP, hD⟩ := zx_join (wr := [(ro, .inl (cy 0, 20, .inl f0)), (pa, .inr (4, [.int mc, .ref ed, .int 0])), (mq, .inr (4, [.int mn, .ref ed, .int 0])), (h, .inr (13, [.ref pe, .ref ne, .ref pa, .ref ro, .int 0])), (pe, .inr (9, [.int 20, .ref a1, .ref a2, .ref a3, .ref a4, .ref a5, .ref a6, .ref a7, .ref a8, .ref a9])), (a1, .inl (cy 0, 20, .inl f3_1593)), (a2, .inl (cy 0, 20, .inl f4_1594)), (oa, .inl (cy 3, 1, .inr (.inl o2_1595))), (mp, .inr (4, [.int mx_1597, .ref qx_1598, .int 20])), (qx_1598, .inl (cy 2, 22, .inr (.inr (.inr (.inr g2_1599))))), (y_1600, .inr (17, fy_1601))]) (w1 := [(m0, .inr (20, [.int 0, .ref mp, .int 0, .ref b1, .ref b2, .ref b3, .ref b4, .ref b5, .ref mq]))]) [8] [0, 1, 2, 3, 4, 5, 6, 7, 9, 10, 11] rfl rfl (by decide) (by decide) hP hD hk1 hFc hB ht
    generalize H1 = H at hP hS ⊢
    have hP : va_P D vwCl [(ro, .inl (cy 0, 20, .inl f0)), (pa, .inr (4, [.int mc, .ref ed, .int 0])), (mq, .inr (4, [.int mn, .ref ed, .int 0])), (h, .inr (13, [.ref pe, .ref ne, .ref pa, .ref ro, .int 0])), (pe, .inr (9, [.int 20, .ref a1, .ref a2, .ref a3, .ref a4, .ref a5, .ref a6, .ref a7, .ref a8, .ref a9])), (a1, .inl (cy 0, 20, .inl f3_1593)), (a2, .inl (cy 0, 20, .inl f4_1594)), (oa, .inl (cy 3, 1, .inr (.inl o2_1595))), (mp, .inr (4, [.int mx_1597, .ref qx_1598, .int 20])), (qx_1598, .inl (cy 2, 22, .inr (.inr (.inr (.inr g2_1599))))), (y_1600, .inr (17, fy_1601)), (m0, .inr (20, [.int 0, .ref mp, .int 0, .ref b1, .ref b2, .ref b3, .ref b4, .ref b5, .ref mq]))] H := hP
    have hD : va_D A [(ro, .inl (cy 0, 20, .inl f0)), (pa, .inr (4, [.int mc, .ref ed, .int 0])), (mq, .inr (4, [.int mn, .ref ed, .int 0])), (h, .inr (13, [.ref pe, .ref ne, .ref pa, .ref ro, .int 0])), (pe, .inr (9, [.int 20, .ref a1, .ref a2, .ref a3, .ref a4, .ref a5, .ref a6, .ref a7, .ref a8, .ref a9])), (a1, .inl (cy 0, 20, .inl f3_1593)), (a2, .inl (cy 0, 20, .inl f4_1594)), (oa, .inl (cy 3, 1, .inr (.inl o2_1595))), (mp, .inr (4, [.int mx_1597, .ref qx_1598, .int 20])), (qx_1598, .inl (cy 2, 22, .inr (.inr (.inr (.inr g2_1599))))), (y_1600, .inr (17, fy_1601)), (m0, .inr (20, [.int 0, .ref mp, .int 0, .ref b1, .ref b2, .ref b3, .ref b4, .ref b5, .ref mq]))] := hD
    refine W.widen (k := 103) (n := 1947) (Nat.le_of_ble_eq_true rfl) (Nat.le_of_ble_eq_true rfl) ?_
    refine lv_iload hx hb dL_law_341 (lv_at hl 1 rfl) ?_
    refine lv_icmp_eq (tgt := 348) hx hb dL_law_343 (by decide) (fun _ => ?_) (fun c_1605 => absurd (by decide) c_1605)
    refine lv_iload hx hb dL_law_348 (lv_at hl 1 rfl) ?_
    refine lv_if_ne (tgt := 365) hx hb dL_law_350 (by decide) (fun c_1606 => absurd c_1606 (by decide)) (fun _ => ?_)
    refine lv_aload_n hx hb dL_law_353 rfl (lv_at hl 3 rfl) ?_
    refine lv_iconst (v := 0) hx hb dL_law_354 (by decide) ?_
    refine va_lald hx hb hK hP 7 3 rfl rfl (zx_bn (by decide)) dL_law_355 ?_
    refine lv_iload hx hb dL_law_356 (lv_at hl 0 rfl) ?_
    refine lv_i2l (v := 19) hx hb dL_law_358 rfl ?_
    refine W.lcmp hx hb dL_law_359 ?_
    refine lv_topi (fun y9 ey9 => ?_)
    obtain rfl : y9 = 0 := ey9.trans (zx_lcmpe h_1596)
    refine lv_if_eq (tgt := 365) hx hb dL_law_360 (by decide) (fun _ => ?_) (fun c_1607 => absurd (by decide) c_1607)
    refine lv_goto (tgt := 4257) hx hb dL_law_365 (by decide) ?_
    refine lv_iinc (v := 120) (lv' := [(5, .int 120), (7, .int 19), (6, .int 0), (3, .ref oa), (2, .ref m0), (1, .ref h), (0, .ref b)]) hx hb dL_law_4257 hl (k := 2) rfl (by decide) (by decide) rfl (fun ls hl => ?_)
    refine lv_goto (tgt := 28) hx hb dL_law_4260 (by decide) ?_
    have hP := hP.sub (ws' := [(h, .inr (13, [.ref pe, .ref ne, .ref pa, .ref ro, .int 0])), (pe, .inr (9, [.int 20, .ref a1, .ref a2, .ref a3, .ref a4, .ref a5, .ref a6, .ref a7, .ref a8, .ref a9])), (a1, .inl (cy 0, 20, .inl f3_1593)), (a2, .inl (cy 0, 20, .inl f4_1594)), (ro, .inl (cy 0, 20, .inl f0)), (pa, .inr (4, [.int mc, .ref ed, .int 0])), (m0, .inr (20, [.int 0, .ref mp, .int 0, .ref b1, .ref b2, .ref b3, .ref b4, .ref b5, .ref mq])), (mp, .inr (4, [.int mx_1597, .ref qx_1598, .int 20])), (qx_1598, .inl (cy 2, 22, .inr (.inr (.inr (.inr g2_1599))))), (mq, .inr (4, [.int mn, .ref ed, .int 0])), (oa, .inl (cy 3, 1, .inr (.inl o2_1595)))]) [3, 4, 5, 6, 0, 1, 11, 8, 9, 2, 7] rfl
    have hD := hD.sub (ws' := [(h, .inr (13, [.ref pe, .ref ne, .ref pa, .ref ro, .int 0])), (pe, .inr (9, [.int 20, .ref a1, .ref a2, .ref a3, .ref a4, .ref a5, .ref a6, .ref a7, .ref a8, .ref a9])), (a1, .inl (cy 0, 20, .inl f3_1593)), (a2, .inl (cy 0, 20, .inl f4_1594)), (ro, .inl (cy 0, 20, .inl f0)), (pa, .inr (4, [.int mc, .ref ed, .int 0])), (m0, .inr (20, [.int 0, .ref mp, .int 0, .ref b1, .ref b2, .ref b3, .ref b4, .ref b5, .ref mq])), (mp, .inr (4, [.int mx_1597, .ref qx_1598, .int 20])), (qx_1598, .inl (cy 2, 22, .inr (.inr (.inr (.inr g2_1599))))), (mq, .inr (4, [.int mn, .ref ed, .int 0])), (oa, .inl (cy 3, 1, .inr (.inl o2_1595)))]) [3, 4, 5, 6, 0, 1, 11, 8, 9, 2, 7] (by decide) rfl
    exact hnext _ _ _ ⟨pe, ne, pa, ro, a1, a2, a3, a4, a5, a6, a7, a8, a9, mp, mq, b1, b2, b3, b4, b5, qx_1598, mc, mx_1597, mn, f3_1593, f4_1594, f0, o2_1595, g2_1599, hP, hD⟩ hS (lv_sub hl [0, 3, 4, 5, 6] rfl)
set_option maxHeartbeats 4000000 in
set_option maxRecDepth 100000 in
theorem law_step_20 {p : Program} {l : Launch} {e : Env} {s : State} {m : MethodId} {below : List Frame} {meth : Method} {c : Code} {D : va_G} {cy : Nat → ClassId} {ed b : Nat} {A : Nat → Prop} {Q : State → Prop} (C0 : zx_LW p l s m c D cy ed b A) {h m0 oa : Nat} {H : Heap} {locs : List Loc} {ls : Array Slot} (h0 : zx_S20 D cy ed A h m0 oa H) (hS : va_S A s.heap H locs) (hl : lv_has ls 9 [(5, .int 120), (3, .ref oa), (2, .ref m0), (1, .ref h), (0, .ref b)])
    (hnext : ∀ (H : Heap) (locs : List Loc) (ls : Array Slot), zx_S21 D cy ed A h m0 oa H → va_S A s.heap H locs → lv_has ls 9 [(5, .int 126), (3, .ref oa), (2, .ref m0), (1, .ref h), (0, .ref b)] → W p l e zx_R s m #[Value.ref b] below meth c H locs 128 2207 Q (F0 m 28 ls [])) :
    W p l e zx_R s m #[Value.ref b] below meth c H locs 103 1947 Q (F0 m 28 ls []) := by
  obtain ⟨hx, hb, hml, hst, hown, hts, hX, hbl, hbA, hA, hK, hZ, hN⟩ := C0
  obtain ⟨pe, ne, pa, ro, a1, a2, a3, a4, a5, a6, a7, a8, a9, mp, mq, b1, b2, b3, b4, b5, ep, mc, mm, mn, f1, f2, f0, og, gp, hP, hD⟩ := h0
  refine lv_iload hx hb dL_law_28 (lv_at hl 0 rfl) ?_
  refine lv_aload_n hx hb dL_law_30 rfl (lv_at hl 4 rfl) ?_
  refine va_slen hx hb hX hbl hbA hS dL_law_31 ?_
  refine lv_topi (fun y9 ey9 => ?_)
  obtain rfl : y9 = 3072 := ey9.trans (by decide)
  refine lv_bipush (v := 6) hx hb dL_law_32 (by decide) ?_
  refine lv_isub hx hb dL_law_34 ?_
  refine lv_topi (fun y9 ey9 => ?_)
  obtain rfl : y9 = 3066 := by rw [ey9] <;> decide
  refine lv_icmp_gt (tgt := 4263) hx hb dL_law_35 (by decide) (fun c_1608 => absurd c_1608 (by decide)) (fun _ => ?_)
  refine lv_aload_n hx hb dL_law_38 rfl (lv_at hl 4 rfl) ?_
  refine lv_iload hx hb dL_law_39 (lv_at hl 0 rfl) ?_
  refine va_sld hx hb hX hbl hbA hS (zx_bn (by decide)) dL_law_41 ?_
  refine lv_topi (fun y9 ey9 => ?_)
  obtain rfl : y9 = 7 := ey9.trans (by decide)
  refine lv_bipush (v := 63) hx hb dL_law_42 (by decide) ?_
  refine lv_iand hx hb dL_law_44 ?_
  refine lv_topi (fun y9 ey9 => ?_)
  obtain rfl : y9 = 7 := by rw [ey9] <;> decide
  refine lv_tableIn (off := 752) (tgt := 797) hx hb dL_law_45 (by decide) (by decide) (by decide) (by decide) ?_
  refine lv_aload_n hx hb dL_law_797 rfl (lv_at hl 3 rfl) ?_
  refine lv_aload_n hx hb dL_law_798 rfl (lv_at hl 4 rfl) ?_
  refine lv_iload hx hb dL_law_799 (lv_at hl 0 rfl) ?_
  refine lv_iconst (v := 1) hx hb dL_law_801 (by decide) ?_
  refine lv_iadd hx hb dL_law_802 ?_
  refine lv_topi (fun y9 ey9 => ?_)
  obtain rfl : y9 = 121 := by rw [ey9] <;> decide
  refine va_sld hx hb hX hbl hbA hS (zx_bn (by decide)) dL_law_803 ?_
  refine lv_topi (fun y9 ey9 => ?_)
  obtain rfl : y9 = 0 := ey9.trans (by decide)
  refine lv_aload_n hx hb dL_law_804 rfl (lv_at hl 4 rfl) ?_
  refine lv_iload hx hb dL_law_805 (lv_at hl 0 rfl) ?_
  refine lv_iconst (v := 2) hx hb dL_law_807 (by decide) ?_
  refine lv_iadd hx hb dL_law_808 ?_
  refine lv_topi (fun y9 ey9 => ?_)
  obtain rfl : y9 = 122 := by rw [ey9] <;> decide
  refine va_sld hx hb hX hbl hbA hS (zx_bn (by decide)) dL_law_809 ?_
  refine lv_topi (fun y9 ey9 => ?_)
  obtain rfl : y9 = 0 := ey9.trans (by decide)
  refine lv_aload_n hx hb dL_law_810 rfl (lv_at hl 4 rfl) ?_
  refine lv_iload hx hb dL_law_811 (lv_at hl 0 rfl) ?_
  refine lv_iconst (v := 3) hx hb dL_law_813 (by decide) ?_
  refine lv_iadd hx hb dL_law_814 ?_
  refine lv_topi (fun y9 ey9 => ?_)
  obtain rfl : y9 = 123 := by rw [ey9] <;> decide
  refine va_sld hx hb hX hbl hbA hS (zx_bn (by decide)) dL_law_815 ?_
  refine lv_topi (fun y9 ey9 => ?_)
  obtain rfl : y9 = 0 := ey9.trans (by decide)
  refine lv_aload_n hx hb dL_law_816 rfl (lv_at hl 1 rfl) ?_
  have hPc := hP.sub (ws' := [(h, .inr (13, [.ref pe, .ref ne, .ref pa, .ref ro, .int 0])), (pe, .inr (9, [.int 20, .ref a1, .ref a2, .ref a3, .ref a4, .ref a5, .ref a6, .ref a7, .ref a8, .ref a9])), (pa, .inr (4, [.int mc, .ref ed, .int 0])), (oa, .inl (cy 3, 1, .inr (.inl og)))]) [0, 1, 5, 10] rfl
  have hDc := hD.sub (ws' := [(h, .inr (13, [.ref pe, .ref ne, .ref pa, .ref ro, .int 0])), (pe, .inr (9, [.int 20, .ref a1, .ref a2, .ref a3, .ref a4, .ref a5, .ref a6, .ref a7, .ref a8, .ref a9])), (pa, .inr (4, [.int mc, .ref ed, .int 0])), (oa, .inl (cy 3, 1, .inr (.inl og)))]) [0, 1, 5, 10] (by decide) rfl
  have hFc := va_free (wc := [(h, .inr (13, [.ref pe, .ref ne, .ref pa, .ref ro, .int 0])), (pe, .inr (9, [.int 20, .ref a1, .ref a2, .ref a3, .ref a4, .ref a5, .ref a6, .ref a7, .ref a8, .ref a9])), (pa, .inr (4, [.int mc, .ref ed, .int 0])), (oa, .inl (cy 3, 1, .inr (.inl og)))]) hD hS hA [0, 1, 5, 10] rfl
  refine vx_calli (vx_runSX (As := [.ref h, .int 0, .int 0, .int 0, .ref oa]) (rest := []) ⟨hx, hb, hml, hown, hts⟩ (c_L_begin_0 l hst D cy ed H.size h pe ne pa ro 0 a1 a2 a3 a4 a5 a6 a7 a8 a9 mc oa og) (vx_cwSW 5 hts (zx_GS mm_565 mm_566 mm_70 mm_567) rfl rfl rfl (by decide +kernel) ⟨(Nat.le_of_ble_eq_true rfl), (Nat.le_of_ble_eq_true rfl)⟩) ⟨zx_blind, zx_give hPc hK hDc hS hFc hZ hN⟩ rfl rfl hl.1 rfl (lv_room (Nat.le_of_ble_eq_true rfl)) dL_law_817 ⟨(Nat.le_of_ble_eq_true rfl), (Nat.le_of_ble_eq_true rfl)⟩) hS (fun q _ h => hFc q h) hFc (fun q _ h => hFc q h) (fun E9 ce9 q9 _ t H locs ht hvm _ hBX hz1 hk1 hS hce hcv hcl => ?_) (fun r9 u t H locs ht hvm hw hB hz1 hk1 hS => ?_)
  · exact hBX.elim
  ·
    obtain ⟨mx_1609, qx_1610, g2_1611, y_1612, rl_1613, fy_1614, o2_1615⟩ := u
    obtain ⟨rfl, h_1616⟩ := hw
    obtain ⟨hP, hD⟩ := zx_join (wr := [(a1, .inl (cy 0, 20, .inl f1)), (a2, .inl (cy 0, 20, .inl f2)), (ro, .inl (cy 0, 20, .inl f0)), (m0, .inr (20, [.int 0, .ref mp, .int 0, .ref b1, .ref b2, .ref b3, .ref b4, .ref b5, .ref mq])), (mp, .inr (4, [.int mm, .ref ep, .int 20])), (ep, .inl (cy 2, 22, .inr (.inr (.inr (.inr gp))))), (mq, .inr (4, [.int mn, .ref ed, .int 0]))]) (w1 := [(h, .inr (13, [.ref pe, .ref ne, .ref pa, .ref ro, .int 0])), (pe, .inr (9, [.int 20, .ref a1, .ref a2, .ref a3, .ref a4, .ref a5, .ref a6, .ref a7, .ref a8, .ref a9])), (pa, .inr (4, [.int mx_1609, .ref qx_1610, .int 1])), (qx_1610, .inl (cy 2, 10, .inr (.inr (.inr (.inr g2_1611))))), (y_1612, .inr (8, fy_1614)), (rl_1613, .inr (4, [.int 0, .ref ed, .int 0])), (oa, .inl (cy 3, 1, .inr (.inl o2_1615)))]) [0, 1, 5, 10] [2, 3, 4, 6, 7, 8, 9] rfl rfl (by decide) (by decide) hP hD hk1 hFc hB ht
    have hP : va_P D vwCl [(a1, .inl (cy 0, 20, .inl f1)), (a2, .inl (cy 0, 20, .inl f2)), (ro, .inl (cy 0, 20, .inl f0)), (m0, .inr (20, [.int 0, .ref mp, .int 0, .ref b1, .ref b2, .ref b3, .ref b4, .ref b5, .ref mq])), (mp, .inr (4, [.int mm, .ref ep, .int 20])), (ep, .inl (cy 2, 22, .inr (.inr (.inr (.inr gp))))), (mq, .inr (4, [.int mn, .ref ed, .int 0])), (h, .inr (13, [.ref pe, .ref ne, .ref pa, .ref ro, .int 0])), (pe, .inr (9, [.int 20, .ref a1, .ref a2, .ref a3, .ref a4, .ref a5, .ref a6, .ref a7, .ref a8, .ref a9])), (pa, .inr (4, [.int mx_1609, .ref qx_1610, .int 1])), (qx_1610, .inl (cy 2, 10, .inr (.inr (.inr (.inr g2_1611))))), (y_1612, .inr (8, fy_1614)), (rl_1613, .inr (4, [.int 0, .ref ed, .int 0])), (oa, .inl (cy 3, 1, .inr (.inl o2_1615)))] H := hP
    have hD : va_D A [(a1, .inl (cy 0, 20, .inl f1)), (a2, .inl (cy 0, 20, .inl f2)), (ro, .inl (cy 0, 20, .inl f0)), (m0, .inr (20, [.int 0, .ref mp, .int 0, .ref b1, .ref b2, .ref b3, .ref b4, .ref b5, .ref mq])), (mp, .inr (4, [.int mm, .ref ep, .int 20])), (ep, .inl (cy 2, 22, .inr (.inr (.inr (.inr gp))))), (mq, .inr (4, [.int mn, .ref ed, .int 0])), (h, .inr (13, [.ref pe, .ref ne, .ref pa, .ref ro, .int 0])), (pe, .inr (9, [.int 20, .ref a1, .ref a2, .ref a3, .ref a4, .ref a5, .ref a6, .ref a7, .ref a8, .ref a9])), (pa, .inr (4, [.int mx_1609, .ref qx_1610, .int 1])), (qx_1610, .inl (cy 2, 10, .inr (.inr (.inr (.inr g2_1611))))), (y_1612, .inr (8, fy_1614)), (rl_1613, .inr (4, [.int 0, .ref ed, .int 0])), (oa, .inl (cy 3, 1, .inr (.inl o2_1615)))] := hD
    refine W.widen (k := 118) (n := 2117) (Nat.le_of_ble_eq_true rfl) (Nat.le_of_ble_eq_true rfl) ?_
    obtain ⟨hs_1617, hs_1618, hs_1619⟩ := h_1616
    refine lv_istore (lv' := [(6, .int 0), (5, .int 120), (3, .ref oa), (2, .ref m0), (1, .ref h), (0, .ref b)]) hx hb dL_law_820 hl (by decide) rfl (fun ls hl => ?_)
    refine lv_aload_n hx hb dL_law_822 rfl (lv_at hl 3 rfl) ?_
    refine lv_aload_n hx hb dL_law_823 rfl (lv_at hl 5 rfl) ?_
    refine lv_iload hx hb dL_law_824 (lv_at hl 1 rfl) ?_
    refine lv_iconst (v := 1) hx hb dL_law_826 (by decide) ?_
    refine lv_iadd hx hb dL_law_827 ?_
    refine lv_topi (fun y9 ey9 => ?_)
    obtain rfl : y9 = 121 := by rw [ey9] <;> decide
    refine va_sld hx hb hX hbl hbA hS (zx_bn (by decide)) dL_law_828 ?_
    refine lv_topi (fun y9 ey9 => ?_)
    obtain rfl : y9 = 0 := ey9.trans (by decide)
    refine lv_aload_n hx hb dL_law_829 rfl (lv_at hl 5 rfl) ?_
    refine lv_iload hx hb dL_law_830 (lv_at hl 1 rfl) ?_
    refine lv_iconst (v := 2) hx hb dL_law_832 (by decide) ?_
    refine lv_iadd hx hb dL_law_833 ?_
    refine lv_topi (fun y9 ey9 => ?_)
    obtain rfl : y9 = 122 := by rw [ey9] <;> decide
    refine va_sld hx hb hX hbl hbA hS (zx_bn (by decide)) dL_law_834 ?_
    refine lv_topi (fun y9 ey9 => ?_)
    obtain rfl : y9 = 0 := ey9.trans (by decide)
    refine lv_aload_n hx hb dL_law_835 rfl (lv_at hl 5 rfl) ?_
    refine lv_iload hx hb dL_law_836 (lv_at hl 1 rfl) ?_
    refine lv_iconst (v := 3) hx hb dL_law_838 (by decide) ?_
    refine lv_iadd hx hb dL_law_839 ?_
    refine lv_topi (fun y9 ey9 => ?_)
    obtain rfl : y9 = 123 := by rw [ey9] <;> decide
    refine va_sld hx hb hX hbl hbA hS (zx_bn (by decide)) dL_law_840 ?_
    refine lv_topi (fun y9 ey9 => ?_)
    obtain rfl : y9 = 0 := ey9.trans (by decide)
    have hPc := hP.sub (ws' := [(m0, .inr (20, [.int 0, .ref mp, .int 0, .ref b1, .ref b2, .ref b3, .ref b4, .ref b5, .ref mq])), (mp, .inr (4, [.int mm, .ref ep, .int 20])), (mq, .inr (4, [.int mn, .ref ed, .int 0]))]) [3, 4, 6] rfl
    have hDc := hD.sub (ws' := [(m0, .inr (20, [.int 0, .ref mp, .int 0, .ref b1, .ref b2, .ref b3, .ref b4, .ref b5, .ref mq])), (mp, .inr (4, [.int mm, .ref ep, .int 20])), (mq, .inr (4, [.int mn, .ref ed, .int 0]))]) [3, 4, 6] (by decide) rfl
    have hFc := va_free (wc := [(m0, .inr (20, [.int 0, .ref mp, .int 0, .ref b1, .ref b2, .ref b3, .ref b4, .ref b5, .ref mq])), (mp, .inr (4, [.int mm, .ref ep, .int 20])), (mq, .inr (4, [.int mn, .ref ed, .int 0]))]) hD hS hA [3, 4, 6] rfl
    refine va_calli (va_runV (As := [.int 0, .int 0, .int 0]) (rest := []) ⟨hx, hb, hml, hown, hts⟩ (c_X15_begin_0 l hst D cy ed H.size m0 mp mq b1 b2 b3 b4 b5 0 0 mm ep mn) (cwV 3 hts (zx_GV mm_1783 mm_1784 mm_1785 mm_78 mm_1786) rfl rfl rfl (by decide +kernel) ⟨(Nat.le_of_ble_eq_true rfl), (Nat.le_of_ble_eq_true rfl)⟩) ⟨zx_blind, va_recv hK hPc (ci := 20) (q0 := 0) rfl rfl, zx_give hPc hK hDc hS hFc hZ hN⟩ rfl rfl hl.1 rfl (lv_room (Nat.le_of_ble_eq_true rfl)) dL_law_841 ⟨(Nat.le_of_ble_eq_true rfl), (Nat.le_of_ble_eq_true rfl)⟩) hS (fun q _ h => hFc q h) hFc (fun r9 u t H1 locs ht hvm hw hB hz1 hk1 hS => ?_)
    obtain ⟨mx_1620, qx_1621, g2_1622, y_1623, rl_1624, fy_1625⟩ := u
    obtain ⟨rfl, h_1626⟩ := hw
    obtain ⟨hP, hD⟩ := zx_join (wr := [(a1, .inl (cy 0, 20, .inl f1)), (a2, .inl (cy 0, 20, .inl f2)), (ro, .inl (cy 0, 20, .inl f0)), (ep, .inl (cy 2, 22, .inr (.inr (.inr (.inr gp))))), (h, .inr (13, [.ref pe, .ref ne, .ref pa, .ref ro, .int 0])), (pe, .inr (9, [.int 20, .ref a1, .ref a2, .ref a3, .ref a4, .ref a5, .ref a6, .ref a7, .ref a8, .ref a9])), (pa, .inr (4, [.int mx_1609, .ref qx_1610, .int 1])), (qx_1610, .inl (cy 2, 10, .inr (.inr (.inr (.inr g2_1611))))), (y_1612, .inr (8, fy_1614)), (rl_1613, .inr (4, [.int 0, .ref ed, .int 0])), (oa, .inl (cy 3, 1, .inr (.inl o2_1615)))]) (w1 := [(m0, .inr (20, [.int 0, .ref mp, .int 0, .ref b1, .ref b2, .ref b3, .ref b4, .ref b5, .ref mq])), (mp, .inr (4, [.int mm, .ref ep, .int 20])), (mq, .inr (4, [.int mx_1620, .ref qx_1621, .int 1])), (qx_1621, .inl (cy 2, 10, .inr (.inr (.inr (.inr g2_1622))))), (y_1623, .inr (16, fy_1625)), (rl_1624, .inr (4, [.int 0, .ref ed, .int 0]))]) [3, 4, 6] [0, 1, 2, 5, 7, 8, 9, 10, 11, 12, 13] rfl rfl (by decide) (by decide) hP hD hk1 hFc hB ht
    generalize H1 = H at hP hS ⊢
    have hP : va_P D vwCl [(a1, .inl (cy 0, 20, .inl f1)), (a2, .inl (cy 0, 20, .inl f2)), (ro, .inl (cy 0, 20, .inl f0)), (ep, .inl (cy 2, 22, .inr (.inr (.inr (.inr gp))))), (h, .inr (13, [.ref pe, .ref ne, .ref pa, .ref ro, .int 0])), (pe, .inr (9, [.int 20, .ref a1, .ref a2, .ref a3, .ref a4, .ref a5, .ref a6, .ref a7, .ref a8, .ref a9])), (pa, .inr (4, [.int mx_1609, .ref qx_1610, .int 1])), (qx_1610, .inl (cy 2, 10, .inr (.inr (.inr (.inr g2_1611))))), (y_1612, .inr (8, fy_1614)), (rl_1613, .inr (4, [.int 0, .ref ed, .int 0])), (oa, .inl (cy 3, 1, .inr (.inl o2_1615))), (m0, .inr (20, [.int 0, .ref mp, .int 0, .ref b1, .ref b2, .ref b3, .ref b4, .ref b5, .ref mq])), (mp, .inr (4, [.int mm, .ref ep, .int 20])), (mq, .inr (4, [.int mx_1620, .ref qx_1621, .int 1])), (qx_1621, .inl (cy 2, 10, .inr (.inr (.inr (.inr g2_1622))))), (y_1623, .inr (16, fy_1625)), (rl_1624, .inr (4, [.int 0, .ref ed, .int 0]))] H := hP
    have hD : va_D A [(a1, .inl (cy 0, 20, .inl f1)), (a2, .inl (cy 0, 20, .inl f2)), (ro, .inl (cy 0, 20, .inl f0)), (ep, .inl (cy 2, 22, .inr (.inr (.inr (.inr gp))))), (h, .inr (13, [.ref pe, .ref ne, .ref pa, .ref ro, .int 0])), (pe, .inr (9, [.int 20, .ref a1, .ref a2, .ref a3, .ref a4, .ref a5, .ref a6, .ref a7, .ref a8, .ref a9])), (pa, .inr (4, [.int mx_1609, .ref qx_1610, .int 1])), (qx_1610, .inl (cy 2, 10, .inr (.inr (.inr (.inr g2_1611))))), (y_1612, .inr (8, fy_1614)), (rl_1613, .inr (4, [.int 0, .ref ed, .int 0])), (oa, .inl (cy 3, 1, .inr (.inl o2_1615))), (m0, .inr (20, [.int 0, .ref mp, .int 0, .ref b1, .ref b2, .ref b3, .ref b4, .ref b5, .ref mq])), (mp, .inr (4, [.int mm, .ref ep, .int 20])), (mq, .inr (4, [.int mx_1620, .ref qx_1621, .int 1])), (qx_1621, .inl (cy 2, 10, .inr (.inr (.inr (.inr g2_1622))))), (y_1623, .inr (16, fy_1625)), (rl_1624, .inr (4, [.int 0, .ref ed, .int 0]))] := hD
    refine W.widen (k := 128) (n := 2207) (Nat.le_of_ble_eq_true rfl) (Nat.le_of_ble_eq_true rfl) ?_
    obtain ⟨hs_1627, hs_1628⟩ := h_1626
    refine lv_istore (lv' := [(7, .int 0), (6, .int 0), (5, .int 120), (3, .ref oa), (2, .ref m0), (1, .ref h), (0, .ref b)]) hx hb dL_law_844 hl (by decide) rfl (fun ls hl => ?_)
    refine lv_aload_n hx hb dL_law_846 rfl (lv_at hl 4 rfl) ?_
    have hPc := hP.sub (ws' := [(m0, .inr (20, [.int 0, .ref mp, .int 0, .ref b1, .ref b2, .ref b3, .ref b4, .ref b5, .ref mq]))]) [11] rfl
    have hDc := hD.sub (ws' := [(m0, .inr (20, [.int 0, .ref mp, .int 0, .ref b1, .ref b2, .ref b3, .ref b4, .ref b5, .ref mq]))]) [11] (by decide) rfl
    have hFc := va_free (wc := [(m0, .inr (20, [.int 0, .ref mp, .int 0, .ref b1, .ref b2, .ref b3, .ref b4, .ref b5, .ref mq]))]) hD hS hA [11] rfl
    refine va_calli (va_runV (As := []) (rest := []) ⟨hx, hb, hml, hown, hts⟩ (c_X15_thrown l hst D cy ed H.size m0 mp mq b1 b2 b3 b4 b5 0 0) (cwV 0 hts (zx_GV mm_1599 mm_1600 mm_1601 mm_78 mm_1602) rfl rfl rfl (by decide +kernel) ⟨(Nat.le_of_ble_eq_true rfl), (Nat.le_of_ble_eq_true rfl)⟩) ⟨zx_blind, va_recv hK hPc (ci := 20) (q0 := 0) rfl rfl, zx_give hPc hK hDc hS hFc hZ hN⟩ rfl rfl hl.1 rfl (lv_room (Nat.le_of_ble_eq_true rfl)) dL_law_847 ⟨(Nat.le_of_ble_eq_true rfl), (Nat.le_of_ble_eq_true rfl)⟩) hS (fun q _ h => hFc q h) hFc (fun r9 u t H1 locs ht hvm hw hB hz1 hk1 hS => ?_)
    obtain rfl : r9 = 0 := hw
    obtain ⟨hP, hD⟩ := zx_join (wr := [(a1, .inl (cy 0, 20, .inl f1)), (a2, .inl (cy 0, 20, .inl f2)), (ro, .inl (cy 0, 20, .inl f0)), (ep, .inl (cy 2, 22, .inr (.inr (.inr (.inr gp))))), (h, .inr (13, [.ref pe, .ref ne, .ref pa, .ref ro, .int 0])), (pe, .inr (9, [.int 20, .ref a1, .ref a2, .ref a3, .ref a4, .ref a5, .ref a6, .ref a7, .ref a8, .ref a9])), (pa, .inr (4, [.int mx_1609, .ref qx_1610, .int 1])), (qx_1610, .inl (cy 2, 10, .inr (.inr (.inr (.inr g2_1611))))), (y_1612, .inr (8, fy_1614)), (rl_1613, .inr (4, [.int 0, .ref ed, .int 0])), (oa, .inl (cy 3, 1, .inr (.inl o2_1615))), (mp, .inr (4, [.int mm, .ref ep, .int 20])), (mq, .inr (4, [.int mx_1620, .ref qx_1621, .int 1])), (qx_1621, .inl (cy 2, 10, .inr (.inr (.inr (.inr g2_1622))))), (y_1623, .inr (16, fy_1625)), (rl_1624, .inr (4, [.int 0, .ref ed, .int 0]))]) (w1 := [(m0, .inr (20, [.int 0, .ref mp, .int 0, .ref b1, .ref b2, .ref b3, .ref b4, .ref b5, .ref mq]))]) [11] [0, 1, 2, 3, 4, 5, 6, 7, 8, 9, 10, 12, 13, 14, 15, 16] rfl rfl (by decide) (by decide) hP hD hk1 hFc hB ht
    generalize H1 = H at hP hS ⊢
    have hP : va_P D vwCl [(a1, .inl (cy 0, 20, .inl f1)), (a2, .inl (cy 0, 20, .inl f2)), (ro, .inl (cy 0, 20, .inl f0)), (ep, .inl (cy 2, 22, .inr (.inr (.inr (.inr gp))))), (h, .inr (13, [.ref pe, .ref ne, .ref pa, .ref ro, .int 0])), (pe, .inr (9, [.int 20, .ref a1, .ref a2, .ref a3, .ref a4, .ref a5, .ref a6, .ref a7, .ref a8, .ref a9])), (pa, .inr (4, [.int mx_1609, .ref qx_1610, .int 1])), (qx_1610, .inl (cy 2, 10, .inr (.inr (.inr (.inr g2_1611))))), (y_1612, .inr (8, fy_1614)), (rl_1613, .inr (4, [.int 0, .ref ed, .int 0])), (oa, .inl (cy 3, 1, .inr (.inl o2_1615))), (mp, .inr (4, [.int mm, .ref ep, .int 20])), (mq, .inr (4, [.int mx_1620, .ref qx_1621, .int 1])), (qx_1621, .inl (cy 2, 10, .inr (.inr (.inr (.inr g2_1622))))), (y_1623, .inr (16, fy_1625)), (rl_1624, .inr (4, [.int 0, .ref ed, .int 0])), (m0, .inr (20, [.int 0, .ref mp, .int 0, .ref b1, .ref b2, .ref b3, .ref b4, .ref b5, .ref mq]))] H := hP
    have hD : va_D A [(a1, .inl (cy 0, 20, .inl f1)), (a2, .inl (cy 0, 20, .inl f2)), (ro, .inl (cy 0, 20, .inl f0)), (ep, .inl (cy 2, 22, .inr (.inr (.inr (.inr gp))))), (h, .inr (13, [.ref pe, .ref ne, .ref pa, .ref ro, .int 0])), (pe, .inr (9, [.int 20, .ref a1, .ref a2, .ref a3, .ref a4, .ref a5, .ref a6, .ref a7, .ref a8, .ref a9])), (pa, .inr (4, [.int mx_1609, .ref qx_1610, .int 1])), (qx_1610, .inl (cy 2, 10, .inr (.inr (.inr (.inr g2_1611))))), (y_1612, .inr (8, fy_1614)), (rl_1613, .inr (4, [.int 0, .ref ed, .int 0])), (oa, .inl (cy 3, 1, .inr (.inl o2_1615))), (mp, .inr (4, [.int mm, .ref ep, .int 20])), (mq, .inr (4, [.int mx_1620, .ref qx_1621, .int 1])), (qx_1621, .inl (cy 2, 10, .inr (.inr (.inr (.inr g2_1622))))), (y_1623, .inr (16, fy_1625)), (rl_1624, .inr (4, [.int 0, .ref ed, .int 0])), (m0, .inr (20, [.int 0, .ref mp, .int 0, .ref b1, .ref b2, .ref b3, .ref b4, .ref b5, .ref mq]))] := hD
    refine W.widen (k := 128) (n := 2207) (Nat.le_of_ble_eq_true rfl) (Nat.le_of_ble_eq_true rfl) ?_
    refine lv_iload hx hb dL_law_850 (lv_at hl 1 rfl) ?_
    refine lv_icmp_eq (tgt := 857) hx hb dL_law_852 (by decide) (fun _ => ?_) (fun c_1629 => absurd (by decide) c_1629)
    refine lv_iload hx hb dL_law_857 (lv_at hl 1 rfl) ?_
    refine lv_if_ne (tgt := 874) hx hb dL_law_859 (by decide) (fun c_1630 => absurd c_1630 (by decide)) (fun _ => ?_)
    refine lv_aload_n hx hb dL_law_862 rfl (lv_at hl 3 rfl) ?_
    refine lv_iconst (v := 0) hx hb dL_law_863 (by decide) ?_
    refine va_lald hx hb hK hP 10 3 rfl rfl (zx_bn (by decide)) dL_law_864 ?_
    refine lv_iload hx hb dL_law_865 (lv_at hl 0 rfl) ?_
    refine lv_i2l (v := 0) hx hb dL_law_867 rfl ?_
    refine W.lcmp hx hb dL_law_868 ?_
    refine lv_topi (fun y9 ey9 => ?_)
    obtain rfl : y9 = 0 := ey9.trans (zx_lcmpe hs_1617)
    refine lv_if_eq (tgt := 874) hx hb dL_law_869 (by decide) (fun _ => ?_) (fun c_1631 => absurd (by decide) c_1631)
    refine lv_goto (tgt := 4257) hx hb dL_law_874 (by decide) ?_
    refine lv_iinc (v := 126) (lv' := [(5, .int 126), (7, .int 0), (6, .int 0), (3, .ref oa), (2, .ref m0), (1, .ref h), (0, .ref b)]) hx hb dL_law_4257 hl (k := 2) rfl (by decide) (by decide) rfl (fun ls hl => ?_)
    refine lv_goto (tgt := 28) hx hb dL_law_4260 (by decide) ?_
    have hP := hP.sub (ws' := [(h, .inr (13, [.ref pe, .ref ne, .ref pa, .ref ro, .int 0])), (pe, .inr (9, [.int 20, .ref a1, .ref a2, .ref a3, .ref a4, .ref a5, .ref a6, .ref a7, .ref a8, .ref a9])), (a1, .inl (cy 0, 20, .inl f1)), (a2, .inl (cy 0, 20, .inl f2)), (ro, .inl (cy 0, 20, .inl f0)), (pa, .inr (4, [.int mx_1609, .ref qx_1610, .int 1])), (qx_1610, .inl (cy 2, 10, .inr (.inr (.inr (.inr g2_1611))))), (m0, .inr (20, [.int 0, .ref mp, .int 0, .ref b1, .ref b2, .ref b3, .ref b4, .ref b5, .ref mq])), (mp, .inr (4, [.int mm, .ref ep, .int 20])), (ep, .inl (cy 2, 22, .inr (.inr (.inr (.inr gp))))), (mq, .inr (4, [.int mx_1620, .ref qx_1621, .int 1])), (qx_1621, .inl (cy 2, 10, .inr (.inr (.inr (.inr g2_1622))))), (oa, .inl (cy 3, 1, .inr (.inl o2_1615))), (y_1612, .inr (8, fy_1614)), (rl_1613, .inr (4, [.int 0, .ref ed, .int 0])), (y_1623, .inr (16, fy_1625)), (rl_1624, .inr (4, [.int 0, .ref ed, .int 0]))]) [4, 5, 0, 1, 2, 6, 7, 16, 11, 3, 12, 13, 10, 8, 9, 14, 15] rfl
    have hD := hD.sub (ws' := [(h, .inr (13, [.ref pe, .ref ne, .ref pa, .ref ro, .int 0])), (pe, .inr (9, [.int 20, .ref a1, .ref a2, .ref a3, .ref a4, .ref a5, .ref a6, .ref a7, .ref a8, .ref a9])), (a1, .inl (cy 0, 20, .inl f1)), (a2, .inl (cy 0, 20, .inl f2)), (ro, .inl (cy 0, 20, .inl f0)), (pa, .inr (4, [.int mx_1609, .ref qx_1610, .int 1])), (qx_1610, .inl (cy 2, 10, .inr (.inr (.inr (.inr g2_1611))))), (m0, .inr (20, [.int 0, .ref mp, .int 0, .ref b1, .ref b2, .ref b3, .ref b4, .ref b5, .ref mq])), (mp, .inr (4, [.int mm, .ref ep, .int 20])), (ep, .inl (cy 2, 22, .inr (.inr (.inr (.inr gp))))), (mq, .inr (4, [.int mx_1620, .ref qx_1621, .int 1])), (qx_1621, .inl (cy 2, 10, .inr (.inr (.inr (.inr g2_1622))))), (oa, .inl (cy 3, 1, .inr (.inl o2_1615))), (y_1612, .inr (8, fy_1614)), (rl_1613, .inr (4, [.int 0, .ref ed, .int 0])), (y_1623, .inr (16, fy_1625)), (rl_1624, .inr (4, [.int 0, .ref ed, .int 0]))]) [4, 5, 0, 1, 2, 6, 7, 16, 11, 3, 12, 13, 10, 8, 9, 14, 15] (by decide) rfl
    exact hnext _ _ _ ⟨pe, ne, pa, ro, a1, a2, a3, a4, a5, a6, a7, a8, a9, mp, mq, b1, b2, b3, b4, b5, ep, qx_1610, qx_1621, mx_1609, mm, mx_1620, f1, f2, f0, o2_1615, gp, g2_1611, g2_1622, y_1612, rl_1613, fy_1614, y_1623, rl_1624, fy_1625, hP, hD, hs_1619, hs_1618, hs_1628, hs_1627⟩ hS (lv_sub hl [0, 3, 4, 5, 6] rfl)
set_option maxHeartbeats 4000000 in
set_option maxRecDepth 100000 in
theorem law_step_21 {p : Program} {l : Launch} {e : Env} {s : State} {m : MethodId} {below : List Frame} {meth : Method} {c : Code} {D : va_G} {cy : Nat → ClassId} {ed b : Nat} {A : Nat → Prop} {Q : State → Prop} (C0 : zx_LW p l s m c D cy ed b A) {h m0 oa : Nat} {H : Heap} {locs : List Loc} {ls : Array Slot} (h0 : zx_S21 D cy ed A h m0 oa H) (hS : va_S A s.heap H locs) (hl : lv_has ls 9 [(5, .int 126), (3, .ref oa), (2, .ref m0), (1, .ref h), (0, .ref b)])
    (hnext : ∀ (H : Heap) (locs : List Loc) (ls : Array Slot), zx_S22 D cy ed A h m0 oa H → va_S A s.heap H locs → lv_has ls 9 [(5, .int 132), (3, .ref oa), (2, .ref m0), (1, .ref h), (0, .ref b)] → W p l e zx_R s m #[Value.ref b] below meth c H locs 151 2467 Q (F0 m 28 ls [])) :
    W p l e zx_R s m #[Value.ref b] below meth c H locs 128 2207 Q (F0 m 28 ls []) := by
  obtain ⟨hx, hb, hml, hst, hown, hts, hX, hbl, hbA, hA, hK, hZ, hN⟩ := C0
  obtain ⟨pe, ne, pa, ro, a1, a2, a3, a4, a5, a6, a7, a8, a9, mp, mq, b1, b2, b3, b4, b5, ep, el, eq, mc, mm, mn, f1, f2, f0, og, gp, g, gq, y0, r0, q0, z0, v0, u0, hP, hD, hxe0, hxq0, hme0, hmq0⟩ := h0
  refine lv_iload hx hb dL_law_28 (lv_at hl 0 rfl) ?_
  refine lv_aload_n hx hb dL_law_30 rfl (lv_at hl 4 rfl) ?_
  refine va_slen hx hb hX hbl hbA hS dL_law_31 ?_
  refine lv_topi (fun y9 ey9 => ?_)
  obtain rfl : y9 = 3072 := ey9.trans (by decide)
  refine lv_bipush (v := 6) hx hb dL_law_32 (by decide) ?_
  refine lv_isub hx hb dL_law_34 ?_
  refine lv_topi (fun y9 ey9 => ?_)
  obtain rfl : y9 = 3066 := by rw [ey9] <;> decide
  refine lv_icmp_gt (tgt := 4263) hx hb dL_law_35 (by decide) (fun c_1632 => absurd c_1632 (by decide)) (fun _ => ?_)
  refine lv_aload_n hx hb dL_law_38 rfl (lv_at hl 4 rfl) ?_
  refine lv_iload hx hb dL_law_39 (lv_at hl 0 rfl) ?_
  refine va_sld hx hb hX hbl hbA hS (zx_bn (by decide)) dL_law_41 ?_
  refine lv_topi (fun y9 ey9 => ?_)
  obtain rfl : y9 = 7 := ey9.trans (by decide)
  refine lv_bipush (v := 63) hx hb dL_law_42 (by decide) ?_
  refine lv_iand hx hb dL_law_44 ?_
  refine lv_topi (fun y9 ey9 => ?_)
  obtain rfl : y9 = 7 := by rw [ey9] <;> decide
  refine lv_tableIn (off := 752) (tgt := 797) hx hb dL_law_45 (by decide) (by decide) (by decide) (by decide) ?_
  refine lv_aload_n hx hb dL_law_797 rfl (lv_at hl 3 rfl) ?_
  refine lv_aload_n hx hb dL_law_798 rfl (lv_at hl 4 rfl) ?_
  refine lv_iload hx hb dL_law_799 (lv_at hl 0 rfl) ?_
  refine lv_iconst (v := 1) hx hb dL_law_801 (by decide) ?_
  refine lv_iadd hx hb dL_law_802 ?_
  refine lv_topi (fun y9 ey9 => ?_)
  obtain rfl : y9 = 127 := by rw [ey9] <;> decide
  refine va_sld hx hb hX hbl hbA hS (zx_bn (by decide)) dL_law_803 ?_
  refine lv_topi (fun y9 ey9 => ?_)
  obtain rfl : y9 = 0 := ey9.trans (by decide)
  refine lv_aload_n hx hb dL_law_804 rfl (lv_at hl 4 rfl) ?_
  refine lv_iload hx hb dL_law_805 (lv_at hl 0 rfl) ?_
  refine lv_iconst (v := 2) hx hb dL_law_807 (by decide) ?_
  refine lv_iadd hx hb dL_law_808 ?_
  refine lv_topi (fun y9 ey9 => ?_)
  obtain rfl : y9 = 128 := by rw [ey9] <;> decide
  refine va_sld hx hb hX hbl hbA hS (zx_bn (by decide)) dL_law_809 ?_
  refine lv_topi (fun y9 ey9 => ?_)
  obtain rfl : y9 = 0 := ey9.trans (by decide)
  refine lv_aload_n hx hb dL_law_810 rfl (lv_at hl 4 rfl) ?_
  refine lv_iload hx hb dL_law_811 (lv_at hl 0 rfl) ?_
  refine lv_iconst (v := 3) hx hb dL_law_813 (by decide) ?_
  refine lv_iadd hx hb dL_law_814 ?_
  refine lv_topi (fun y9 ey9 => ?_)
  obtain rfl : y9 = 129 := by rw [ey9] <;> decide
  refine va_sld hx hb hX hbl hbA hS (zx_bn (by decide)) dL_law_815 ?_
  refine lv_topi (fun y9 ey9 => ?_)
  obtain rfl : y9 = 0 := ey9.trans (by decide)
  refine lv_aload_n hx hb dL_law_816 rfl (lv_at hl 1 rfl) ?_
  have hPc := hP.sub (ws' := [(h, .inr (13, [.ref pe, .ref ne, .ref pa, .ref ro, .int 0])), (pe, .inr (9, [.int 20, .ref a1, .ref a2, .ref a3, .ref a4, .ref a5, .ref a6, .ref a7, .ref a8, .ref a9])), (pa, .inr (4, [.int mc, .ref el, .int 1])), (el, .inl (cy 2, 10, .inr (.inr (.inr (.inr g))))), (oa, .inl (cy 3, 1, .inr (.inl og)))]) [0, 1, 5, 6, 12] rfl
  have hDc := hD.sub (ws' := [(h, .inr (13, [.ref pe, .ref ne, .ref pa, .ref ro, .int 0])), (pe, .inr (9, [.int 20, .ref a1, .ref a2, .ref a3, .ref a4, .ref a5, .ref a6, .ref a7, .ref a8, .ref a9])), (pa, .inr (4, [.int mc, .ref el, .int 1])), (el, .inl (cy 2, 10, .inr (.inr (.inr (.inr g))))), (oa, .inl (cy 3, 1, .inr (.inl og)))]) [0, 1, 5, 6, 12] (by decide) rfl
  have hFc := va_free (wc := [(h, .inr (13, [.ref pe, .ref ne, .ref pa, .ref ro, .int 0])), (pe, .inr (9, [.int 20, .ref a1, .ref a2, .ref a3, .ref a4, .ref a5, .ref a6, .ref a7, .ref a8, .ref a9])), (pa, .inr (4, [.int mc, .ref el, .int 1])), (el, .inl (cy 2, 10, .inr (.inr (.inr (.inr g))))), (oa, .inl (cy 3, 1, .inr (.inl og)))]) hD hS hA [0, 1, 5, 6, 12] rfl
  refine vx_calli (vx_runSX (As := [.ref h, .int 0, .int 0, .int 0, .ref oa]) (rest := []) ⟨hx, hb, hml, hown, hts⟩ (c_L_begin_1 l hst D cy ed H.size h pe ne pa ro 0 a1 a2 a3 a4 a5 a6 a7 a8 a9 mc el g oa og) (vx_cwSW 5 hts (zx_GS mm_565 mm_566 mm_70 mm_567) rfl rfl rfl (by decide +kernel) ⟨(Nat.le_of_ble_eq_true rfl), (Nat.le_of_ble_eq_true rfl)⟩) ⟨zx_blind, zx_give hPc hK hDc hS hFc hZ hN⟩ rfl rfl hl.1 rfl (lv_room (Nat.le_of_ble_eq_true rfl)) dL_law_817 ⟨(Nat.le_of_ble_eq_true rfl), (Nat.le_of_ble_eq_true rfl)⟩) hS (fun q _ h => hFc q h) hFc (fun q _ h => hFc q h) (fun E9 ce9 q9 _ t H locs ht hvm _ hBX hz1 hk1 hS hce hcv hcl => ?_) (fun r9 u t H locs ht hvm hw hB hz1 hk1 hS => ?_)
  · exact hBX.elim
  ·
    obtain ⟨mx_1633, qx_1634, g2_1635, y_1636, rl_1637, fy_1638, o2_1639⟩ := u
    obtain ⟨rfl, h_1640⟩ := hw
    obtain ⟨hP, hD⟩ := zx_join (wr := [(a1, .inl (cy 0, 20, .inl f1)), (a2, .inl (cy 0, 20, .inl f2)), (ro, .inl (cy 0, 20, .inl f0)), (m0, .inr (20, [.int 0, .ref mp, .int 0, .ref b1, .ref b2, .ref b3, .ref b4, .ref b5, .ref mq])), (mp, .inr (4, [.int mm, .ref ep, .int 20])), (ep, .inl (cy 2, 22, .inr (.inr (.inr (.inr gp))))), (mq, .inr (4, [.int mn, .ref eq, .int 1])), (eq, .inl (cy 2, 10, .inr (.inr (.inr (.inr gq))))), (y0, .inr (8, q0)), (r0, .inr (4, [.int 0, .ref ed, .int 0])), (z0, .inr (16, u0)), (v0, .inr (4, [.int 0, .ref ed, .int 0]))]) (w1 := [(h, .inr (13, [.ref pe, .ref ne, .ref pa, .ref ro, .int 0])), (pe, .inr (9, [.int 20, .ref a1, .ref a2, .ref a3, .ref a4, .ref a5, .ref a6, .ref a7, .ref a8, .ref a9])), (pa, .inr (4, [.int mx_1633, .ref qx_1634, .int 2])), (qx_1634, .inl (cy 2, 10, .inr (.inr (.inr (.inr g2_1635))))), (y_1636, .inr (8, fy_1638)), (rl_1637, .inr (4, [.int 0, .ref ed, .int 0])), (oa, .inl (cy 3, 1, .inr (.inl o2_1639)))]) [0, 1, 5, 6, 12] [2, 3, 4, 7, 8, 9, 10, 11, 13, 14, 15, 16] rfl rfl (by decide) (by decide) hP hD hk1 hFc hB ht
    have hP : va_P D vwCl [(a1, .inl (cy 0, 20, .inl f1)), (a2, .inl (cy 0, 20, .inl f2)), (ro, .inl (cy 0, 20, .inl f0)), (m0, .inr (20, [.int 0, .ref mp, .int 0, .ref b1, .ref b2, .ref b3, .ref b4, .ref b5, .ref mq])), (mp, .inr (4, [.int mm, .ref ep, .int 20])), (ep, .inl (cy 2, 22, .inr (.inr (.inr (.inr gp))))), (mq, .inr (4, [.int mn, .ref eq, .int 1])), (eq, .inl (cy 2, 10, .inr (.inr (.inr (.inr gq))))), (y0, .inr (8, q0)), (r0, .inr (4, [.int 0, .ref ed, .int 0])), (z0, .inr (16, u0)), (v0, .inr (4, [.int 0, .ref ed, .int 0])), (h, .inr (13, [.ref pe, .ref ne, .ref pa, .ref ro, .int 0])), (pe, .inr (9, [.int 20, .ref a1, .ref a2, .ref a3, .ref a4, .ref a5, .ref a6, .ref a7, .ref a8, .ref a9])), (pa, .inr (4, [.int mx_1633, .ref qx_1634, .int 2])), (qx_1634, .inl (cy 2, 10, .inr (.inr (.inr (.inr g2_1635))))), (y_1636, .inr (8, fy_1638)), (rl_1637, .inr (4, [.int 0, .ref ed, .int 0])), (oa, .inl (cy 3, 1, .inr (.inl o2_1639)))] H := hP
    have hD : va_D A [(a1, .inl (cy 0, 20, .inl f1)), (a2, .inl (cy 0, 20, .inl f2)), (ro, .inl (cy 0, 20, .inl f0)), (m0, .inr (20, [.int 0, .ref mp, .int 0, .ref b1, .ref b2, .ref b3, .ref b4, .ref b5, .ref mq])), (mp, .inr (4, [.int mm, .ref ep, .int 20])), (ep, .inl (cy 2, 22, .inr (.inr (.inr (.inr gp))))), (mq, .inr (4, [.int mn, .ref eq, .int 1])), (eq, .inl (cy 2, 10, .inr (.inr (.inr (.inr gq))))), (y0, .inr (8, q0)), (r0, .inr (4, [.int 0, .ref ed, .int 0])), (z0, .inr (16, u0)), (v0, .inr (4, [.int 0, .ref ed, .int 0])), (h, .inr (13, [.ref pe, .ref ne, .ref pa, .ref ro, .int 0])), (pe, .inr (9, [.int 20, .ref a1, .ref a2, .ref a3, .ref a4, .ref a5, .ref a6, .ref a7, .ref a8, .ref a9])), (pa, .inr (4, [.int mx_1633, .ref qx_1634, .int 2])), (qx_1634, .inl (cy 2, 10, .inr (.inr (.inr (.inr g2_1635))))), (y_1636, .inr (8, fy_1638)), (rl_1637, .inr (4, [.int 0, .ref ed, .int 0])), (oa, .inl (cy 3, 1, .inr (.inl o2_1639)))] := hD
    refine W.widen (k := 142) (n := 2377) (Nat.le_of_ble_eq_true rfl) (Nat.le_of_ble_eq_true rfl) ?_
    obtain ⟨hs_1641, hs_1642, hs_1643, hs_1644⟩ := h_1640
    refine lv_istore (lv' := [(6, .int 0), (5, .int 126), (3, .ref oa), (2, .ref m0), (1, .ref h), (0, .ref b)]) hx hb dL_law_820 hl (by decide) rfl (fun ls hl => ?_)
    refine lv_aload_n hx hb dL_law_822 rfl (lv_at hl 3 rfl) ?_
    refine lv_aload_n hx hb dL_law_823 rfl (lv_at hl 5 rfl) ?_
    refine lv_iload hx hb dL_law_824 (lv_at hl 1 rfl) ?_
    refine lv_iconst (v := 1) hx hb dL_law_826 (by decide) ?_
    refine lv_iadd hx hb dL_law_827 ?_
    refine lv_topi (fun y9 ey9 => ?_)
    obtain rfl : y9 = 127 := by rw [ey9] <;> decide
    refine va_sld hx hb hX hbl hbA hS (zx_bn (by decide)) dL_law_828 ?_
    refine lv_topi (fun y9 ey9 => ?_)
    obtain rfl : y9 = 0 := ey9.trans (by decide)
    refine lv_aload_n hx hb dL_law_829 rfl (lv_at hl 5 rfl) ?_
    refine lv_iload hx hb dL_law_830 (lv_at hl 1 rfl) ?_
    refine lv_iconst (v := 2) hx hb dL_law_832 (by decide) ?_
    refine lv_iadd hx hb dL_law_833 ?_
    refine lv_topi (fun y9 ey9 => ?_)
    obtain rfl : y9 = 128 := by rw [ey9] <;> decide
    refine va_sld hx hb hX hbl hbA hS (zx_bn (by decide)) dL_law_834 ?_
    refine lv_topi (fun y9 ey9 => ?_)
    obtain rfl : y9 = 0 := ey9.trans (by decide)
    refine lv_aload_n hx hb dL_law_835 rfl (lv_at hl 5 rfl) ?_
    refine lv_iload hx hb dL_law_836 (lv_at hl 1 rfl) ?_
    refine lv_iconst (v := 3) hx hb dL_law_838 (by decide) ?_
    refine lv_iadd hx hb dL_law_839 ?_
    refine lv_topi (fun y9 ey9 => ?_)
    obtain rfl : y9 = 129 := by rw [ey9] <;> decide
    refine va_sld hx hb hX hbl hbA hS (zx_bn (by decide)) dL_law_840 ?_
    refine lv_topi (fun y9 ey9 => ?_)
    obtain rfl : y9 = 0 := ey9.trans (by decide)
    have hPc := hP.sub (ws' := [(m0, .inr (20, [.int 0, .ref mp, .int 0, .ref b1, .ref b2, .ref b3, .ref b4, .ref b5, .ref mq])), (mp, .inr (4, [.int mm, .ref ep, .int 20])), (mq, .inr (4, [.int mn, .ref eq, .int 1])), (eq, .inl (cy 2, 10, .inr (.inr (.inr (.inr gq)))))]) [3, 4, 6, 7] rfl
    have hDc := hD.sub (ws' := [(m0, .inr (20, [.int 0, .ref mp, .int 0, .ref b1, .ref b2, .ref b3, .ref b4, .ref b5, .ref mq])), (mp, .inr (4, [.int mm, .ref ep, .int 20])), (mq, .inr (4, [.int mn, .ref eq, .int 1])), (eq, .inl (cy 2, 10, .inr (.inr (.inr (.inr gq)))))]) [3, 4, 6, 7] (by decide) rfl
    have hFc := va_free (wc := [(m0, .inr (20, [.int 0, .ref mp, .int 0, .ref b1, .ref b2, .ref b3, .ref b4, .ref b5, .ref mq])), (mp, .inr (4, [.int mm, .ref ep, .int 20])), (mq, .inr (4, [.int mn, .ref eq, .int 1])), (eq, .inl (cy 2, 10, .inr (.inr (.inr (.inr gq)))))]) hD hS hA [3, 4, 6, 7] rfl
    refine va_calli (va_runV (As := [.int 0, .int 0, .int 0]) (rest := []) ⟨hx, hb, hml, hown, hts⟩ (c_X15_begin_1 l hst D cy ed H.size m0 mp mq b1 b2 b3 b4 b5 0 0 mm ep mn eq gq) (cwV 3 hts (zx_GV mm_1783 mm_1784 mm_1785 mm_78 mm_1786) rfl rfl rfl (by decide +kernel) ⟨(Nat.le_of_ble_eq_true rfl), (Nat.le_of_ble_eq_true rfl)⟩) ⟨zx_blind, va_recv hK hPc (ci := 20) (q0 := 0) rfl rfl, zx_give hPc hK hDc hS hFc hZ hN⟩ rfl rfl hl.1 rfl (lv_room (Nat.le_of_ble_eq_true rfl)) dL_law_841 ⟨(Nat.le_of_ble_eq_true rfl), (Nat.le_of_ble_eq_true rfl)⟩) hS (fun q _ h => hFc q h) hFc (fun r9 u t H1 locs ht hvm hw hB hz1 hk1 hS => ?_)
    obtain ⟨mx_1645, qx_1646, g2_1647, y_1648, rl_1649, fy_1650⟩ := u
    obtain ⟨rfl, h_1651⟩ := hw
    obtain ⟨hP, hD⟩ := zx_join (wr := [(a1, .inl (cy 0, 20, .inl f1)), (a2, .inl (cy 0, 20, .inl f2)), (ro, .inl (cy 0, 20, .inl f0)), (ep, .inl (cy 2, 22, .inr (.inr (.inr (.inr gp))))), (y0, .inr (8, q0)), (r0, .inr (4, [.int 0, .ref ed, .int 0])), (z0, .inr (16, u0)), (v0, .inr (4, [.int 0, .ref ed, .int 0])), (h, .inr (13, [.ref pe, .ref ne, .ref pa, .ref ro, .int 0])), (pe, .inr (9, [.int 20, .ref a1, .ref a2, .ref a3, .ref a4, .ref a5, .ref a6, .ref a7, .ref a8, .ref a9])), (pa, .inr (4, [.int mx_1633, .ref qx_1634, .int 2])), (qx_1634, .inl (cy 2, 10, .inr (.inr (.inr (.inr g2_1635))))), (y_1636, .inr (8, fy_1638)), (rl_1637, .inr (4, [.int 0, .ref ed, .int 0])), (oa, .inl (cy 3, 1, .inr (.inl o2_1639)))]) (w1 := [(m0, .inr (20, [.int 0, .ref mp, .int 0, .ref b1, .ref b2, .ref b3, .ref b4, .ref b5, .ref mq])), (mp, .inr (4, [.int mm, .ref ep, .int 20])), (mq, .inr (4, [.int mx_1645, .ref qx_1646, .int 2])), (qx_1646, .inl (cy 2, 10, .inr (.inr (.inr (.inr g2_1647))))), (y_1648, .inr (16, fy_1650)), (rl_1649, .inr (4, [.int 0, .ref ed, .int 0]))]) [3, 4, 6, 7] [0, 1, 2, 5, 8, 9, 10, 11, 12, 13, 14, 15, 16, 17, 18] rfl rfl (by decide) (by decide) hP hD hk1 hFc hB ht
    generalize H1 = H at hP hS ⊢
    have hP : va_P D vwCl [(a1, .inl (cy 0, 20, .inl f1)), (a2, .inl (cy 0, 20, .inl f2)), (ro, .inl (cy 0, 20, .inl f0)), (ep, .inl (cy 2, 22, .inr (.inr (.inr (.inr gp))))), (y0, .inr (8, q0)), (r0, .inr (4, [.int 0, .ref ed, .int 0])), (z0, .inr (16, u0)), (v0, .inr (4, [.int 0, .ref ed, .int 0])), (h, .inr (13, [.ref pe, .ref ne, .ref pa, .ref ro, .int 0])), (pe, .inr (9, [.int 20, .ref a1, .ref a2, .ref a3, .ref a4, .ref a5, .ref a6, .ref a7, .ref a8, .ref a9])), (pa, .inr (4, [.int mx_1633, .ref qx_1634, .int 2])), (qx_1634, .inl (cy 2, 10, .inr (.inr (.inr (.inr g2_1635))))), (y_1636, .inr (8, fy_1638)), (rl_1637, .inr (4, [.int 0, .ref ed, .int 0])), (oa, .inl (cy 3, 1, .inr (.inl o2_1639))), (m0, .inr (20, [.int 0, .ref mp, .int 0, .ref b1, .ref b2, .ref b3, .ref b4, .ref b5, .ref mq])), (mp, .inr (4, [.int mm, .ref ep, .int 20])), (mq, .inr (4, [.int mx_1645, .ref qx_1646, .int 2])), (qx_1646, .inl (cy 2, 10, .inr (.inr (.inr (.inr g2_1647))))), (y_1648, .inr (16, fy_1650)), (rl_1649, .inr (4, [.int 0, .ref ed, .int 0]))] H := hP
    have hD : va_D A [(a1, .inl (cy 0, 20, .inl f1)), (a2, .inl (cy 0, 20, .inl f2)), (ro, .inl (cy 0, 20, .inl f0)), (ep, .inl (cy 2, 22, .inr (.inr (.inr (.inr gp))))), (y0, .inr (8, q0)), (r0, .inr (4, [.int 0, .ref ed, .int 0])), (z0, .inr (16, u0)), (v0, .inr (4, [.int 0, .ref ed, .int 0])), (h, .inr (13, [.ref pe, .ref ne, .ref pa, .ref ro, .int 0])), (pe, .inr (9, [.int 20, .ref a1, .ref a2, .ref a3, .ref a4, .ref a5, .ref a6, .ref a7, .ref a8, .ref a9])), (pa, .inr (4, [.int mx_1633, .ref qx_1634, .int 2])), (qx_1634, .inl (cy 2, 10, .inr (.inr (.inr (.inr g2_1635))))), (y_1636, .inr (8, fy_1638)), (rl_1637, .inr (4, [.int 0, .ref ed, .int 0])), (oa, .inl (cy 3, 1, .inr (.inl o2_1639))), (m0, .inr (20, [.int 0, .ref mp, .int 0, .ref b1, .ref b2, .ref b3, .ref b4, .ref b5, .ref mq])), (mp, .inr (4, [.int mm, .ref ep, .int 20])), (mq, .inr (4, [.int mx_1645, .ref qx_1646, .int 2])), (qx_1646, .inl (cy 2, 10, .inr (.inr (.inr (.inr g2_1647))))), (y_1648, .inr (16, fy_1650)), (rl_1649, .inr (4, [.int 0, .ref ed, .int 0]))] := hD
    refine W.widen (k := 151) (n := 2467) (Nat.le_of_ble_eq_true rfl) (Nat.le_of_ble_eq_true rfl) ?_
    obtain ⟨hs_1652, hs_1653, hs_1654⟩ := h_1651
    refine lv_istore (lv' := [(7, .int 1), (6, .int 0), (5, .int 126), (3, .ref oa), (2, .ref m0), (1, .ref h), (0, .ref b)]) hx hb dL_law_844 hl (by decide) rfl (fun ls hl => ?_)
    refine lv_aload_n hx hb dL_law_846 rfl (lv_at hl 4 rfl) ?_
    have hPc := hP.sub (ws' := [(m0, .inr (20, [.int 0, .ref mp, .int 0, .ref b1, .ref b2, .ref b3, .ref b4, .ref b5, .ref mq]))]) [15] rfl
    have hDc := hD.sub (ws' := [(m0, .inr (20, [.int 0, .ref mp, .int 0, .ref b1, .ref b2, .ref b3, .ref b4, .ref b5, .ref mq]))]) [15] (by decide) rfl
    have hFc := va_free (wc := [(m0, .inr (20, [.int 0, .ref mp, .int 0, .ref b1, .ref b2, .ref b3, .ref b4, .ref b5, .ref mq]))]) hD hS hA [15] rfl
    refine va_calli (va_runV (As := []) (rest := []) ⟨hx, hb, hml, hown, hts⟩ (c_X15_thrown l hst D cy ed H.size m0 mp mq b1 b2 b3 b4 b5 0 0) (cwV 0 hts (zx_GV mm_1599 mm_1600 mm_1601 mm_78 mm_1602) rfl rfl rfl (by decide +kernel) ⟨(Nat.le_of_ble_eq_true rfl), (Nat.le_of_ble_eq_true rfl)⟩) ⟨zx_blind, va_recv hK hPc (ci := 20) (q0 := 0) rfl rfl, zx_give hPc hK hDc hS hFc hZ hN⟩ rfl rfl hl.1 rfl (lv_room (Nat.le_of_ble_eq_true rfl)) dL_law_847 ⟨(Nat.le_of_ble_eq_true rfl), (Nat.le_of_ble_eq_true rfl)⟩) hS (fun q _ h => hFc q h) hFc (fun r9 u t H1 locs ht hvm hw hB hz1 hk1 hS => ?_)
    obtain rfl : r9 = 0 := hw
    obtain ⟨hP, hD⟩ := zx_join (wr := [(a1, .inl (cy 0, 20, .inl f1)), (a2, .inl (cy 0, 20, .inl f2)), (ro, .inl (cy 0, 20, .inl f0)), (ep, .inl (cy 2, 22, .inr (.inr (.inr (.inr gp))))), (y0, .inr (8, q0)), (r0, .inr (4, [.int 0, .ref ed, .int 0])), (z0, .inr (16, u0)), (v0, .inr (4, [.int 0, .ref ed, .int 0])), (h, .inr (13, [.ref pe, .ref ne, .ref pa, .ref ro, .int 0])), (pe, .inr (9, [.int 20, .ref a1, .ref a2, .ref a3, .ref a4, .ref a5, .ref a6, .ref a7, .ref a8, .ref a9])), (pa, .inr (4, [.int mx_1633, .ref qx_1634, .int 2])), (qx_1634, .inl (cy 2, 10, .inr (.inr (.inr (.inr g2_1635))))), (y_1636, .inr (8, fy_1638)), (rl_1637, .inr (4, [.int 0, .ref ed, .int 0])), (oa, .inl (cy 3, 1, .inr (.inl o2_1639))), (mp, .inr (4, [.int mm, .ref ep, .int 20])), (mq, .inr (4, [.int mx_1645, .ref qx_1646, .int 2])), (qx_1646, .inl (cy 2, 10, .inr (.inr (.inr (.inr g2_1647))))), (y_1648, .inr (16, fy_1650)), (rl_1649, .inr (4, [.int 0, .ref ed, .int 0]))]) (w1 := [(m0, .inr (20, [.int 0, .ref mp, .int 0, .ref b1, .ref b2, .ref b3, .ref b4, .ref b5, .ref mq]))]) [15] [0, 1, 2, 3, 4, 5, 6, 7, 8, 9, 10, 11, 12, 13, 14, 16, 17, 18, 19, 20] rfl rfl (by decide) (by decide) hP hD hk1 hFc hB ht
    generalize H1 = H at hP hS ⊢
    have hP : va_P D vwCl [(a1, .inl (cy 0, 20, .inl f1)), (a2, .inl (cy 0, 20, .inl f2)), (ro, .inl (cy 0, 20, .inl f0)), (ep, .inl (cy 2, 22, .inr (.inr (.inr (.inr gp))))), (y0, .inr (8, q0)), (r0, .inr (4, [.int 0, .ref ed, .int 0])), (z0, .inr (16, u0)), (v0, .inr (4, [.int 0, .ref ed, .int 0])), (h, .inr (13, [.ref pe, .ref ne, .ref pa, .ref ro, .int 0])), (pe, .inr (9, [.int 20, .ref a1, .ref a2, .ref a3, .ref a4, .ref a5, .ref a6, .ref a7, .ref a8, .ref a9])), (pa, .inr (4, [.int mx_1633, .ref qx_1634, .int 2])), (qx_1634, .inl (cy 2, 10, .inr (.inr (.inr (.inr g2_1635))))), (y_1636, .inr (8, fy_1638)), (rl_1637, .inr (4, [.int 0, .ref ed, .int 0])), (oa, .inl (cy 3, 1, .inr (.inl o2_1639))), (mp, .inr (4, [.int mm, .ref ep, .int 20])), (mq, .inr (4, [.int mx_1645, .ref qx_1646, .int 2])), (qx_1646, .inl (cy 2, 10, .inr (.inr (.inr (.inr g2_1647))))), (y_1648, .inr (16, fy_1650)), (rl_1649, .inr (4, [.int 0, .ref ed, .int 0])), (m0, .inr (20, [.int 0, .ref mp, .int 0, .ref b1, .ref b2, .ref b3, .ref b4, .ref b5, .ref mq]))] H := hP
    have hD : va_D A [(a1, .inl (cy 0, 20, .inl f1)), (a2, .inl (cy 0, 20, .inl f2)), (ro, .inl (cy 0, 20, .inl f0)), (ep, .inl (cy 2, 22, .inr (.inr (.inr (.inr gp))))), (y0, .inr (8, q0)), (r0, .inr (4, [.int 0, .ref ed, .int 0])), (z0, .inr (16, u0)), (v0, .inr (4, [.int 0, .ref ed, .int 0])), (h, .inr (13, [.ref pe, .ref ne, .ref pa, .ref ro, .int 0])), (pe, .inr (9, [.int 20, .ref a1, .ref a2, .ref a3, .ref a4, .ref a5, .ref a6, .ref a7, .ref a8, .ref a9])), (pa, .inr (4, [.int mx_1633, .ref qx_1634, .int 2])), (qx_1634, .inl (cy 2, 10, .inr (.inr (.inr (.inr g2_1635))))), (y_1636, .inr (8, fy_1638)), (rl_1637, .inr (4, [.int 0, .ref ed, .int 0])), (oa, .inl (cy 3, 1, .inr (.inl o2_1639))), (mp, .inr (4, [.int mm, .ref ep, .int 20])), (mq, .inr (4, [.int mx_1645, .ref qx_1646, .int 2])), (qx_1646, .inl (cy 2, 10, .inr (.inr (.inr (.inr g2_1647))))), (y_1648, .inr (16, fy_1650)), (rl_1649, .inr (4, [.int 0, .ref ed, .int 0])), (m0, .inr (20, [.int 0, .ref mp, .int 0, .ref b1, .ref b2, .ref b3, .ref b4, .ref b5, .ref mq]))] := hD
    refine W.widen (k := 151) (n := 2467) (Nat.le_of_ble_eq_true rfl) (Nat.le_of_ble_eq_true rfl) ?_
    refine lv_iload hx hb dL_law_850 (lv_at hl 1 rfl) ?_
    refine lv_icmp_eq (tgt := 857) hx hb dL_law_852 (by decide) (fun _ => ?_) (fun c_1655 => absurd (by decide) c_1655)
    refine lv_iload hx hb dL_law_857 (lv_at hl 1 rfl) ?_
    refine lv_if_ne (tgt := 874) hx hb dL_law_859 (by decide) (fun c_1656 => absurd c_1656 (by decide)) (fun _ => ?_)
    refine lv_aload_n hx hb dL_law_862 rfl (lv_at hl 3 rfl) ?_
    refine lv_iconst (v := 0) hx hb dL_law_863 (by decide) ?_
    refine va_lald hx hb hK hP 14 3 rfl rfl (zx_bn (by decide)) dL_law_864 ?_
    refine lv_iload hx hb dL_law_865 (lv_at hl 0 rfl) ?_
    refine lv_i2l (v := 1) hx hb dL_law_867 rfl ?_
    refine W.lcmp hx hb dL_law_868 ?_
    refine lv_topi (fun y9 ey9 => ?_)
    obtain rfl : y9 = 0 := ey9.trans (zx_lcmpe hs_1641)
    refine lv_if_eq (tgt := 874) hx hb dL_law_869 (by decide) (fun _ => ?_) (fun c_1657 => absurd (by decide) c_1657)
    refine lv_goto (tgt := 4257) hx hb dL_law_874 (by decide) ?_
    refine lv_iinc (v := 132) (lv' := [(5, .int 132), (7, .int 1), (6, .int 0), (3, .ref oa), (2, .ref m0), (1, .ref h), (0, .ref b)]) hx hb dL_law_4257 hl (k := 2) rfl (by decide) (by decide) rfl (fun ls hl => ?_)
    refine lv_goto (tgt := 28) hx hb dL_law_4260 (by decide) ?_
    have hP := hP.sub (ws' := [(h, .inr (13, [.ref pe, .ref ne, .ref pa, .ref ro, .int 0])), (pe, .inr (9, [.int 20, .ref a1, .ref a2, .ref a3, .ref a4, .ref a5, .ref a6, .ref a7, .ref a8, .ref a9])), (a1, .inl (cy 0, 20, .inl f1)), (a2, .inl (cy 0, 20, .inl f2)), (ro, .inl (cy 0, 20, .inl f0)), (pa, .inr (4, [.int mx_1633, .ref qx_1634, .int 2])), (qx_1634, .inl (cy 2, 10, .inr (.inr (.inr (.inr g2_1635))))), (m0, .inr (20, [.int 0, .ref mp, .int 0, .ref b1, .ref b2, .ref b3, .ref b4, .ref b5, .ref mq])), (mp, .inr (4, [.int mm, .ref ep, .int 20])), (ep, .inl (cy 2, 22, .inr (.inr (.inr (.inr gp))))), (mq, .inr (4, [.int mx_1645, .ref qx_1646, .int 2])), (qx_1646, .inl (cy 2, 10, .inr (.inr (.inr (.inr g2_1647))))), (oa, .inl (cy 3, 1, .inr (.inl o2_1639))), (y0, .inr (8, q0)), (r0, .inr (4, [.int 0, .ref ed, .int 0])), (y_1636, .inr (8, fy_1638)), (rl_1637, .inr (4, [.int 0, .ref ed, .int 0])), (z0, .inr (16, u0)), (v0, .inr (4, [.int 0, .ref ed, .int 0])), (y_1648, .inr (16, fy_1650)), (rl_1649, .inr (4, [.int 0, .ref ed, .int 0]))]) [8, 9, 0, 1, 2, 10, 11, 20, 15, 3, 16, 17, 14, 4, 5, 12, 13, 6, 7, 18, 19] rfl
    have hD := hD.sub (ws' := [(h, .inr (13, [.ref pe, .ref ne, .ref pa, .ref ro, .int 0])), (pe, .inr (9, [.int 20, .ref a1, .ref a2, .ref a3, .ref a4, .ref a5, .ref a6, .ref a7, .ref a8, .ref a9])), (a1, .inl (cy 0, 20, .inl f1)), (a2, .inl (cy 0, 20, .inl f2)), (ro, .inl (cy 0, 20, .inl f0)), (pa, .inr (4, [.int mx_1633, .ref qx_1634, .int 2])), (qx_1634, .inl (cy 2, 10, .inr (.inr (.inr (.inr g2_1635))))), (m0, .inr (20, [.int 0, .ref mp, .int 0, .ref b1, .ref b2, .ref b3, .ref b4, .ref b5, .ref mq])), (mp, .inr (4, [.int mm, .ref ep, .int 20])), (ep, .inl (cy 2, 22, .inr (.inr (.inr (.inr gp))))), (mq, .inr (4, [.int mx_1645, .ref qx_1646, .int 2])), (qx_1646, .inl (cy 2, 10, .inr (.inr (.inr (.inr g2_1647))))), (oa, .inl (cy 3, 1, .inr (.inl o2_1639))), (y0, .inr (8, q0)), (r0, .inr (4, [.int 0, .ref ed, .int 0])), (y_1636, .inr (8, fy_1638)), (rl_1637, .inr (4, [.int 0, .ref ed, .int 0])), (z0, .inr (16, u0)), (v0, .inr (4, [.int 0, .ref ed, .int 0])), (y_1648, .inr (16, fy_1650)), (rl_1649, .inr (4, [.int 0, .ref ed, .int 0]))]) [8, 9, 0, 1, 2, 10, 11, 20, 15, 3, 16, 17, 14, 4, 5, 12, 13, 6, 7, 18, 19] (by decide) rfl
    exact hnext _ _ _ ⟨pe, ne, pa, ro, a1, a2, a3, a4, a5, a6, a7, a8, a9, mp, mq, b1, b2, b3, b4, b5, ep, qx_1634, qx_1646, mx_1633, mm, mx_1645, f1, f2, f0, o2_1639, gp, g2_1635, g2_1647, y0, y_1636, r0, rl_1637, q0, fy_1638, z0, y_1648, v0, rl_1649, u0, fy_1650, hP, hD, ((hs_1644 0 (by decide)).trans hxe0), hs_1643, hxq0, hs_1642, ((hs_1654 0 (by decide)).trans hme0), hs_1653, hmq0, hs_1652⟩ hS (lv_sub hl [0, 3, 4, 5, 6] rfl)
set_option maxHeartbeats 4000000 in
set_option maxRecDepth 100000 in
theorem law_step_22 {p : Program} {l : Launch} {e : Env} {s : State} {m : MethodId} {below : List Frame} {meth : Method} {c : Code} {D : va_G} {cy : Nat → ClassId} {ed b : Nat} {A : Nat → Prop} {Q : State → Prop} (C0 : zx_LW p l s m c D cy ed b A) {h m0 oa : Nat} {H : Heap} {locs : List Loc} {ls : Array Slot} (h0 : zx_S22 D cy ed A h m0 oa H) (hS : va_S A s.heap H locs) (hl : lv_has ls 9 [(5, .int 132), (3, .ref oa), (2, .ref m0), (1, .ref h), (0, .ref b)])
    (hnext : ∀ (H : Heap) (locs : List Loc) (ls : Array Slot), zx_S23 D cy ed A h m0 oa H → va_S A s.heap H locs → lv_has ls 9 [(5, .int 138), (3, .ref oa), (2, .ref m0), (1, .ref h), (0, .ref b)] → W p l e zx_R s m #[Value.ref b] below meth c H locs 174 2727 Q (F0 m 28 ls [])) :
    W p l e zx_R s m #[Value.ref b] below meth c H locs 151 2467 Q (F0 m 28 ls []) := by
  obtain ⟨hx, hb, hml, hst, hown, hts, hX, hbl, hbA, hA, hK, hZ, hN⟩ := C0
  obtain ⟨pe, ne, pa, ro, a1, a2, a3, a4, a5, a6, a7, a8, a9, mp, mq, b1, b2, b3, b4, b5, ep, el, eq, mc, mm, mn, f1, f2, f0, og, gp, g, gq, y0, y1, r0, r1, q0, q1, z0, z1, v0, v1, u0, u1, hP, hD, hxe0, hxe1, hxq0, hxq1, hme0, hme1, hmq0, hmq1⟩ := h0
  refine lv_iload hx hb dL_law_28 (lv_at hl 0 rfl) ?_
  refine lv_aload_n hx hb dL_law_30 rfl (lv_at hl 4 rfl) ?_
  refine va_slen hx hb hX hbl hbA hS dL_law_31 ?_
  refine lv_topi (fun y9 ey9 => ?_)
  obtain rfl : y9 = 3072 := ey9.trans (by decide)
  refine lv_bipush (v := 6) hx hb dL_law_32 (by decide) ?_
  refine lv_isub hx hb dL_law_34 ?_
  refine lv_topi (fun y9 ey9 => ?_)
  obtain rfl : y9 = 3066 := by rw [ey9] <;> decide
  refine lv_icmp_gt (tgt := 4263) hx hb dL_law_35 (by decide) (fun c_1658 => absurd c_1658 (by decide)) (fun _ => ?_)
  refine lv_aload_n hx hb dL_law_38 rfl (lv_at hl 4 rfl) ?_
  refine lv_iload hx hb dL_law_39 (lv_at hl 0 rfl) ?_
  refine va_sld hx hb hX hbl hbA hS (zx_bn (by decide)) dL_law_41 ?_
  refine lv_topi (fun y9 ey9 => ?_)
  obtain rfl : y9 = 7 := ey9.trans (by decide)
  refine lv_bipush (v := 63) hx hb dL_law_42 (by decide) ?_
  refine lv_iand hx hb dL_law_44 ?_
  refine lv_topi (fun y9 ey9 => ?_)
  obtain rfl : y9 = 7 := by rw [ey9] <;> decide
  refine lv_tableIn (off := 752) (tgt := 797) hx hb dL_law_45 (by decide) (by decide) (by decide) (by decide) ?_
  refine lv_aload_n hx hb dL_law_797 rfl (lv_at hl 3 rfl) ?_
  refine lv_aload_n hx hb dL_law_798 rfl (lv_at hl 4 rfl) ?_
  refine lv_iload hx hb dL_law_799 (lv_at hl 0 rfl) ?_
  refine lv_iconst (v := 1) hx hb dL_law_801 (by decide) ?_
  refine lv_iadd hx hb dL_law_802 ?_
  refine lv_topi (fun y9 ey9 => ?_)
  obtain rfl : y9 = 133 := by rw [ey9] <;> decide
  refine va_sld hx hb hX hbl hbA hS (zx_bn (by decide)) dL_law_803 ?_
  refine lv_topi (fun y9 ey9 => ?_)
  obtain rfl : y9 = 0 := ey9.trans (by decide)
  refine lv_aload_n hx hb dL_law_804 rfl (lv_at hl 4 rfl) ?_
  refine lv_iload hx hb dL_law_805 (lv_at hl 0 rfl) ?_
  refine lv_iconst (v := 2) hx hb dL_law_807 (by decide) ?_
  refine lv_iadd hx hb dL_law_808 ?_
  refine lv_topi (fun y9 ey9 => ?_)
  obtain rfl : y9 = 134 := by rw [ey9] <;> decide
  refine va_sld hx hb hX hbl hbA hS (zx_bn (by decide)) dL_law_809 ?_
  refine lv_topi (fun y9 ey9 => ?_)
  obtain rfl : y9 = 0 := ey9.trans (by decide)
  refine lv_aload_n hx hb dL_law_810 rfl (lv_at hl 4 rfl) ?_
  refine lv_iload hx hb dL_law_811 (lv_at hl 0 rfl) ?_
  refine lv_iconst (v := 3) hx hb dL_law_813 (by decide) ?_
  refine lv_iadd hx hb dL_law_814 ?_
  refine lv_topi (fun y9 ey9 => ?_)
  obtain rfl : y9 = 135 := by rw [ey9] <;> decide
  refine va_sld hx hb hX hbl hbA hS (zx_bn (by decide)) dL_law_815 ?_
  refine lv_topi (fun y9 ey9 => ?_)
  obtain rfl : y9 = 0 := ey9.trans (by decide)
  refine lv_aload_n hx hb dL_law_816 rfl (lv_at hl 1 rfl) ?_
  have hPc := hP.sub (ws' := [(h, .inr (13, [.ref pe, .ref ne, .ref pa, .ref ro, .int 0])), (pe, .inr (9, [.int 20, .ref a1, .ref a2, .ref a3, .ref a4, .ref a5, .ref a6, .ref a7, .ref a8, .ref a9])), (pa, .inr (4, [.int mc, .ref el, .int 2])), (el, .inl (cy 2, 10, .inr (.inr (.inr (.inr g))))), (oa, .inl (cy 3, 1, .inr (.inl og)))]) [0, 1, 5, 6, 12] rfl
  have hDc := hD.sub (ws' := [(h, .inr (13, [.ref pe, .ref ne, .ref pa, .ref ro, .int 0])), (pe, .inr (9, [.int 20, .ref a1, .ref a2, .ref a3, .ref a4, .ref a5, .ref a6, .ref a7, .ref a8, .ref a9])), (pa, .inr (4, [.int mc, .ref el, .int 2])), (el, .inl (cy 2, 10, .inr (.inr (.inr (.inr g))))), (oa, .inl (cy 3, 1, .inr (.inl og)))]) [0, 1, 5, 6, 12] (by decide) rfl
  have hFc := va_free (wc := [(h, .inr (13, [.ref pe, .ref ne, .ref pa, .ref ro, .int 0])), (pe, .inr (9, [.int 20, .ref a1, .ref a2, .ref a3, .ref a4, .ref a5, .ref a6, .ref a7, .ref a8, .ref a9])), (pa, .inr (4, [.int mc, .ref el, .int 2])), (el, .inl (cy 2, 10, .inr (.inr (.inr (.inr g))))), (oa, .inl (cy 3, 1, .inr (.inl og)))]) hD hS hA [0, 1, 5, 6, 12] rfl
  refine vx_calli (vx_runSX (As := [.ref h, .int 0, .int 0, .int 0, .ref oa]) (rest := []) ⟨hx, hb, hml, hown, hts⟩ (c_L_begin_2 l hst D cy ed H.size h pe ne pa ro 0 a1 a2 a3 a4 a5 a6 a7 a8 a9 mc el g oa og) (vx_cwSW 5 hts (zx_GS mm_565 mm_566 mm_70 mm_567) rfl rfl rfl (by decide +kernel) ⟨(Nat.le_of_ble_eq_true rfl), (Nat.le_of_ble_eq_true rfl)⟩) ⟨zx_blind, zx_give hPc hK hDc hS hFc hZ hN⟩ rfl rfl hl.1 rfl (lv_room (Nat.le_of_ble_eq_true rfl)) dL_law_817 ⟨(Nat.le_of_ble_eq_true rfl), (Nat.le_of_ble_eq_true rfl)⟩) hS (fun q _ h => hFc q h) hFc (fun q _ h => hFc q h) (fun E9 ce9 q9 _ t H locs ht hvm _ hBX hz1 hk1 hS hce hcv hcl => ?_) (fun r9 u t H locs ht hvm hw hB hz1 hk1 hS => ?_)
  · exact hBX.elim
  ·
    obtain ⟨mx_1659, qx_1660, g2_1661, y_1662, rl_1663, fy_1664, o2_1665⟩ := u
    obtain ⟨rfl, h_1666⟩ := hw
    obtain ⟨hP, hD⟩ := zx_join (wr := [(a1, .inl (cy 0, 20, .inl f1)), (a2, .inl (cy 0, 20, .inl f2)), (ro, .inl (cy 0, 20, .inl f0)), (m0, .inr (20, [.int 0, .ref mp, .int 0, .ref b1, .ref b2, .ref b3, .ref b4, .ref b5, .ref mq])), (mp, .inr (4, [.int mm, .ref ep, .int 20])), (ep, .inl (cy 2, 22, .inr (.inr (.inr (.inr gp))))), (mq, .inr (4, [.int mn, .ref eq, .int 2])), (eq, .inl (cy 2, 10, .inr (.inr (.inr (.inr gq))))), (y0, .inr (8, q0)), (r0, .inr (4, [.int 0, .ref ed, .int 0])), (y1, .inr (8, q1)), (r1, .inr (4, [.int 0, .ref ed, .int 0])), (z0, .inr (16, u0)), (v0, .inr (4, [.int 0, .ref ed, .int 0])), (z1, .inr (16, u1)), (v1, .inr (4, [.int 0, .ref ed, .int 0]))]) (w1 := [(h, .inr (13, [.ref pe, .ref ne, .ref pa, .ref ro, .int 0])), (pe, .inr (9, [.int 20, .ref a1, .ref a2, .ref a3, .ref a4, .ref a5, .ref a6, .ref a7, .ref a8, .ref a9])), (pa, .inr (4, [.int mx_1659, .ref qx_1660, .int 3])), (qx_1660, .inl (cy 2, 10, .inr (.inr (.inr (.inr g2_1661))))), (y_1662, .inr (8, fy_1664)), (rl_1663, .inr (4, [.int 0, .ref ed, .int 0])), (oa, .inl (cy 3, 1, .inr (.inl o2_1665)))]) [0, 1, 5, 6, 12] [2, 3, 4, 7, 8, 9, 10, 11, 13, 14, 15, 16, 17, 18, 19, 20] rfl rfl (by decide) (by decide) hP hD hk1 hFc hB ht
    have hP : va_P D vwCl [(a1, .inl (cy 0, 20, .inl f1)), (a2, .inl (cy 0, 20, .inl f2)), (ro, .inl (cy 0, 20, .inl f0)), (m0, .inr (20, [.int 0, .ref mp, .int 0, .ref b1, .ref b2, .ref b3, .ref b4, .ref b5, .ref mq])), (mp, .inr (4, [.int mm, .ref ep, .int 20])), (ep, .inl (cy 2, 22, .inr (.inr (.inr (.inr gp))))), (mq, .inr (4, [.int mn, .ref eq, .int 2])), (eq, .inl (cy 2, 10, .inr (.inr (.inr (.inr gq))))), (y0, .inr (8, q0)), (r0, .inr (4, [.int 0, .ref ed, .int 0])), (y1, .inr (8, q1)), (r1, .inr (4, [.int 0, .ref ed, .int 0])), (z0, .inr (16, u0)), (v0, .inr (4, [.int 0, .ref ed, .int 0])), (z1, .inr (16, u1)), (v1, .inr (4, [.int 0, .ref ed, .int 0])), (h, .inr (13, [.ref pe, .ref ne, .ref pa, .ref ro, .int 0])), (pe, .inr (9, [.int 20, .ref a1, .ref a2, .ref a3, .ref a4, .ref a5, .ref a6, .ref a7, .ref a8, .ref a9])), (pa, .inr (4, [.int mx_1659, .ref qx_1660, .int 3])), (qx_1660, .inl (cy 2, 10, .inr (.inr (.inr (.inr g2_1661))))), (y_1662, .inr (8, fy_1664)), (rl_1663, .inr (4, [.int 0, .ref ed, .int 0])), (oa, .inl (cy 3, 1, .inr (.inl o2_1665)))] H := hP
    have hD : va_D A [(a1, .inl (cy 0, 20, .inl f1)), (a2, .inl (cy 0, 20, .inl f2)), (ro, .inl (cy 0, 20, .inl f0)), (m0, .inr (20, [.int 0, .ref mp, .int 0, .ref b1, .ref b2, .ref b3, .ref b4, .ref b5, .ref mq])), (mp, .inr (4, [.int mm, .ref ep, .int 20])), (ep, .inl (cy 2, 22, .inr (.inr (.inr (.inr gp))))), (mq, .inr (4, [.int mn, .ref eq, .int 2])), (eq, .inl (cy 2, 10, .inr (.inr (.inr (.inr gq))))), (y0, .inr (8, q0)), (r0, .inr (4, [.int 0, .ref ed, .int 0])), (y1, .inr (8, q1)), (r1, .inr (4, [.int 0, .ref ed, .int 0])), (z0, .inr (16, u0)), (v0, .inr (4, [.int 0, .ref ed, .int 0])), (z1, .inr (16, u1)), (v1, .inr (4, [.int 0, .ref ed, .int 0])), (h, .inr (13, [.ref pe, .ref ne, .ref pa, .ref ro, .int 0])), (pe, .inr (9, [.int 20, .ref a1, .ref a2, .ref a3, .ref a4, .ref a5, .ref a6, .ref a7, .ref a8, .ref a9])), (pa, .inr (4, [.int mx_1659, .ref qx_1660, .int 3])), (qx_1660, .inl (cy 2, 10, .inr (.inr (.inr (.inr g2_1661))))), (y_1662, .inr (8, fy_1664)), (rl_1663, .inr (4, [.int 0, .ref ed, .int 0])), (oa, .inl (cy 3, 1, .inr (.inl o2_1665)))] := hD
    refine W.widen (k := 165) (n := 2637) (Nat.le_of_ble_eq_true rfl) (Nat.le_of_ble_eq_true rfl) ?_
    obtain ⟨hs_1667, hs_1668, hs_1669, hs_1670⟩ := h_1666
    refine lv_istore (lv' := [(6, .int 0), (5, .int 132), (3, .ref oa), (2, .ref m0), (1, .ref h), (0, .ref b)]) hx hb dL_law_820 hl (by decide) rfl (fun ls hl => ?_)
    refine lv_aload_n hx hb dL_law_822 rfl (lv_at hl 3 rfl) ?_
    refine lv_aload_n hx hb dL_law_823 rfl (lv_at hl 5 rfl) ?_
    refine lv_iload hx hb dL_law_824 (lv_at hl 1 rfl) ?_
    refine lv_iconst (v := 1) hx hb dL_law_826 (by decide) ?_
    refine lv_iadd hx hb dL_law_827 ?_
    refine lv_topi (fun y9 ey9 => ?_)
    obtain rfl : y9 = 133 := by rw [ey9] <;> decide
    refine va_sld hx hb hX hbl hbA hS (zx_bn (by decide)) dL_law_828 ?_
    refine lv_topi (fun y9 ey9 => ?_)
    obtain rfl : y9 = 0 := ey9.trans (by decide)
    refine lv_aload_n hx hb dL_law_829 rfl (lv_at hl 5 rfl) ?_
    refine lv_iload hx hb dL_law_830 (lv_at hl 1 rfl) ?_
    refine lv_iconst (v := 2) hx hb dL_law_832 (by decide) ?_
    refine lv_iadd hx hb dL_law_833 ?_
    refine lv_topi (fun y9 ey9 => ?_)
    obtain rfl : y9 = 134 := by rw [ey9] <;> decide
    refine va_sld hx hb hX hbl hbA hS (zx_bn (by decide)) dL_law_834 ?_
    refine lv_topi (fun y9 ey9 => ?_)
    obtain rfl : y9 = 0 := ey9.trans (by decide)
    refine lv_aload_n hx hb dL_law_835 rfl (lv_at hl 5 rfl) ?_
    refine lv_iload hx hb dL_law_836 (lv_at hl 1 rfl) ?_
    refine lv_iconst (v := 3) hx hb dL_law_838 (by decide) ?_
    refine lv_iadd hx hb dL_law_839 ?_
    refine lv_topi (fun y9 ey9 => ?_)
    obtain rfl : y9 = 135 := by rw [ey9] <;> decide
    refine va_sld hx hb hX hbl hbA hS (zx_bn (by decide)) dL_law_840 ?_
    refine lv_topi (fun y9 ey9 => ?_)
    obtain rfl : y9 = 0 := ey9.trans (by decide)
    have hPc := hP.sub (ws' := [(m0, .inr (20, [.int 0, .ref mp, .int 0, .ref b1, .ref b2, .ref b3, .ref b4, .ref b5, .ref mq])), (mp, .inr (4, [.int mm, .ref ep, .int 20])), (mq, .inr (4, [.int mn, .ref eq, .int 2])), (eq, .inl (cy 2, 10, .inr (.inr (.inr (.inr gq)))))]) [3, 4, 6, 7] rfl
    have hDc := hD.sub (ws' := [(m0, .inr (20, [.int 0, .ref mp, .int 0, .ref b1, .ref b2, .ref b3, .ref b4, .ref b5, .ref mq])), (mp, .inr (4, [.int mm, .ref ep, .int 20])), (mq, .inr (4, [.int mn, .ref eq, .int 2])), (eq, .inl (cy 2, 10, .inr (.inr (.inr (.inr gq)))))]) [3, 4, 6, 7] (by decide) rfl
    have hFc := va_free (wc := [(m0, .inr (20, [.int 0, .ref mp, .int 0, .ref b1, .ref b2, .ref b3, .ref b4, .ref b5, .ref mq])), (mp, .inr (4, [.int mm, .ref ep, .int 20])), (mq, .inr (4, [.int mn, .ref eq, .int 2])), (eq, .inl (cy 2, 10, .inr (.inr (.inr (.inr gq)))))]) hD hS hA [3, 4, 6, 7] rfl
    refine va_calli (va_runV (As := [.int 0, .int 0, .int 0]) (rest := []) ⟨hx, hb, hml, hown, hts⟩ (c_X15_begin_2 l hst D cy ed H.size m0 mp mq b1 b2 b3 b4 b5 0 0 mm ep mn eq gq) (cwV 3 hts (zx_GV mm_1783 mm_1784 mm_1785 mm_78 mm_1786) rfl rfl rfl (by decide +kernel) ⟨(Nat.le_of_ble_eq_true rfl), (Nat.le_of_ble_eq_true rfl)⟩) ⟨zx_blind, va_recv hK hPc (ci := 20) (q0 := 0) rfl rfl, zx_give hPc hK hDc hS hFc hZ hN⟩ rfl rfl hl.1 rfl (lv_room (Nat.le_of_ble_eq_true rfl)) dL_law_841 ⟨(Nat.le_of_ble_eq_true rfl), (Nat.le_of_ble_eq_true rfl)⟩) hS (fun q _ h => hFc q h) hFc (fun r9 u t H1 locs ht hvm hw hB hz1 hk1 hS => ?_)
    obtain ⟨mx_1671, qx_1672, g2_1673, y_1674, rl_1675, fy_1676⟩ := u
    obtain ⟨rfl, h_1677⟩ := hw
    obtain ⟨hP, hD⟩ := zx_join (wr := [(a1, .inl (cy 0, 20, .inl f1)), (a2, .inl (cy 0, 20, .inl f2)), (ro, .inl (cy 0, 20, .inl f0)), (ep, .inl (cy 2, 22, .inr (.inr (.inr (.inr gp))))), (y0, .inr (8, q0)), (r0, .inr (4, [.int 0, .ref ed, .int 0])), (y1, .inr (8, q1)), (r1, .inr (4, [.int 0, .ref ed, .int 0])), (z0, .inr (16, u0)), (v0, .inr (4, [.int 0, .ref ed, .int 0])), (z1, .inr (16, u1)), (v1, .inr (4, [.int 0, .ref ed, .int 0])), (h, .inr (13, [.ref pe, .ref ne, .ref pa, .ref ro, .int 0])), (pe, .inr (9, [.int 20, .ref a1, .ref a2, .ref a3, .ref a4, .ref a5, .ref a6, .ref a7, .ref a8, .ref a9])), (pa, .inr (4, [.int mx_1659, .ref qx_1660, .int 3])), (qx_1660, .inl (cy 2, 10, .inr (.inr (.inr (.inr g2_1661))))), (y_1662, .inr (8, fy_1664)), (rl_1663, .inr (4, [.int 0, .ref ed, .int 0])), (oa, .inl (cy 3, 1, .inr (.inl o2_1665)))]) (w1 := [(m0, .inr (20, [.int 0, .ref mp, .int 0, .ref b1, .ref b2, .ref b3, .ref b4, .ref b5, .ref mq])), (mp, .inr (4, [.int mm, .ref ep, .int 20])), (mq, .inr (4, [.int mx_1671, .ref qx_1672, .int 3])), (qx_1672, .inl (cy 2, 10, .inr (.inr (.inr (.inr g2_1673))))), (y_1674, .inr (16, fy_1676)), (rl_1675, .inr (4, [.int 0, .ref ed, .int 0]))]) [3, 4, 6, 7] [0, 1, 2, 5, 8, 9, 10, 11, 12, 13, 14, 15, 16, 17, 18, 19, 20, 21, 22] rfl rfl (by decide) (by decide) hP hD hk1 hFc hB ht
    generalize H1 = H at hP hS ⊢
    have hP : va_P D vwCl [(a1, .inl (cy 0, 20, .inl f1)), (a2, .inl (cy 0, 20, .inl f2)), (ro, .inl (cy 0, 20, .inl f0)), (ep, .inl (cy 2, 22, .inr (.inr (.inr (.inr gp))))), (y0, .inr (8, q0)), (r0, .inr (4, [.int 0, .ref ed, .int 0])), (y1, .inr (8, q1)), (r1, .inr (4, [.int 0, .ref ed, .int 0])), (z0, .inr (16, u0)), (v0, .inr (4, [.int 0, .ref ed, .int 0])), (z1, .inr (16, u1)), (v1, .inr (4, [.int 0, .ref ed, .int 0])), (h, .inr (13, [.ref pe, .ref ne, .ref pa, .ref ro, .int 0])), (pe, .inr (9, [.int 20, .ref a1, .ref a2, .ref a3, .ref a4, .ref a5, .ref a6, .ref a7, .ref a8, .ref a9])), (pa, .inr (4, [.int mx_1659, .ref qx_1660, .int 3])), (qx_1660, .inl (cy 2, 10, .inr (.inr (.inr (.inr g2_1661))))), (y_1662, .inr (8, fy_1664)), (rl_1663, .inr (4, [.int 0, .ref ed, .int 0])), (oa, .inl (cy 3, 1, .inr (.inl o2_1665))), (m0, .inr (20, [.int 0, .ref mp, .int 0, .ref b1, .ref b2, .ref b3, .ref b4, .ref b5, .ref mq])), (mp, .inr (4, [.int mm, .ref ep, .int 20])), (mq, .inr (4, [.int mx_1671, .ref qx_1672, .int 3])), (qx_1672, .inl (cy 2, 10, .inr (.inr (.inr (.inr g2_1673))))), (y_1674, .inr (16, fy_1676)), (rl_1675, .inr (4, [.int 0, .ref ed, .int 0]))] H := hP
    have hD : va_D A [(a1, .inl (cy 0, 20, .inl f1)), (a2, .inl (cy 0, 20, .inl f2)), (ro, .inl (cy 0, 20, .inl f0)), (ep, .inl (cy 2, 22, .inr (.inr (.inr (.inr gp))))), (y0, .inr (8, q0)), (r0, .inr (4, [.int 0, .ref ed, .int 0])), (y1, .inr (8, q1)), (r1, .inr (4, [.int 0, .ref ed, .int 0])), (z0, .inr (16, u0)), (v0, .inr (4, [.int 0, .ref ed, .int 0])), (z1, .inr (16, u1)), (v1, .inr (4, [.int 0, .ref ed, .int 0])), (h, .inr (13, [.ref pe, .ref ne, .ref pa, .ref ro, .int 0])), (pe, .inr (9, [.int 20, .ref a1, .ref a2, .ref a3, .ref a4, .ref a5, .ref a6, .ref a7, .ref a8, .ref a9])), (pa, .inr (4, [.int mx_1659, .ref qx_1660, .int 3])), (qx_1660, .inl (cy 2, 10, .inr (.inr (.inr (.inr g2_1661))))), (y_1662, .inr (8, fy_1664)), (rl_1663, .inr (4, [.int 0, .ref ed, .int 0])), (oa, .inl (cy 3, 1, .inr (.inl o2_1665))), (m0, .inr (20, [.int 0, .ref mp, .int 0, .ref b1, .ref b2, .ref b3, .ref b4, .ref b5, .ref mq])), (mp, .inr (4, [.int mm, .ref ep, .int 20])), (mq, .inr (4, [.int mx_1671, .ref qx_1672, .int 3])), (qx_1672, .inl (cy 2, 10, .inr (.inr (.inr (.inr g2_1673))))), (y_1674, .inr (16, fy_1676)), (rl_1675, .inr (4, [.int 0, .ref ed, .int 0]))] := hD
    refine W.widen (k := 174) (n := 2727) (Nat.le_of_ble_eq_true rfl) (Nat.le_of_ble_eq_true rfl) ?_
    obtain ⟨hs_1678, hs_1679, hs_1680⟩ := h_1677
    refine lv_istore (lv' := [(7, .int 2), (6, .int 0), (5, .int 132), (3, .ref oa), (2, .ref m0), (1, .ref h), (0, .ref b)]) hx hb dL_law_844 hl (by decide) rfl (fun ls hl => ?_)
    refine lv_aload_n hx hb dL_law_846 rfl (lv_at hl 4 rfl) ?_
    have hPc := hP.sub (ws' := [(m0, .inr (20, [.int 0, .ref mp, .int 0, .ref b1, .ref b2, .ref b3, .ref b4, .ref b5, .ref mq]))]) [19] rfl
    have hDc := hD.sub (ws' := [(m0, .inr (20, [.int 0, .ref mp, .int 0, .ref b1, .ref b2, .ref b3, .ref b4, .ref b5, .ref mq]))]) [19] (by decide) rfl
    have hFc := va_free (wc := [(m0, .inr (20, [.int 0, .ref mp, .int 0, .ref b1, .ref b2, .ref b3, .ref b4, .ref b5, .ref mq]))]) hD hS hA [19] rfl
    refine va_calli (va_runV (As := []) (rest := []) ⟨hx, hb, hml, hown, hts⟩ (c_X15_thrown l hst D cy ed H.size m0 mp mq b1 b2 b3 b4 b5 0 0) (cwV 0 hts (zx_GV mm_1599 mm_1600 mm_1601 mm_78 mm_1602) rfl rfl rfl (by decide +kernel) ⟨(Nat.le_of_ble_eq_true rfl), (Nat.le_of_ble_eq_true rfl)⟩) ⟨zx_blind, va_recv hK hPc (ci := 20) (q0 := 0) rfl rfl, zx_give hPc hK hDc hS hFc hZ hN⟩ rfl rfl hl.1 rfl (lv_room (Nat.le_of_ble_eq_true rfl)) dL_law_847 ⟨(Nat.le_of_ble_eq_true rfl), (Nat.le_of_ble_eq_true rfl)⟩) hS (fun q _ h => hFc q h) hFc (fun r9 u t H1 locs ht hvm hw hB hz1 hk1 hS => ?_)
    obtain rfl : r9 = 0 := hw
    obtain ⟨hP, hD⟩ := zx_join (wr := [(a1, .inl (cy 0, 20, .inl f1)), (a2, .inl (cy 0, 20, .inl f2)), (ro, .inl (cy 0, 20, .inl f0)), (ep, .inl (cy 2, 22, .inr (.inr (.inr (.inr gp))))), (y0, .inr (8, q0)), (r0, .inr (4, [.int 0, .ref ed, .int 0])), (y1, .inr (8, q1)), (r1, .inr (4, [.int 0, .ref ed, .int 0])), (z0, .inr (16, u0)), (v0, .inr (4, [.int 0, .ref ed, .int 0])), (z1, .inr (16, u1)), (v1, .inr (4, [.int 0, .ref ed, .int 0])), (h, .inr (13, [.ref pe, .ref ne, .ref pa, .ref ro, .int 0])), (pe, .inr (9, [.int 20, .ref a1, .ref a2, .ref a3, .ref a4, .ref a5, .ref a6, .ref a7, .ref a8, .ref a9])), (pa, .inr (4, [.int mx_1659, .ref qx_1660, .int 3])), (qx_1660, .inl (cy 2, 10, .inr (.inr (.inr (.inr g2_1661))))), (y_1662, .inr (8, fy_1664)), (rl_1663, .inr (4, [.int 0, .ref ed, .int 0])), (oa, .inl (cy 3, 1, .inr (.inl o2_1665))), (mp, .inr (4, [.int mm, .ref ep, .int 20])), (mq, .inr (4, [.int mx_1671, .ref qx_1672, .int 3])), (qx_1672, .inl (cy 2, 10, .inr (.inr (.inr (.inr g2_1673))))), (y_1674, .inr (16, fy_1676)), (rl_1675, .inr (4, [.int 0, .ref ed, .int 0]))]) (w1 := [(m0, .inr (20, [.int 0, .ref mp, .int 0, .ref b1, .ref b2, .ref b3, .ref b4, .ref b5, .ref mq]))]) [19] [0, 1, 2, 3, 4, 5, 6, 7, 8, 9, 10, 11, 12, 13, 14, 15, 16, 17, 18, 20, 21, 22, 23, 24] rfl rfl (by decide) (by decide) hP hD hk1 hFc hB ht
    generalize H1 = H at hP hS ⊢
    have hP : va_P D vwCl [(a1, .inl (cy 0, 20, .inl f1)), (a2, .inl (cy 0, 20, .inl f2)), (ro, .inl (cy 0, 20, .inl f0)), (ep, .inl (cy 2, 22, .inr (.inr (.inr (.inr gp))))), (y0, .inr (8, q0)), (r0, .inr (4, [.int 0, .ref ed, .int 0])), (y1, .inr (8, q1)), (r1, .inr (4, [.int 0, .ref ed, .int 0])), (z0, .inr (16, u0)), (v0, .inr (4, [.int 0, .ref ed, .int 0])), (z1, .inr (16, u1)), (v1, .inr (4, [.int 0, .ref ed, .int 0])), (h, .inr (13, [.ref pe, .ref ne, .ref pa, .ref ro, .int 0])), (pe, .inr (9, [.int 20, .ref a1, .ref a2, .ref a3, .ref a4, .ref a5, .ref a6, .ref a7, .ref a8, .ref a9])), (pa, .inr (4, [.int mx_1659, .ref qx_1660, .int 3])), (qx_1660, .inl (cy 2, 10, .inr (.inr (.inr (.inr g2_1661))))), (y_1662, .inr (8, fy_1664)), (rl_1663, .inr (4, [.int 0, .ref ed, .int 0])), (oa, .inl (cy 3, 1, .inr (.inl o2_1665))), (mp, .inr (4, [.int mm, .ref ep, .int 20])), (mq, .inr (4, [.int mx_1671, .ref qx_1672, .int 3])), (qx_1672, .inl (cy 2, 10, .inr (.inr (.inr (.inr g2_1673))))), (y_1674, .inr (16, fy_1676)), (rl_1675, .inr (4, [.int 0, .ref ed, .int 0])), (m0, .inr (20, [.int 0, .ref mp, .int 0, .ref b1, .ref b2, .ref b3, .ref b4, .ref b5, .ref mq]))] H := hP
    have hD : va_D A [(a1, .inl (cy 0, 20, .inl f1)), (a2, .inl (cy 0, 20, .inl f2)), (ro, .inl (cy 0, 20, .inl f0)), (ep, .inl (cy 2, 22, .inr (.inr (.inr (.inr gp))))), (y0, .inr (8, q0)), (r0, .inr (4, [.int 0, .ref ed, .int 0])), (y1, .inr (8, q1)), (r1, .inr (4, [.int 0, .ref ed, .int 0])), (z0, .inr (16, u0)), (v0, .inr (4, [.int 0, .ref ed, .int 0])), (z1, .inr (16, u1)), (v1, .inr (4, [.int 0, .ref ed, .int 0])), (h, .inr (13, [.ref pe, .ref ne, .ref pa, .ref ro, .int 0])), (pe, .inr (9, [.int 20, .ref a1, .ref a2, .ref a3, .ref a4, .ref a5, .ref a6, .ref a7, .ref a8, .ref a9])), (pa, .inr (4, [.int mx_1659, .ref qx_1660, .int 3])), (qx_1660, .inl (cy 2, 10, .inr (.inr (.inr (.inr g2_1661))))), (y_1662, .inr (8, fy_1664)), (rl_1663, .inr (4, [.int 0, .ref ed, .int 0])), (oa, .inl (cy 3, 1, .inr (.inl o2_1665))), (mp, .inr (4, [.int mm, .ref ep, .int 20])), (mq, .inr (4, [.int mx_1671, .ref qx_1672, .int 3])), (qx_1672, .inl (cy 2, 10, .inr (.inr (.inr (.inr g2_1673))))), (y_1674, .inr (16, fy_1676)), (rl_1675, .inr (4, [.int 0, .ref ed, .int 0])), (m0, .inr (20, [.int 0, .ref mp, .int 0, .ref b1, .ref b2, .ref b3, .ref b4, .ref b5, .ref mq]))] := hD
    refine W.widen (k := 174) (n := 2727) (Nat.le_of_ble_eq_true rfl) (Nat.le_of_ble_eq_true rfl) ?_
    refine lv_iload hx hb dL_law_850 (lv_at hl 1 rfl) ?_
    refine lv_icmp_eq (tgt := 857) hx hb dL_law_852 (by decide) (fun _ => ?_) (fun c_1681 => absurd (by decide) c_1681)
    refine lv_iload hx hb dL_law_857 (lv_at hl 1 rfl) ?_
    refine lv_if_ne (tgt := 874) hx hb dL_law_859 (by decide) (fun c_1682 => absurd c_1682 (by decide)) (fun _ => ?_)
    refine lv_aload_n hx hb dL_law_862 rfl (lv_at hl 3 rfl) ?_
    refine lv_iconst (v := 0) hx hb dL_law_863 (by decide) ?_
    refine va_lald hx hb hK hP 18 3 rfl rfl (zx_bn (by decide)) dL_law_864 ?_
    refine lv_iload hx hb dL_law_865 (lv_at hl 0 rfl) ?_
    refine lv_i2l (v := 2) hx hb dL_law_867 rfl ?_
    refine W.lcmp hx hb dL_law_868 ?_
    refine lv_topi (fun y9 ey9 => ?_)
    obtain rfl : y9 = 0 := ey9.trans (zx_lcmpe hs_1667)
    refine lv_if_eq (tgt := 874) hx hb dL_law_869 (by decide) (fun _ => ?_) (fun c_1683 => absurd (by decide) c_1683)
    refine lv_goto (tgt := 4257) hx hb dL_law_874 (by decide) ?_
    refine lv_iinc (v := 138) (lv' := [(5, .int 138), (7, .int 2), (6, .int 0), (3, .ref oa), (2, .ref m0), (1, .ref h), (0, .ref b)]) hx hb dL_law_4257 hl (k := 2) rfl (by decide) (by decide) rfl (fun ls hl => ?_)
    refine lv_goto (tgt := 28) hx hb dL_law_4260 (by decide) ?_
    have hP := hP.sub (ws' := [(h, .inr (13, [.ref pe, .ref ne, .ref pa, .ref ro, .int 0])), (pe, .inr (9, [.int 20, .ref a1, .ref a2, .ref a3, .ref a4, .ref a5, .ref a6, .ref a7, .ref a8, .ref a9])), (a1, .inl (cy 0, 20, .inl f1)), (a2, .inl (cy 0, 20, .inl f2)), (ro, .inl (cy 0, 20, .inl f0)), (pa, .inr (4, [.int mx_1659, .ref qx_1660, .int 3])), (qx_1660, .inl (cy 2, 10, .inr (.inr (.inr (.inr g2_1661))))), (m0, .inr (20, [.int 0, .ref mp, .int 0, .ref b1, .ref b2, .ref b3, .ref b4, .ref b5, .ref mq])), (mp, .inr (4, [.int mm, .ref ep, .int 20])), (ep, .inl (cy 2, 22, .inr (.inr (.inr (.inr gp))))), (mq, .inr (4, [.int mx_1671, .ref qx_1672, .int 3])), (qx_1672, .inl (cy 2, 10, .inr (.inr (.inr (.inr g2_1673))))), (oa, .inl (cy 3, 1, .inr (.inl o2_1665))), (y0, .inr (8, q0)), (r0, .inr (4, [.int 0, .ref ed, .int 0])), (y1, .inr (8, q1)), (r1, .inr (4, [.int 0, .ref ed, .int 0])), (y_1662, .inr (8, fy_1664)), (rl_1663, .inr (4, [.int 0, .ref ed, .int 0])), (z0, .inr (16, u0)), (v0, .inr (4, [.int 0, .ref ed, .int 0])), (z1, .inr (16, u1)), (v1, .inr (4, [.int 0, .ref ed, .int 0])), (y_1674, .inr (16, fy_1676)), (rl_1675, .inr (4, [.int 0, .ref ed, .int 0]))]) [12, 13, 0, 1, 2, 14, 15, 24, 19, 3, 20, 21, 18, 4, 5, 6, 7, 16, 17, 8, 9, 10, 11, 22, 23] rfl
    have hD := hD.sub (ws' := [(h, .inr (13, [.ref pe, .ref ne, .ref pa, .ref ro, .int 0])), (pe, .inr (9, [.int 20, .ref a1, .ref a2, .ref a3, .ref a4, .ref a5, .ref a6, .ref a7, .ref a8, .ref a9])), (a1, .inl (cy 0, 20, .inl f1)), (a2, .inl (cy 0, 20, .inl f2)), (ro, .inl (cy 0, 20, .inl f0)), (pa, .inr (4, [.int mx_1659, .ref qx_1660, .int 3])), (qx_1660, .inl (cy 2, 10, .inr (.inr (.inr (.inr g2_1661))))), (m0, .inr (20, [.int 0, .ref mp, .int 0, .ref b1, .ref b2, .ref b3, .ref b4, .ref b5, .ref mq])), (mp, .inr (4, [.int mm, .ref ep, .int 20])), (ep, .inl (cy 2, 22, .inr (.inr (.inr (.inr gp))))), (mq, .inr (4, [.int mx_1671, .ref qx_1672, .int 3])), (qx_1672, .inl (cy 2, 10, .inr (.inr (.inr (.inr g2_1673))))), (oa, .inl (cy 3, 1, .inr (.inl o2_1665))), (y0, .inr (8, q0)), (r0, .inr (4, [.int 0, .ref ed, .int 0])), (y1, .inr (8, q1)), (r1, .inr (4, [.int 0, .ref ed, .int 0])), (y_1662, .inr (8, fy_1664)), (rl_1663, .inr (4, [.int 0, .ref ed, .int 0])), (z0, .inr (16, u0)), (v0, .inr (4, [.int 0, .ref ed, .int 0])), (z1, .inr (16, u1)), (v1, .inr (4, [.int 0, .ref ed, .int 0])), (y_1674, .inr (16, fy_1676)), (rl_1675, .inr (4, [.int 0, .ref ed, .int 0]))]) [12, 13, 0, 1, 2, 14, 15, 24, 19, 3, 20, 21, 18, 4, 5, 6, 7, 16, 17, 8, 9, 10, 11, 22, 23] (by decide) rfl
    exact hnext _ _ _ ⟨pe, ne, pa, ro, a1, a2, a3, a4, a5, a6, a7, a8, a9, mp, mq, b1, b2, b3, b4, b5, ep, qx_1660, qx_1672, mx_1659, mm, mx_1671, f1, f2, f0, o2_1665, gp, g2_1661, g2_1673, y0, y1, y_1662, r0, r1, rl_1663, q0, q1, fy_1664, z0, z1, y_1674, v0, v1, rl_1675, u0, u1, fy_1676, hP, hD, ((hs_1670 0 (by decide)).trans hxe0), ((hs_1670 1 (by decide)).trans hxe1), hs_1669, hxq0, hxq1, hs_1668, ((hs_1680 0 (by decide)).trans hme0), ((hs_1680 1 (by decide)).trans hme1), hs_1679, hmq0, hmq1, hs_1678⟩ hS (lv_sub hl [0, 3, 4, 5, 6] rfl)
set_option maxHeartbeats 4000000 in
set_option maxRecDepth 100000 in
theorem law_step_23 {p : Program} {l : Launch} {e : Env} {s : State} {m : MethodId} {below : List Frame} {meth : Method} {c : Code} {D : va_G} {cy : Nat → ClassId} {ed b : Nat} {A : Nat → Prop} {Q : State → Prop} (C0 : zx_LW p l s m c D cy ed b A) {h m0 oa : Nat} {H : Heap} {locs : List Loc} {ls : Array Slot} (h0 : zx_S23 D cy ed A h m0 oa H) (hS : va_S A s.heap H locs) (hl : lv_has ls 9 [(5, .int 138), (3, .ref oa), (2, .ref m0), (1, .ref h), (0, .ref b)])
    (hnext : ∀ (H : Heap) (locs : List Loc) (ls : Array Slot), zx_S24 D cy ed A h m0 oa H → va_S A s.heap H locs → lv_has ls 9 [(5, .int 144), (3, .ref oa), (2, .ref m0), (1, .ref h), (0, .ref b)] → W p l e zx_R s m #[Value.ref b] below meth c H locs 197 2987 Q (F0 m 28 ls [])) :
    W p l e zx_R s m #[Value.ref b] below meth c H locs 174 2727 Q (F0 m 28 ls []) := by
  obtain ⟨hx, hb, hml, hst, hown, hts, hX, hbl, hbA, hA, hK, hZ, hN⟩ := C0
  obtain ⟨pe, ne, pa, ro, a1, a2, a3, a4, a5, a6, a7, a8, a9, mp, mq, b1, b2, b3, b4, b5, ep, el, eq, mc, mm, mn, f1, f2, f0, og, gp, g, gq, y0, y1, y2, r0, r1, r2, q0, q1, q2, z0, z1, z2, v0, v1, v2, u0, u1, u2, hP, hD, hxe0, hxe1, hxe2, hxq0, hxq1, hxq2, hme0, hme1, hme2, hmq0, hmq1, hmq2⟩ := h0
  refine lv_iload hx hb dL_law_28 (lv_at hl 0 rfl) ?_
  refine lv_aload_n hx hb dL_law_30 rfl (lv_at hl 4 rfl) ?_
  refine va_slen hx hb hX hbl hbA hS dL_law_31 ?_
  refine lv_topi (fun y9 ey9 => ?_)
  obtain rfl : y9 = 3072 := ey9.trans (by decide)
  refine lv_bipush (v := 6) hx hb dL_law_32 (by decide) ?_
  refine lv_isub hx hb dL_law_34 ?_
  refine lv_topi (fun y9 ey9 => ?_)
  obtain rfl : y9 = 3066 := by rw [ey9] <;> decide
  refine lv_icmp_gt (tgt := 4263) hx hb dL_law_35 (by decide) (fun c_1684 => absurd c_1684 (by decide)) (fun _ => ?_)
  refine lv_aload_n hx hb dL_law_38 rfl (lv_at hl 4 rfl) ?_
  refine lv_iload hx hb dL_law_39 (lv_at hl 0 rfl) ?_
  refine va_sld hx hb hX hbl hbA hS (zx_bn (by decide)) dL_law_41 ?_
  refine lv_topi (fun y9 ey9 => ?_)
  obtain rfl : y9 = 7 := ey9.trans (by decide)
  refine lv_bipush (v := 63) hx hb dL_law_42 (by decide) ?_
  refine lv_iand hx hb dL_law_44 ?_
  refine lv_topi (fun y9 ey9 => ?_)
  obtain rfl : y9 = 7 := by rw [ey9] <;> decide
  refine lv_tableIn (off := 752) (tgt := 797) hx hb dL_law_45 (by decide) (by decide) (by decide) (by decide) ?_
  refine lv_aload_n hx hb dL_law_797 rfl (lv_at hl 3 rfl) ?_
  refine lv_aload_n hx hb dL_law_798 rfl (lv_at hl 4 rfl) ?_
  refine lv_iload hx hb dL_law_799 (lv_at hl 0 rfl) ?_
  refine lv_iconst (v := 1) hx hb dL_law_801 (by decide) ?_
  refine lv_iadd hx hb dL_law_802 ?_
  refine lv_topi (fun y9 ey9 => ?_)
  obtain rfl : y9 = 139 := by rw [ey9] <;> decide
  refine va_sld hx hb hX hbl hbA hS (zx_bn (by decide)) dL_law_803 ?_
  refine lv_topi (fun y9 ey9 => ?_)
  obtain rfl : y9 = 0 := ey9.trans (by decide)
  refine lv_aload_n hx hb dL_law_804 rfl (lv_at hl 4 rfl) ?_
  refine lv_iload hx hb dL_law_805 (lv_at hl 0 rfl) ?_
  refine lv_iconst (v := 2) hx hb dL_law_807 (by decide) ?_
  refine lv_iadd hx hb dL_law_808 ?_
  refine lv_topi (fun y9 ey9 => ?_)
  obtain rfl : y9 = 140 := by rw [ey9] <;> decide
  refine va_sld hx hb hX hbl hbA hS (zx_bn (by decide)) dL_law_809 ?_
  refine lv_topi (fun y9 ey9 => ?_)
  obtain rfl : y9 = 0 := ey9.trans (by decide)
  refine lv_aload_n hx hb dL_law_810 rfl (lv_at hl 4 rfl) ?_
  refine lv_iload hx hb dL_law_811 (lv_at hl 0 rfl) ?_
  refine lv_iconst (v := 3) hx hb dL_law_813 (by decide) ?_
  refine lv_iadd hx hb dL_law_814 ?_
  refine lv_topi (fun y9 ey9 => ?_)
  obtain rfl : y9 = 141 := by rw [ey9] <;> decide
  refine va_sld hx hb hX hbl hbA hS (zx_bn (by decide)) dL_law_815 ?_
  refine lv_topi (fun y9 ey9 => ?_)
  obtain rfl : y9 = 0 := ey9.trans (by decide)
  refine lv_aload_n hx hb dL_law_816 rfl (lv_at hl 1 rfl) ?_
  have hPc := hP.sub (ws' := [(h, .inr (13, [.ref pe, .ref ne, .ref pa, .ref ro, .int 0])), (pe, .inr (9, [.int 20, .ref a1, .ref a2, .ref a3, .ref a4, .ref a5, .ref a6, .ref a7, .ref a8, .ref a9])), (pa, .inr (4, [.int mc, .ref el, .int 3])), (el, .inl (cy 2, 10, .inr (.inr (.inr (.inr g))))), (oa, .inl (cy 3, 1, .inr (.inl og)))]) [0, 1, 5, 6, 12] rfl
  have hDc := hD.sub (ws' := [(h, .inr (13, [.ref pe, .ref ne, .ref pa, .ref ro, .int 0])), (pe, .inr (9, [.int 20, .ref a1, .ref a2, .ref a3, .ref a4, .ref a5, .ref a6, .ref a7, .ref a8, .ref a9])), (pa, .inr (4, [.int mc, .ref el, .int 3])), (el, .inl (cy 2, 10, .inr (.inr (.inr (.inr g))))), (oa, .inl (cy 3, 1, .inr (.inl og)))]) [0, 1, 5, 6, 12] (by decide) rfl
  have hFc := va_free (wc := [(h, .inr (13, [.ref pe, .ref ne, .ref pa, .ref ro, .int 0])), (pe, .inr (9, [.int 20, .ref a1, .ref a2, .ref a3, .ref a4, .ref a5, .ref a6, .ref a7, .ref a8, .ref a9])), (pa, .inr (4, [.int mc, .ref el, .int 3])), (el, .inl (cy 2, 10, .inr (.inr (.inr (.inr g))))), (oa, .inl (cy 3, 1, .inr (.inl og)))]) hD hS hA [0, 1, 5, 6, 12] rfl
  refine vx_calli (vx_runSX (As := [.ref h, .int 0, .int 0, .int 0, .ref oa]) (rest := []) ⟨hx, hb, hml, hown, hts⟩ (c_L_begin_3 l hst D cy ed H.size h pe ne pa ro 0 a1 a2 a3 a4 a5 a6 a7 a8 a9 mc el g oa og) (vx_cwSW 5 hts (zx_GS mm_565 mm_566 mm_70 mm_567) rfl rfl rfl (by decide +kernel) ⟨(Nat.le_of_ble_eq_true rfl), (Nat.le_of_ble_eq_true rfl)⟩) ⟨zx_blind, zx_give hPc hK hDc hS hFc hZ hN⟩ rfl rfl hl.1 rfl (lv_room (Nat.le_of_ble_eq_true rfl)) dL_law_817 ⟨(Nat.le_of_ble_eq_true rfl), (Nat.le_of_ble_eq_true rfl)⟩) hS (fun q _ h => hFc q h) hFc (fun q _ h => hFc q h) (fun E9 ce9 q9 _ t H locs ht hvm _ hBX hz1 hk1 hS hce hcv hcl => ?_) (fun r9 u t H locs ht hvm hw hB hz1 hk1 hS => ?_)
  · exact hBX.elim
  ·
    obtain ⟨mx_1685, qx_1686, g2_1687, y_1688, rl_1689, fy_1690, o2_1691⟩ := u
    obtain ⟨rfl, h_1692⟩ := hw
    obtain ⟨hP, hD⟩ := zx_join (wr := [(a1, .inl (cy 0, 20, .inl f1)), (a2, .inl (cy 0, 20, .inl f2)), (ro, .inl (cy 0, 20, .inl f0)), (m0, .inr (20, [.int 0, .ref mp, .int 0, .ref b1, .ref b2, .ref b3, .ref b4, .ref b5, .ref mq])), (mp, .inr (4, [.int mm, .ref ep, .int 20])), (ep, .inl (cy 2, 22, .inr (.inr (.inr (.inr gp))))), (mq, .inr (4, [.int mn, .ref eq, .int 3])), (eq, .inl (cy 2, 10, .inr (.inr (.inr (.inr gq))))), (y0, .inr (8, q0)), (r0, .inr (4, [.int 0, .ref ed, .int 0])), (y1, .inr (8, q1)), (r1, .inr (4, [.int 0, .ref ed, .int 0])), (y2, .inr (8, q2)), (r2, .inr (4, [.int 0, .ref ed, .int 0])), (z0, .inr (16, u0)), (v0, .inr (4, [.int 0, .ref ed, .int 0])), (z1, .inr (16, u1)), (v1, .inr (4, [.int 0, .ref ed, .int 0])), (z2, .inr (16, u2)), (v2, .inr (4, [.int 0, .ref ed, .int 0]))]) (w1 := [(h, .inr (13, [.ref pe, .ref ne, .ref pa, .ref ro, .int 0])), (pe, .inr (9, [.int 20, .ref a1, .ref a2, .ref a3, .ref a4, .ref a5, .ref a6, .ref a7, .ref a8, .ref a9])), (pa, .inr (4, [.int mx_1685, .ref qx_1686, .int 4])), (qx_1686, .inl (cy 2, 10, .inr (.inr (.inr (.inr g2_1687))))), (y_1688, .inr (8, fy_1690)), (rl_1689, .inr (4, [.int 0, .ref ed, .int 0])), (oa, .inl (cy 3, 1, .inr (.inl o2_1691)))]) [0, 1, 5, 6, 12] [2, 3, 4, 7, 8, 9, 10, 11, 13, 14, 15, 16, 17, 18, 19, 20, 21, 22, 23, 24] rfl rfl (by decide) (by decide) hP hD hk1 hFc hB ht
    have hP : va_P D vwCl [(a1, .inl (cy 0, 20, .inl f1)), (a2, .inl (cy 0, 20, .inl f2)), (ro, .inl (cy 0, 20, .inl f0)), (m0, .inr (20, [.int 0, .ref mp, .int 0, .ref b1, .ref b2, .ref b3, .ref b4, .ref b5, .ref mq])), (mp, .inr (4, [.int mm, .ref ep, .int 20])), (ep, .inl (cy 2, 22, .inr (.inr (.inr (.inr gp))))), (mq, .inr (4, [.int mn, .ref eq, .int 3])), (eq, .inl (cy 2, 10, .inr (.inr (.inr (.inr gq))))), (y0, .inr (8, q0)), (r0, .inr (4, [.int 0, .ref ed, .int 0])), (y1, .inr (8, q1)), (r1, .inr (4, [.int 0, .ref ed, .int 0])), (y2, .inr (8, q2)), (r2, .inr (4, [.int 0, .ref ed, .int 0])), (z0, .inr (16, u0)), (v0, .inr (4, [.int 0, .ref ed, .int 0])), (z1, .inr (16, u1)), (v1, .inr (4, [.int 0, .ref ed, .int 0])), (z2, .inr (16, u2)), (v2, .inr (4, [.int 0, .ref ed, .int 0])), (h, .inr (13, [.ref pe, .ref ne, .ref pa, .ref ro, .int 0])), (pe, .inr (9, [.int 20, .ref a1, .ref a2, .ref a3, .ref a4, .ref a5, .ref a6, .ref a7, .ref a8, .ref a9])), (pa, .inr (4, [.int mx_1685, .ref qx_1686, .int 4])), (qx_1686, .inl (cy 2, 10, .inr (.inr (.inr (.inr g2_1687))))), (y_1688, .inr (8, fy_1690)), (rl_1689, .inr (4, [.int 0, .ref ed, .int 0])), (oa, .inl (cy 3, 1, .inr (.inl o2_1691)))] H := hP
    have hD : va_D A [(a1, .inl (cy 0, 20, .inl f1)), (a2, .inl (cy 0, 20, .inl f2)), (ro, .inl (cy 0, 20, .inl f0)), (m0, .inr (20, [.int 0, .ref mp, .int 0, .ref b1, .ref b2, .ref b3, .ref b4, .ref b5, .ref mq])), (mp, .inr (4, [.int mm, .ref ep, .int 20])), (ep, .inl (cy 2, 22, .inr (.inr (.inr (.inr gp))))), (mq, .inr (4, [.int mn, .ref eq, .int 3])), (eq, .inl (cy 2, 10, .inr (.inr (.inr (.inr gq))))), (y0, .inr (8, q0)), (r0, .inr (4, [.int 0, .ref ed, .int 0])), (y1, .inr (8, q1)), (r1, .inr (4, [.int 0, .ref ed, .int 0])), (y2, .inr (8, q2)), (r2, .inr (4, [.int 0, .ref ed, .int 0])), (z0, .inr (16, u0)), (v0, .inr (4, [.int 0, .ref ed, .int 0])), (z1, .inr (16, u1)), (v1, .inr (4, [.int 0, .ref ed, .int 0])), (z2, .inr (16, u2)), (v2, .inr (4, [.int 0, .ref ed, .int 0])), (h, .inr (13, [.ref pe, .ref ne, .ref pa, .ref ro, .int 0])), (pe, .inr (9, [.int 20, .ref a1, .ref a2, .ref a3, .ref a4, .ref a5, .ref a6, .ref a7, .ref a8, .ref a9])), (pa, .inr (4, [.int mx_1685, .ref qx_1686, .int 4])), (qx_1686, .inl (cy 2, 10, .inr (.inr (.inr (.inr g2_1687))))), (y_1688, .inr (8, fy_1690)), (rl_1689, .inr (4, [.int 0, .ref ed, .int 0])), (oa, .inl (cy 3, 1, .inr (.inl o2_1691)))] := hD
    refine W.widen (k := 188) (n := 2897) (Nat.le_of_ble_eq_true rfl) (Nat.le_of_ble_eq_true rfl) ?_
    obtain ⟨hs_1693, hs_1694, hs_1695, hs_1696⟩ := h_1692
    refine lv_istore (lv' := [(6, .int 0), (5, .int 138), (3, .ref oa), (2, .ref m0), (1, .ref h), (0, .ref b)]) hx hb dL_law_820 hl (by decide) rfl (fun ls hl => ?_)
    refine lv_aload_n hx hb dL_law_822 rfl (lv_at hl 3 rfl) ?_
    refine lv_aload_n hx hb dL_law_823 rfl (lv_at hl 5 rfl) ?_
    refine lv_iload hx hb dL_law_824 (lv_at hl 1 rfl) ?_
    refine lv_iconst (v := 1) hx hb dL_law_826 (by decide) ?_
    refine lv_iadd hx hb dL_law_827 ?_
    refine lv_topi (fun y9 ey9 => ?_)
    obtain rfl : y9 = 139 := by rw [ey9] <;> decide
    refine va_sld hx hb hX hbl hbA hS (zx_bn (by decide)) dL_law_828 ?_
    refine lv_topi (fun y9 ey9 => ?_)
    obtain rfl : y9 = 0 := ey9.trans (by decide)
    refine lv_aload_n hx hb dL_law_829 rfl (lv_at hl 5 rfl) ?_
    refine lv_iload hx hb dL_law_830 (lv_at hl 1 rfl) ?_
    refine lv_iconst (v := 2) hx hb dL_law_832 (by decide) ?_
    refine lv_iadd hx hb dL_law_833 ?_
    refine lv_topi (fun y9 ey9 => ?_)
    obtain rfl : y9 = 140 := by rw [ey9] <;> decide
    refine va_sld hx hb hX hbl hbA hS (zx_bn (by decide)) dL_law_834 ?_
    refine lv_topi (fun y9 ey9 => ?_)
    obtain rfl : y9 = 0 := ey9.trans (by decide)
    refine lv_aload_n hx hb dL_law_835 rfl (lv_at hl 5 rfl) ?_
    refine lv_iload hx hb dL_law_836 (lv_at hl 1 rfl) ?_
    refine lv_iconst (v := 3) hx hb dL_law_838 (by decide) ?_
    refine lv_iadd hx hb dL_law_839 ?_
    refine lv_topi (fun y9 ey9 => ?_)
    obtain rfl : y9 = 141 := by rw [ey9] <;> decide
    refine va_sld hx hb hX hbl hbA hS (zx_bn (by decide)) dL_law_840 ?_
    refine lv_topi (fun y9 ey9 => ?_)
    obtain rfl : y9 = 0 := ey9.trans (by decide)
    have hPc := hP.sub (ws' := [(m0, .inr (20, [.int 0, .ref mp, .int 0, .ref b1, .ref b2, .ref b3, .ref b4, .ref b5, .ref mq])), (mp, .inr (4, [.int mm, .ref ep, .int 20])), (mq, .inr (4, [.int mn, .ref eq, .int 3])), (eq, .inl (cy 2, 10, .inr (.inr (.inr (.inr gq)))))]) [3, 4, 6, 7] rfl
    have hDc := hD.sub (ws' := [(m0, .inr (20, [.int 0, .ref mp, .int 0, .ref b1, .ref b2, .ref b3, .ref b4, .ref b5, .ref mq])), (mp, .inr (4, [.int mm, .ref ep, .int 20])), (mq, .inr (4, [.int mn, .ref eq, .int 3])), (eq, .inl (cy 2, 10, .inr (.inr (.inr (.inr gq)))))]) [3, 4, 6, 7] (by decide) rfl
    have hFc := va_free (wc := [(m0, .inr (20, [.int 0, .ref mp, .int 0, .ref b1, .ref b2, .ref b3, .ref b4, .ref b5, .ref mq])), (mp, .inr (4, [.int mm, .ref ep, .int 20])), (mq, .inr (4, [.int mn, .ref eq, .int 3])), (eq, .inl (cy 2, 10, .inr (.inr (.inr (.inr gq)))))]) hD hS hA [3, 4, 6, 7] rfl
    refine va_calli (va_runV (As := [.int 0, .int 0, .int 0]) (rest := []) ⟨hx, hb, hml, hown, hts⟩ (c_X15_begin_3 l hst D cy ed H.size m0 mp mq b1 b2 b3 b4 b5 0 0 mm ep mn eq gq) (cwV 3 hts (zx_GV mm_1783 mm_1784 mm_1785 mm_78 mm_1786) rfl rfl rfl (by decide +kernel) ⟨(Nat.le_of_ble_eq_true rfl), (Nat.le_of_ble_eq_true rfl)⟩) ⟨zx_blind, va_recv hK hPc (ci := 20) (q0 := 0) rfl rfl, zx_give hPc hK hDc hS hFc hZ hN⟩ rfl rfl hl.1 rfl (lv_room (Nat.le_of_ble_eq_true rfl)) dL_law_841 ⟨(Nat.le_of_ble_eq_true rfl), (Nat.le_of_ble_eq_true rfl)⟩) hS (fun q _ h => hFc q h) hFc (fun r9 u t H1 locs ht hvm hw hB hz1 hk1 hS => ?_)
    obtain ⟨mx_1697, qx_1698, g2_1699, y_1700, rl_1701, fy_1702⟩ := u
    obtain ⟨rfl, h_1703⟩ := hw
    obtain ⟨hP, hD⟩ := zx_join (wr := [(a1, .inl (cy 0, 20, .inl f1)), (a2, .inl (cy 0, 20, .inl f2)), (ro, .inl (cy 0, 20, .inl f0)), (ep, .inl (cy 2, 22, .inr (.inr (.inr (.inr gp))))), (y0, .inr (8, q0)), (r0, .inr (4, [.int 0, .ref ed, .int 0])), (y1, .inr (8, q1)), (r1, .inr (4, [.int 0, .ref ed, .int 0])), (y2, .inr (8, q2)), (r2, .inr (4, [.int 0, .ref ed, .int 0])), (z0, .inr (16, u0)), (v0, .inr (4, [.int 0, .ref ed, .int 0])), (z1, .inr (16, u1)), (v1, .inr (4, [.int 0, .ref ed, .int 0])), (z2, .inr (16, u2)), (v2, .inr (4, [.int 0, .ref ed, .int 0])), (h, .inr (13, [.ref pe, .ref ne, .ref pa, .ref ro, .int 0])), (pe, .inr (9, [.int 20, .ref a1, .ref a2, .ref a3, .ref a4, .ref a5, .ref a6, .ref a7, .ref a8, .ref a9])), (pa, .inr (4, [.int mx_1685, .ref qx_1686, .int 4])), (qx_1686, .inl (cy 2, 10, .inr (.inr (.inr (.inr g2_1687))))), (y_1688, .inr (8, fy_1690)), (rl_1689, .inr (4, [.int 0, .ref ed, .int 0])), (oa, .inl (cy 3, 1, .inr (.inl o2_1691)))]) (w1 := [(m0, .inr (20, [.int 0, .ref mp, .int 0, .ref b1, .ref b2, .ref b3, .ref b4, .ref b5, .ref mq])), (mp, .inr (4, [.int mm, .ref ep, .int 20])), (mq, .inr (4, [.int mx_1697, .ref qx_1698, .int 4])), (qx_1698, .inl (cy 2, 10, .inr (.inr (.inr (.inr g2_1699))))), (y_1700, .inr (16, fy_1702)), (rl_1701, .inr (4, [.int 0, .ref ed, .int 0]))]) [3, 4, 6, 7] [0, 1, 2, 5, 8, 9, 10, 11, 12, 13, 14, 15, 16, 17, 18, 19, 20, 21, 22, 23, 24, 25, 26] rfl rfl (by decide) (by decide) hP hD hk1 hFc hB ht
    generalize H1 = H at hP hS ⊢
    have hP : va_P D vwCl [(a1, .inl (cy 0, 20, .inl f1)), (a2, .inl (cy 0, 20, .inl f2)), (ro, .inl (cy 0, 20, .inl f0)), (ep, .inl (cy 2, 22, .inr (.inr (.inr (.inr gp))))), (y0, .inr (8, q0)), (r0, .inr (4, [.int 0, .ref ed, .int 0])), (y1, .inr (8, q1)), (r1, .inr (4, [.int 0, .ref ed, .int 0])), (y2, .inr (8, q2)), (r2, .inr (4, [.int 0, .ref ed, .int 0])), (z0, .inr (16, u0)), (v0, .inr (4, [.int 0, .ref ed, .int 0])), (z1, .inr (16, u1)), (v1, .inr (4, [.int 0, .ref ed, .int 0])), (z2, .inr (16, u2)), (v2, .inr (4, [.int 0, .ref ed, .int 0])), (h, .inr (13, [.ref pe, .ref ne, .ref pa, .ref ro, .int 0])), (pe, .inr (9, [.int 20, .ref a1, .ref a2, .ref a3, .ref a4, .ref a5, .ref a6, .ref a7, .ref a8, .ref a9])), (pa, .inr (4, [.int mx_1685, .ref qx_1686, .int 4])), (qx_1686, .inl (cy 2, 10, .inr (.inr (.inr (.inr g2_1687))))), (y_1688, .inr (8, fy_1690)), (rl_1689, .inr (4, [.int 0, .ref ed, .int 0])), (oa, .inl (cy 3, 1, .inr (.inl o2_1691))), (m0, .inr (20, [.int 0, .ref mp, .int 0, .ref b1, .ref b2, .ref b3, .ref b4, .ref b5, .ref mq])), (mp, .inr (4, [.int mm, .ref ep, .int 20])), (mq, .inr (4, [.int mx_1697, .ref qx_1698, .int 4])), (qx_1698, .inl (cy 2, 10, .inr (.inr (.inr (.inr g2_1699))))), (y_1700, .inr (16, fy_1702)), (rl_1701, .inr (4, [.int 0, .ref ed, .int 0]))] H := hP
    have hD : va_D A [(a1, .inl (cy 0, 20, .inl f1)), (a2, .inl (cy 0, 20, .inl f2)), (ro, .inl (cy 0, 20, .inl f0)), (ep, .inl (cy 2, 22, .inr (.inr (.inr (.inr gp))))), (y0, .inr (8, q0)), (r0, .inr (4, [.int 0, .ref ed, .int 0])), (y1, .inr (8, q1)), (r1, .inr (4, [.int 0, .ref ed, .int 0])), (y2, .inr (8, q2)), (r2, .inr (4, [.int 0, .ref ed, .int 0])), (z0, .inr (16, u0)), (v0, .inr (4, [.int 0, .ref ed, .int 0])), (z1, .inr (16, u1)), (v1, .inr (4, [.int 0, .ref ed, .int 0])), (z2, .inr (16, u2)), (v2, .inr (4, [.int 0, .ref ed, .int 0])), (h, .inr (13, [.ref pe, .ref ne, .ref pa, .ref ro, .int 0])), (pe, .inr (9, [.int 20, .ref a1, .ref a2, .ref a3, .ref a4, .ref a5, .ref a6, .ref a7, .ref a8, .ref a9])), (pa, .inr (4, [.int mx_1685, .ref qx_1686, .int 4])), (qx_1686, .inl (cy 2, 10, .inr (.inr (.inr (.inr g2_1687))))), (y_1688, .inr (8, fy_1690)), (rl_1689, .inr (4, [.int 0, .ref ed, .int 0])), (oa, .inl (cy 3, 1, .inr (.inl o2_1691))), (m0, .inr (20, [.int 0, .ref mp, .int 0, .ref b1, .ref b2, .ref b3, .ref b4, .ref b5, .ref mq])), (mp, .inr (4, [.int mm, .ref ep, .int 20])), (mq, .inr (4, [.int mx_1697, .ref qx_1698, .int 4])), (qx_1698, .inl (cy 2, 10, .inr (.inr (.inr (.inr g2_1699))))), (y_1700, .inr (16, fy_1702)), (rl_1701, .inr (4, [.int 0, .ref ed, .int 0]))] := hD
    refine W.widen (k := 197) (n := 2987) (Nat.le_of_ble_eq_true rfl) (Nat.le_of_ble_eq_true rfl) ?_
    obtain ⟨hs_1704, hs_1705, hs_1706⟩ := h_1703
    refine lv_istore (lv' := [(7, .int 3), (6, .int 0), (5, .int 138), (3, .ref oa), (2, .ref m0), (1, .ref h), (0, .ref b)]) hx hb dL_law_844 hl (by decide) rfl (fun ls hl => ?_)
    refine lv_aload_n hx hb dL_law_846 rfl (lv_at hl 4 rfl) ?_
    have hPc := hP.sub (ws' := [(m0, .inr (20, [.int 0, .ref mp, .int 0, .ref b1, .ref b2, .ref b3, .ref b4, .ref b5, .ref mq]))]) [23] rfl
    have hDc := hD.sub (ws' := [(m0, .inr (20, [.int 0, .ref mp, .int 0, .ref b1, .ref b2, .ref b3, .ref b4, .ref b5, .ref mq]))]) [23] (by decide) rfl
    have hFc := va_free (wc := [(m0, .inr (20, [.int 0, .ref mp, .int 0, .ref b1, .ref b2, .ref b3, .ref b4, .ref b5, .ref mq]))]) hD hS hA [23] rfl
    refine va_calli (va_runV (As := []) (rest := []) ⟨hx, hb, hml, hown, hts⟩ (c_X15_thrown l hst D cy ed H.size m0 mp mq b1 b2 b3 b4 b5 0 0) (cwV 0 hts (zx_GV mm_1599 mm_1600 mm_1601 mm_78 mm_1602) rfl rfl rfl (by decide +kernel) ⟨(Nat.le_of_ble_eq_true rfl), (Nat.le_of_ble_eq_true rfl)⟩) ⟨zx_blind, va_recv hK hPc (ci := 20) (q0 := 0) rfl rfl, zx_give hPc hK hDc hS hFc hZ hN⟩ rfl rfl hl.1 rfl (lv_room (Nat.le_of_ble_eq_true rfl)) dL_law_847 ⟨(Nat.le_of_ble_eq_true rfl), (Nat.le_of_ble_eq_true rfl)⟩) hS (fun q _ h => hFc q h) hFc (fun r9 u t H1 locs ht hvm hw hB hz1 hk1 hS => ?_)
    obtain rfl : r9 = 0 := hw
    obtain ⟨hP, hD⟩ := zx_join (wr := [(a1, .inl (cy 0, 20, .inl f1)), (a2, .inl (cy 0, 20, .inl f2)), (ro, .inl (cy 0, 20, .inl f0)), (ep, .inl (cy 2, 22, .inr (.inr (.inr (.inr gp))))), (y0, .inr (8, q0)), (r0, .inr (4, [.int 0, .ref ed, .int 0])), (y1, .inr (8, q1)), (r1, .inr (4, [.int 0, .ref ed, .int 0])), (y2, .inr (8, q2)), (r2, .inr (4, [.int 0, .ref ed, .int 0])), (z0, .inr (16, u0)), (v0, .inr (4, [.int 0, .ref ed, .int 0])), (z1, .inr (16, u1)), (v1, .inr (4, [.int 0, .ref ed, .int 0])), (z2, .inr (16, u2)), (v2, .inr (4, [.int 0, .ref ed, .int 0])), (h, .inr (13, [.ref pe, .ref ne, .ref pa, .ref ro, .int 0])), (pe, .inr (9, [.int 20, .ref a1, .ref a2, .ref a3, .ref a4, .ref a5, .ref a6, .ref a7, .ref a8, .ref a9])), (pa, .inr (4, [.int mx_1685, .ref qx_1686, .int 4])), (qx_1686, .inl (cy 2, 10, .inr (.inr (.inr (.inr g2_1687))))), (y_1688, .inr (8, fy_1690)), (rl_1689, .inr (4, [.int 0, .ref ed, .int 0])), (oa, .inl (cy 3, 1, .inr (.inl o2_1691))), (mp, .inr (4, [.int mm, .ref ep, .int 20])), (mq, .inr (4, [.int mx_1697, .ref qx_1698, .int 4])), (qx_1698, .inl (cy 2, 10, .inr (.inr (.inr (.inr g2_1699))))), (y_1700, .inr (16, fy_1702)), (rl_1701, .inr (4, [.int 0, .ref ed, .int 0]))]) (w1 := [(m0, .inr (20, [.int 0, .ref mp, .int 0, .ref b1, .ref b2, .ref b3, .ref b4, .ref b5, .ref mq]))]) [23] [0, 1, 2, 3, 4, 5, 6, 7, 8, 9, 10, 11, 12, 13, 14, 15, 16, 17, 18, 19, 20, 21, 22, 24, 25, 26, 27, 28] rfl rfl (by decide) (by decide) hP hD hk1 hFc hB ht
    generalize H1 = H at hP hS ⊢
    have hP : va_P D vwCl [(a1, .inl (cy 0, 20, .inl f1)), (a2, .inl (cy 0, 20, .inl f2)), (ro, .inl (cy 0, 20, .inl f0)), (ep, .inl (cy 2, 22, .inr (.inr (.inr (.inr gp))))), (y0, .inr (8, q0)), (r0, .inr (4, [.int 0, .ref ed, .int 0])), (y1, .inr (8, q1)), (r1, .inr (4, [.int 0, .ref ed, .int 0])), (y2, .inr (8, q2)), (r2, .inr (4, [.int 0, .ref ed, .int 0])), (z0, .inr (16, u0)), (v0, .inr (4, [.int 0, .ref ed, .int 0])), (z1, .inr (16, u1)), (v1, .inr (4, [.int 0, .ref ed, .int 0])), (z2, .inr (16, u2)), (v2, .inr (4, [.int 0, .ref ed, .int 0])), (h, .inr (13, [.ref pe, .ref ne, .ref pa, .ref ro, .int 0])), (pe, .inr (9, [.int 20, .ref a1, .ref a2, .ref a3, .ref a4, .ref a5, .ref a6, .ref a7, .ref a8, .ref a9])), (pa, .inr (4, [.int mx_1685, .ref qx_1686, .int 4])), (qx_1686, .inl (cy 2, 10, .inr (.inr (.inr (.inr g2_1687))))), (y_1688, .inr (8, fy_1690)), (rl_1689, .inr (4, [.int 0, .ref ed, .int 0])), (oa, .inl (cy 3, 1, .inr (.inl o2_1691))), (mp, .inr (4, [.int mm, .ref ep, .int 20])), (mq, .inr (4, [.int mx_1697, .ref qx_1698, .int 4])), (qx_1698, .inl (cy 2, 10, .inr (.inr (.inr (.inr g2_1699))))), (y_1700, .inr (16, fy_1702)), (rl_1701, .inr (4, [.int 0, .ref ed, .int 0])), (m0, .inr (20, [.int 0, .ref mp, .int 0, .ref b1, .ref b2, .ref b3, .ref b4, .ref b5, .ref mq]))] H := hP
    have hD : va_D A [(a1, .inl (cy 0, 20, .inl f1)), (a2, .inl (cy 0, 20, .inl f2)), (ro, .inl (cy 0, 20, .inl f0)), (ep, .inl (cy 2, 22, .inr (.inr (.inr (.inr gp))))), (y0, .inr (8, q0)), (r0, .inr (4, [.int 0, .ref ed, .int 0])), (y1, .inr (8, q1)), (r1, .inr (4, [.int 0, .ref ed, .int 0])), (y2, .inr (8, q2)), (r2, .inr (4, [.int 0, .ref ed, .int 0])), (z0, .inr (16, u0)), (v0, .inr (4, [.int 0, .ref ed, .int 0])), (z1, .inr (16, u1)), (v1, .inr (4, [.int 0, .ref ed, .int 0])), (z2, .inr (16, u2)), (v2, .inr (4, [.int 0, .ref ed, .int 0])), (h, .inr (13, [.ref pe, .ref ne, .ref pa, .ref ro, .int 0])), (pe, .inr (9, [.int 20, .ref a1, .ref a2, .ref a3, .ref a4, .ref a5, .ref a6, .ref a7, .ref a8, .ref a9])), (pa, .inr (4, [.int mx_1685, .ref qx_1686, .int 4])), (qx_1686, .inl (cy 2, 10, .inr (.inr (.inr (.inr g2_1687))))), (y_1688, .inr (8, fy_1690)), (rl_1689, .inr (4, [.int 0, .ref ed, .int 0])), (oa, .inl (cy 3, 1, .inr (.inl o2_1691))), (mp, .inr (4, [.int mm, .ref ep, .int 20])), (mq, .inr (4, [.int mx_1697, .ref qx_1698, .int 4])), (qx_1698, .inl (cy 2, 10, .inr (.inr (.inr (.inr g2_1699))))), (y_1700, .inr (16, fy_1702)), (rl_1701, .inr (4, [.int 0, .ref ed, .int 0])), (m0, .inr (20, [.int 0, .ref mp, .int 0, .ref b1, .ref b2, .ref b3, .ref b4, .ref b5, .ref mq]))] := hD
    refine W.widen (k := 197) (n := 2987) (Nat.le_of_ble_eq_true rfl) (Nat.le_of_ble_eq_true rfl) ?_
    refine lv_iload hx hb dL_law_850 (lv_at hl 1 rfl) ?_
    refine lv_icmp_eq (tgt := 857) hx hb dL_law_852 (by decide) (fun _ => ?_) (fun c_1707 => absurd (by decide) c_1707)
    refine lv_iload hx hb dL_law_857 (lv_at hl 1 rfl) ?_
    refine lv_if_ne (tgt := 874) hx hb dL_law_859 (by decide) (fun c_1708 => absurd c_1708 (by decide)) (fun _ => ?_)
    refine lv_aload_n hx hb dL_law_862 rfl (lv_at hl 3 rfl) ?_
    refine lv_iconst (v := 0) hx hb dL_law_863 (by decide) ?_
    refine va_lald hx hb hK hP 22 3 rfl rfl (zx_bn (by decide)) dL_law_864 ?_
    refine lv_iload hx hb dL_law_865 (lv_at hl 0 rfl) ?_
    refine lv_i2l (v := 3) hx hb dL_law_867 rfl ?_
    refine W.lcmp hx hb dL_law_868 ?_
    refine lv_topi (fun y9 ey9 => ?_)
    obtain rfl : y9 = 0 := ey9.trans (zx_lcmpe hs_1693)
    refine lv_if_eq (tgt := 874) hx hb dL_law_869 (by decide) (fun _ => ?_) (fun c_1709 => absurd (by decide) c_1709)
    refine lv_goto (tgt := 4257) hx hb dL_law_874 (by decide) ?_
    refine lv_iinc (v := 144) (lv' := [(5, .int 144), (7, .int 3), (6, .int 0), (3, .ref oa), (2, .ref m0), (1, .ref h), (0, .ref b)]) hx hb dL_law_4257 hl (k := 2) rfl (by decide) (by decide) rfl (fun ls hl => ?_)
    refine lv_goto (tgt := 28) hx hb dL_law_4260 (by decide) ?_
    have hP := hP.sub (ws' := [(h, .inr (13, [.ref pe, .ref ne, .ref pa, .ref ro, .int 0])), (pe, .inr (9, [.int 20, .ref a1, .ref a2, .ref a3, .ref a4, .ref a5, .ref a6, .ref a7, .ref a8, .ref a9])), (a1, .inl (cy 0, 20, .inl f1)), (a2, .inl (cy 0, 20, .inl f2)), (ro, .inl (cy 0, 20, .inl f0)), (pa, .inr (4, [.int mx_1685, .ref qx_1686, .int 4])), (qx_1686, .inl (cy 2, 10, .inr (.inr (.inr (.inr g2_1687))))), (m0, .inr (20, [.int 0, .ref mp, .int 0, .ref b1, .ref b2, .ref b3, .ref b4, .ref b5, .ref mq])), (mp, .inr (4, [.int mm, .ref ep, .int 20])), (ep, .inl (cy 2, 22, .inr (.inr (.inr (.inr gp))))), (mq, .inr (4, [.int mx_1697, .ref qx_1698, .int 4])), (qx_1698, .inl (cy 2, 10, .inr (.inr (.inr (.inr g2_1699))))), (oa, .inl (cy 3, 1, .inr (.inl o2_1691))), (y0, .inr (8, q0)), (r0, .inr (4, [.int 0, .ref ed, .int 0])), (y1, .inr (8, q1)), (r1, .inr (4, [.int 0, .ref ed, .int 0])), (y2, .inr (8, q2)), (r2, .inr (4, [.int 0, .ref ed, .int 0])), (y_1688, .inr (8, fy_1690)), (rl_1689, .inr (4, [.int 0, .ref ed, .int 0])), (z0, .inr (16, u0)), (v0, .inr (4, [.int 0, .ref ed, .int 0])), (z1, .inr (16, u1)), (v1, .inr (4, [.int 0, .ref ed, .int 0])), (z2, .inr (16, u2)), (v2, .inr (4, [.int 0, .ref ed, .int 0])), (y_1700, .inr (16, fy_1702)), (rl_1701, .inr (4, [.int 0, .ref ed, .int 0]))]) [16, 17, 0, 1, 2, 18, 19, 28, 23, 3, 24, 25, 22, 4, 5, 6, 7, 8, 9, 20, 21, 10, 11, 12, 13, 14, 15, 26, 27] rfl
    have hD := hD.sub (ws' := [(h, .inr (13, [.ref pe, .ref ne, .ref pa, .ref ro, .int 0])), (pe, .inr (9, [.int 20, .ref a1, .ref a2, .ref a3, .ref a4, .ref a5, .ref a6, .ref a7, .ref a8, .ref a9])), (a1, .inl (cy 0, 20, .inl f1)), (a2, .inl (cy 0, 20, .inl f2)), (ro, .inl (cy 0, 20, .inl f0)), (pa, .inr (4, [.int mx_1685, .ref qx_1686, .int 4])), (qx_1686, .inl (cy 2, 10, .inr (.inr (.inr (.inr g2_1687))))), (m0, .inr (20, [.int 0, .ref mp, .int 0, .ref b1, .ref b2, .ref b3, .ref b4, .ref b5, .ref mq])), (mp, .inr (4, [.int mm, .ref ep, .int 20])), (ep, .inl (cy 2, 22, .inr (.inr (.inr (.inr gp))))), (mq, .inr (4, [.int mx_1697, .ref qx_1698, .int 4])), (qx_1698, .inl (cy 2, 10, .inr (.inr (.inr (.inr g2_1699))))), (oa, .inl (cy 3, 1, .inr (.inl o2_1691))), (y0, .inr (8, q0)), (r0, .inr (4, [.int 0, .ref ed, .int 0])), (y1, .inr (8, q1)), (r1, .inr (4, [.int 0, .ref ed, .int 0])), (y2, .inr (8, q2)), (r2, .inr (4, [.int 0, .ref ed, .int 0])), (y_1688, .inr (8, fy_1690)), (rl_1689, .inr (4, [.int 0, .ref ed, .int 0])), (z0, .inr (16, u0)), (v0, .inr (4, [.int 0, .ref ed, .int 0])), (z1, .inr (16, u1)), (v1, .inr (4, [.int 0, .ref ed, .int 0])), (z2, .inr (16, u2)), (v2, .inr (4, [.int 0, .ref ed, .int 0])), (y_1700, .inr (16, fy_1702)), (rl_1701, .inr (4, [.int 0, .ref ed, .int 0]))]) [16, 17, 0, 1, 2, 18, 19, 28, 23, 3, 24, 25, 22, 4, 5, 6, 7, 8, 9, 20, 21, 10, 11, 12, 13, 14, 15, 26, 27] (by decide) rfl
    exact hnext _ _ _ ⟨pe, ne, pa, ro, a1, a2, a3, a4, a5, a6, a7, a8, a9, mp, mq, b1, b2, b3, b4, b5, ep, qx_1686, qx_1698, mx_1685, mm, mx_1697, f1, f2, f0, o2_1691, gp, g2_1687, g2_1699, y0, y1, y2, y_1688, r0, r1, r2, rl_1689, q0, q1, q2, fy_1690, z0, z1, z2, y_1700, v0, v1, v2, rl_1701, u0, u1, u2, fy_1702, hP, hD, ((hs_1696 0 (by decide)).trans hxe0), ((hs_1696 1 (by decide)).trans hxe1), ((hs_1696 2 (by decide)).trans hxe2), hs_1695, hxq0, hxq1, hxq2, hs_1694, ((hs_1706 0 (by decide)).trans hme0), ((hs_1706 1 (by decide)).trans hme1), ((hs_1706 2 (by decide)).trans hme2), hs_1705, hmq0, hmq1, hmq2, hs_1704⟩ hS (lv_sub hl [0, 3, 4, 5, 6] rfl)
set_option maxHeartbeats 4000000 in
set_option maxRecDepth 100000 in
theorem law_step_24 {p : Program} {l : Launch} {e : Env} {s : State} {m : MethodId} {below : List Frame} {meth : Method} {c : Code} {D : va_G} {cy : Nat → ClassId} {ed b : Nat} {A : Nat → Prop} {Q : State → Prop} (C0 : zx_LW p l s m c D cy ed b A) {h m0 oa : Nat} {H : Heap} {locs : List Loc} {ls : Array Slot} (h0 : zx_S24 D cy ed A h m0 oa H) (hS : va_S A s.heap H locs) (hl : lv_has ls 9 [(5, .int 144), (3, .ref oa), (2, .ref m0), (1, .ref h), (0, .ref b)])
    (hnext : ∀ (H : Heap) (locs : List Loc) (ls : Array Slot), zx_S25 D cy ed A h m0 oa H → va_S A s.heap H locs → lv_has ls 9 [(5, .int 150), (3, .ref oa), (2, .ref m0), (1, .ref h), (0, .ref b)] → W p l e zx_R s m #[Value.ref b] below meth c H locs 220 3247 Q (F0 m 28 ls [])) :
    W p l e zx_R s m #[Value.ref b] below meth c H locs 197 2987 Q (F0 m 28 ls []) := by
  obtain ⟨hx, hb, hml, hst, hown, hts, hX, hbl, hbA, hA, hK, hZ, hN⟩ := C0
  obtain ⟨pe, ne, pa, ro, a1, a2, a3, a4, a5, a6, a7, a8, a9, mp, mq, b1, b2, b3, b4, b5, ep, el, eq, mc, mm, mn, f1, f2, f0, og, gp, g, gq, y0, y1, y2, y3, r0, r1, r2, r3, q0, q1, q2, q3, z0, z1, z2, z3, v0, v1, v2, v3, u0, u1, u2, u3, hP, hD, hxe0, hxe1, hxe2, hxe3, hxq0, hxq1, hxq2, hxq3, hme0, hme1, hme2, hme3, hmq0, hmq1, hmq2, hmq3⟩ := h0
  refine lv_iload hx hb dL_law_28 (lv_at hl 0 rfl) ?_
  refine lv_aload_n hx hb dL_law_30 rfl (lv_at hl 4 rfl) ?_
  refine va_slen hx hb hX hbl hbA hS dL_law_31 ?_
  refine lv_topi (fun y9 ey9 => ?_)
  obtain rfl : y9 = 3072 := ey9.trans (by decide)
  refine lv_bipush (v := 6) hx hb dL_law_32 (by decide) ?_
  refine lv_isub hx hb dL_law_34 ?_
  refine lv_topi (fun y9 ey9 => ?_)
  obtain rfl : y9 = 3066 := by rw [ey9] <;> decide
  refine lv_icmp_gt (tgt := 4263) hx hb dL_law_35 (by decide) (fun c_1710 => absurd c_1710 (by decide)) (fun _ => ?_)
  refine lv_aload_n hx hb dL_law_38 rfl (lv_at hl 4 rfl) ?_
  refine lv_iload hx hb dL_law_39 (lv_at hl 0 rfl) ?_
  refine va_sld hx hb hX hbl hbA hS (zx_bn (by decide)) dL_law_41 ?_
  refine lv_topi (fun y9 ey9 => ?_)
  obtain rfl : y9 = 7 := ey9.trans (by decide)
  refine lv_bipush (v := 63) hx hb dL_law_42 (by decide) ?_
  refine lv_iand hx hb dL_law_44 ?_
  refine lv_topi (fun y9 ey9 => ?_)
  obtain rfl : y9 = 7 := by rw [ey9] <;> decide
  refine lv_tableIn (off := 752) (tgt := 797) hx hb dL_law_45 (by decide) (by decide) (by decide) (by decide) ?_
  refine lv_aload_n hx hb dL_law_797 rfl (lv_at hl 3 rfl) ?_
  refine lv_aload_n hx hb dL_law_798 rfl (lv_at hl 4 rfl) ?_
  refine lv_iload hx hb dL_law_799 (lv_at hl 0 rfl) ?_
  refine lv_iconst (v := 1) hx hb dL_law_801 (by decide) ?_
  refine lv_iadd hx hb dL_law_802 ?_
  refine lv_topi (fun y9 ey9 => ?_)
  obtain rfl : y9 = 145 := by rw [ey9] <;> decide
  refine va_sld hx hb hX hbl hbA hS (zx_bn (by decide)) dL_law_803 ?_
  refine lv_topi (fun y9 ey9 => ?_)
  obtain rfl : y9 = 0 := ey9.trans (by decide)
  refine lv_aload_n hx hb dL_law_804 rfl (lv_at hl 4 rfl) ?_
  refine lv_iload hx hb dL_law_805 (lv_at hl 0 rfl) ?_
  refine lv_iconst (v := 2) hx hb dL_law_807 (by decide) ?_
  refine lv_iadd hx hb dL_law_808 ?_
  refine lv_topi (fun y9 ey9 => ?_)
  obtain rfl : y9 = 146 := by rw [ey9] <;> decide
  refine va_sld hx hb hX hbl hbA hS (zx_bn (by decide)) dL_law_809 ?_
  refine lv_topi (fun y9 ey9 => ?_)
  obtain rfl : y9 = 0 := ey9.trans (by decide)
  refine lv_aload_n hx hb dL_law_810 rfl (lv_at hl 4 rfl) ?_
  refine lv_iload hx hb dL_law_811 (lv_at hl 0 rfl) ?_
  refine lv_iconst (v := 3) hx hb dL_law_813 (by decide) ?_
  refine lv_iadd hx hb dL_law_814 ?_
  refine lv_topi (fun y9 ey9 => ?_)
  obtain rfl : y9 = 147 := by rw [ey9] <;> decide
  refine va_sld hx hb hX hbl hbA hS (zx_bn (by decide)) dL_law_815 ?_
  refine lv_topi (fun y9 ey9 => ?_)
  obtain rfl : y9 = 0 := ey9.trans (by decide)
  refine lv_aload_n hx hb dL_law_816 rfl (lv_at hl 1 rfl) ?_
  have hPc := hP.sub (ws' := [(h, .inr (13, [.ref pe, .ref ne, .ref pa, .ref ro, .int 0])), (pe, .inr (9, [.int 20, .ref a1, .ref a2, .ref a3, .ref a4, .ref a5, .ref a6, .ref a7, .ref a8, .ref a9])), (pa, .inr (4, [.int mc, .ref el, .int 4])), (el, .inl (cy 2, 10, .inr (.inr (.inr (.inr g))))), (oa, .inl (cy 3, 1, .inr (.inl og)))]) [0, 1, 5, 6, 12] rfl
  have hDc := hD.sub (ws' := [(h, .inr (13, [.ref pe, .ref ne, .ref pa, .ref ro, .int 0])), (pe, .inr (9, [.int 20, .ref a1, .ref a2, .ref a3, .ref a4, .ref a5, .ref a6, .ref a7, .ref a8, .ref a9])), (pa, .inr (4, [.int mc, .ref el, .int 4])), (el, .inl (cy 2, 10, .inr (.inr (.inr (.inr g))))), (oa, .inl (cy 3, 1, .inr (.inl og)))]) [0, 1, 5, 6, 12] (by decide) rfl
  have hFc := va_free (wc := [(h, .inr (13, [.ref pe, .ref ne, .ref pa, .ref ro, .int 0])), (pe, .inr (9, [.int 20, .ref a1, .ref a2, .ref a3, .ref a4, .ref a5, .ref a6, .ref a7, .ref a8, .ref a9])), (pa, .inr (4, [.int mc, .ref el, .int 4])), (el, .inl (cy 2, 10, .inr (.inr (.inr (.inr g))))), (oa, .inl (cy 3, 1, .inr (.inl og)))]) hD hS hA [0, 1, 5, 6, 12] rfl
  refine vx_calli (vx_runSX (As := [.ref h, .int 0, .int 0, .int 0, .ref oa]) (rest := []) ⟨hx, hb, hml, hown, hts⟩ (c_L_begin_4 l hst D cy ed H.size h pe ne pa ro 0 a1 a2 a3 a4 a5 a6 a7 a8 a9 mc el g oa og) (vx_cwSW 5 hts (zx_GS mm_565 mm_566 mm_70 mm_567) rfl rfl rfl (by decide +kernel) ⟨(Nat.le_of_ble_eq_true rfl), (Nat.le_of_ble_eq_true rfl)⟩) ⟨zx_blind, zx_give hPc hK hDc hS hFc hZ hN⟩ rfl rfl hl.1 rfl (lv_room (Nat.le_of_ble_eq_true rfl)) dL_law_817 ⟨(Nat.le_of_ble_eq_true rfl), (Nat.le_of_ble_eq_true rfl)⟩) hS (fun q _ h => hFc q h) hFc (fun q _ h => hFc q h) (fun E9 ce9 q9 _ t H locs ht hvm _ hBX hz1 hk1 hS hce hcv hcl => ?_) (fun r9 u t H locs ht hvm hw hB hz1 hk1 hS => ?_)
  · exact hBX.elim
  ·
    obtain ⟨mx_1711, qx_1712, g2_1713, y_1714, rl_1715, fy_1716, o2_1717⟩ := u
    obtain ⟨rfl, h_1718⟩ := hw
    obtain ⟨hP, hD⟩ := zx_join (wr := [(a1, .inl (cy 0, 20, .inl f1)), (a2, .inl (cy 0, 20, .inl f2)), (ro, .inl (cy 0, 20, .inl f0)), (m0, .inr (20, [.int 0, .ref mp, .int 0, .ref b1, .ref b2, .ref b3, .ref b4, .ref b5, .ref mq])), (mp, .inr (4, [.int mm, .ref ep, .int 20])), (ep, .inl (cy 2, 22, .inr (.inr (.inr (.inr gp))))), (mq, .inr (4, [.int mn, .ref eq, .int 4])), (eq, .inl (cy 2, 10, .inr (.inr (.inr (.inr gq))))), (y0, .inr (8, q0)), (r0, .inr (4, [.int 0, .ref ed, .int 0])), (y1, .inr (8, q1)), (r1, .inr (4, [.int 0, .ref ed, .int 0])), (y2, .inr (8, q2)), (r2, .inr (4, [.int 0, .ref ed, .int 0])), (y3, .inr (8, q3)), (r3, .inr (4, [.int 0, .ref ed, .int 0])), (z0, .inr (16, u0)), (v0, .inr (4, [.int 0, .ref ed, .int 0])), (z1, .inr (16, u1)), (v1, .inr (4, [.int 0, .ref ed, .int 0])), (z2, .inr (16, u2)), (v2, .inr (4, [.int 0, .ref ed, .int 0])), (z3, .inr (16, u3)), (v3, .inr (4, [.int 0, .ref ed, .int 0]))]) (w1 := [(h, .inr (13, [.ref pe, .ref ne, .ref pa, .ref ro, .int 0])), (pe, .inr (9, [.int 20, .ref a1, .ref a2, .ref a3, .ref a4, .ref a5, .ref a6, .ref a7, .ref a8, .ref a9])), (pa, .inr (4, [.int mx_1711, .ref qx_1712, .int 5])), (qx_1712, .inl (cy 2, 10, .inr (.inr (.inr (.inr g2_1713))))), (y_1714, .inr (8, fy_1716)), (rl_1715, .inr (4, [.int 0, .ref ed, .int 0])), (oa, .inl (cy 3, 1, .inr (.inl o2_1717)))]) [0, 1, 5, 6, 12] [2, 3, 4, 7, 8, 9, 10, 11, 13, 14, 15, 16, 17, 18, 19, 20, 21, 22, 23, 24, 25, 26, 27, 28] rfl rfl (by decide) (by decide) hP hD hk1 hFc hB ht
    have hP : va_P D vwCl [(a1, .inl (cy 0, 20, .inl f1)), (a2, .inl (cy 0, 20, .inl f2)), (ro, .inl (cy 0, 20, .inl f0)), (m0, .inr (20, [.int 0, .ref mp, .int 0, .ref b1, .ref b2, .ref b3, .ref b4, .ref b5, .ref mq])), (mp, .inr (4, [.int mm, .ref ep, .int 20])), (ep, .inl (cy 2, 22, .inr (.inr (.inr (.inr gp))))), (mq, .inr (4, [.int mn, .ref eq, .int 4])), (eq, .inl (cy 2, 10, .inr (.inr (.inr (.inr gq))))), (y0, .inr (8, q0)), (r0, .inr (4, [.int 0, .ref ed, .int 0])), (y1, .inr (8, q1)), (r1, .inr (4, [.int 0, .ref ed, .int 0])), (y2, .inr (8, q2)), (r2, .inr (4, [.int 0, .ref ed, .int 0])), (y3, .inr (8, q3)), (r3, .inr (4, [.int 0, .ref ed, .int 0])), (z0, .inr (16, u0)), (v0, .inr (4, [.int 0, .ref ed, .int 0])), (z1, .inr (16, u1)), (v1, .inr (4, [.int 0, .ref ed, .int 0])), (z2, .inr (16, u2)), (v2, .inr (4, [.int 0, .ref ed, .int 0])), (z3, .inr (16, u3)), (v3, .inr (4, [.int 0, .ref ed, .int 0])), (h, .inr (13, [.ref pe, .ref ne, .ref pa, .ref ro, .int 0])), (pe, .inr (9, [.int 20, .ref a1, .ref a2, .ref a3, .ref a4, .ref a5, .ref a6, .ref a7, .ref a8, .ref a9])), (pa, .inr (4, [.int mx_1711, .ref qx_1712, .int 5])), (qx_1712, .inl (cy 2, 10, .inr (.inr (.inr (.inr g2_1713))))), (y_1714, .inr (8, fy_1716)), (rl_1715, .inr (4, [.int 0, .ref ed, .int 0])), (oa, .inl (cy 3, 1, .inr (.inl o2_1717)))] H := hP
    have hD : va_D A [(a1, .inl (cy 0, 20, .inl f1)), (a2, .inl (cy 0, 20, .inl f2)), (ro, .inl (cy 0, 20, .inl f0)), (m0, .inr (20, [.int 0, .ref mp, .int 0, .ref b1, .ref b2, .ref b3, .ref b4, .ref b5, .ref mq])), (mp, .inr (4, [.int mm, .ref ep, .int 20])), (ep, .inl (cy 2, 22, .inr (.inr (.inr (.inr gp))))), (mq, .inr (4, [.int mn, .ref eq, .int 4])), (eq, .inl (cy 2, 10, .inr (.inr (.inr (.inr gq))))), (y0, .inr (8, q0)), (r0, .inr (4, [.int 0, .ref ed, .int 0])), (y1, .inr (8, q1)), (r1, .inr (4, [.int 0, .ref ed, .int 0])), (y2, .inr (8, q2)), (r2, .inr (4, [.int 0, .ref ed, .int 0])), (y3, .inr (8, q3)), (r3, .inr (4, [.int 0, .ref ed, .int 0])), (z0, .inr (16, u0)), (v0, .inr (4, [.int 0, .ref ed, .int 0])), (z1, .inr (16, u1)), (v1, .inr (4, [.int 0, .ref ed, .int 0])), (z2, .inr (16, u2)), (v2, .inr (4, [.int 0, .ref ed, .int 0])), (z3, .inr (16, u3)), (v3, .inr (4, [.int 0, .ref ed, .int 0])), (h, .inr (13, [.ref pe, .ref ne, .ref pa, .ref ro, .int 0])), (pe, .inr (9, [.int 20, .ref a1, .ref a2, .ref a3, .ref a4, .ref a5, .ref a6, .ref a7, .ref a8, .ref a9])), (pa, .inr (4, [.int mx_1711, .ref qx_1712, .int 5])), (qx_1712, .inl (cy 2, 10, .inr (.inr (.inr (.inr g2_1713))))), (y_1714, .inr (8, fy_1716)), (rl_1715, .inr (4, [.int 0, .ref ed, .int 0])), (oa, .inl (cy 3, 1, .inr (.inl o2_1717)))] := hD
    refine W.widen (k := 211) (n := 3157) (Nat.le_of_ble_eq_true rfl) (Nat.le_of_ble_eq_true rfl) ?_
    obtain ⟨hs_1719, hs_1720, hs_1721, hs_1722⟩ := h_1718
    refine lv_istore (lv' := [(6, .int 0), (5, .int 144), (3, .ref oa), (2, .ref m0), (1, .ref h), (0, .ref b)]) hx hb dL_law_820 hl (by decide) rfl (fun ls hl => ?_)
    refine lv_aload_n hx hb dL_law_822 rfl (lv_at hl 3 rfl) ?_
    refine lv_aload_n hx hb dL_law_823 rfl (lv_at hl 5 rfl) ?_
    refine lv_iload hx hb dL_law_824 (lv_at hl 1 rfl) ?_
    refine lv_iconst (v := 1) hx hb dL_law_826 (by decide) ?_
    refine lv_iadd hx hb dL_law_827 ?_
    refine lv_topi (fun y9 ey9 => ?_)
    obtain rfl : y9 = 145 := by rw [ey9] <;> decide
    refine va_sld hx hb hX hbl hbA hS (zx_bn (by decide)) dL_law_828 ?_
    refine lv_topi (fun y9 ey9 => ?_)
    obtain rfl : y9 = 0 := ey9.trans (by decide)
    refine lv_aload_n hx hb dL_law_829 rfl (lv_at hl 5 rfl) ?_
    refine lv_iload hx hb dL_law_830 (lv_at hl 1 rfl) ?_
    refine lv_iconst (v := 2) hx hb dL_law_832 (by decide) ?_
    refine lv_iadd hx hb dL_law_833 ?_
    refine lv_topi (fun y9 ey9 => ?_)
    obtain rfl : y9 = 146 := by rw [ey9] <;> decide
    refine va_sld hx hb hX hbl hbA hS (zx_bn (by decide)) dL_law_834 ?_
    refine lv_topi (fun y9 ey9 => ?_)
    obtain rfl : y9 = 0 := ey9.trans (by decide)
    refine lv_aload_n hx hb dL_law_835 rfl (lv_at hl 5 rfl) ?_
    refine lv_iload hx hb dL_law_836 (lv_at hl 1 rfl) ?_
    refine lv_iconst (v := 3) hx hb dL_law_838 (by decide) ?_
    refine lv_iadd hx hb dL_law_839 ?_
    refine lv_topi (fun y9 ey9 => ?_)
    obtain rfl : y9 = 147 := by rw [ey9] <;> decide
    refine va_sld hx hb hX hbl hbA hS (zx_bn (by decide)) dL_law_840 ?_
    refine lv_topi (fun y9 ey9 => ?_)
    obtain rfl : y9 = 0 := ey9.trans (by decide)
    have hPc := hP.sub (ws' := [(m0, .inr (20, [.int 0, .ref mp, .int 0, .ref b1, .ref b2, .ref b3, .ref b4, .ref b5, .ref mq])), (mp, .inr (4, [.int mm, .ref ep, .int 20])), (mq, .inr (4, [.int mn, .ref eq, .int 4])), (eq, .inl (cy 2, 10, .inr (.inr (.inr (.inr gq)))))]) [3, 4, 6, 7] rfl
    have hDc := hD.sub (ws' := [(m0, .inr (20, [.int 0, .ref mp, .int 0, .ref b1, .ref b2, .ref b3, .ref b4, .ref b5, .ref mq])), (mp, .inr (4, [.int mm, .ref ep, .int 20])), (mq, .inr (4, [.int mn, .ref eq, .int 4])), (eq, .inl (cy 2, 10, .inr (.inr (.inr (.inr gq)))))]) [3, 4, 6, 7] (by decide) rfl
    have hFc := va_free (wc := [(m0, .inr (20, [.int 0, .ref mp, .int 0, .ref b1, .ref b2, .ref b3, .ref b4, .ref b5, .ref mq])), (mp, .inr (4, [.int mm, .ref ep, .int 20])), (mq, .inr (4, [.int mn, .ref eq, .int 4])), (eq, .inl (cy 2, 10, .inr (.inr (.inr (.inr gq)))))]) hD hS hA [3, 4, 6, 7] rfl
    refine va_calli (va_runV (As := [.int 0, .int 0, .int 0]) (rest := []) ⟨hx, hb, hml, hown, hts⟩ (c_X15_begin_4 l hst D cy ed H.size m0 mp mq b1 b2 b3 b4 b5 0 0 mm ep mn eq gq) (cwV 3 hts (zx_GV mm_1783 mm_1784 mm_1785 mm_78 mm_1786) rfl rfl rfl (by decide +kernel) ⟨(Nat.le_of_ble_eq_true rfl), (Nat.le_of_ble_eq_true rfl)⟩) ⟨zx_blind, va_recv hK hPc (ci := 20) (q0 := 0) rfl rfl, zx_give hPc hK hDc hS hFc hZ hN⟩ rfl rfl hl.1 rfl (lv_room (Nat.le_of_ble_eq_true rfl)) dL_law_841 ⟨(Nat.le_of_ble_eq_true rfl), (Nat.le_of_ble_eq_true rfl)⟩) hS (fun q _ h => hFc q h) hFc (fun r9 u t H1 locs ht hvm hw hB hz1 hk1 hS => ?_)
    obtain ⟨mx_1723, qx_1724, g2_1725, y_1726, rl_1727, fy_1728⟩ := u
    obtain ⟨rfl, h_1729⟩ := hw
    obtain ⟨hP, hD⟩ := zx_join (wr := [(a1, .inl (cy 0, 20, .inl f1)), (a2, .inl (cy 0, 20, .inl f2)), (ro, .inl (cy 0, 20, .inl f0)), (ep, .inl (cy 2, 22, .inr (.inr (.inr (.inr gp))))), (y0, .inr (8, q0)), (r0, .inr (4, [.int 0, .ref ed, .int 0])), (y1, .inr (8, q1)), (r1, .inr (4, [.int 0, .ref ed, .int 0])), (y2, .inr (8, q2)), (r2, .inr (4, [.int 0, .ref ed, .int 0])), (y3, .inr (8, q3)), (r3, .inr (4, [.int 0, .ref ed, .int 0])), (z0, .inr (16, u0)), (v0, .inr (4, [.int 0, .ref ed, .int 0])), (z1, .inr (16, u1)), (v1, .inr (4, [.int 0, .ref ed, .int 0])), (z2, .inr (16, u2)), (v2, .inr (4, [.int 0, .ref ed, .int 0])), (z3, .inr (16, u3)), (v3, .inr (4, [.int 0, .ref ed, .int 0])), (h, .inr (13, [.ref pe, .ref ne, .ref pa, .ref ro, .int 0])), (pe, .inr (9, [.int 20, .ref a1, .ref a2, .ref a3, .ref a4, .ref a5, .ref a6, .ref a7, .ref a8, .ref a9])), (pa, .inr (4, [.int mx_1711, .ref qx_1712, .int 5])), (qx_1712, .inl (cy 2, 10, .inr (.inr (.inr (.inr g2_1713))))), (y_1714, .inr (8, fy_1716)), (rl_1715, .inr (4, [.int 0, .ref ed, .int 0])), (oa, .inl (cy 3, 1, .inr (.inl o2_1717)))]) (w1 := [(m0, .inr (20, [.int 0, .ref mp, .int 0, .ref b1, .ref b2, .ref b3, .ref b4, .ref b5, .ref mq])), (mp, .inr (4, [.int mm, .ref ep, .int 20])), (mq, .inr (4, [.int mx_1723, .ref qx_1724, .int 5])), (qx_1724, .inl (cy 2, 10, .inr (.inr (.inr (.inr g2_1725))))), (y_1726, .inr (16, fy_1728)), (rl_1727, .inr (4, [.int 0, .ref ed, .int 0]))]) [3, 4, 6, 7] [0, 1, 2, 5, 8, 9, 10, 11, 12, 13, 14, 15, 16, 17, 18, 19, 20, 21, 22, 23, 24, 25, 26, 27, 28, 29, 30] rfl rfl (by decide) (by decide) hP hD hk1 hFc hB ht
    generalize H1 = H at hP hS ⊢
    have hP : va_P D vwCl [(a1, .inl (cy 0, 20, .inl f1)), (a2, .inl (cy 0, 20, .inl f2)), (ro, .inl (cy 0, 20, .inl f0)), (ep, .inl (cy 2, 22, .inr (.inr (.inr (.inr gp))))), (y0, .inr (8, q0)), (r0, .inr (4, [.int 0, .ref ed, .int 0])), (y1, .inr (8, q1)), (r1, .inr (4, [.int 0, .ref ed, .int 0])), (y2, .inr (8, q2)), (r2, .inr (4, [.int 0, .ref ed, .int 0])), (y3, .inr (8, q3)), (r3, .inr (4, [.int 0, .ref ed, .int 0])), (z0, .inr (16, u0)), (v0, .inr (4, [.int 0, .ref ed, .int 0])), (z1, .inr (16, u1)), (v1, .inr (4, [.int 0, .ref ed, .int 0])), (z2, .inr (16, u2)), (v2, .inr (4, [.int 0, .ref ed, .int 0])), (z3, .inr (16, u3)), (v3, .inr (4, [.int 0, .ref ed, .int 0])), (h, .inr (13, [.ref pe, .ref ne, .ref pa, .ref ro, .int 0])), (pe, .inr (9, [.int 20, .ref a1, .ref a2, .ref a3, .ref a4, .ref a5, .ref a6, .ref a7, .ref a8, .ref a9])), (pa, .inr (4, [.int mx_1711, .ref qx_1712, .int 5])), (qx_1712, .inl (cy 2, 10, .inr (.inr (.inr (.inr g2_1713))))), (y_1714, .inr (8, fy_1716)), (rl_1715, .inr (4, [.int 0, .ref ed, .int 0])), (oa, .inl (cy 3, 1, .inr (.inl o2_1717))), (m0, .inr (20, [.int 0, .ref mp, .int 0, .ref b1, .ref b2, .ref b3, .ref b4, .ref b5, .ref mq])), (mp, .inr (4, [.int mm, .ref ep, .int 20])), (mq, .inr (4, [.int mx_1723, .ref qx_1724, .int 5])), (qx_1724, .inl (cy 2, 10, .inr (.inr (.inr (.inr g2_1725))))), (y_1726, .inr (16, fy_1728)), (rl_1727, .inr (4, [.int 0, .ref ed, .int 0]))] H := hP
    have hD : va_D A [(a1, .inl (cy 0, 20, .inl f1)), (a2, .inl (cy 0, 20, .inl f2)), (ro, .inl (cy 0, 20, .inl f0)), (ep, .inl (cy 2, 22, .inr (.inr (.inr (.inr gp))))), (y0, .inr (8, q0)), (r0, .inr (4, [.int 0, .ref ed, .int 0])), (y1, .inr (8, q1)), (r1, .inr (4, [.int 0, .ref ed, .int 0])), (y2, .inr (8, q2)), (r2, .inr (4, [.int 0, .ref ed, .int 0])), (y3, .inr (8, q3)), (r3, .inr (4, [.int 0, .ref ed, .int 0])), (z0, .inr (16, u0)), (v0, .inr (4, [.int 0, .ref ed, .int 0])), (z1, .inr (16, u1)), (v1, .inr (4, [.int 0, .ref ed, .int 0])), (z2, .inr (16, u2)), (v2, .inr (4, [.int 0, .ref ed, .int 0])), (z3, .inr (16, u3)), (v3, .inr (4, [.int 0, .ref ed, .int 0])), (h, .inr (13, [.ref pe, .ref ne, .ref pa, .ref ro, .int 0])), (pe, .inr (9, [.int 20, .ref a1, .ref a2, .ref a3, .ref a4, .ref a5, .ref a6, .ref a7, .ref a8, .ref a9])), (pa, .inr (4, [.int mx_1711, .ref qx_1712, .int 5])), (qx_1712, .inl (cy 2, 10, .inr (.inr (.inr (.inr g2_1713))))), (y_1714, .inr (8, fy_1716)), (rl_1715, .inr (4, [.int 0, .ref ed, .int 0])), (oa, .inl (cy 3, 1, .inr (.inl o2_1717))), (m0, .inr (20, [.int 0, .ref mp, .int 0, .ref b1, .ref b2, .ref b3, .ref b4, .ref b5, .ref mq])), (mp, .inr (4, [.int mm, .ref ep, .int 20])), (mq, .inr (4, [.int mx_1723, .ref qx_1724, .int 5])), (qx_1724, .inl (cy 2, 10, .inr (.inr (.inr (.inr g2_1725))))), (y_1726, .inr (16, fy_1728)), (rl_1727, .inr (4, [.int 0, .ref ed, .int 0]))] := hD
    refine W.widen (k := 220) (n := 3247) (Nat.le_of_ble_eq_true rfl) (Nat.le_of_ble_eq_true rfl) ?_
    obtain ⟨hs_1730, hs_1731, hs_1732⟩ := h_1729
    refine lv_istore (lv' := [(7, .int 4), (6, .int 0), (5, .int 144), (3, .ref oa), (2, .ref m0), (1, .ref h), (0, .ref b)]) hx hb dL_law_844 hl (by decide) rfl (fun ls hl => ?_)
    refine lv_aload_n hx hb dL_law_846 rfl (lv_at hl 4 rfl) ?_
    have hPc := hP.sub (ws' := [(m0, .inr (20, [.int 0, .ref mp, .int 0, .ref b1, .ref b2, .ref b3, .ref b4, .ref b5, .ref mq]))]) [27] rfl
    have hDc := hD.sub (ws' := [(m0, .inr (20, [.int 0, .ref mp, .int 0, .ref b1, .ref b2, .ref b3, .ref b4, .ref b5, .ref mq]))]) [27] (by decide) rfl
    have hFc := va_free (wc := [(m0, .inr (20, [.int 0, .ref mp, .int 0, .ref b1, .ref b2, .ref b3, .ref b4, .ref b5, .ref mq]))]) hD hS hA [27] rfl
    refine va_calli (va_runV (As := []) (rest := []) ⟨hx, hb, hml, hown, hts⟩ (c_X15_thrown l hst D cy ed H.size m0 mp mq b1 b2 b3 b4 b5 0 0) (cwV 0 hts (zx_GV mm_1599 mm_1600 mm_1601 mm_78 mm_1602) rfl rfl rfl (by decide +kernel) ⟨(Nat.le_of_ble_eq_true rfl), (Nat.le_of_ble_eq_true rfl)⟩) ⟨zx_blind, va_recv hK hPc (ci := 20) (q0 := 0) rfl rfl, zx_give hPc hK hDc hS hFc hZ hN⟩ rfl rfl hl.1 rfl (lv_room (Nat.le_of_ble_eq_true rfl)) dL_law_847 ⟨(Nat.le_of_ble_eq_true rfl), (Nat.le_of_ble_eq_true rfl)⟩) hS (fun q _ h => hFc q h) hFc (fun r9 u t H1 locs ht hvm hw hB hz1 hk1 hS => ?_)
    obtain rfl : r9 = 0 := hw
    obtain ⟨hP, hD⟩ := zx_join (wr := [(a1, .inl (cy 0, 20, .inl f1)), (a2, .inl (cy 0, 20, .inl f2)), (ro, .inl (cy 0, 20, .inl f0)), (ep, .inl (cy 2, 22, .inr (.inr (.inr (.inr gp))))), (y0, .inr (8, q0)), (r0, .inr (4, [.int 0, .ref ed, .int 0])), (y1, .inr (8, q1)), (r1, .inr (4, [.int 0, .ref ed, .int 0])), (y2, .inr (8, q2)), (r2, .inr (4, [.int 0, .ref ed, .int 0])), (y3, .inr (8, q3)), (r3, .inr (4, [.int 0, .ref ed, .int 0])), (z0, .inr (16, u0)), (v0, .inr (4, [.int 0, .ref ed, .int 0])), (z1, .inr (16, u1)), (v1, .inr (4, [.int 0, .ref ed, .int 0])), (z2, .inr (16, u2)), (v2, .inr (4, [.int 0, .ref ed, .int 0])), (z3, .inr (16, u3)), (v3, .inr (4, [.int 0, .ref ed, .int 0])), (h, .inr (13, [.ref pe, .ref ne, .ref pa, .ref ro, .int 0])), (pe, .inr (9, [.int 20, .ref a1, .ref a2, .ref a3, .ref a4, .ref a5, .ref a6, .ref a7, .ref a8, .ref a9])), (pa, .inr (4, [.int mx_1711, .ref qx_1712, .int 5])), (qx_1712, .inl (cy 2, 10, .inr (.inr (.inr (.inr g2_1713))))), (y_1714, .inr (8, fy_1716)), (rl_1715, .inr (4, [.int 0, .ref ed, .int 0])), (oa, .inl (cy 3, 1, .inr (.inl o2_1717))), (mp, .inr (4, [.int mm, .ref ep, .int 20])), (mq, .inr (4, [.int mx_1723, .ref qx_1724, .int 5])), (qx_1724, .inl (cy 2, 10, .inr (.inr (.inr (.inr g2_1725))))), (y_1726, .inr (16, fy_1728)), (rl_1727, .inr (4, [.int 0, .ref ed, .int 0]))]) (w1 := [(m0, .inr (20, [.int 0, .ref mp, .int 0, .ref b1, .ref b2, .ref b3, .ref b4, .ref b5, .ref mq]))]) [27] [0, 1, 2, 3, 4, 5, 6, 7, 8, 9, 10, 11, 12, 13, 14, 15, 16, 17, 18, 19, 20, 21, 22, 23, 24, 25, 26, 28, 29, 30, 31, 32] rfl rfl (by decide) (by decide) hP hD hk1 hFc hB ht
    generalize H1 = H at hP hS ⊢
    have hP : va_P D vwCl [(a1, .inl (cy 0, 20, .inl f1)), (a2, .inl (cy 0, 20, .inl f2)), (ro, .inl (cy 0, 20, .inl f0)), (ep, .inl (cy 2, 22, .inr (.inr (.inr (.inr gp))))), (y0, .inr (8, q0)), (r0, .inr (4, [.int 0, .ref ed, .int 0])), (y1, .inr (8, q1)), (r1, .inr (4, [.int 0, .ref ed, .int 0])), (y2, .inr (8, q2)), (r2, .inr (4, [.int 0, .ref ed, .int 0])), (y3, .inr (8, q3)), (r3, .inr (4, [.int 0, .ref ed, .int 0])), (z0, .inr (16, u0)), (v0, .inr (4, [.int 0, .ref ed, .int 0])), (z1, .inr (16, u1)), (v1, .inr (4, [.int 0, .ref ed, .int 0])), (z2, .inr (16, u2)), (v2, .inr (4, [.int 0, .ref ed, .int 0])), (z3, .inr (16, u3)), (v3, .inr (4, [.int 0, .ref ed, .int 0])), (h, .inr (13, [.ref pe, .ref ne, .ref pa, .ref ro, .int 0])), (pe, .inr (9, [.int 20, .ref a1, .ref a2, .ref a3, .ref a4, .ref a5, .ref a6, .ref a7, .ref a8, .ref a9])), (pa, .inr (4, [.int mx_1711, .ref qx_1712, .int 5])), (qx_1712, .inl (cy 2, 10, .inr (.inr (.inr (.inr g2_1713))))), (y_1714, .inr (8, fy_1716)), (rl_1715, .inr (4, [.int 0, .ref ed, .int 0])), (oa, .inl (cy 3, 1, .inr (.inl o2_1717))), (mp, .inr (4, [.int mm, .ref ep, .int 20])), (mq, .inr (4, [.int mx_1723, .ref qx_1724, .int 5])), (qx_1724, .inl (cy 2, 10, .inr (.inr (.inr (.inr g2_1725))))), (y_1726, .inr (16, fy_1728)), (rl_1727, .inr (4, [.int 0, .ref ed, .int 0])), (m0, .inr (20, [.int 0, .ref mp, .int 0, .ref b1, .ref b2, .ref b3, .ref b4, .ref b5, .ref mq]))] H := hP
    have hD : va_D A [(a1, .inl (cy 0, 20, .inl f1)), (a2, .inl (cy 0, 20, .inl f2)), (ro, .inl (cy 0, 20, .inl f0)), (ep, .inl (cy 2, 22, .inr (.inr (.inr (.inr gp))))), (y0, .inr (8, q0)), (r0, .inr (4, [.int 0, .ref ed, .int 0])), (y1, .inr (8, q1)), (r1, .inr (4, [.int 0, .ref ed, .int 0])), (y2, .inr (8, q2)), (r2, .inr (4, [.int 0, .ref ed, .int 0])), (y3, .inr (8, q3)), (r3, .inr (4, [.int 0, .ref ed, .int 0])), (z0, .inr (16, u0)), (v0, .inr (4, [.int 0, .ref ed, .int 0])), (z1, .inr (16, u1)), (v1, .inr (4, [.int 0, .ref ed, .int 0])), (z2, .inr (16, u2)), (v2, .inr (4, [.int 0, .ref ed, .int 0])), (z3, .inr (16, u3)), (v3, .inr (4, [.int 0, .ref ed, .int 0])), (h, .inr (13, [.ref pe, .ref ne, .ref pa, .ref ro, .int 0])), (pe, .inr (9, [.int 20, .ref a1, .ref a2, .ref a3, .ref a4, .ref a5, .ref a6, .ref a7, .ref a8, .ref a9])), (pa, .inr (4, [.int mx_1711, .ref qx_1712, .int 5])), (qx_1712, .inl (cy 2, 10, .inr (.inr (.inr (.inr g2_1713))))), (y_1714, .inr (8, fy_1716)), (rl_1715, .inr (4, [.int 0, .ref ed, .int 0])), (oa, .inl (cy 3, 1, .inr (.inl o2_1717))), (mp, .inr (4, [.int mm, .ref ep, .int 20])), (mq, .inr (4, [.int mx_1723, .ref qx_1724, .int 5])), (qx_1724, .inl (cy 2, 10, .inr (.inr (.inr (.inr g2_1725))))), (y_1726, .inr (16, fy_1728)), (rl_1727, .inr (4, [.int 0, .ref ed, .int 0])), (m0, .inr (20, [.int 0, .ref mp, .int 0, .ref b1, .ref b2, .ref b3, .ref b4, .ref b5, .ref mq]))] := hD
    refine W.widen (k := 220) (n := 3247) (Nat.le_of_ble_eq_true rfl) (Nat.le_of_ble_eq_true rfl) ?_
    refine lv_iload hx hb dL_law_850 (lv_at hl 1 rfl) ?_
    refine lv_icmp_eq (tgt := 857) hx hb dL_law_852 (by decide) (fun _ => ?_) (fun c_1733 => absurd (by decide) c_1733)
    refine lv_iload hx hb dL_law_857 (lv_at hl 1 rfl) ?_
    refine lv_if_ne (tgt := 874) hx hb dL_law_859 (by decide) (fun c_1734 => absurd c_1734 (by decide)) (fun _ => ?_)
    refine lv_aload_n hx hb dL_law_862 rfl (lv_at hl 3 rfl) ?_
    refine lv_iconst (v := 0) hx hb dL_law_863 (by decide) ?_
    refine va_lald hx hb hK hP 26 3 rfl rfl (zx_bn (by decide)) dL_law_864 ?_
    refine lv_iload hx hb dL_law_865 (lv_at hl 0 rfl) ?_
    refine lv_i2l (v := 4) hx hb dL_law_867 rfl ?_
    refine W.lcmp hx hb dL_law_868 ?_
    refine lv_topi (fun y9 ey9 => ?_)
    obtain rfl : y9 = 0 := ey9.trans (zx_lcmpe hs_1719)
    refine lv_if_eq (tgt := 874) hx hb dL_law_869 (by decide) (fun _ => ?_) (fun c_1735 => absurd (by decide) c_1735)
    refine lv_goto (tgt := 4257) hx hb dL_law_874 (by decide) ?_
    refine lv_iinc (v := 150) (lv' := [(5, .int 150), (7, .int 4), (6, .int 0), (3, .ref oa), (2, .ref m0), (1, .ref h), (0, .ref b)]) hx hb dL_law_4257 hl (k := 2) rfl (by decide) (by decide) rfl (fun ls hl => ?_)
    refine lv_goto (tgt := 28) hx hb dL_law_4260 (by decide) ?_
    have hP := hP.sub (ws' := [(h, .inr (13, [.ref pe, .ref ne, .ref pa, .ref ro, .int 0])), (pe, .inr (9, [.int 20, .ref a1, .ref a2, .ref a3, .ref a4, .ref a5, .ref a6, .ref a7, .ref a8, .ref a9])), (a1, .inl (cy 0, 20, .inl f1)), (a2, .inl (cy 0, 20, .inl f2)), (ro, .inl (cy 0, 20, .inl f0)), (pa, .inr (4, [.int mx_1711, .ref qx_1712, .int 5])), (qx_1712, .inl (cy 2, 10, .inr (.inr (.inr (.inr g2_1713))))), (m0, .inr (20, [.int 0, .ref mp, .int 0, .ref b1, .ref b2, .ref b3, .ref b4, .ref b5, .ref mq])), (mp, .inr (4, [.int mm, .ref ep, .int 20])), (ep, .inl (cy 2, 22, .inr (.inr (.inr (.inr gp))))), (mq, .inr (4, [.int mx_1723, .ref qx_1724, .int 5])), (qx_1724, .inl (cy 2, 10, .inr (.inr (.inr (.inr g2_1725))))), (oa, .inl (cy 3, 1, .inr (.inl o2_1717))), (y0, .inr (8, q0)), (r0, .inr (4, [.int 0, .ref ed, .int 0])), (y1, .inr (8, q1)), (r1, .inr (4, [.int 0, .ref ed, .int 0])), (y2, .inr (8, q2)), (r2, .inr (4, [.int 0, .ref ed, .int 0])), (y3, .inr (8, q3)), (r3, .inr (4, [.int 0, .ref ed, .int 0])), (y_1714, .inr (8, fy_1716)), (rl_1715, .inr (4, [.int 0, .ref ed, .int 0])), (z0, .inr (16, u0)), (v0, .inr (4, [.int 0, .ref ed, .int 0])), (z1, .inr (16, u1)), (v1, .inr (4, [.int 0, .ref ed, .int 0])), (z2, .inr (16, u2)), (v2, .inr (4, [.int 0, .ref ed, .int 0])), (z3, .inr (16, u3)), (v3, .inr (4, [.int 0, .ref ed, .int 0])), (y_1726, .inr (16, fy_1728)), (rl_1727, .inr (4, [.int 0, .ref ed, .int 0]))]) [20, 21, 0, 1, 2, 22, 23, 32, 27, 3, 28, 29, 26, 4, 5, 6, 7, 8, 9, 10, 11, 24, 25, 12, 13, 14, 15, 16, 17, 18, 19, 30, 31] rfl
    have hD := hD.sub (ws' := [(h, .inr (13, [.ref pe, .ref ne, .ref pa, .ref ro, .int 0])), (pe, .inr (9, [.int 20, .ref a1, .ref a2, .ref a3, .ref a4, .ref a5, .ref a6, .ref a7, .ref a8, .ref a9])), (a1, .inl (cy 0, 20, .inl f1)), (a2, .inl (cy 0, 20, .inl f2)), (ro, .inl (cy 0, 20, .inl f0)), (pa, .inr (4, [.int mx_1711, .ref qx_1712, .int 5])), (qx_1712, .inl (cy 2, 10, .inr (.inr (.inr (.inr g2_1713))))), (m0, .inr (20, [.int 0, .ref mp, .int 0, .ref b1, .ref b2, .ref b3, .ref b4, .ref b5, .ref mq])), (mp, .inr (4, [.int mm, .ref ep, .int 20])), (ep, .inl (cy 2, 22, .inr (.inr (.inr (.inr gp))))), (mq, .inr (4, [.int mx_1723, .ref qx_1724, .int 5])), (qx_1724, .inl (cy 2, 10, .inr (.inr (.inr (.inr g2_1725))))), (oa, .inl (cy 3, 1, .inr (.inl o2_1717))), (y0, .inr (8, q0)), (r0, .inr (4, [.int 0, .ref ed, .int 0])), (y1, .inr (8, q1)), (r1, .inr (4, [.int 0, .ref ed, .int 0])), (y2, .inr (8, q2)), (r2, .inr (4, [.int 0, .ref ed, .int 0])), (y3, .inr (8, q3)), (r3, .inr (4, [.int 0, .ref ed, .int 0])), (y_1714, .inr (8, fy_1716)), (rl_1715, .inr (4, [.int 0, .ref ed, .int 0])), (z0, .inr (16, u0)), (v0, .inr (4, [.int 0, .ref ed, .int 0])), (z1, .inr (16, u1)), (v1, .inr (4, [.int 0, .ref ed, .int 0])), (z2, .inr (16, u2)), (v2, .inr (4, [.int 0, .ref ed, .int 0])), (z3, .inr (16, u3)), (v3, .inr (4, [.int 0, .ref ed, .int 0])), (y_1726, .inr (16, fy_1728)), (rl_1727, .inr (4, [.int 0, .ref ed, .int 0]))]) [20, 21, 0, 1, 2, 22, 23, 32, 27, 3, 28, 29, 26, 4, 5, 6, 7, 8, 9, 10, 11, 24, 25, 12, 13, 14, 15, 16, 17, 18, 19, 30, 31] (by decide) rfl
    exact hnext _ _ _ ⟨pe, ne, pa, ro, a1, a2, a3, a4, a5, a6, a7, a8, a9, mp, mq, b1, b2, b3, b4, b5, ep, qx_1712, qx_1724, mx_1711, mm, mx_1723, f1, f2, f0, o2_1717, gp, g2_1713, g2_1725, y0, y1, y2, y3, y_1714, r0, r1, r2, r3, rl_1715, q0, q1, q2, q3, fy_1716, z0, z1, z2, z3, y_1726, v0, v1, v2, v3, rl_1727, u0, u1, u2, u3, fy_1728, hP, hD, ((hs_1722 0 (by decide)).trans hxe0), ((hs_1722 1 (by decide)).trans hxe1), ((hs_1722 2 (by decide)).trans hxe2), ((hs_1722 3 (by decide)).trans hxe3), hs_1721, hxq0, hxq1, hxq2, hxq3, hs_1720, ((hs_1732 0 (by decide)).trans hme0), ((hs_1732 1 (by decide)).trans hme1), ((hs_1732 2 (by decide)).trans hme2), ((hs_1732 3 (by decide)).trans hme3), hs_1731, hmq0, hmq1, hmq2, hmq3, hs_1730⟩ hS (lv_sub hl [0, 3, 4, 5, 6] rfl)
set_option maxHeartbeats 4000000 in
set_option maxRecDepth 100000 in
theorem law_step_25 {p : Program} {l : Launch} {e : Env} {s : State} {m : MethodId} {below : List Frame} {meth : Method} {c : Code} {D : va_G} {cy : Nat → ClassId} {ed b : Nat} {A : Nat → Prop} {Q : State → Prop} (C0 : zx_LW p l s m c D cy ed b A) {h m0 oa : Nat} {H : Heap} {locs : List Loc} {ls : Array Slot} (h0 : zx_S25 D cy ed A h m0 oa H) (hS : va_S A s.heap H locs) (hl : lv_has ls 9 [(5, .int 150), (3, .ref oa), (2, .ref m0), (1, .ref h), (0, .ref b)])
    (hnext : ∀ (H : Heap) (locs : List Loc) (ls : Array Slot), zx_S26 D cy ed A h m0 oa H → va_S A s.heap H locs → lv_has ls 9 [(5, .int 156), (3, .ref oa), (2, .ref m0), (1, .ref h), (0, .ref b)] → W p l e zx_R s m #[Value.ref b] below meth c H locs 243 3507 Q (F0 m 28 ls [])) :
    W p l e zx_R s m #[Value.ref b] below meth c H locs 220 3247 Q (F0 m 28 ls []) := by
  obtain ⟨hx, hb, hml, hst, hown, hts, hX, hbl, hbA, hA, hK, hZ, hN⟩ := C0
  obtain ⟨pe, ne, pa, ro, a1, a2, a3, a4, a5, a6, a7, a8, a9, mp, mq, b1, b2, b3, b4, b5, ep, el, eq, mc, mm, mn, f1, f2, f0, og, gp, g, gq, y0, y1, y2, y3, y4, r0, r1, r2, r3, r4, q0, q1, q2, q3, q4, z0, z1, z2, z3, z4, v0, v1, v2, v3, v4, u0, u1, u2, u3, u4, hP, hD, hxe0, hxe1, hxe2, hxe3, hxe4, hxq0, hxq1, hxq2, hxq3, hxq4, hme0, hme1, hme2, hme3, hme4, hmq0, hmq1, hmq2, hmq3, hmq4⟩ := h0
  refine lv_iload hx hb dL_law_28 (lv_at hl 0 rfl) ?_
  refine lv_aload_n hx hb dL_law_30 rfl (lv_at hl 4 rfl) ?_
  refine va_slen hx hb hX hbl hbA hS dL_law_31 ?_
  refine lv_topi (fun y9 ey9 => ?_)
  obtain rfl : y9 = 3072 := ey9.trans (by decide)
  refine lv_bipush (v := 6) hx hb dL_law_32 (by decide) ?_
  refine lv_isub hx hb dL_law_34 ?_
  refine lv_topi (fun y9 ey9 => ?_)
  obtain rfl : y9 = 3066 := by rw [ey9] <;> decide
  refine lv_icmp_gt (tgt := 4263) hx hb dL_law_35 (by decide) (fun c_1736 => absurd c_1736 (by decide)) (fun _ => ?_)
  refine lv_aload_n hx hb dL_law_38 rfl (lv_at hl 4 rfl) ?_
  refine lv_iload hx hb dL_law_39 (lv_at hl 0 rfl) ?_
  refine va_sld hx hb hX hbl hbA hS (zx_bn (by decide)) dL_law_41 ?_
  refine lv_topi (fun y9 ey9 => ?_)
  obtain rfl : y9 = 7 := ey9.trans (by decide)
  refine lv_bipush (v := 63) hx hb dL_law_42 (by decide) ?_
  refine lv_iand hx hb dL_law_44 ?_
  refine lv_topi (fun y9 ey9 => ?_)
  obtain rfl : y9 = 7 := by rw [ey9] <;> decide
  refine lv_tableIn (off := 752) (tgt := 797) hx hb dL_law_45 (by decide) (by decide) (by decide) (by decide) ?_
  refine lv_aload_n hx hb dL_law_797 rfl (lv_at hl 3 rfl) ?_
  refine lv_aload_n hx hb dL_law_798 rfl (lv_at hl 4 rfl) ?_
  refine lv_iload hx hb dL_law_799 (lv_at hl 0 rfl) ?_
  refine lv_iconst (v := 1) hx hb dL_law_801 (by decide) ?_
  refine lv_iadd hx hb dL_law_802 ?_
  refine lv_topi (fun y9 ey9 => ?_)
  obtain rfl : y9 = 151 := by rw [ey9] <;> decide
  refine va_sld hx hb hX hbl hbA hS (zx_bn (by decide)) dL_law_803 ?_
  refine lv_topi (fun y9 ey9 => ?_)
  obtain rfl : y9 = 0 := ey9.trans (by decide)
  refine lv_aload_n hx hb dL_law_804 rfl (lv_at hl 4 rfl) ?_
  refine lv_iload hx hb dL_law_805 (lv_at hl 0 rfl) ?_
  refine lv_iconst (v := 2) hx hb dL_law_807 (by decide) ?_
  refine lv_iadd hx hb dL_law_808 ?_
  refine lv_topi (fun y9 ey9 => ?_)
  obtain rfl : y9 = 152 := by rw [ey9] <;> decide
  refine va_sld hx hb hX hbl hbA hS (zx_bn (by decide)) dL_law_809 ?_
  refine lv_topi (fun y9 ey9 => ?_)
  obtain rfl : y9 = 0 := ey9.trans (by decide)
  refine lv_aload_n hx hb dL_law_810 rfl (lv_at hl 4 rfl) ?_
  refine lv_iload hx hb dL_law_811 (lv_at hl 0 rfl) ?_
  refine lv_iconst (v := 3) hx hb dL_law_813 (by decide) ?_
  refine lv_iadd hx hb dL_law_814 ?_
  refine lv_topi (fun y9 ey9 => ?_)
  obtain rfl : y9 = 153 := by rw [ey9] <;> decide
  refine va_sld hx hb hX hbl hbA hS (zx_bn (by decide)) dL_law_815 ?_
  refine lv_topi (fun y9 ey9 => ?_)
  obtain rfl : y9 = 0 := ey9.trans (by decide)
  refine lv_aload_n hx hb dL_law_816 rfl (lv_at hl 1 rfl) ?_
  have hPc := hP.sub (ws' := [(h, .inr (13, [.ref pe, .ref ne, .ref pa, .ref ro, .int 0])), (pe, .inr (9, [.int 20, .ref a1, .ref a2, .ref a3, .ref a4, .ref a5, .ref a6, .ref a7, .ref a8, .ref a9])), (pa, .inr (4, [.int mc, .ref el, .int 5])), (el, .inl (cy 2, 10, .inr (.inr (.inr (.inr g))))), (oa, .inl (cy 3, 1, .inr (.inl og)))]) [0, 1, 5, 6, 12] rfl
  have hDc := hD.sub (ws' := [(h, .inr (13, [.ref pe, .ref ne, .ref pa, .ref ro, .int 0])), (pe, .inr (9, [.int 20, .ref a1, .ref a2, .ref a3, .ref a4, .ref a5, .ref a6, .ref a7, .ref a8, .ref a9])), (pa, .inr (4, [.int mc, .ref el, .int 5])), (el, .inl (cy 2, 10, .inr (.inr (.inr (.inr g))))), (oa, .inl (cy 3, 1, .inr (.inl og)))]) [0, 1, 5, 6, 12] (by decide) rfl
  have hFc := va_free (wc := [(h, .inr (13, [.ref pe, .ref ne, .ref pa, .ref ro, .int 0])), (pe, .inr (9, [.int 20, .ref a1, .ref a2, .ref a3, .ref a4, .ref a5, .ref a6, .ref a7, .ref a8, .ref a9])), (pa, .inr (4, [.int mc, .ref el, .int 5])), (el, .inl (cy 2, 10, .inr (.inr (.inr (.inr g))))), (oa, .inl (cy 3, 1, .inr (.inl og)))]) hD hS hA [0, 1, 5, 6, 12] rfl
  refine vx_calli (vx_runSX (As := [.ref h, .int 0, .int 0, .int 0, .ref oa]) (rest := []) ⟨hx, hb, hml, hown, hts⟩ (c_L_begin_5 l hst D cy ed H.size h pe ne pa ro 0 a1 a2 a3 a4 a5 a6 a7 a8 a9 mc el g oa og) (vx_cwSW 5 hts (zx_GS mm_565 mm_566 mm_70 mm_567) rfl rfl rfl (by decide +kernel) ⟨(Nat.le_of_ble_eq_true rfl), (Nat.le_of_ble_eq_true rfl)⟩) ⟨zx_blind, zx_give hPc hK hDc hS hFc hZ hN⟩ rfl rfl hl.1 rfl (lv_room (Nat.le_of_ble_eq_true rfl)) dL_law_817 ⟨(Nat.le_of_ble_eq_true rfl), (Nat.le_of_ble_eq_true rfl)⟩) hS (fun q _ h => hFc q h) hFc (fun q _ h => hFc q h) (fun E9 ce9 q9 _ t H locs ht hvm _ hBX hz1 hk1 hS hce hcv hcl => ?_) (fun r9 u t H locs ht hvm hw hB hz1 hk1 hS => ?_)
  · exact hBX.elim
  ·
    obtain ⟨mx_1737, qx_1738, g2_1739, y_1740, rl_1741, fy_1742, o2_1743⟩ := u
    obtain ⟨rfl, h_1744⟩ := hw
    obtain ⟨hP, hD⟩ := zx_join (wr := [(a1, .inl (cy 0, 20, .inl f1)), (a2, .inl (cy 0, 20, .inl f2)), (ro, .inl (cy 0, 20, .inl f0)), (m0, .inr (20, [.int 0, .ref mp, .int 0, .ref b1, .ref b2, .ref b3, .ref b4, .ref b5, .ref mq])), (mp, .inr (4, [.int mm, .ref ep, .int 20])), (ep, .inl (cy 2, 22, .inr (.inr (.inr (.inr gp))))), (mq, .inr (4, [.int mn, .ref eq, .int 5])), (eq, .inl (cy 2, 10, .inr (.inr (.inr (.inr gq))))), (y0, .inr (8, q0)), (r0, .inr (4, [.int 0, .ref ed, .int 0])), (y1, .inr (8, q1)), (r1, .inr (4, [.int 0, .ref ed, .int 0])), (y2, .inr (8, q2)), (r2, .inr (4, [.int 0, .ref ed, .int 0])), (y3, .inr (8, q3)), (r3, .inr (4, [.int 0, .ref ed, .int 0])), (y4, .inr (8, q4)), (r4, .inr (4, [.int 0, .ref ed, .int 0])), (z0, .inr (16, u0)), (v0, .inr (4, [.int 0, .ref ed, .int 0])), (z1, .inr (16, u1)), (v1, .inr (4, [.int 0, .ref ed, .int 0])), (z2, .inr (16, u2)), (v2, .inr (4, [.int 0, .ref ed, .int 0])), (z3, .inr (16, u3)), (v3, .inr (4, [.int 0, .ref ed, .int 0])), (z4, .inr (16, u4)), (v4, .inr (4, [.int 0, .ref ed, .int 0]))]) (w1 := [(h, .inr (13, [.ref pe, .ref ne, .ref pa, .ref ro, .int 0])), (pe, .inr (9, [.int 20, .ref a1, .ref a2, .ref a3, .ref a4, .ref a5, .ref a6, .ref a7, .ref a8, .ref a9])), (pa, .inr (4, [.int mx_1737, .ref qx_1738, .int 6])), (qx_1738, .inl (cy 2, 10, .inr (.inr (.inr (.inr g2_1739))))), (y_1740, .inr (8, fy_1742)), (rl_1741, .inr (4, [.int 0, .ref ed, .int 0])), (oa, .inl (cy 3, 1, .inr (.inl o2_1743)))]) [0, 1, 5, 6, 12] [2, 3, 4, 7, 8, 9, 10, 11, 13, 14, 15, 16, 17, 18, 19, 20, 21, 22, 23, 24, 25, 26, 27, 28, 29, 30, 31, 32] rfl rfl (by decide) (by decide) hP hD hk1 hFc hB ht
    have hP : va_P D vwCl [(a1, .inl (cy 0, 20, .inl f1)), (a2, .inl (cy 0, 20, .inl f2)), (ro, .inl (cy 0, 20, .inl f0)), (m0, .inr (20, [.int 0, .ref mp, .int 0, .ref b1, .ref b2, .ref b3, .ref b4, .ref b5, .ref mq])), (mp, .inr (4, [.int mm, .ref ep, .int 20])), (ep, .inl (cy 2, 22, .inr (.inr (.inr (.inr gp))))), (mq, .inr (4, [.int mn, .ref eq, .int 5])), (eq, .inl (cy 2, 10, .inr (.inr (.inr (.inr gq))))), (y0, .inr (8, q0)), (r0, .inr (4, [.int 0, .ref ed, .int 0])), (y1, .inr (8, q1)), (r1, .inr (4, [.int 0, .ref ed, .int 0])), (y2, .inr (8, q2)), (r2, .inr (4, [.int 0, .ref ed, .int 0])), (y3, .inr (8, q3)), (r3, .inr (4, [.int 0, .ref ed, .int 0])), (y4, .inr (8, q4)), (r4, .inr (4, [.int 0, .ref ed, .int 0])), (z0, .inr (16, u0)), (v0, .inr (4, [.int 0, .ref ed, .int 0])), (z1, .inr (16, u1)), (v1, .inr (4, [.int 0, .ref ed, .int 0])), (z2, .inr (16, u2)), (v2, .inr (4, [.int 0, .ref ed, .int 0])), (z3, .inr (16, u3)), (v3, .inr (4, [.int 0, .ref ed, .int 0])), (z4, .inr (16, u4)), (v4, .inr (4, [.int 0, .ref ed, .int 0])), (h, .inr (13, [.ref pe, .ref ne, .ref pa, .ref ro, .int 0])), (pe, .inr (9, [.int 20, .ref a1, .ref a2, .ref a3, .ref a4, .ref a5, .ref a6, .ref a7, .ref a8, .ref a9])), (pa, .inr (4, [.int mx_1737, .ref qx_1738, .int 6])), (qx_1738, .inl (cy 2, 10, .inr (.inr (.inr (.inr g2_1739))))), (y_1740, .inr (8, fy_1742)), (rl_1741, .inr (4, [.int 0, .ref ed, .int 0])), (oa, .inl (cy 3, 1, .inr (.inl o2_1743)))] H := hP
    have hD : va_D A [(a1, .inl (cy 0, 20, .inl f1)), (a2, .inl (cy 0, 20, .inl f2)), (ro, .inl (cy 0, 20, .inl f0)), (m0, .inr (20, [.int 0, .ref mp, .int 0, .ref b1, .ref b2, .ref b3, .ref b4, .ref b5, .ref mq])), (mp, .inr (4, [.int mm, .ref ep, .int 20])), (ep, .inl (cy 2, 22, .inr (.inr (.inr (.inr gp))))), (mq, .inr (4, [.int mn, .ref eq, .int 5])), (eq, .inl (cy 2, 10, .inr (.inr (.inr (.inr gq))))), (y0, .inr (8, q0)), (r0, .inr (4, [.int 0, .ref ed, .int 0])), (y1, .inr (8, q1)), (r1, .inr (4, [.int 0, .ref ed, .int 0])), (y2, .inr (8, q2)), (r2, .inr (4, [.int 0, .ref ed, .int 0])), (y3, .inr (8, q3)), (r3, .inr (4, [.int 0, .ref ed, .int 0])), (y4, .inr (8, q4)), (r4, .inr (4, [.int 0, .ref ed, .int 0])), (z0, .inr (16, u0)), (v0, .inr (4, [.int 0, .ref ed, .int 0])), (z1, .inr (16, u1)), (v1, .inr (4, [.int 0, .ref ed, .int 0])), (z2, .inr (16, u2)), (v2, .inr (4, [.int 0, .ref ed, .int 0])), (z3, .inr (16, u3)), (v3, .inr (4, [.int 0, .ref ed, .int 0])), (z4, .inr (16, u4)), (v4, .inr (4, [.int 0, .ref ed, .int 0])), (h, .inr (13, [.ref pe, .ref ne, .ref pa, .ref ro, .int 0])), (pe, .inr (9, [.int 20, .ref a1, .ref a2, .ref a3, .ref a4, .ref a5, .ref a6, .ref a7, .ref a8, .ref a9])), (pa, .inr (4, [.int mx_1737, .ref qx_1738, .int 6])), (qx_1738, .inl (cy 2, 10, .inr (.inr (.inr (.inr g2_1739))))), (y_1740, .inr (8, fy_1742)), (rl_1741, .inr (4, [.int 0, .ref ed, .int 0])), (oa, .inl (cy 3, 1, .inr (.inl o2_1743)))] := hD
    refine W.widen (k := 234) (n := 3417) (Nat.le_of_ble_eq_true rfl) (Nat.le_of_ble_eq_true rfl) ?_
    obtain ⟨hs_1745, hs_1746, hs_1747, hs_1748⟩ := h_1744
    refine lv_istore (lv' := [(6, .int 0), (5, .int 150), (3, .ref oa), (2, .ref m0), (1, .ref h), (0, .ref b)]) hx hb dL_law_820 hl (by decide) rfl (fun ls hl => ?_)
    refine lv_aload_n hx hb dL_law_822 rfl (lv_at hl 3 rfl) ?_
    refine lv_aload_n hx hb dL_law_823 rfl (lv_at hl 5 rfl) ?_
    refine lv_iload hx hb dL_law_824 (lv_at hl 1 rfl) ?_
    refine lv_iconst (v := 1) hx hb dL_law_826 (by decide) ?_
    refine lv_iadd hx hb dL_law_827 ?_
    refine lv_topi (fun y9 ey9 => ?_)
    obtain rfl : y9 = 151 := by rw [ey9] <;> decide
    refine va_sld hx hb hX hbl hbA hS (zx_bn (by decide)) dL_law_828 ?_
    refine lv_topi (fun y9 ey9 => ?_)
    obtain rfl : y9 = 0 := ey9.trans (by decide)
    refine lv_aload_n hx hb dL_law_829 rfl (lv_at hl 5 rfl) ?_
    refine lv_iload hx hb dL_law_830 (lv_at hl 1 rfl) ?_
    refine lv_iconst (v := 2) hx hb dL_law_832 (by decide) ?_
    refine lv_iadd hx hb dL_law_833 ?_
    refine lv_topi (fun y9 ey9 => ?_)
    obtain rfl : y9 = 152 := by rw [ey9] <;> decide
    refine va_sld hx hb hX hbl hbA hS (zx_bn (by decide)) dL_law_834 ?_
    refine lv_topi (fun y9 ey9 => ?_)
    obtain rfl : y9 = 0 := ey9.trans (by decide)
    refine lv_aload_n hx hb dL_law_835 rfl (lv_at hl 5 rfl) ?_
    refine lv_iload hx hb dL_law_836 (lv_at hl 1 rfl) ?_
    refine lv_iconst (v := 3) hx hb dL_law_838 (by decide) ?_
    refine lv_iadd hx hb dL_law_839 ?_
    refine lv_topi (fun y9 ey9 => ?_)
    obtain rfl : y9 = 153 := by rw [ey9] <;> decide
    refine va_sld hx hb hX hbl hbA hS (zx_bn (by decide)) dL_law_840 ?_
    refine lv_topi (fun y9 ey9 => ?_)
    obtain rfl : y9 = 0 := ey9.trans (by decide)
    have hPc := hP.sub (ws' := [(m0, .inr (20, [.int 0, .ref mp, .int 0, .ref b1, .ref b2, .ref b3, .ref b4, .ref b5, .ref mq])), (mp, .inr (4, [.int mm, .ref ep, .int 20])), (mq, .inr (4, [.int mn, .ref eq, .int 5])), (eq, .inl (cy 2, 10, .inr (.inr (.inr (.inr gq)))))]) [3, 4, 6, 7] rfl
    have hDc := hD.sub (ws' := [(m0, .inr (20, [.int 0, .ref mp, .int 0, .ref b1, .ref b2, .ref b3, .ref b4, .ref b5, .ref mq])), (mp, .inr (4, [.int mm, .ref ep, .int 20])), (mq, .inr (4, [.int mn, .ref eq, .int 5])), (eq, .inl (cy 2, 10, .inr (.inr (.inr (.inr gq)))))]) [3, 4, 6, 7] (by decide) rfl
    have hFc := va_free (wc := [(m0, .inr (20, [.int 0, .ref mp, .int 0, .ref b1, .ref b2, .ref b3, .ref b4, .ref b5, .ref mq])), (mp, .inr (4, [.int mm, .ref ep, .int 20])), (mq, .inr (4, [.int mn, .ref eq, .int 5])), (eq, .inl (cy 2, 10, .inr (.inr (.inr (.inr gq)))))]) hD hS hA [3, 4, 6, 7] rfl
    refine va_calli (va_runV (As := [.int 0, .int 0, .int 0]) (rest := []) ⟨hx, hb, hml, hown, hts⟩ (c_X15_begin_5 l hst D cy ed H.size m0 mp mq b1 b2 b3 b4 b5 0 0 mm ep mn eq gq) (cwV 3 hts (zx_GV mm_1783 mm_1784 mm_1785 mm_78 mm_1786) rfl rfl rfl (by decide +kernel) ⟨(Nat.le_of_ble_eq_true rfl), (Nat.le_of_ble_eq_true rfl)⟩) ⟨zx_blind, va_recv hK hPc (ci := 20) (q0 := 0) rfl rfl, zx_give hPc hK hDc hS hFc hZ hN⟩ rfl rfl hl.1 rfl (lv_room (Nat.le_of_ble_eq_true rfl)) dL_law_841 ⟨(Nat.le_of_ble_eq_true rfl), (Nat.le_of_ble_eq_true rfl)⟩) hS (fun q _ h => hFc q h) hFc (fun r9 u t H1 locs ht hvm hw hB hz1 hk1 hS => ?_)
    obtain ⟨mx_1749, qx_1750, g2_1751, y_1752, rl_1753, fy_1754⟩ := u
    obtain ⟨rfl, h_1755⟩ := hw
    obtain ⟨hP, hD⟩ := zx_join (wr := [(a1, .inl (cy 0, 20, .inl f1)), (a2, .inl (cy 0, 20, .inl f2)), (ro, .inl (cy 0, 20, .inl f0)), (ep, .inl (cy 2, 22, .inr (.inr (.inr (.inr gp))))), (y0, .inr (8, q0)), (r0, .inr (4, [.int 0, .ref ed, .int 0])), (y1, .inr (8, q1)), (r1, .inr (4, [.int 0, .ref ed, .int 0])), (y2, .inr (8, q2)), (r2, .inr (4, [.int 0, .ref ed, .int 0])), (y3, .inr (8, q3)), (r3, .inr (4, [.int 0, .ref ed, .int 0])), (y4, .inr (8, q4)), (r4, .inr (4, [.int 0, .ref ed, .int 0])), (z0, .inr (16, u0)), (v0, .inr (4, [.int 0, .ref ed, .int 0])), (z1, .inr (16, u1)), (v1, .inr (4, [.int 0, .ref ed, .int 0])), (z2, .inr (16, u2)), (v2, .inr (4, [.int 0, .ref ed, .int 0])), (z3, .inr (16, u3)), (v3, .inr (4, [.int 0, .ref ed, .int 0])), (z4, .inr (16, u4)), (v4, .inr (4, [.int 0, .ref ed, .int 0])), (h, .inr (13, [.ref pe, .ref ne, .ref pa, .ref ro, .int 0])), (pe, .inr (9, [.int 20, .ref a1, .ref a2, .ref a3, .ref a4, .ref a5, .ref a6, .ref a7, .ref a8, .ref a9])), (pa, .inr (4, [.int mx_1737, .ref qx_1738, .int 6])), (qx_1738, .inl (cy 2, 10, .inr (.inr (.inr (.inr g2_1739))))), (y_1740, .inr (8, fy_1742)), (rl_1741, .inr (4, [.int 0, .ref ed, .int 0])), (oa, .inl (cy 3, 1, .inr (.inl o2_1743)))]) (w1 := [(m0, .inr (20, [.int 0, .ref mp, .int 0, .ref b1, .ref b2, .ref b3, .ref b4, .ref b5, .ref mq])), (mp, .inr (4, [.int mm, .ref ep, .int 20])), (mq, .inr (4, [.int mx_1749, .ref qx_1750, .int 6])), (qx_1750, .inl (cy 2, 10, .inr (.inr (.inr (.inr g2_1751))))), (y_1752, .inr (16, fy_1754)), (rl_1753, .inr (4, [.int 0, .ref ed, .int 0]))]) [3, 4, 6, 7] [0, 1, 2, 5, 8, 9, 10, 11, 12, 13, 14, 15, 16, 17, 18, 19, 20, 21, 22, 23, 24, 25, 26, 27, 28, 29, 30, 31, 32, 33, 34] rfl rfl (by decide) (by decide) hP hD hk1 hFc hB ht
    generalize H1 = H at hP hS ⊢
    have hP : va_P D vwCl [(a1, .inl (cy 0, 20, .inl f1)), (a2, .inl (cy 0, 20, .inl f2)), (ro, .inl (cy 0, 20, .inl f0)), (ep, .inl (cy 2, 22, .inr (.inr (.inr (.inr gp))))), (y0, .inr (8, q0)), (r0, .inr (4, [.int 0, .ref ed, .int 0])), (y1, .inr (8, q1)), (r1, .inr (4, [.int 0, .ref ed, .int 0])), (y2, .inr (8, q2)), (r2, .inr (4, [.int 0, .ref ed, .int 0])), (y3, .inr (8, q3)), (r3, .inr (4, [.int 0, .ref ed, .int 0])), (y4, .inr (8, q4)), (r4, .inr (4, [.int 0, .ref ed, .int 0])), (z0, .inr (16, u0)), (v0, .inr (4, [.int 0, .ref ed, .int 0])), (z1, .inr (16, u1)), (v1, .inr (4, [.int 0, .ref ed, .int 0])), (z2, .inr (16, u2)), (v2, .inr (4, [.int 0, .ref ed, .int 0])), (z3, .inr (16, u3)), (v3, .inr (4, [.int 0, .ref ed, .int 0])), (z4, .inr (16, u4)), (v4, .inr (4, [.int 0, .ref ed, .int 0])), (h, .inr (13, [.ref pe, .ref ne, .ref pa, .ref ro, .int 0])), (pe, .inr (9, [.int 20, .ref a1, .ref a2, .ref a3, .ref a4, .ref a5, .ref a6, .ref a7, .ref a8, .ref a9])), (pa, .inr (4, [.int mx_1737, .ref qx_1738, .int 6])), (qx_1738, .inl (cy 2, 10, .inr (.inr (.inr (.inr g2_1739))))), (y_1740, .inr (8, fy_1742)), (rl_1741, .inr (4, [.int 0, .ref ed, .int 0])), (oa, .inl (cy 3, 1, .inr (.inl o2_1743))), (m0, .inr (20, [.int 0, .ref mp, .int 0, .ref b1, .ref b2, .ref b3, .ref b4, .ref b5, .ref mq])), (mp, .inr (4, [.int mm, .ref ep, .int 20])), (mq, .inr (4, [.int mx_1749, .ref qx_1750, .int 6])), (qx_1750, .inl (cy 2, 10, .inr (.inr (.inr (.inr g2_1751))))), (y_1752, .inr (16, fy_1754)), (rl_1753, .inr (4, [.int 0, .ref ed, .int 0]))] H := hP
    have hD : va_D A [(a1, .inl (cy 0, 20, .inl f1)), (a2, .inl (cy 0, 20, .inl f2)), (ro, .inl (cy 0, 20, .inl f0)), (ep, .inl (cy 2, 22, .inr (.inr (.inr (.inr gp))))), (y0, .inr (8, q0)), (r0, .inr (4, [.int 0, .ref ed, .int 0])), (y1, .inr (8, q1)), (r1, .inr (4, [.int 0, .ref ed, .int 0])), (y2, .inr (8, q2)), (r2, .inr (4, [.int 0, .ref ed, .int 0])), (y3, .inr (8, q3)), (r3, .inr (4, [.int 0, .ref ed, .int 0])), (y4, .inr (8, q4)), (r4, .inr (4, [.int 0, .ref ed, .int 0])), (z0, .inr (16, u0)), (v0, .inr (4, [.int 0, .ref ed, .int 0])), (z1, .inr (16, u1)), (v1, .inr (4, [.int 0, .ref ed, .int 0])), (z2, .inr (16, u2)), (v2, .inr (4, [.int 0, .ref ed, .int 0])), (z3, .inr (16, u3)), (v3, .inr (4, [.int 0, .ref ed, .int 0])), (z4, .inr (16, u4)), (v4, .inr (4, [.int 0, .ref ed, .int 0])), (h, .inr (13, [.ref pe, .ref ne, .ref pa, .ref ro, .int 0])), (pe, .inr (9, [.int 20, .ref a1, .ref a2, .ref a3, .ref a4, .ref a5, .ref a6, .ref a7, .ref a8, .ref a9])), (pa, .inr (4, [.int mx_1737, .ref qx_1738, .int 6])), (qx_1738, .inl (cy 2, 10, .inr (.inr (.inr (.inr g2_1739))))), (y_1740, .inr (8, fy_1742)), (rl_1741, .inr (4, [.int 0, .ref ed, .int 0])), (oa, .inl (cy 3, 1, .inr (.inl o2_1743))), (m0, .inr (20, [.int 0, .ref mp, .int 0, .ref b1, .ref b2, .ref b3, .ref b4, .ref b5, .ref mq])), (mp, .inr (4, [.int mm, .ref ep, .int 20])), (mq, .inr (4, [.int mx_1749, .ref qx_1750, .int 6])), (qx_1750, .inl (cy 2, 10, .inr (.inr (.inr (.inr g2_1751))))), (y_1752, .inr (16, fy_1754)), (rl_1753, .inr (4, [.int 0, .ref ed, .int 0]))] := hD
    refine W.widen (k := 243) (n := 3507) (Nat.le_of_ble_eq_true rfl) (Nat.le_of_ble_eq_true rfl) ?_
    obtain ⟨hs_1756, hs_1757, hs_1758⟩ := h_1755
    refine lv_istore (lv' := [(7, .int 5), (6, .int 0), (5, .int 150), (3, .ref oa), (2, .ref m0), (1, .ref h), (0, .ref b)]) hx hb dL_law_844 hl (by decide) rfl (fun ls hl => ?_)
    refine lv_aload_n hx hb dL_law_846 rfl (lv_at hl 4 rfl) ?_
    have hPc := hP.sub (ws' := [(m0, .inr (20, [.int 0, .ref mp, .int 0, .ref b1, .ref b2, .ref b3, .ref b4, .ref b5, .ref mq]))]) [31] rfl
    have hDc := hD.sub (ws' := [(m0, .inr (20, [.int 0, .ref mp, .int 0, .ref b1, .ref b2, .ref b3, .ref b4, .ref b5, .ref mq]))]) [31] (by decide) rfl
    have hFc := va_free (wc := [(m0, .inr (20, [.int 0, .ref mp, .int 0, .ref b1, .ref b2, .ref b3, .ref b4, .ref b5, .ref mq]))]) hD hS hA [31] rfl
    refine va_calli (va_runV (As := []) (rest := []) ⟨hx, hb, hml, hown, hts⟩ (c_X15_thrown l hst D cy ed H.size m0 mp mq b1 b2 b3 b4 b5 0 0) (cwV 0 hts (zx_GV mm_1599 mm_1600 mm_1601 mm_78 mm_1602) rfl rfl rfl (by decide +kernel) ⟨(Nat.le_of_ble_eq_true rfl), (Nat.le_of_ble_eq_true rfl)⟩) ⟨zx_blind, va_recv hK hPc (ci := 20) (q0 := 0) rfl rfl, zx_give hPc hK hDc hS hFc hZ hN⟩ rfl rfl hl.1 rfl (lv_room (Nat.le_of_ble_eq_true rfl)) dL_law_847 ⟨(Nat.le_of_ble_eq_true rfl), (Nat.le_of_ble_eq_true rfl)⟩) hS (fun q _ h => hFc q h) hFc (fun r9 u t H1 locs ht hvm hw hB hz1 hk1 hS => ?_)
    obtain rfl : r9 = 0 := hw
    obtain ⟨hP, hD⟩ := zx_join (wr := [(a1, .inl (cy 0, 20, .inl f1)), (a2, .inl (cy 0, 20, .inl f2)), (ro, .inl (cy 0, 20, .inl f0)), (ep, .inl (cy 2, 22, .inr (.inr (.inr (.inr gp))))), (y0, .inr (8, q0)), (r0, .inr (4, [.int 0, .ref ed, .int 0])), (y1, .inr (8, q1)), (r1, .inr (4, [.int 0, .ref ed, .int 0])), (y2, .inr (8, q2)), (r2, .inr (4, [.int 0, .ref ed, .int 0])), (y3, .inr (8, q3)), (r3, .inr (4, [.int 0, .ref ed, .int 0])), (y4, .inr (8, q4)), (r4, .inr (4, [.int 0, .ref ed, .int 0])), (z0, .inr (16, u0)), (v0, .inr (4, [.int 0, .ref ed, .int 0])), (z1, .inr (16, u1)), (v1, .inr (4, [.int 0, .ref ed, .int 0])), (z2, .inr (16, u2)), (v2, .inr (4, [.int 0, .ref ed, .int 0])), (z3, .inr (16, u3)), (v3, .inr (4, [.int 0, .ref ed, .int 0])), (z4, .inr (16, u4)), (v4, .inr (4, [.int 0, .ref ed, .int 0])), (h, .inr (13, [.ref pe, .ref ne, .ref pa, .ref ro, .int 0])), (pe, .inr (9, [.int 20, .ref a1, .ref a2, .ref a3, .ref a4, .ref a5, .ref a6, .ref a7, .ref a8, .ref a9])), (pa, .inr (4, [.int mx_1737, .ref qx_1738, .int 6])), (qx_1738, .inl (cy 2, 10, .inr (.inr (.inr (.inr g2_1739))))), (y_1740, .inr (8, fy_1742)), (rl_1741, .inr (4, [.int 0, .ref ed, .int 0])), (oa, .inl (cy 3, 1, .inr (.inl o2_1743))), (mp, .inr (4, [.int mm, .ref ep, .int 20])), (mq, .inr (4, [.int mx_1749, .ref qx_1750, .int 6])), (qx_1750, .inl (cy 2, 10, .inr (.inr (.inr (.inr g2_1751))))), (y_1752, .inr (16, fy_1754)), (rl_1753, .inr (4, [.int 0, .ref ed, .int 0]))]) (w1 := [(m0, .inr (20, [.int 0, .ref mp, .int 0, .ref b1, .ref b2, .ref b3, .ref b4, .ref b5, .ref mq]))]) [31] [0, 1, 2, 3, 4, 5, 6, 7, 8, 9, 10, 11, 12, 13, 14, 15, 16, 17, 18, 19, 20, 21, 22, 23, 24, 25, 26, 27, 28, 29, 30, 32, 33, 34, 35, 36] rfl rfl (by decide) (by decide) hP hD hk1 hFc hB ht
    generalize H1 = H at hP hS ⊢
    have hP : va_P D vwCl [(a1, .inl (cy 0, 20, .inl f1)), (a2, .inl (cy 0, 20, .inl f2)), (ro, .inl (cy 0, 20, .inl f0)), (ep, .inl (cy 2, 22, .inr (.inr (.inr (.inr gp))))), (y0, .inr (8, q0)), (r0, .inr (4, [.int 0, .ref ed, .int 0])), (y1, .inr (8, q1)), (r1, .inr (4, [.int 0, .ref ed, .int 0])), (y2, .inr (8, q2)), (r2, .inr (4, [.int 0, .ref ed, .int 0])), (y3, .inr (8, q3)), (r3, .inr (4, [.int 0, .ref ed, .int 0])), (y4, .inr (8, q4)), (r4, .inr (4, [.int 0, .ref ed, .int 0])), (z0, .inr (16, u0)), (v0, .inr (4, [.int 0, .ref ed, .int 0])), (z1, .inr (16, u1)), (v1, .inr (4, [.int 0, .ref ed, .int 0])), (z2, .inr (16, u2)), (v2, .inr (4, [.int 0, .ref ed, .int 0])), (z3, .inr (16, u3)), (v3, .inr (4, [.int 0, .ref ed, .int 0])), (z4, .inr (16, u4)), (v4, .inr (4, [.int 0, .ref ed, .int 0])), (h, .inr (13, [.ref pe, .ref ne, .ref pa, .ref ro, .int 0])), (pe, .inr (9, [.int 20, .ref a1, .ref a2, .ref a3, .ref a4, .ref a5, .ref a6, .ref a7, .ref a8, .ref a9])), (pa, .inr (4, [.int mx_1737, .ref qx_1738, .int 6])), (qx_1738, .inl (cy 2, 10, .inr (.inr (.inr (.inr g2_1739))))), (y_1740, .inr (8, fy_1742)), (rl_1741, .inr (4, [.int 0, .ref ed, .int 0])), (oa, .inl (cy 3, 1, .inr (.inl o2_1743))), (mp, .inr (4, [.int mm, .ref ep, .int 20])), (mq, .inr (4, [.int mx_1749, .ref qx_1750, .int 6])), (qx_1750, .inl (cy 2, 10, .inr (.inr (.inr (.inr g2_1751))))), (y_1752, .inr (16, fy_1754)), (rl_1753, .inr (4, [.int 0, .ref ed, .int 0])), (m0, .inr (20, [.int 0, .ref mp, .int 0, .ref b1, .ref b2, .ref b3, .ref b4, .ref b5, .ref mq]))] H := hP
    have hD : va_D A [(a1, .inl (cy 0, 20, .inl f1)), (a2, .inl (cy 0, 20, .inl f2)), (ro, .inl (cy 0, 20, .inl f0)), (ep, .inl (cy 2, 22, .inr (.inr (.inr (.inr gp))))), (y0, .inr (8, q0)), (r0, .inr (4, [.int 0, .ref ed, .int 0])), (y1, .inr (8, q1)), (r1, .inr (4, [.int 0, .ref ed, .int 0])), (y2, .inr (8, q2)), (r2, .inr (4, [.int 0, .ref ed, .int 0])), (y3, .inr (8, q3)), (r3, .inr (4, [.int 0, .ref ed, .int 0])), (y4, .inr (8, q4)), (r4, .inr (4, [.int 0, .ref ed, .int 0])), (z0, .inr (16, u0)), (v0, .inr (4, [.int 0, .ref ed, .int 0])), (z1, .inr (16, u1)), (v1, .inr (4, [.int 0, .ref ed, .int 0])), (z2, .inr (16, u2)), (v2, .inr (4, [.int 0, .ref ed, .int 0])), (z3, .inr (16, u3)), (v3, .inr (4, [.int 0, .ref ed, .int 0])), (z4, .inr (16, u4)), (v4, .inr (4, [.int 0, .ref ed, .int 0])), (h, .inr (13, [.ref pe, .ref ne, .ref pa, .ref ro, .int 0])), (pe, .inr (9, [.int 20, .ref a1, .ref a2, .ref a3, .ref a4, .ref a5, .ref a6, .ref a7, .ref a8, .ref a9])), (pa, .inr (4, [.int mx_1737, .ref qx_1738, .int 6])), (qx_1738, .inl (cy 2, 10, .inr (.inr (.inr (.inr g2_1739))))), (y_1740, .inr (8, fy_1742)), (rl_1741, .inr (4, [.int 0, .ref ed, .int 0])), (oa, .inl (cy 3, 1, .inr (.inl o2_1743))), (mp, .inr (4, [.int mm, .ref ep, .int 20])), (mq, .inr (4, [.int mx_1749, .ref qx_1750, .int 6])), (qx_1750, .inl (cy 2, 10, .inr (.inr (.inr (.inr g2_1751))))), (y_1752, .inr (16, fy_1754)), (rl_1753, .inr (4, [.int 0, .ref ed, .int 0])), (m0, .inr (20, [.int 0, .ref mp, .int 0, .ref b1, .ref b2, .ref b3, .ref b4, .ref b5, .ref mq]))] := hD
    refine W.widen (k := 243) (n := 3507) (Nat.le_of_ble_eq_true rfl) (Nat.le_of_ble_eq_true rfl) ?_
    refine lv_iload hx hb dL_law_850 (lv_at hl 1 rfl) ?_
    refine lv_icmp_eq (tgt := 857) hx hb dL_law_852 (by decide) (fun _ => ?_) (fun c_1759 => absurd (by decide) c_1759)
    refine lv_iload hx hb dL_law_857 (lv_at hl 1 rfl) ?_
    refine lv_if_ne (tgt := 874) hx hb dL_law_859 (by decide) (fun c_1760 => absurd c_1760 (by decide)) (fun _ => ?_)
    refine lv_aload_n hx hb dL_law_862 rfl (lv_at hl 3 rfl) ?_
    refine lv_iconst (v := 0) hx hb dL_law_863 (by decide) ?_
    refine va_lald hx hb hK hP 30 3 rfl rfl (zx_bn (by decide)) dL_law_864 ?_
    refine lv_iload hx hb dL_law_865 (lv_at hl 0 rfl) ?_
    refine lv_i2l (v := 5) hx hb dL_law_867 rfl ?_
    refine W.lcmp hx hb dL_law_868 ?_
    refine lv_topi (fun y9 ey9 => ?_)
    obtain rfl : y9 = 0 := ey9.trans (zx_lcmpe hs_1745)
    refine lv_if_eq (tgt := 874) hx hb dL_law_869 (by decide) (fun _ => ?_) (fun c_1761 => absurd (by decide) c_1761)
    refine lv_goto (tgt := 4257) hx hb dL_law_874 (by decide) ?_
    refine lv_iinc (v := 156) (lv' := [(5, .int 156), (7, .int 5), (6, .int 0), (3, .ref oa), (2, .ref m0), (1, .ref h), (0, .ref b)]) hx hb dL_law_4257 hl (k := 2) rfl (by decide) (by decide) rfl (fun ls hl => ?_)
    refine lv_goto (tgt := 28) hx hb dL_law_4260 (by decide) ?_
    have hP := hP.sub (ws' := [(h, .inr (13, [.ref pe, .ref ne, .ref pa, .ref ro, .int 0])), (pe, .inr (9, [.int 20, .ref a1, .ref a2, .ref a3, .ref a4, .ref a5, .ref a6, .ref a7, .ref a8, .ref a9])), (a1, .inl (cy 0, 20, .inl f1)), (a2, .inl (cy 0, 20, .inl f2)), (ro, .inl (cy 0, 20, .inl f0)), (pa, .inr (4, [.int mx_1737, .ref qx_1738, .int 6])), (qx_1738, .inl (cy 2, 10, .inr (.inr (.inr (.inr g2_1739))))), (m0, .inr (20, [.int 0, .ref mp, .int 0, .ref b1, .ref b2, .ref b3, .ref b4, .ref b5, .ref mq])), (mp, .inr (4, [.int mm, .ref ep, .int 20])), (ep, .inl (cy 2, 22, .inr (.inr (.inr (.inr gp))))), (mq, .inr (4, [.int mx_1749, .ref qx_1750, .int 6])), (qx_1750, .inl (cy 2, 10, .inr (.inr (.inr (.inr g2_1751))))), (oa, .inl (cy 3, 1, .inr (.inl o2_1743))), (y0, .inr (8, q0)), (r0, .inr (4, [.int 0, .ref ed, .int 0])), (y1, .inr (8, q1)), (r1, .inr (4, [.int 0, .ref ed, .int 0])), (y2, .inr (8, q2)), (r2, .inr (4, [.int 0, .ref ed, .int 0])), (y3, .inr (8, q3)), (r3, .inr (4, [.int 0, .ref ed, .int 0])), (y4, .inr (8, q4)), (r4, .inr (4, [.int 0, .ref ed, .int 0])), (y_1740, .inr (8, fy_1742)), (rl_1741, .inr (4, [.int 0, .ref ed, .int 0])), (z0, .inr (16, u0)), (v0, .inr (4, [.int 0, .ref ed, .int 0])), (z1, .inr (16, u1)), (v1, .inr (4, [.int 0, .ref ed, .int 0])), (z2, .inr (16, u2)), (v2, .inr (4, [.int 0, .ref ed, .int 0])), (z3, .inr (16, u3)), (v3, .inr (4, [.int 0, .ref ed, .int 0])), (z4, .inr (16, u4)), (v4, .inr (4, [.int 0, .ref ed, .int 0])), (y_1752, .inr (16, fy_1754)), (rl_1753, .inr (4, [.int 0, .ref ed, .int 0]))]) [24, 25, 0, 1, 2, 26, 27, 36, 31, 3, 32, 33, 30, 4, 5, 6, 7, 8, 9, 10, 11, 12, 13, 28, 29, 14, 15, 16, 17, 18, 19, 20, 21, 22, 23, 34, 35] rfl
    have hD := hD.sub (ws' := [(h, .inr (13, [.ref pe, .ref ne, .ref pa, .ref ro, .int 0])), (pe, .inr (9, [.int 20, .ref a1, .ref a2, .ref a3, .ref a4, .ref a5, .ref a6, .ref a7, .ref a8, .ref a9])), (a1, .inl (cy 0, 20, .inl f1)), (a2, .inl (cy 0, 20, .inl f2)), (ro, .inl (cy 0, 20, .inl f0)), (pa, .inr (4, [.int mx_1737, .ref qx_1738, .int 6])), (qx_1738, .inl (cy 2, 10, .inr (.inr (.inr (.inr g2_1739))))), (m0, .inr (20, [.int 0, .ref mp, .int 0, .ref b1, .ref b2, .ref b3, .ref b4, .ref b5, .ref mq])), (mp, .inr (4, [.int mm, .ref ep, .int 20])), (ep, .inl (cy 2, 22, .inr (.inr (.inr (.inr gp))))), (mq, .inr (4, [.int mx_1749, .ref qx_1750, .int 6])), (qx_1750, .inl (cy 2, 10, .inr (.inr (.inr (.inr g2_1751))))), (oa, .inl (cy 3, 1, .inr (.inl o2_1743))), (y0, .inr (8, q0)), (r0, .inr (4, [.int 0, .ref ed, .int 0])), (y1, .inr (8, q1)), (r1, .inr (4, [.int 0, .ref ed, .int 0])), (y2, .inr (8, q2)), (r2, .inr (4, [.int 0, .ref ed, .int 0])), (y3, .inr (8, q3)), (r3, .inr (4, [.int 0, .ref ed, .int 0])), (y4, .inr (8, q4)), (r4, .inr (4, [.int 0, .ref ed, .int 0])), (y_1740, .inr (8, fy_1742)), (rl_1741, .inr (4, [.int 0, .ref ed, .int 0])), (z0, .inr (16, u0)), (v0, .inr (4, [.int 0, .ref ed, .int 0])), (z1, .inr (16, u1)), (v1, .inr (4, [.int 0, .ref ed, .int 0])), (z2, .inr (16, u2)), (v2, .inr (4, [.int 0, .ref ed, .int 0])), (z3, .inr (16, u3)), (v3, .inr (4, [.int 0, .ref ed, .int 0])), (z4, .inr (16, u4)), (v4, .inr (4, [.int 0, .ref ed, .int 0])), (y_1752, .inr (16, fy_1754)), (rl_1753, .inr (4, [.int 0, .ref ed, .int 0]))]) [24, 25, 0, 1, 2, 26, 27, 36, 31, 3, 32, 33, 30, 4, 5, 6, 7, 8, 9, 10, 11, 12, 13, 28, 29, 14, 15, 16, 17, 18, 19, 20, 21, 22, 23, 34, 35] (by decide) rfl
    exact hnext _ _ _ ⟨pe, ne, pa, ro, a1, a2, a3, a4, a5, a6, a7, a8, a9, mp, mq, b1, b2, b3, b4, b5, ep, qx_1738, qx_1750, mx_1737, mm, mx_1749, f1, f2, f0, o2_1743, gp, g2_1739, g2_1751, y0, y1, y2, y3, y4, y_1740, r0, r1, r2, r3, r4, rl_1741, q0, q1, q2, q3, q4, fy_1742, z0, z1, z2, z3, z4, y_1752, v0, v1, v2, v3, v4, rl_1753, u0, u1, u2, u3, u4, fy_1754, hP, hD, ((hs_1748 0 (by decide)).trans hxe0), ((hs_1748 1 (by decide)).trans hxe1), ((hs_1748 2 (by decide)).trans hxe2), ((hs_1748 3 (by decide)).trans hxe3), ((hs_1748 4 (by decide)).trans hxe4), hs_1747, hxq0, hxq1, hxq2, hxq3, hxq4, hs_1746, ((hs_1758 0 (by decide)).trans hme0), ((hs_1758 1 (by decide)).trans hme1), ((hs_1758 2 (by decide)).trans hme2), ((hs_1758 3 (by decide)).trans hme3), ((hs_1758 4 (by decide)).trans hme4), hs_1757, hmq0, hmq1, hmq2, hmq3, hmq4, hs_1756⟩ hS (lv_sub hl [0, 3, 4, 5, 6] rfl)
set_option maxHeartbeats 4000000 in
set_option maxRecDepth 100000 in
theorem law_rings {p : Program} {l : Launch} {e : Env} {s : State} {m : MethodId} {below : List Frame} {meth : Method} {c : Code} {D : va_G} {cy : Nat → ClassId} {ed b : Nat} {A : Nat → Prop} {Q : State → Prop} (C0 : zx_LW p l s m c D cy ed b A) {h m0 oa i n0 cells slots : Nat} (hi : i + 6 ≤ 3072) (h55 : zx_bad i = 55) (hc : cells + 1330 ≤ 2000000) (hs : slots + 5320 ≤ 20000000) {H : Heap} {locs : List Loc} {ls : Array Slot} (h0 : zx_S26 D cy ed A h m0 oa H) (hgr : n0 + 0 ≤ H.size) (hS : va_S A s.heap H locs) (hl : lv_has ls 9 [(5, .int (nI i)), (3, .ref oa), (2, .ref m0), (1, .ref h), (0, .ref b)])
    (hnext : ∀ (H : Heap) (locs : List Loc) (ls : Array Slot), zx_S26 D cy ed A h m0 oa H → n0 + 1330 ≤ H.size → va_S A s.heap H locs → lv_has ls 9 [(5, .int (nI (i + 6))), (3, .ref oa), (2, .ref m0), (1, .ref h), (0, .ref b)] → W p l e zx_R s m #[Value.ref b] below meth c H locs (cells + 1330) (slots + 5320) Q (F0 m 28 ls [])) :
    W p l e zx_R s m #[Value.ref b] below meth c H locs cells slots Q (F0 m 28 ls []) := by
  obtain ⟨hx, hb, hml, hst, hown, hts, hX, hbl, hbA, hA, hK, hZ, hN⟩ := C0
  have hgt : ¬ (3066 : Int32) < nI i := by rw [show (3066 : Int32) = nI 3066 from by decide]; exact nI_nlt (by omega) (by decide)
  obtain ⟨pe, ne, pa, ro, a1, a2, a3, a4, a5, a6, a7, a8, a9, mp, mq, b1, b2, b3, b4, b5, ep, el, eq, mc, mm, mn, f1, f2, f0, og, gp, g, gq, y0, y1, y2, y3, y4, y5, r0, r1, r2, r3, r4, r5, q0, q1, q2, q3, q4, q5, z0, z1, z2, z3, z4, z5, v0, v1, v2, v3, v4, v5, u0, u1, u2, u3, u4, u5, hP, hD, hxe0, hxe1, hxe2, hxe3, hxe4, hxe5, hxq0, hxq1, hxq2, hxq3, hxq4, hxq5, hme0, hme1, hme2, hme3, hme4, hme5, hmq0, hmq1, hmq2, hmq3, hmq4, hmq5⟩ := h0
  refine lv_iload hx hb dL_law_28 (lv_at hl 0 rfl) ?_
  refine lv_aload_n hx hb dL_law_30 rfl (lv_at hl 4 rfl) ?_
  refine va_slen hx hb hX hbl hbA hS dL_law_31 ?_
  refine lv_topi (fun y9 ey9 => ?_)
  obtain rfl : y9 = 3072 := ey9.trans (by decide)
  refine lv_bipush (v := 6) hx hb dL_law_32 (by decide) ?_
  refine lv_isub hx hb dL_law_34 ?_
  refine lv_topi (fun y9 ey9 => ?_)
  obtain rfl : y9 = 3066 := by rw [ey9] <;> decide
  refine lv_icmp_gt (tgt := 4263) hx hb dL_law_35 (by decide) (fun c_1762 => absurd c_1762 hgt) (fun _ => ?_)
  refine lv_aload_n hx hb dL_law_38 rfl (lv_at hl 4 rfl) ?_
  refine lv_iload hx hb dL_law_39 (lv_at hl 0 rfl) ?_
  refine va_sld hx hb hX hbl hbA hS (vp_in_nI (N := 3072) (by omega) (by decide)) dL_law_41 ?_
  refine lv_topi (fun y9 ey9 => ?_)
  obtain rfl : y9 = 55 := ey9.trans (by rw [nI_clamp (by omega)]; exact h55)
  refine lv_bipush (v := 63) hx hb dL_law_42 (by decide) ?_
  refine lv_iand hx hb dL_law_44 ?_
  refine lv_topi (fun y9 ey9 => ?_)
  obtain rfl : y9 = 55 := by rw [ey9] <;> decide
  refine lv_tableIn (off := 4041) (tgt := 4086) hx hb dL_law_45 (by decide) (by decide) (by decide) (by decide) ?_
  refine lv_aload_n hx hb dL_law_4086 rfl (lv_at hl 3 rfl) ?_
  have hPc := hP.sub (ws' := [(h, .inr (13, [.ref pe, .ref ne, .ref pa, .ref ro, .int 0])), (pe, .inr (9, [.int 20, .ref a1, .ref a2, .ref a3, .ref a4, .ref a5, .ref a6, .ref a7, .ref a8, .ref a9])), (ro, .inl (cy 0, 20, .inl f0)), (pa, .inr (4, [.int mc, .ref el, .int 6])), (el, .inl (cy 2, 10, .inr (.inr (.inr (.inr g))))), (y0, .inr (8, q0)), (r0, .inr (4, [.int 0, .ref ed, .int 0])), (y1, .inr (8, q1)), (r1, .inr (4, [.int 0, .ref ed, .int 0])), (y2, .inr (8, q2)), (r2, .inr (4, [.int 0, .ref ed, .int 0])), (y3, .inr (8, q3)), (r3, .inr (4, [.int 0, .ref ed, .int 0])), (y4, .inr (8, q4)), (r4, .inr (4, [.int 0, .ref ed, .int 0])), (y5, .inr (8, q5)), (r5, .inr (4, [.int 0, .ref ed, .int 0]))]) [0, 1, 4, 5, 6, 13, 14, 15, 16, 17, 18, 19, 20, 21, 22, 23, 24] rfl
  have hDc := hD.sub (ws' := [(h, .inr (13, [.ref pe, .ref ne, .ref pa, .ref ro, .int 0])), (pe, .inr (9, [.int 20, .ref a1, .ref a2, .ref a3, .ref a4, .ref a5, .ref a6, .ref a7, .ref a8, .ref a9])), (ro, .inl (cy 0, 20, .inl f0)), (pa, .inr (4, [.int mc, .ref el, .int 6])), (el, .inl (cy 2, 10, .inr (.inr (.inr (.inr g))))), (y0, .inr (8, q0)), (r0, .inr (4, [.int 0, .ref ed, .int 0])), (y1, .inr (8, q1)), (r1, .inr (4, [.int 0, .ref ed, .int 0])), (y2, .inr (8, q2)), (r2, .inr (4, [.int 0, .ref ed, .int 0])), (y3, .inr (8, q3)), (r3, .inr (4, [.int 0, .ref ed, .int 0])), (y4, .inr (8, q4)), (r4, .inr (4, [.int 0, .ref ed, .int 0])), (y5, .inr (8, q5)), (r5, .inr (4, [.int 0, .ref ed, .int 0]))]) [0, 1, 4, 5, 6, 13, 14, 15, 16, 17, 18, 19, 20, 21, 22, 23, 24] (by decide) rfl
  have hFc := va_free (wc := [(h, .inr (13, [.ref pe, .ref ne, .ref pa, .ref ro, .int 0])), (pe, .inr (9, [.int 20, .ref a1, .ref a2, .ref a3, .ref a4, .ref a5, .ref a6, .ref a7, .ref a8, .ref a9])), (ro, .inl (cy 0, 20, .inl f0)), (pa, .inr (4, [.int mc, .ref el, .int 6])), (el, .inl (cy 2, 10, .inr (.inr (.inr (.inr g))))), (y0, .inr (8, q0)), (r0, .inr (4, [.int 0, .ref ed, .int 0])), (y1, .inr (8, q1)), (r1, .inr (4, [.int 0, .ref ed, .int 0])), (y2, .inr (8, q2)), (r2, .inr (4, [.int 0, .ref ed, .int 0])), (y3, .inr (8, q3)), (r3, .inr (4, [.int 0, .ref ed, .int 0])), (y4, .inr (8, q4)), (r4, .inr (4, [.int 0, .ref ed, .int 0])), (y5, .inr (8, q5)), (r5, .inr (4, [.int 0, .ref ed, .int 0]))]) hD hS hA [0, 1, 4, 5, 6, 13, 14, 15, 16, 17, 18, 19, 20, 21, 22, 23, 24] rfl
  refine va_calli (va_runV (As := []) (rest := []) ⟨hx, hb, hml, hown, hts⟩ (c_X8_rings l hst D cy ed H.size h pe ne pa ro 0 a1 a2 a3 a4 a5 a6 a7 a8 a9 mc el g y0 y1 y2 y3 y4 y5 r0 r1 r2 r3 r4 r5 q0 q1 q2 q3 q4 q5 f0 hxe0 hxe1 hxe2 hxe3 hxe4 hxe5 hxq0 hxq1 hxq2 hxq3 hxq4 hxq5) (cwV 0 hts (zx_GV mm_244 mm_245 mm_246 mm_71 mm_247) rfl rfl rfl (by decide +kernel) ⟨(Nat.le_of_ble_eq_true rfl), (Nat.le_of_ble_eq_true rfl)⟩) ⟨zx_blind, va_recv hK hPc (ci := 13) (q0 := 0) rfl rfl, zx_give hPc hK hDc hS hFc hZ hN⟩ rfl rfl hl.1 rfl (lv_room (Nat.le_of_ble_eq_true rfl)) dL_law_4087 ⟨(by show _ ≤ 2000000; omega), (by show _ ≤ 20000000; omega)⟩) hS (fun q _ h => hFc q h) hFc (fun r9 u t H1 locs ht hvm hw hB hz1 hk1 hS => ?_)
  obtain ⟨f3_1763, rfl⟩ : ∃ z9, z9 = u := ⟨_, rfl⟩
  obtain rfl : r9 = 0 := hw
  have hgr := Nat.le_trans hgr hz1
  obtain ⟨hP, hD⟩ := zx_join (wr := [(a1, .inl (cy 0, 20, .inl f1)), (a2, .inl (cy 0, 20, .inl f2)), (m0, .inr (20, [.int 0, .ref mp, .int 0, .ref b1, .ref b2, .ref b3, .ref b4, .ref b5, .ref mq])), (mp, .inr (4, [.int mm, .ref ep, .int 20])), (ep, .inl (cy 2, 22, .inr (.inr (.inr (.inr gp))))), (mq, .inr (4, [.int mn, .ref eq, .int 6])), (eq, .inl (cy 2, 10, .inr (.inr (.inr (.inr gq))))), (oa, .inl (cy 3, 1, .inr (.inl og))), (z0, .inr (16, u0)), (v0, .inr (4, [.int 0, .ref ed, .int 0])), (z1, .inr (16, u1)), (v1, .inr (4, [.int 0, .ref ed, .int 0])), (z2, .inr (16, u2)), (v2, .inr (4, [.int 0, .ref ed, .int 0])), (z3, .inr (16, u3)), (v3, .inr (4, [.int 0, .ref ed, .int 0])), (z4, .inr (16, u4)), (v4, .inr (4, [.int 0, .ref ed, .int 0])), (z5, .inr (16, u5)), (v5, .inr (4, [.int 0, .ref ed, .int 0]))]) (w1 := [(h, .inr (13, [.ref pe, .ref ne, .ref pa, .ref ro, .int 0])), (pe, .inr (9, [.int 20, .ref a1, .ref a2, .ref a3, .ref a4, .ref a5, .ref a6, .ref a7, .ref a8, .ref a9])), (ro, .inl (cy 0, 20, .inl f3_1763)), (pa, .inr (4, [.int mc, .ref el, .int 6])), (el, .inl (cy 2, 10, .inr (.inr (.inr (.inr g))))), (y0, .inr (8, q0)), (r0, .inr (4, [.int 0, .ref ed, .int 0])), (y1, .inr (8, q1)), (r1, .inr (4, [.int 0, .ref ed, .int 0])), (y2, .inr (8, q2)), (r2, .inr (4, [.int 0, .ref ed, .int 0])), (y3, .inr (8, q3)), (r3, .inr (4, [.int 0, .ref ed, .int 0])), (y4, .inr (8, q4)), (r4, .inr (4, [.int 0, .ref ed, .int 0])), (y5, .inr (8, q5)), (r5, .inr (4, [.int 0, .ref ed, .int 0]))]) [0, 1, 4, 5, 6, 13, 14, 15, 16, 17, 18, 19, 20, 21, 22, 23, 24] [2, 3, 7, 8, 9, 10, 11, 12, 25, 26, 27, 28, 29, 30, 31, 32, 33, 34, 35, 36] rfl rfl (by decide) (by decide) hP hD hk1 hFc hB ht
  generalize H1 = H at hP hS hgr ⊢
  have hP : va_P D vwCl [(a1, .inl (cy 0, 20, .inl f1)), (a2, .inl (cy 0, 20, .inl f2)), (m0, .inr (20, [.int 0, .ref mp, .int 0, .ref b1, .ref b2, .ref b3, .ref b4, .ref b5, .ref mq])), (mp, .inr (4, [.int mm, .ref ep, .int 20])), (ep, .inl (cy 2, 22, .inr (.inr (.inr (.inr gp))))), (mq, .inr (4, [.int mn, .ref eq, .int 6])), (eq, .inl (cy 2, 10, .inr (.inr (.inr (.inr gq))))), (oa, .inl (cy 3, 1, .inr (.inl og))), (z0, .inr (16, u0)), (v0, .inr (4, [.int 0, .ref ed, .int 0])), (z1, .inr (16, u1)), (v1, .inr (4, [.int 0, .ref ed, .int 0])), (z2, .inr (16, u2)), (v2, .inr (4, [.int 0, .ref ed, .int 0])), (z3, .inr (16, u3)), (v3, .inr (4, [.int 0, .ref ed, .int 0])), (z4, .inr (16, u4)), (v4, .inr (4, [.int 0, .ref ed, .int 0])), (z5, .inr (16, u5)), (v5, .inr (4, [.int 0, .ref ed, .int 0])), (h, .inr (13, [.ref pe, .ref ne, .ref pa, .ref ro, .int 0])), (pe, .inr (9, [.int 20, .ref a1, .ref a2, .ref a3, .ref a4, .ref a5, .ref a6, .ref a7, .ref a8, .ref a9])), (ro, .inl (cy 0, 20, .inl f3_1763)), (pa, .inr (4, [.int mc, .ref el, .int 6])), (el, .inl (cy 2, 10, .inr (.inr (.inr (.inr g))))), (y0, .inr (8, q0)), (r0, .inr (4, [.int 0, .ref ed, .int 0])), (y1, .inr (8, q1)), (r1, .inr (4, [.int 0, .ref ed, .int 0])), (y2, .inr (8, q2)), (r2, .inr (4, [.int 0, .ref ed, .int 0])), (y3, .inr (8, q3)), (r3, .inr (4, [.int 0, .ref ed, .int 0])), (y4, .inr (8, q4)), (r4, .inr (4, [.int 0, .ref ed, .int 0])), (y5, .inr (8, q5)), (r5, .inr (4, [.int 0, .ref ed, .int 0]))] H := hP
  have hD : va_D A [(a1, .inl (cy 0, 20, .inl f1)), (a2, .inl (cy 0, 20, .inl f2)), (m0, .inr (20, [.int 0, .ref mp, .int 0, .ref b1, .ref b2, .ref b3, .ref b4, .ref b5, .ref mq])), (mp, .inr (4, [.int mm, .ref ep, .int 20])), (ep, .inl (cy 2, 22, .inr (.inr (.inr (.inr gp))))), (mq, .inr (4, [.int mn, .ref eq, .int 6])), (eq, .inl (cy 2, 10, .inr (.inr (.inr (.inr gq))))), (oa, .inl (cy 3, 1, .inr (.inl og))), (z0, .inr (16, u0)), (v0, .inr (4, [.int 0, .ref ed, .int 0])), (z1, .inr (16, u1)), (v1, .inr (4, [.int 0, .ref ed, .int 0])), (z2, .inr (16, u2)), (v2, .inr (4, [.int 0, .ref ed, .int 0])), (z3, .inr (16, u3)), (v3, .inr (4, [.int 0, .ref ed, .int 0])), (z4, .inr (16, u4)), (v4, .inr (4, [.int 0, .ref ed, .int 0])), (z5, .inr (16, u5)), (v5, .inr (4, [.int 0, .ref ed, .int 0])), (h, .inr (13, [.ref pe, .ref ne, .ref pa, .ref ro, .int 0])), (pe, .inr (9, [.int 20, .ref a1, .ref a2, .ref a3, .ref a4, .ref a5, .ref a6, .ref a7, .ref a8, .ref a9])), (ro, .inl (cy 0, 20, .inl f3_1763)), (pa, .inr (4, [.int mc, .ref el, .int 6])), (el, .inl (cy 2, 10, .inr (.inr (.inr (.inr g))))), (y0, .inr (8, q0)), (r0, .inr (4, [.int 0, .ref ed, .int 0])), (y1, .inr (8, q1)), (r1, .inr (4, [.int 0, .ref ed, .int 0])), (y2, .inr (8, q2)), (r2, .inr (4, [.int 0, .ref ed, .int 0])), (y3, .inr (8, q3)), (r3, .inr (4, [.int 0, .ref ed, .int 0])), (y4, .inr (8, q4)), (r4, .inr (4, [.int 0, .ref ed, .int 0])), (y5, .inr (8, q5)), (r5, .inr (4, [.int 0, .ref ed, .int 0]))] := hD
  refine W.widen (k := cells) (n := slots) (Nat.le_refl _) (Nat.le_refl _) ?_
  refine lv_aload_n hx hb dL_law_4090 rfl (lv_at hl 2 rfl) ?_
  have hPc := hP.sub (ws' := [(m0, .inr (20, [.int 0, .ref mp, .int 0, .ref b1, .ref b2, .ref b3, .ref b4, .ref b5, .ref mq])), (mp, .inr (4, [.int mm, .ref ep, .int 20])), (mq, .inr (4, [.int mn, .ref eq, .int 6])), (eq, .inl (cy 2, 10, .inr (.inr (.inr (.inr gq))))), (z0, .inr (16, u0)), (v0, .inr (4, [.int 0, .ref ed, .int 0])), (z1, .inr (16, u1)), (v1, .inr (4, [.int 0, .ref ed, .int 0])), (z2, .inr (16, u2)), (v2, .inr (4, [.int 0, .ref ed, .int 0])), (z3, .inr (16, u3)), (v3, .inr (4, [.int 0, .ref ed, .int 0])), (z4, .inr (16, u4)), (v4, .inr (4, [.int 0, .ref ed, .int 0])), (z5, .inr (16, u5)), (v5, .inr (4, [.int 0, .ref ed, .int 0]))]) [2, 3, 5, 6, 8, 9, 10, 11, 12, 13, 14, 15, 16, 17, 18, 19] rfl
  have hDc := hD.sub (ws' := [(m0, .inr (20, [.int 0, .ref mp, .int 0, .ref b1, .ref b2, .ref b3, .ref b4, .ref b5, .ref mq])), (mp, .inr (4, [.int mm, .ref ep, .int 20])), (mq, .inr (4, [.int mn, .ref eq, .int 6])), (eq, .inl (cy 2, 10, .inr (.inr (.inr (.inr gq))))), (z0, .inr (16, u0)), (v0, .inr (4, [.int 0, .ref ed, .int 0])), (z1, .inr (16, u1)), (v1, .inr (4, [.int 0, .ref ed, .int 0])), (z2, .inr (16, u2)), (v2, .inr (4, [.int 0, .ref ed, .int 0])), (z3, .inr (16, u3)), (v3, .inr (4, [.int 0, .ref ed, .int 0])), (z4, .inr (16, u4)), (v4, .inr (4, [.int 0, .ref ed, .int 0])), (z5, .inr (16, u5)), (v5, .inr (4, [.int 0, .ref ed, .int 0]))]) [2, 3, 5, 6, 8, 9, 10, 11, 12, 13, 14, 15, 16, 17, 18, 19] (by decide) rfl
  have hFc := va_free (wc := [(m0, .inr (20, [.int 0, .ref mp, .int 0, .ref b1, .ref b2, .ref b3, .ref b4, .ref b5, .ref mq])), (mp, .inr (4, [.int mm, .ref ep, .int 20])), (mq, .inr (4, [.int mn, .ref eq, .int 6])), (eq, .inl (cy 2, 10, .inr (.inr (.inr (.inr gq))))), (z0, .inr (16, u0)), (v0, .inr (4, [.int 0, .ref ed, .int 0])), (z1, .inr (16, u1)), (v1, .inr (4, [.int 0, .ref ed, .int 0])), (z2, .inr (16, u2)), (v2, .inr (4, [.int 0, .ref ed, .int 0])), (z3, .inr (16, u3)), (v3, .inr (4, [.int 0, .ref ed, .int 0])), (z4, .inr (16, u4)), (v4, .inr (4, [.int 0, .ref ed, .int 0])), (z5, .inr (16, u5)), (v5, .inr (4, [.int 0, .ref ed, .int 0]))]) hD hS hA [2, 3, 5, 6, 8, 9, 10, 11, 12, 13, 14, 15, 16, 17, 18, 19] rfl
  refine va_calli (va_runV (As := []) (rest := [.int 0]) ⟨hx, hb, hml, hown, hts⟩ (c_X15_rings l hst D cy ed H.size m0 mp mq b1 b2 b3 b4 b5 0 0 mm ep mn eq gq z0 z1 z2 z3 z4 z5 v0 v1 v2 v3 v4 v5 u0 u1 u2 u3 u4 u5 hme0 hme1 hme2 hme3 hme4 hme5 hmq0 hmq1 hmq2 hmq3 hmq4 hmq5) (cwV 0 hts (zx_GV mm_2425 mm_2426 mm_2427 mm_78 mm_2428) rfl rfl rfl (by decide +kernel) ⟨(Nat.le_of_ble_eq_true rfl), (Nat.le_of_ble_eq_true rfl)⟩) ⟨zx_blind, va_recv hK hPc (ci := 20) (q0 := 0) rfl rfl, zx_give hPc hK hDc hS hFc hZ hN⟩ rfl rfl hl.1 rfl (lv_room (Nat.le_of_ble_eq_true rfl)) dL_law_4091 ⟨(by show _ ≤ 2000000; omega), (by show _ ≤ 20000000; omega)⟩) hS (fun q _ h => hFc q h) hFc (fun r9 u t H1 locs ht hvm hw hB hz1 hk1 hS => ?_)
  obtain rfl : r9 = 0 := hw
  obtain ⟨hB, hgz⟩ := hB
  rw [ht] at hgz
  have hgr := zx_gadd hgr hgz
  obtain ⟨hP, hD⟩ := zx_join (wr := [(a1, .inl (cy 0, 20, .inl f1)), (a2, .inl (cy 0, 20, .inl f2)), (ep, .inl (cy 2, 22, .inr (.inr (.inr (.inr gp))))), (oa, .inl (cy 3, 1, .inr (.inl og))), (h, .inr (13, [.ref pe, .ref ne, .ref pa, .ref ro, .int 0])), (pe, .inr (9, [.int 20, .ref a1, .ref a2, .ref a3, .ref a4, .ref a5, .ref a6, .ref a7, .ref a8, .ref a9])), (ro, .inl (cy 0, 20, .inl f3_1763)), (pa, .inr (4, [.int mc, .ref el, .int 6])), (el, .inl (cy 2, 10, .inr (.inr (.inr (.inr g))))), (y0, .inr (8, q0)), (r0, .inr (4, [.int 0, .ref ed, .int 0])), (y1, .inr (8, q1)), (r1, .inr (4, [.int 0, .ref ed, .int 0])), (y2, .inr (8, q2)), (r2, .inr (4, [.int 0, .ref ed, .int 0])), (y3, .inr (8, q3)), (r3, .inr (4, [.int 0, .ref ed, .int 0])), (y4, .inr (8, q4)), (r4, .inr (4, [.int 0, .ref ed, .int 0])), (y5, .inr (8, q5)), (r5, .inr (4, [.int 0, .ref ed, .int 0]))]) (w1 := [(m0, .inr (20, [.int 0, .ref mp, .int 0, .ref b1, .ref b2, .ref b3, .ref b4, .ref b5, .ref mq])), (mp, .inr (4, [.int mm, .ref ep, .int 20])), (mq, .inr (4, [.int mn, .ref eq, .int 6])), (eq, .inl (cy 2, 10, .inr (.inr (.inr (.inr gq))))), (z0, .inr (16, u0)), (v0, .inr (4, [.int 0, .ref ed, .int 0])), (z1, .inr (16, u1)), (v1, .inr (4, [.int 0, .ref ed, .int 0])), (z2, .inr (16, u2)), (v2, .inr (4, [.int 0, .ref ed, .int 0])), (z3, .inr (16, u3)), (v3, .inr (4, [.int 0, .ref ed, .int 0])), (z4, .inr (16, u4)), (v4, .inr (4, [.int 0, .ref ed, .int 0])), (z5, .inr (16, u5)), (v5, .inr (4, [.int 0, .ref ed, .int 0]))]) [2, 3, 5, 6, 8, 9, 10, 11, 12, 13, 14, 15, 16, 17, 18, 19] [0, 1, 4, 7, 20, 21, 22, 23, 24, 25, 26, 27, 28, 29, 30, 31, 32, 33, 34, 35, 36] rfl rfl (by decide) (by decide) hP hD hk1 hFc hB ht
  generalize H1 = H at hP hS hgr ⊢
  have hP : va_P D vwCl [(a1, .inl (cy 0, 20, .inl f1)), (a2, .inl (cy 0, 20, .inl f2)), (ep, .inl (cy 2, 22, .inr (.inr (.inr (.inr gp))))), (oa, .inl (cy 3, 1, .inr (.inl og))), (h, .inr (13, [.ref pe, .ref ne, .ref pa, .ref ro, .int 0])), (pe, .inr (9, [.int 20, .ref a1, .ref a2, .ref a3, .ref a4, .ref a5, .ref a6, .ref a7, .ref a8, .ref a9])), (ro, .inl (cy 0, 20, .inl f3_1763)), (pa, .inr (4, [.int mc, .ref el, .int 6])), (el, .inl (cy 2, 10, .inr (.inr (.inr (.inr g))))), (y0, .inr (8, q0)), (r0, .inr (4, [.int 0, .ref ed, .int 0])), (y1, .inr (8, q1)), (r1, .inr (4, [.int 0, .ref ed, .int 0])), (y2, .inr (8, q2)), (r2, .inr (4, [.int 0, .ref ed, .int 0])), (y3, .inr (8, q3)), (r3, .inr (4, [.int 0, .ref ed, .int 0])), (y4, .inr (8, q4)), (r4, .inr (4, [.int 0, .ref ed, .int 0])), (y5, .inr (8, q5)), (r5, .inr (4, [.int 0, .ref ed, .int 0])), (m0, .inr (20, [.int 0, .ref mp, .int 0, .ref b1, .ref b2, .ref b3, .ref b4, .ref b5, .ref mq])), (mp, .inr (4, [.int mm, .ref ep, .int 20])), (mq, .inr (4, [.int mn, .ref eq, .int 6])), (eq, .inl (cy 2, 10, .inr (.inr (.inr (.inr gq))))), (z0, .inr (16, u0)), (v0, .inr (4, [.int 0, .ref ed, .int 0])), (z1, .inr (16, u1)), (v1, .inr (4, [.int 0, .ref ed, .int 0])), (z2, .inr (16, u2)), (v2, .inr (4, [.int 0, .ref ed, .int 0])), (z3, .inr (16, u3)), (v3, .inr (4, [.int 0, .ref ed, .int 0])), (z4, .inr (16, u4)), (v4, .inr (4, [.int 0, .ref ed, .int 0])), (z5, .inr (16, u5)), (v5, .inr (4, [.int 0, .ref ed, .int 0]))] H := hP
  have hD : va_D A [(a1, .inl (cy 0, 20, .inl f1)), (a2, .inl (cy 0, 20, .inl f2)), (ep, .inl (cy 2, 22, .inr (.inr (.inr (.inr gp))))), (oa, .inl (cy 3, 1, .inr (.inl og))), (h, .inr (13, [.ref pe, .ref ne, .ref pa, .ref ro, .int 0])), (pe, .inr (9, [.int 20, .ref a1, .ref a2, .ref a3, .ref a4, .ref a5, .ref a6, .ref a7, .ref a8, .ref a9])), (ro, .inl (cy 0, 20, .inl f3_1763)), (pa, .inr (4, [.int mc, .ref el, .int 6])), (el, .inl (cy 2, 10, .inr (.inr (.inr (.inr g))))), (y0, .inr (8, q0)), (r0, .inr (4, [.int 0, .ref ed, .int 0])), (y1, .inr (8, q1)), (r1, .inr (4, [.int 0, .ref ed, .int 0])), (y2, .inr (8, q2)), (r2, .inr (4, [.int 0, .ref ed, .int 0])), (y3, .inr (8, q3)), (r3, .inr (4, [.int 0, .ref ed, .int 0])), (y4, .inr (8, q4)), (r4, .inr (4, [.int 0, .ref ed, .int 0])), (y5, .inr (8, q5)), (r5, .inr (4, [.int 0, .ref ed, .int 0])), (m0, .inr (20, [.int 0, .ref mp, .int 0, .ref b1, .ref b2, .ref b3, .ref b4, .ref b5, .ref mq])), (mp, .inr (4, [.int mm, .ref ep, .int 20])), (mq, .inr (4, [.int mn, .ref eq, .int 6])), (eq, .inl (cy 2, 10, .inr (.inr (.inr (.inr gq))))), (z0, .inr (16, u0)), (v0, .inr (4, [.int 0, .ref ed, .int 0])), (z1, .inr (16, u1)), (v1, .inr (4, [.int 0, .ref ed, .int 0])), (z2, .inr (16, u2)), (v2, .inr (4, [.int 0, .ref ed, .int 0])), (z3, .inr (16, u3)), (v3, .inr (4, [.int 0, .ref ed, .int 0])), (z4, .inr (16, u4)), (v4, .inr (4, [.int 0, .ref ed, .int 0])), (z5, .inr (16, u5)), (v5, .inr (4, [.int 0, .ref ed, .int 0]))] := hD
  refine W.widen (k := (cells + 1330)) (n := (slots + 5320)) (Nat.le_refl _) (Nat.le_refl _) ?_
  refine lv_icmp_eq (tgt := 4257) hx hb dL_law_4094 (by decide) (fun _ => ?_) (fun c_1764 => absurd (by decide) c_1764)
  refine lv_iinc (v := nI (i + 6)) (lv' := [(5, .int (nI (i + 6))), (3, .ref oa), (2, .ref m0), (1, .ref h), (0, .ref b)]) hx hb dL_law_4257 hl (k := 0) rfl (zx_nI6 _) (by decide) rfl (fun ls hl => ?_)
  refine lv_goto (tgt := 28) hx hb dL_law_4260 (by decide) ?_
  have hP := hP.sub (ws' := [(h, .inr (13, [.ref pe, .ref ne, .ref pa, .ref ro, .int 0])), (pe, .inr (9, [.int 20, .ref a1, .ref a2, .ref a3, .ref a4, .ref a5, .ref a6, .ref a7, .ref a8, .ref a9])), (a1, .inl (cy 0, 20, .inl f1)), (a2, .inl (cy 0, 20, .inl f2)), (ro, .inl (cy 0, 20, .inl f3_1763)), (pa, .inr (4, [.int mc, .ref el, .int 6])), (el, .inl (cy 2, 10, .inr (.inr (.inr (.inr g))))), (m0, .inr (20, [.int 0, .ref mp, .int 0, .ref b1, .ref b2, .ref b3, .ref b4, .ref b5, .ref mq])), (mp, .inr (4, [.int mm, .ref ep, .int 20])), (ep, .inl (cy 2, 22, .inr (.inr (.inr (.inr gp))))), (mq, .inr (4, [.int mn, .ref eq, .int 6])), (eq, .inl (cy 2, 10, .inr (.inr (.inr (.inr gq))))), (oa, .inl (cy 3, 1, .inr (.inl og))), (y0, .inr (8, q0)), (r0, .inr (4, [.int 0, .ref ed, .int 0])), (y1, .inr (8, q1)), (r1, .inr (4, [.int 0, .ref ed, .int 0])), (y2, .inr (8, q2)), (r2, .inr (4, [.int 0, .ref ed, .int 0])), (y3, .inr (8, q3)), (r3, .inr (4, [.int 0, .ref ed, .int 0])), (y4, .inr (8, q4)), (r4, .inr (4, [.int 0, .ref ed, .int 0])), (y5, .inr (8, q5)), (r5, .inr (4, [.int 0, .ref ed, .int 0])), (z0, .inr (16, u0)), (v0, .inr (4, [.int 0, .ref ed, .int 0])), (z1, .inr (16, u1)), (v1, .inr (4, [.int 0, .ref ed, .int 0])), (z2, .inr (16, u2)), (v2, .inr (4, [.int 0, .ref ed, .int 0])), (z3, .inr (16, u3)), (v3, .inr (4, [.int 0, .ref ed, .int 0])), (z4, .inr (16, u4)), (v4, .inr (4, [.int 0, .ref ed, .int 0])), (z5, .inr (16, u5)), (v5, .inr (4, [.int 0, .ref ed, .int 0]))]) [4, 5, 0, 1, 6, 7, 8, 21, 22, 2, 23, 24, 3, 9, 10, 11, 12, 13, 14, 15, 16, 17, 18, 19, 20, 25, 26, 27, 28, 29, 30, 31, 32, 33, 34, 35, 36] rfl
  have hD := hD.sub (ws' := [(h, .inr (13, [.ref pe, .ref ne, .ref pa, .ref ro, .int 0])), (pe, .inr (9, [.int 20, .ref a1, .ref a2, .ref a3, .ref a4, .ref a5, .ref a6, .ref a7, .ref a8, .ref a9])), (a1, .inl (cy 0, 20, .inl f1)), (a2, .inl (cy 0, 20, .inl f2)), (ro, .inl (cy 0, 20, .inl f3_1763)), (pa, .inr (4, [.int mc, .ref el, .int 6])), (el, .inl (cy 2, 10, .inr (.inr (.inr (.inr g))))), (m0, .inr (20, [.int 0, .ref mp, .int 0, .ref b1, .ref b2, .ref b3, .ref b4, .ref b5, .ref mq])), (mp, .inr (4, [.int mm, .ref ep, .int 20])), (ep, .inl (cy 2, 22, .inr (.inr (.inr (.inr gp))))), (mq, .inr (4, [.int mn, .ref eq, .int 6])), (eq, .inl (cy 2, 10, .inr (.inr (.inr (.inr gq))))), (oa, .inl (cy 3, 1, .inr (.inl og))), (y0, .inr (8, q0)), (r0, .inr (4, [.int 0, .ref ed, .int 0])), (y1, .inr (8, q1)), (r1, .inr (4, [.int 0, .ref ed, .int 0])), (y2, .inr (8, q2)), (r2, .inr (4, [.int 0, .ref ed, .int 0])), (y3, .inr (8, q3)), (r3, .inr (4, [.int 0, .ref ed, .int 0])), (y4, .inr (8, q4)), (r4, .inr (4, [.int 0, .ref ed, .int 0])), (y5, .inr (8, q5)), (r5, .inr (4, [.int 0, .ref ed, .int 0])), (z0, .inr (16, u0)), (v0, .inr (4, [.int 0, .ref ed, .int 0])), (z1, .inr (16, u1)), (v1, .inr (4, [.int 0, .ref ed, .int 0])), (z2, .inr (16, u2)), (v2, .inr (4, [.int 0, .ref ed, .int 0])), (z3, .inr (16, u3)), (v3, .inr (4, [.int 0, .ref ed, .int 0])), (z4, .inr (16, u4)), (v4, .inr (4, [.int 0, .ref ed, .int 0])), (z5, .inr (16, u5)), (v5, .inr (4, [.int 0, .ref ed, .int 0]))]) [4, 5, 0, 1, 6, 7, 8, 21, 22, 2, 23, 24, 3, 9, 10, 11, 12, 13, 14, 15, 16, 17, 18, 19, 20, 25, 26, 27, 28, 29, 30, 31, 32, 33, 34, 35, 36] (by decide) rfl
  exact hnext _ _ _ ⟨pe, ne, pa, ro, a1, a2, a3, a4, a5, a6, a7, a8, a9, mp, mq, b1, b2, b3, b4, b5, ep, el, eq, mc, mm, mn, f1, f2, f3_1763, og, gp, g, gq, y0, y1, y2, y3, y4, y5, r0, r1, r2, r3, r4, r5, q0, q1, q2, q3, q4, q5, z0, z1, z2, z3, z4, z5, v0, v1, v2, v3, v4, v5, u0, u1, u2, u3, u4, u5, hP, hD, hxe0, hxe1, hxe2, hxe3, hxe4, hxe5, hxq0, hxq1, hxq2, hxq3, hxq4, hxq5, hme0, hme1, hme2, hme3, hme4, hme5, hmq0, hmq1, hmq2, hmq3, hmq4, hmq5⟩ (by omega) hS (lv_sub hl [0, 1, 2, 3, 4] rfl)

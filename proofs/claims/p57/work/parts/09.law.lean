theorem dL_law_28 : decode cL_law 28 = .ok (.iload 5, 2) := by decide +kernel
theorem dL_law_30 : decode cL_law 30 = .ok (.aload_n 0, 1) := by decide +kernel
theorem dL_law_31 : decode cL_law 31 = .ok (.arraylength, 1) := by decide +kernel
theorem dL_law_32 : decode cL_law 32 = .ok (.bipush 6, 2) := by decide +kernel
theorem dL_law_34 : decode cL_law 34 = .ok (.isub, 1) := by decide +kernel
theorem dL_law_35 : decode cL_law 35 = .ok (.if_icmp .gt 2513, 3) := by decide +kernel
theorem dL_law_38 : decode cL_law 38 = .ok (.aload_n 0, 1) := by decide +kernel
theorem dL_law_39 : decode cL_law 39 = .ok (.iload 5, 2) := by decide +kernel
theorem dL_law_41 : decode cL_law 41 = .ok (.iaload, 1) := by decide +kernel
theorem dL_law_42 : decode cL_law 42 = .ok (.bipush 63, 2) := by decide +kernel
theorem dL_law_44 : decode cL_law 44 = .ok (.iand, 1) := by decide +kernel
theorem dL_law_45 : decode cL_law 45 = .ok (.tableswitch 2497 0 59 #[255, 295, 335, 375, 415, 455, 495, 535, 587, 627, 667, 707, 747, 775, 803, 831, 871, 911, 979, 1071, 1111, 1163, 1191, 1219, 1247, 1287, 1315, 1343, 1383, 1411, 1451, 1479, 1507, 1561, 1601, 1629, 1669, 1721, 1761, 1839, 1879, 1907, 1947, 1975, 2043, 2095, 2135, 2175, 2203, 2231, 2272, 2300, 2328, 2356, 2396, 2424, 2437, 2450, 2467, 2484], 255) := by decide +kernel
theorem dL_law_300 : decode cL_law 300 = .ok (.aload_n 1, 1) := by decide +kernel
theorem dL_law_301 : decode cL_law 301 = .ok (.aload_n 0, 1) := by decide +kernel
theorem dL_law_302 : decode cL_law 302 = .ok (.iload 5, 2) := by decide +kernel
theorem dL_law_304 : decode cL_law 304 = .ok (.iconst 1, 1) := by decide +kernel
theorem dL_law_305 : decode cL_law 305 = .ok (.iadd, 1) := by decide +kernel
theorem dL_law_306 : decode cL_law 306 = .ok (.iaload, 1) := by decide +kernel
theorem dL_law_307 : decode cL_law 307 = .ok (.aload_n 0, 1) := by decide +kernel
theorem dL_law_308 : decode cL_law 308 = .ok (.iload 5, 2) := by decide +kernel
theorem dL_law_310 : decode cL_law 310 = .ok (.iconst 2, 1) := by decide +kernel
theorem dL_law_311 : decode cL_law 311 = .ok (.iadd, 1) := by decide +kernel
theorem dL_law_312 : decode cL_law 312 = .ok (.iaload, 1) := by decide +kernel
theorem dL_law_313 : decode cL_law 313 = .ok (.aload_n 3, 1) := by decide +kernel
theorem dL_law_314 : decode cL_law 314 = .ok (.invokestatic 212, 3) := by decide +kernel
theorem dL_law_317 : decode cL_law 317 = .ok (.istore 6, 2) := by decide +kernel
theorem dL_law_319 : decode cL_law 319 = .ok (.aload_n 2, 1) := by decide +kernel
theorem dL_law_320 : decode cL_law 320 = .ok (.aload_n 0, 1) := by decide +kernel
theorem dL_law_321 : decode cL_law 321 = .ok (.iload 5, 2) := by decide +kernel
theorem dL_law_323 : decode cL_law 323 = .ok (.iconst 1, 1) := by decide +kernel
theorem dL_law_324 : decode cL_law 324 = .ok (.iadd, 1) := by decide +kernel
theorem dL_law_325 : decode cL_law 325 = .ok (.iaload, 1) := by decide +kernel
theorem dL_law_326 : decode cL_law 326 = .ok (.aload_n 0, 1) := by decide +kernel
theorem dL_law_327 : decode cL_law 327 = .ok (.iload 5, 2) := by decide +kernel
theorem dL_law_329 : decode cL_law 329 = .ok (.iconst 2, 1) := by decide +kernel
theorem dL_law_330 : decode cL_law 330 = .ok (.iadd, 1) := by decide +kernel
theorem dL_law_331 : decode cL_law 331 = .ok (.iaload, 1) := by decide +kernel
theorem dL_law_332 : decode cL_law 332 = .ok (.invokevirtual 217, 3) := by decide +kernel
theorem dL_law_335 : decode cL_law 335 = .ok (.istore 7, 2) := by decide +kernel
theorem dL_law_337 : decode cL_law 337 = .ok (.goto 2205, 3) := by decide +kernel
theorem dL_law_2542 : decode cL_law 2542 = .ok (.iinc 5 6, 3) := by decide +kernel
theorem dL_law_2545 : decode cL_law 2545 = .ok (.goto (-2517), 3) := by decide +kernel
theorem dL_law_580 : decode cL_law 580 = .ok (.aload_n 1, 1) := by decide +kernel
theorem dL_law_581 : decode cL_law 581 = .ok (.aload_n 0, 1) := by decide +kernel
theorem dL_law_582 : decode cL_law 582 = .ok (.iload 5, 2) := by decide +kernel
theorem dL_law_584 : decode cL_law 584 = .ok (.iconst 1, 1) := by decide +kernel
theorem dL_law_585 : decode cL_law 585 = .ok (.iadd, 1) := by decide +kernel
theorem dL_law_586 : decode cL_law 586 = .ok (.iaload, 1) := by decide +kernel
theorem dL_law_587 : decode cL_law 587 = .ok (.aload_n 0, 1) := by decide +kernel
theorem dL_law_588 : decode cL_law 588 = .ok (.iload 5, 2) := by decide +kernel
theorem dL_law_590 : decode cL_law 590 = .ok (.iconst 2, 1) := by decide +kernel
theorem dL_law_591 : decode cL_law 591 = .ok (.iadd, 1) := by decide +kernel
theorem dL_law_592 : decode cL_law 592 = .ok (.iaload, 1) := by decide +kernel
theorem dL_law_593 : decode cL_law 593 = .ok (.aload_n 0, 1) := by decide +kernel
theorem dL_law_594 : decode cL_law 594 = .ok (.iload 5, 2) := by decide +kernel
theorem dL_law_596 : decode cL_law 596 = .ok (.iconst 3, 1) := by decide +kernel
theorem dL_law_597 : decode cL_law 597 = .ok (.iadd, 1) := by decide +kernel
theorem dL_law_598 : decode cL_law 598 = .ok (.iaload, 1) := by decide +kernel
theorem dL_law_599 : decode cL_law 599 = .ok (.aload_n 3, 1) := by decide +kernel
theorem dL_law_600 : decode cL_law 600 = .ok (.invokestatic 236, 3) := by decide +kernel
theorem dL_law_603 : decode cL_law 603 = .ok (.istore 6, 2) := by decide +kernel
theorem dL_law_605 : decode cL_law 605 = .ok (.aload_n 2, 1) := by decide +kernel
theorem dL_law_606 : decode cL_law 606 = .ok (.aload_n 0, 1) := by decide +kernel
theorem dL_law_607 : decode cL_law 607 = .ok (.iload 5, 2) := by decide +kernel
theorem dL_law_609 : decode cL_law 609 = .ok (.iconst 1, 1) := by decide +kernel
theorem dL_law_610 : decode cL_law 610 = .ok (.iadd, 1) := by decide +kernel
theorem dL_law_611 : decode cL_law 611 = .ok (.iaload, 1) := by decide +kernel
theorem dL_law_612 : decode cL_law 612 = .ok (.aload_n 0, 1) := by decide +kernel
theorem dL_law_613 : decode cL_law 613 = .ok (.iload 5, 2) := by decide +kernel
theorem dL_law_615 : decode cL_law 615 = .ok (.iconst 2, 1) := by decide +kernel
theorem dL_law_616 : decode cL_law 616 = .ok (.iadd, 1) := by decide +kernel
theorem dL_law_617 : decode cL_law 617 = .ok (.iaload, 1) := by decide +kernel
theorem dL_law_618 : decode cL_law 618 = .ok (.aload_n 0, 1) := by decide +kernel
theorem dL_law_619 : decode cL_law 619 = .ok (.iload 5, 2) := by decide +kernel
theorem dL_law_621 : decode cL_law 621 = .ok (.iconst 3, 1) := by decide +kernel
theorem dL_law_622 : decode cL_law 622 = .ok (.iadd, 1) := by decide +kernel
theorem dL_law_623 : decode cL_law 623 = .ok (.iaload, 1) := by decide +kernel
theorem dL_law_624 : decode cL_law 624 = .ok (.invokevirtual 239, 3) := by decide +kernel
theorem dL_law_627 : decode cL_law 627 = .ok (.istore 7, 2) := by decide +kernel
theorem dL_law_629 : decode cL_law 629 = .ok (.goto 1913, 3) := by decide +kernel
theorem dL_law_2469 : decode cL_law 2469 = .ok (.aload_n 1, 1) := by decide +kernel
theorem dL_law_2470 : decode cL_law 2470 = .ok (.invokevirtual 387, 3) := by decide +kernel
theorem dL_law_2473 : decode cL_law 2473 = .ok (.aload_n 2, 1) := by decide +kernel
theorem dL_law_2474 : decode cL_law 2474 = .ok (.invokevirtual 391, 3) := by decide +kernel
theorem dL_law_2477 : decode cL_law 2477 = .ok (.if_icmp .eq 65, 3) := by decide +kernel
theorem mm_70 : (.initialized RL : Cond) ∈ zx_G := zx_wi 70 (by decide +kernel) (by decide +kernel)
theorem mm_244 : (.methodLink RL 387 yX8_rings : Cond) ∈ zx_G := zx_wi 244 (by decide +kernel) (by decide +kernel)
theorem mm_245 : (.instanceMethod yX8_rings : Cond) ∈ zx_G := zx_wi 245 (by decide +kernel) (by decide +kernel)
theorem mm_246 : (.selects RX8 yX8_rings yX8_rings : Cond) ∈ zx_G := zx_wi 246 (by decide +kernel) (by decide +kernel)
theorem mm_247 : (.code yX8_rings cX8_rings 4 (some .int) : Cond) ∈ zx_G := zx_wi 247 (by decide +kernel) (by decide +kernel)
theorem mm_329 : (.methodLink RL 212 yL_addPerson : Cond) ∈ zx_G := zx_wi 329 (by decide +kernel) (by decide +kernel)
theorem mm_330 : (.static yL_addPerson : Cond) ∈ zx_G := zx_wi 330 (by decide +kernel) (by decide +kernel)
theorem mm_331 : (.codeWith yL_addPerson cL_addPerson 5 (some .int) [(0, 10, 13, 13), (0, 10, 17, 15)] : Cond) ∈ zx_G := zx_wi 331 (by decide +kernel) (by decide +kernel)
theorem mm_565 : (.methodLink RL 236 yL_begin : Cond) ∈ zx_G := zx_wi 565 (by decide +kernel) (by decide +kernel)
theorem mm_566 : (.static yL_begin : Cond) ∈ zx_G := zx_wi 566 (by decide +kernel) (by decide +kernel)
theorem mm_567 : (.codeWith yL_begin cL_begin 6 (some .int) [(0, 12, 15, 21), (0, 12, 19, 13), (0, 12, 23, 15)] : Cond) ∈ zx_G := zx_wi 567 (by decide +kernel) (by decide +kernel)
theorem mm_1599 : (.methodLink RL 217 yX15_addPerson : Cond) ∈ zx_G := zx_wi 1599 (by decide +kernel) (by decide +kernel)
theorem mm_1600 : (.instanceMethod yX15_addPerson : Cond) ∈ zx_G := zx_wi 1600 (by decide +kernel) (by decide +kernel)
theorem mm_1601 : (.selects RX15 yX15_addPerson yX15_addPerson : Cond) ∈ zx_G := zx_wi 1601 (by decide +kernel) (by decide +kernel)
theorem mm_1602 : (.code yX15_addPerson cX15_addPerson 3 (some .int) : Cond) ∈ zx_G := zx_wi 1602 (by decide +kernel) (by decide +kernel)
theorem mm_1779 : (.methodLink RL 239 yX15_begin : Cond) ∈ zx_G := zx_wi 1779 (by decide +kernel) (by decide +kernel)
theorem mm_1780 : (.instanceMethod yX15_begin : Cond) ∈ zx_G := zx_wi 1780 (by decide +kernel) (by decide +kernel)
theorem mm_1781 : (.selects RX15 yX15_begin yX15_begin : Cond) ∈ zx_G := zx_wi 1781 (by decide +kernel) (by decide +kernel)
theorem mm_1782 : (.code yX15_begin cX15_begin 5 (some .int) : Cond) ∈ zx_G := zx_wi 1782 (by decide +kernel) (by decide +kernel)
theorem mm_2421 : (.methodLink RL 391 yX15_rings : Cond) ∈ zx_G := zx_wi 2421 (by decide +kernel) (by decide +kernel)
theorem mm_2422 : (.instanceMethod yX15_rings : Cond) ∈ zx_G := zx_wi 2422 (by decide +kernel) (by decide +kernel)
theorem mm_2423 : (.selects RX15 yX15_rings yX15_rings : Cond) ∈ zx_G := zx_wi 2423 (by decide +kernel) (by decide +kernel)
theorem mm_2424 : (.code yX15_rings cX15_rings 4 (some .int) : Cond) ∈ zx_G := zx_wi 2424 (by decide +kernel) (by decide +kernel)
/-- the room of a start that is roomy -/
def zx_R : Room := { frames := 22, cells := 2000000, slots := 20000000, locals := 10936 }
/-- the script: twenty people, six papers, then rings again and again -/
def zx_bad (j : Nat) : Int32 := if j % 6 = 0 then (if j < 120 then 0 else if j < 156 then 7 else 55) else 0
theorem zx_nI6 (i : Nat) : nI i + 6 = nI (i + 6) := nI_add i 6
theorem zx_lcmpe {x y : Int64} (h : x = y) : lg_cmp x y = 0 := by
  subst h
  unfold lg_cmp
  rw [if_neg (by simp), if_pos rfl]
/-- what holds all along the law's walk -/
def zx_LW (p : Program) (l : Launch) (s : State) (m : MethodId) (c : Code) (D : va_G) (cy : Nat → ClassId) (ed b : Nat) (A : Nat → Prop) : Prop :=
  p.tables.exec = Jvm.exec ∧ c.code = code ∧ c.maxLocals = 9 ∧ l.stackTraces = false ∧ s.vm.findClass RL = some m.cls ∧ (∀ w ∈ Cond.initialized RX8 :: zx_G, w.before #[Value.ref b] s = true) ∧ va_X b 3072 zx_bad s s.heap ∧ b < s.heap.size ∧ ¬ A b ∧ (∀ q : Nat, s.heap.size ≤ q → A q) ∧ va_K D vwCl (zx_T cy) s ∧ zx_St ed A s s.heap ∧ zx_Nn (cy 6) s

def zx_S0 (D : va_G) (cy : Nat → ClassId) (ed : Nat) (A : Nat → Prop) (h m0 oa : Nat) (H : Heap) : Prop := ∃ (pe : Nat) (ne : Nat) (pa : Nat) (ro : Nat) (a1 : Nat) (a2 : Nat) (a3 : Nat) (a4 : Nat) (a5 : Nat) (a6 : Nat) (a7 : Nat) (a8 : Nat) (a9 : Nat) (mp : Nat) (mq : Nat) (b1 : Nat) (b2 : Nat) (b3 : Nat) (b4 : Nat) (b5 : Nat) (mc : Int32) (mm : Int32) (mn : Int32) (f1 : Nat → Int32) (f2 : Nat → Int32) (f0 : Nat → Int32) (og : Nat → Int64), va_P D vwCl [(h, .inr (13, [.ref pe, .ref ne, .ref pa, .ref ro, .int 0])), (pe, .inr (9, [.int 0, .ref a1, .ref a2, .ref a3, .ref a4, .ref a5, .ref a6, .ref a7, .ref a8, .ref a9])), (a1, .inl (cy 0, 20, .inl f1)), (a2, .inl (cy 0, 20, .inl f2)), (ro, .inl (cy 0, 20, .inl f0)), (pa, .inr (4, [.int mc, .ref ed, .int 0])), (m0, .inr (20, [.int 0, .ref mp, .int 0, .ref b1, .ref b2, .ref b3, .ref b4, .ref b5, .ref mq])), (mp, .inr (4, [.int mm, .ref ed, .int 0])), (mq, .inr (4, [.int mn, .ref ed, .int 0])), (oa, .inl (cy 3, 1, .inr (.inl og)))] H ∧ va_D A [(h, .inr (13, [.ref pe, .ref ne, .ref pa, .ref ro, .int 0])), (pe, .inr (9, [.int 0, .ref a1, .ref a2, .ref a3, .ref a4, .ref a5, .ref a6, .ref a7, .ref a8, .ref a9])), (a1, .inl (cy 0, 20, .inl f1)), (a2, .inl (cy 0, 20, .inl f2)), (ro, .inl (cy 0, 20, .inl f0)), (pa, .inr (4, [.int mc, .ref ed, .int 0])), (m0, .inr (20, [.int 0, .ref mp, .int 0, .ref b1, .ref b2, .ref b3, .ref b4, .ref b5, .ref mq])), (mp, .inr (4, [.int mm, .ref ed, .int 0])), (mq, .inr (4, [.int mn, .ref ed, .int 0])), (oa, .inl (cy 3, 1, .inr (.inl og)))]
def zx_S1 (D : va_G) (cy : Nat → ClassId) (ed : Nat) (A : Nat → Prop) (h m0 oa : Nat) (H : Heap) : Prop := ∃ (pe : Nat) (ne : Nat) (pa : Nat) (ro : Nat) (a1 : Nat) (a2 : Nat) (a3 : Nat) (a4 : Nat) (a5 : Nat) (a6 : Nat) (a7 : Nat) (a8 : Nat) (a9 : Nat) (mp : Nat) (mq : Nat) (b1 : Nat) (b2 : Nat) (b3 : Nat) (b4 : Nat) (b5 : Nat) (ep : Nat) (mc : Int32) (mm : Int32) (mn : Int32) (f1 : Nat → Int32) (f2 : Nat → Int32) (f0 : Nat → Int32) (og : Nat → Int64) (gp : Nat → Option Nat) (p0 : Nat) (t0 : List Value), va_P D vwCl [(h, .inr (13, [.ref pe, .ref ne, .ref pa, .ref ro, .int 0])), (pe, .inr (9, [.int 1, .ref a1, .ref a2, .ref a3, .ref a4, .ref a5, .ref a6, .ref a7, .ref a8, .ref a9])), (a1, .inl (cy 0, 20, .inl f1)), (a2, .inl (cy 0, 20, .inl f2)), (ro, .inl (cy 0, 20, .inl f0)), (pa, .inr (4, [.int mc, .ref ed, .int 0])), (m0, .inr (20, [.int 0, .ref mp, .int 0, .ref b1, .ref b2, .ref b3, .ref b4, .ref b5, .ref mq])), (mp, .inr (4, [.int mm, .ref ep, .int 1])), (ep, .inl (cy 2, 10, .inr (.inr (.inr (.inr gp))))), (mq, .inr (4, [.int mn, .ref ed, .int 0])), (oa, .inl (cy 3, 1, .inr (.inl og))), (p0, .inr (17, t0))] H ∧ va_D A [(h, .inr (13, [.ref pe, .ref ne, .ref pa, .ref ro, .int 0])), (pe, .inr (9, [.int 1, .ref a1, .ref a2, .ref a3, .ref a4, .ref a5, .ref a6, .ref a7, .ref a8, .ref a9])), (a1, .inl (cy 0, 20, .inl f1)), (a2, .inl (cy 0, 20, .inl f2)), (ro, .inl (cy 0, 20, .inl f0)), (pa, .inr (4, [.int mc, .ref ed, .int 0])), (m0, .inr (20, [.int 0, .ref mp, .int 0, .ref b1, .ref b2, .ref b3, .ref b4, .ref b5, .ref mq])), (mp, .inr (4, [.int mm, .ref ep, .int 1])), (ep, .inl (cy 2, 10, .inr (.inr (.inr (.inr gp))))), (mq, .inr (4, [.int mn, .ref ed, .int 0])), (oa, .inl (cy 3, 1, .inr (.inl og))), (p0, .inr (17, t0))] ∧ gp 0 = some p0
def zx_S2 (D : va_G) (cy : Nat → ClassId) (ed : Nat) (A : Nat → Prop) (h m0 oa : Nat) (H : Heap) : Prop := ∃ (pe : Nat) (ne : Nat) (pa : Nat) (ro : Nat) (a1 : Nat) (a2 : Nat) (a3 : Nat) (a4 : Nat) (a5 : Nat) (a6 : Nat) (a7 : Nat) (a8 : Nat) (a9 : Nat) (mp : Nat) (mq : Nat) (b1 : Nat) (b2 : Nat) (b3 : Nat) (b4 : Nat) (b5 : Nat) (ep : Nat) (mc : Int32) (mm : Int32) (mn : Int32) (f1 : Nat → Int32) (f2 : Nat → Int32) (f0 : Nat → Int32) (og : Nat → Int64) (gp : Nat → Option Nat) (p0 : Nat) (p1 : Nat) (t0 : List Value) (t1 : List Value), va_P D vwCl [(h, .inr (13, [.ref pe, .ref ne, .ref pa, .ref ro, .int 0])), (pe, .inr (9, [.int 2, .ref a1, .ref a2, .ref a3, .ref a4, .ref a5, .ref a6, .ref a7, .ref a8, .ref a9])), (a1, .inl (cy 0, 20, .inl f1)), (a2, .inl (cy 0, 20, .inl f2)), (ro, .inl (cy 0, 20, .inl f0)), (pa, .inr (4, [.int mc, .ref ed, .int 0])), (m0, .inr (20, [.int 0, .ref mp, .int 0, .ref b1, .ref b2, .ref b3, .ref b4, .ref b5, .ref mq])), (mp, .inr (4, [.int mm, .ref ep, .int 2])), (ep, .inl (cy 2, 10, .inr (.inr (.inr (.inr gp))))), (mq, .inr (4, [.int mn, .ref ed, .int 0])), (oa, .inl (cy 3, 1, .inr (.inl og))), (p0, .inr (17, t0)), (p1, .inr (17, t1))] H ∧ va_D A [(h, .inr (13, [.ref pe, .ref ne, .ref pa, .ref ro, .int 0])), (pe, .inr (9, [.int 2, .ref a1, .ref a2, .ref a3, .ref a4, .ref a5, .ref a6, .ref a7, .ref a8, .ref a9])), (a1, .inl (cy 0, 20, .inl f1)), (a2, .inl (cy 0, 20, .inl f2)), (ro, .inl (cy 0, 20, .inl f0)), (pa, .inr (4, [.int mc, .ref ed, .int 0])), (m0, .inr (20, [.int 0, .ref mp, .int 0, .ref b1, .ref b2, .ref b3, .ref b4, .ref b5, .ref mq])), (mp, .inr (4, [.int mm, .ref ep, .int 2])), (ep, .inl (cy 2, 10, .inr (.inr (.inr (.inr gp))))), (mq, .inr (4, [.int mn, .ref ed, .int 0])), (oa, .inl (cy 3, 1, .inr (.inl og))), (p0, .inr (17, t0)), (p1, .inr (17, t1))] ∧ gp 0 = some p0 ∧ gp 1 = some p1
def zx_S3 (D : va_G) (cy : Nat → ClassId) (ed : Nat) (A : Nat → Prop) (h m0 oa : Nat) (H : Heap) : Prop := ∃ (pe : Nat) (ne : Nat) (pa : Nat) (ro : Nat) (a1 : Nat) (a2 : Nat) (a3 : Nat) (a4 : Nat) (a5 : Nat) (a6 : Nat) (a7 : Nat) (a8 : Nat) (a9 : Nat) (mp : Nat) (mq : Nat) (b1 : Nat) (b2 : Nat) (b3 : Nat) (b4 : Nat) (b5 : Nat) (ep : Nat) (mc : Int32) (mm : Int32) (mn : Int32) (f1 : Nat → Int32) (f2 : Nat → Int32) (f0 : Nat → Int32) (og : Nat → Int64) (gp : Nat → Option Nat) (p0 : Nat) (p1 : Nat) (p2 : Nat) (t0 : List Value) (t1 : List Value) (t2 : List Value), va_P D vwCl [(h, .inr (13, [.ref pe, .ref ne, .ref pa, .ref ro, .int 0])), (pe, .inr (9, [.int 3, .ref a1, .ref a2, .ref a3, .ref a4, .ref a5, .ref a6, .ref a7, .ref a8, .ref a9])), (a1, .inl (cy 0, 20, .inl f1)), (a2, .inl (cy 0, 20, .inl f2)), (ro, .inl (cy 0, 20, .inl f0)), (pa, .inr (4, [.int mc, .ref ed, .int 0])), (m0, .inr (20, [.int 0, .ref mp, .int 0, .ref b1, .ref b2, .ref b3, .ref b4, .ref b5, .ref mq])), (mp, .inr (4, [.int mm, .ref ep, .int 3])), (ep, .inl (cy 2, 10, .inr (.inr (.inr (.inr gp))))), (mq, .inr (4, [.int mn, .ref ed, .int 0])), (oa, .inl (cy 3, 1, .inr (.inl og))), (p0, .inr (17, t0)), (p1, .inr (17, t1)), (p2, .inr (17, t2))] H ∧ va_D A [(h, .inr (13, [.ref pe, .ref ne, .ref pa, .ref ro, .int 0])), (pe, .inr (9, [.int 3, .ref a1, .ref a2, .ref a3, .ref a4, .ref a5, .ref a6, .ref a7, .ref a8, .ref a9])), (a1, .inl (cy 0, 20, .inl f1)), (a2, .inl (cy 0, 20, .inl f2)), (ro, .inl (cy 0, 20, .inl f0)), (pa, .inr (4, [.int mc, .ref ed, .int 0])), (m0, .inr (20, [.int 0, .ref mp, .int 0, .ref b1, .ref b2, .ref b3, .ref b4, .ref b5, .ref mq])), (mp, .inr (4, [.int mm, .ref ep, .int 3])), (ep, .inl (cy 2, 10, .inr (.inr (.inr (.inr gp))))), (mq, .inr (4, [.int mn, .ref ed, .int 0])), (oa, .inl (cy 3, 1, .inr (.inl og))), (p0, .inr (17, t0)), (p1, .inr (17, t1)), (p2, .inr (17, t2))] ∧ gp 0 = some p0 ∧ gp 1 = some p1 ∧ gp 2 = some p2
def zx_S4 (D : va_G) (cy : Nat → ClassId) (ed : Nat) (A : Nat → Prop) (h m0 oa : Nat) (H : Heap) : Prop := ∃ (pe : Nat) (ne : Nat) (pa : Nat) (ro : Nat) (a1 : Nat) (a2 : Nat) (a3 : Nat) (a4 : Nat) (a5 : Nat) (a6 : Nat) (a7 : Nat) (a8 : Nat) (a9 : Nat) (mp : Nat) (mq : Nat) (b1 : Nat) (b2 : Nat) (b3 : Nat) (b4 : Nat) (b5 : Nat) (ep : Nat) (mc : Int32) (mm : Int32) (mn : Int32) (f1 : Nat → Int32) (f2 : Nat → Int32) (f0 : Nat → Int32) (og : Nat → Int64) (gp : Nat → Option Nat) (p0 : Nat) (p1 : Nat) (p2 : Nat) (p3 : Nat) (t0 : List Value) (t1 : List Value) (t2 : List Value) (t3 : List Value), va_P D vwCl [(h, .inr (13, [.ref pe, .ref ne, .ref pa, .ref ro, .int 0])), (pe, .inr (9, [.int 4, .ref a1, .ref a2, .ref a3, .ref a4, .ref a5, .ref a6, .ref a7, .ref a8, .ref a9])), (a1, .inl (cy 0, 20, .inl f1)), (a2, .inl (cy 0, 20, .inl f2)), (ro, .inl (cy 0, 20, .inl f0)), (pa, .inr (4, [.int mc, .ref ed, .int 0])), (m0, .inr (20, [.int 0, .ref mp, .int 0, .ref b1, .ref b2, .ref b3, .ref b4, .ref b5, .ref mq])), (mp, .inr (4, [.int mm, .ref ep, .int 4])), (ep, .inl (cy 2, 10, .inr (.inr (.inr (.inr gp))))), (mq, .inr (4, [.int mn, .ref ed, .int 0])), (oa, .inl (cy 3, 1, .inr (.inl og))), (p0, .inr (17, t0)), (p1, .inr (17, t1)), (p2, .inr (17, t2)), (p3, .inr (17, t3))] H ∧ va_D A [(h, .inr (13, [.ref pe, .ref ne, .ref pa, .ref ro, .int 0])), (pe, .inr (9, [.int 4, .ref a1, .ref a2, .ref a3, .ref a4, .ref a5, .ref a6, .ref a7, .ref a8, .ref a9])), (a1, .inl (cy 0, 20, .inl f1)), (a2, .inl (cy 0, 20, .inl f2)), (ro, .inl (cy 0, 20, .inl f0)), (pa, .inr (4, [.int mc, .ref ed, .int 0])), (m0, .inr (20, [.int 0, .ref mp, .int 0, .ref b1, .ref b2, .ref b3, .ref b4, .ref b5, .ref mq])), (mp, .inr (4, [.int mm, .ref ep, .int 4])), (ep, .inl (cy 2, 10, .inr (.inr (.inr (.inr gp))))), (mq, .inr (4, [.int mn, .ref ed, .int 0])), (oa, .inl (cy 3, 1, .inr (.inl og))), (p0, .inr (17, t0)), (p1, .inr (17, t1)), (p2, .inr (17, t2)), (p3, .inr (17, t3))] ∧ gp 0 = some p0 ∧ gp 1 = some p1 ∧ gp 2 = some p2 ∧ gp 3 = some p3
def zx_S5 (D : va_G) (cy : Nat → ClassId) (ed : Nat) (A : Nat → Prop) (h m0 oa : Nat) (H : Heap) : Prop := ∃ (pe : Nat) (ne : Nat) (pa : Nat) (ro : Nat) (a1 : Nat) (a2 : Nat) (a3 : Nat) (a4 : Nat) (a5 : Nat) (a6 : Nat) (a7 : Nat) (a8 : Nat) (a9 : Nat) (mp : Nat) (mq : Nat) (b1 : Nat) (b2 : Nat) (b3 : Nat) (b4 : Nat) (b5 : Nat) (ep : Nat) (mc : Int32) (mm : Int32) (mn : Int32) (f1 : Nat → Int32) (f2 : Nat → Int32) (f0 : Nat → Int32) (og : Nat → Int64) (gp : Nat → Option Nat) (p0 : Nat) (p1 : Nat) (p2 : Nat) (p3 : Nat) (p4 : Nat) (t0 : List Value) (t1 : List Value) (t2 : List Value) (t3 : List Value) (t4 : List Value), va_P D vwCl [(h, .inr (13, [.ref pe, .ref ne, .ref pa, .ref ro, .int 0])), (pe, .inr (9, [.int 5, .ref a1, .ref a2, .ref a3, .ref a4, .ref a5, .ref a6, .ref a7, .ref a8, .ref a9])), (a1, .inl (cy 0, 20, .inl f1)), (a2, .inl (cy 0, 20, .inl f2)), (ro, .inl (cy 0, 20, .inl f0)), (pa, .inr (4, [.int mc, .ref ed, .int 0])), (m0, .inr (20, [.int 0, .ref mp, .int 0, .ref b1, .ref b2, .ref b3, .ref b4, .ref b5, .ref mq])), (mp, .inr (4, [.int mm, .ref ep, .int 5])), (ep, .inl (cy 2, 10, .inr (.inr (.inr (.inr gp))))), (mq, .inr (4, [.int mn, .ref ed, .int 0])), (oa, .inl (cy 3, 1, .inr (.inl og))), (p0, .inr (17, t0)), (p1, .inr (17, t1)), (p2, .inr (17, t2)), (p3, .inr (17, t3)), (p4, .inr (17, t4))] H ∧ va_D A [(h, .inr (13, [.ref pe, .ref ne, .ref pa, .ref ro, .int 0])), (pe, .inr (9, [.int 5, .ref a1, .ref a2, .ref a3, .ref a4, .ref a5, .ref a6, .ref a7, .ref a8, .ref a9])), (a1, .inl (cy 0, 20, .inl f1)), (a2, .inl (cy 0, 20, .inl f2)), (ro, .inl (cy 0, 20, .inl f0)), (pa, .inr (4, [.int mc, .ref ed, .int 0])), (m0, .inr (20, [.int 0, .ref mp, .int 0, .ref b1, .ref b2, .ref b3, .ref b4, .ref b5, .ref mq])), (mp, .inr (4, [.int mm, .ref ep, .int 5])), (ep, .inl (cy 2, 10, .inr (.inr (.inr (.inr gp))))), (mq, .inr (4, [.int mn, .ref ed, .int 0])), (oa, .inl (cy 3, 1, .inr (.inl og))), (p0, .inr (17, t0)), (p1, .inr (17, t1)), (p2, .inr (17, t2)), (p3, .inr (17, t3)), (p4, .inr (17, t4))] ∧ gp 0 = some p0 ∧ gp 1 = some p1 ∧ gp 2 = some p2 ∧ gp 3 = some p3 ∧ gp 4 = some p4
def zx_S6 (D : va_G) (cy : Nat → ClassId) (ed : Nat) (A : Nat → Prop) (h m0 oa : Nat) (H : Heap) : Prop := ∃ (pe : Nat) (ne : Nat) (pa : Nat) (ro : Nat) (a1 : Nat) (a2 : Nat) (a3 : Nat) (a4 : Nat) (a5 : Nat) (a6 : Nat) (a7 : Nat) (a8 : Nat) (a9 : Nat) (mp : Nat) (mq : Nat) (b1 : Nat) (b2 : Nat) (b3 : Nat) (b4 : Nat) (b5 : Nat) (ep : Nat) (mc : Int32) (mm : Int32) (mn : Int32) (f1 : Nat → Int32) (f2 : Nat → Int32) (f0 : Nat → Int32) (og : Nat → Int64) (gp : Nat → Option Nat) (p0 : Nat) (p1 : Nat) (p2 : Nat) (p3 : Nat) (p4 : Nat) (p5 : Nat) (t0 : List Value) (t1 : List Value) (t2 : List Value) (t3 : List Value) (t4 : List Value) (t5 : List Value), va_P D vwCl [(h, .inr (13, [.ref pe, .ref ne, .ref pa, .ref ro, .int 0])), (pe, .inr (9, [.int 6, .ref a1, .ref a2, .ref a3, .ref a4, .ref a5, .ref a6, .ref a7, .ref a8, .ref a9])), (a1, .inl (cy 0, 20, .inl f1)), (a2, .inl (cy 0, 20, .inl f2)), (ro, .inl (cy 0, 20, .inl f0)), (pa, .inr (4, [.int mc, .ref ed, .int 0])), (m0, .inr (20, [.int 0, .ref mp, .int 0, .ref b1, .ref b2, .ref b3, .ref b4, .ref b5, .ref mq])), (mp, .inr (4, [.int mm, .ref ep, .int 6])), (ep, .inl (cy 2, 10, .inr (.inr (.inr (.inr gp))))), (mq, .inr (4, [.int mn, .ref ed, .int 0])), (oa, .inl (cy 3, 1, .inr (.inl og))), (p0, .inr (17, t0)), (p1, .inr (17, t1)), (p2, .inr (17, t2)), (p3, .inr (17, t3)), (p4, .inr (17, t4)), (p5, .inr (17, t5))] H ∧ va_D A [(h, .inr (13, [.ref pe, .ref ne, .ref pa, .ref ro, .int 0])), (pe, .inr (9, [.int 6, .ref a1, .ref a2, .ref a3, .ref a4, .ref a5, .ref a6, .ref a7, .ref a8, .ref a9])), (a1, .inl (cy 0, 20, .inl f1)), (a2, .inl (cy 0, 20, .inl f2)), (ro, .inl (cy 0, 20, .inl f0)), (pa, .inr (4, [.int mc, .ref ed, .int 0])), (m0, .inr (20, [.int 0, .ref mp, .int 0, .ref b1, .ref b2, .ref b3, .ref b4, .ref b5, .ref mq])), (mp, .inr (4, [.int mm, .ref ep, .int 6])), (ep, .inl (cy 2, 10, .inr (.inr (.inr (.inr gp))))), (mq, .inr (4, [.int mn, .ref ed, .int 0])), (oa, .inl (cy 3, 1, .inr (.inl og))), (p0, .inr (17, t0)), (p1, .inr (17, t1)), (p2, .inr (17, t2)), (p3, .inr (17, t3)), (p4, .inr (17, t4)), (p5, .inr (17, t5))] ∧ gp 0 = some p0 ∧ gp 1 = some p1 ∧ gp 2 = some p2 ∧ gp 3 = some p3 ∧ gp 4 = some p4 ∧ gp 5 = some p5
def zx_S7 (D : va_G) (cy : Nat → ClassId) (ed : Nat) (A : Nat → Prop) (h m0 oa : Nat) (H : Heap) : Prop := ∃ (pe : Nat) (ne : Nat) (pa : Nat) (ro : Nat) (a1 : Nat) (a2 : Nat) (a3 : Nat) (a4 : Nat) (a5 : Nat) (a6 : Nat) (a7 : Nat) (a8 : Nat) (a9 : Nat) (mp : Nat) (mq : Nat) (b1 : Nat) (b2 : Nat) (b3 : Nat) (b4 : Nat) (b5 : Nat) (ep : Nat) (mc : Int32) (mm : Int32) (mn : Int32) (f1 : Nat → Int32) (f2 : Nat → Int32) (f0 : Nat → Int32) (og : Nat → Int64) (gp : Nat → Option Nat) (p0 : Nat) (p1 : Nat) (p2 : Nat) (p3 : Nat) (p4 : Nat) (p5 : Nat) (p6 : Nat) (t0 : List Value) (t1 : List Value) (t2 : List Value) (t3 : List Value) (t4 : List Value) (t5 : List Value) (t6 : List Value), va_P D vwCl [(h, .inr (13, [.ref pe, .ref ne, .ref pa, .ref ro, .int 0])), (pe, .inr (9, [.int 7, .ref a1, .ref a2, .ref a3, .ref a4, .ref a5, .ref a6, .ref a7, .ref a8, .ref a9])), (a1, .inl (cy 0, 20, .inl f1)), (a2, .inl (cy 0, 20, .inl f2)), (ro, .inl (cy 0, 20, .inl f0)), (pa, .inr (4, [.int mc, .ref ed, .int 0])), (m0, .inr (20, [.int 0, .ref mp, .int 0, .ref b1, .ref b2, .ref b3, .ref b4, .ref b5, .ref mq])), (mp, .inr (4, [.int mm, .ref ep, .int 7])), (ep, .inl (cy 2, 10, .inr (.inr (.inr (.inr gp))))), (mq, .inr (4, [.int mn, .ref ed, .int 0])), (oa, .inl (cy 3, 1, .inr (.inl og))), (p0, .inr (17, t0)), (p1, .inr (17, t1)), (p2, .inr (17, t2)), (p3, .inr (17, t3)), (p4, .inr (17, t4)), (p5, .inr (17, t5)), (p6, .inr (17, t6))] H ∧ va_D A [(h, .inr (13, [.ref pe, .ref ne, .ref pa, .ref ro, .int 0])), (pe, .inr (9, [.int 7, .ref a1, .ref a2, .ref a3, .ref a4, .ref a5, .ref a6, .ref a7, .ref a8, .ref a9])), (a1, .inl (cy 0, 20, .inl f1)), (a2, .inl (cy 0, 20, .inl f2)), (ro, .inl (cy 0, 20, .inl f0)), (pa, .inr (4, [.int mc, .ref ed, .int 0])), (m0, .inr (20, [.int 0, .ref mp, .int 0, .ref b1, .ref b2, .ref b3, .ref b4, .ref b5, .ref mq])), (mp, .inr (4, [.int mm, .ref ep, .int 7])), (ep, .inl (cy 2, 10, .inr (.inr (.inr (.inr gp))))), (mq, .inr (4, [.int mn, .ref ed, .int 0])), (oa, .inl (cy 3, 1, .inr (.inl og))), (p0, .inr (17, t0)), (p1, .inr (17, t1)), (p2, .inr (17, t2)), (p3, .inr (17, t3)), (p4, .inr (17, t4)), (p5, .inr (17, t5)), (p6, .inr (17, t6))] ∧ gp 0 = some p0 ∧ gp 1 = some p1 ∧ gp 2 = some p2 ∧ gp 3 = some p3 ∧ gp 4 = some p4 ∧ gp 5 = some p5 ∧ gp 6 = some p6
def zx_S8 (D : va_G) (cy : Nat → ClassId) (ed : Nat) (A : Nat → Prop) (h m0 oa : Nat) (H : Heap) : Prop := ∃ (pe : Nat) (ne : Nat) (pa : Nat) (ro : Nat) (a1 : Nat) (a2 : Nat) (a3 : Nat) (a4 : Nat) (a5 : Nat) (a6 : Nat) (a7 : Nat) (a8 : Nat) (a9 : Nat) (mp : Nat) (mq : Nat) (b1 : Nat) (b2 : Nat) (b3 : Nat) (b4 : Nat) (b5 : Nat) (ep : Nat) (mc : Int32) (mm : Int32) (mn : Int32) (f1 : Nat → Int32) (f2 : Nat → Int32) (f0 : Nat → Int32) (og : Nat → Int64) (gp : Nat → Option Nat) (p0 : Nat) (p1 : Nat) (p2 : Nat) (p3 : Nat) (p4 : Nat) (p5 : Nat) (p6 : Nat) (p7 : Nat) (t0 : List Value) (t1 : List Value) (t2 : List Value) (t3 : List Value) (t4 : List Value) (t5 : List Value) (t6 : List Value) (t7 : List Value), va_P D vwCl [(h, .inr (13, [.ref pe, .ref ne, .ref pa, .ref ro, .int 0])), (pe, .inr (9, [.int 8, .ref a1, .ref a2, .ref a3, .ref a4, .ref a5, .ref a6, .ref a7, .ref a8, .ref a9])), (a1, .inl (cy 0, 20, .inl f1)), (a2, .inl (cy 0, 20, .inl f2)), (ro, .inl (cy 0, 20, .inl f0)), (pa, .inr (4, [.int mc, .ref ed, .int 0])), (m0, .inr (20, [.int 0, .ref mp, .int 0, .ref b1, .ref b2, .ref b3, .ref b4, .ref b5, .ref mq])), (mp, .inr (4, [.int mm, .ref ep, .int 8])), (ep, .inl (cy 2, 10, .inr (.inr (.inr (.inr gp))))), (mq, .inr (4, [.int mn, .ref ed, .int 0])), (oa, .inl (cy 3, 1, .inr (.inl og))), (p0, .inr (17, t0)), (p1, .inr (17, t1)), (p2, .inr (17, t2)), (p3, .inr (17, t3)), (p4, .inr (17, t4)), (p5, .inr (17, t5)), (p6, .inr (17, t6)), (p7, .inr (17, t7))] H ∧ va_D A [(h, .inr (13, [.ref pe, .ref ne, .ref pa, .ref ro, .int 0])), (pe, .inr (9, [.int 8, .ref a1, .ref a2, .ref a3, .ref a4, .ref a5, .ref a6, .ref a7, .ref a8, .ref a9])), (a1, .inl (cy 0, 20, .inl f1)), (a2, .inl (cy 0, 20, .inl f2)), (ro, .inl (cy 0, 20, .inl f0)), (pa, .inr (4, [.int mc, .ref ed, .int 0])), (m0, .inr (20, [.int 0, .ref mp, .int 0, .ref b1, .ref b2, .ref b3, .ref b4, .ref b5, .ref mq])), (mp, .inr (4, [.int mm, .ref ep, .int 8])), (ep, .inl (cy 2, 10, .inr (.inr (.inr (.inr gp))))), (mq, .inr (4, [.int mn, .ref ed, .int 0])), (oa, .inl (cy 3, 1, .inr (.inl og))), (p0, .inr (17, t0)), (p1, .inr (17, t1)), (p2, .inr (17, t2)), (p3, .inr (17, t3)), (p4, .inr (17, t4)), (p5, .inr (17, t5)), (p6, .inr (17, t6)), (p7, .inr (17, t7))] ∧ gp 0 = some p0 ∧ gp 1 = some p1 ∧ gp 2 = some p2 ∧ gp 3 = some p3 ∧ gp 4 = some p4 ∧ gp 5 = some p5 ∧ gp 6 = some p6 ∧ gp 7 = some p7
def zx_S9 (D : va_G) (cy : Nat → ClassId) (ed : Nat) (A : Nat → Prop) (h m0 oa : Nat) (H : Heap) : Prop := ∃ (pe : Nat) (ne : Nat) (pa : Nat) (ro : Nat) (a1 : Nat) (a2 : Nat) (a3 : Nat) (a4 : Nat) (a5 : Nat) (a6 : Nat) (a7 : Nat) (a8 : Nat) (a9 : Nat) (mp : Nat) (mq : Nat) (b1 : Nat) (b2 : Nat) (b3 : Nat) (b4 : Nat) (b5 : Nat) (ep : Nat) (mc : Int32) (mm : Int32) (mn : Int32) (f1 : Nat → Int32) (f2 : Nat → Int32) (f0 : Nat → Int32) (og : Nat → Int64) (gp : Nat → Option Nat) (p0 : Nat) (p1 : Nat) (p2 : Nat) (p3 : Nat) (p4 : Nat) (p5 : Nat) (p6 : Nat) (p7 : Nat) (p8 : Nat) (t0 : List Value) (t1 : List Value) (t2 : List Value) (t3 : List Value) (t4 : List Value) (t5 : List Value) (t6 : List Value) (t7 : List Value) (t8 : List Value), va_P D vwCl [(h, .inr (13, [.ref pe, .ref ne, .ref pa, .ref ro, .int 0])), (pe, .inr (9, [.int 9, .ref a1, .ref a2, .ref a3, .ref a4, .ref a5, .ref a6, .ref a7, .ref a8, .ref a9])), (a1, .inl (cy 0, 20, .inl f1)), (a2, .inl (cy 0, 20, .inl f2)), (ro, .inl (cy 0, 20, .inl f0)), (pa, .inr (4, [.int mc, .ref ed, .int 0])), (m0, .inr (20, [.int 0, .ref mp, .int 0, .ref b1, .ref b2, .ref b3, .ref b4, .ref b5, .ref mq])), (mp, .inr (4, [.int mm, .ref ep, .int 9])), (ep, .inl (cy 2, 10, .inr (.inr (.inr (.inr gp))))), (mq, .inr (4, [.int mn, .ref ed, .int 0])), (oa, .inl (cy 3, 1, .inr (.inl og))), (p0, .inr (17, t0)), (p1, .inr (17, t1)), (p2, .inr (17, t2)), (p3, .inr (17, t3)), (p4, .inr (17, t4)), (p5, .inr (17, t5)), (p6, .inr (17, t6)), (p7, .inr (17, t7)), (p8, .inr (17, t8))] H ∧ va_D A [(h, .inr (13, [.ref pe, .ref ne, .ref pa, .ref ro, .int 0])), (pe, .inr (9, [.int 9, .ref a1, .ref a2, .ref a3, .ref a4, .ref a5, .ref a6, .ref a7, .ref a8, .ref a9])), (a1, .inl (cy 0, 20, .inl f1)), (a2, .inl (cy 0, 20, .inl f2)), (ro, .inl (cy 0, 20, .inl f0)), (pa, .inr (4, [.int mc, .ref ed, .int 0])), (m0, .inr (20, [.int 0, .ref mp, .int 0, .ref b1, .ref b2, .ref b3, .ref b4, .ref b5, .ref mq])), (mp, .inr (4, [.int mm, .ref ep, .int 9])), (ep, .inl (cy 2, 10, .inr (.inr (.inr (.inr gp))))), (mq, .inr (4, [.int mn, .ref ed, .int 0])), (oa, .inl (cy 3, 1, .inr (.inl og))), (p0, .inr (17, t0)), (p1, .inr (17, t1)), (p2, .inr (17, t2)), (p3, .inr (17, t3)), (p4, .inr (17, t4)), (p5, .inr (17, t5)), (p6, .inr (17, t6)), (p7, .inr (17, t7)), (p8, .inr (17, t8))] ∧ gp 0 = some p0 ∧ gp 1 = some p1 ∧ gp 2 = some p2 ∧ gp 3 = some p3 ∧ gp 4 = some p4 ∧ gp 5 = some p5 ∧ gp 6 = some p6 ∧ gp 7 = some p7 ∧ gp 8 = some p8
def zx_S10 (D : va_G) (cy : Nat → ClassId) (ed : Nat) (A : Nat → Prop) (h m0 oa : Nat) (H : Heap) : Prop := ∃ (pe : Nat) (ne : Nat) (pa : Nat) (ro : Nat) (a1 : Nat) (a2 : Nat) (a3 : Nat) (a4 : Nat) (a5 : Nat) (a6 : Nat) (a7 : Nat) (a8 : Nat) (a9 : Nat) (mp : Nat) (mq : Nat) (b1 : Nat) (b2 : Nat) (b3 : Nat) (b4 : Nat) (b5 : Nat) (ep : Nat) (mc : Int32) (mm : Int32) (mn : Int32) (f1 : Nat → Int32) (f2 : Nat → Int32) (f0 : Nat → Int32) (og : Nat → Int64) (gp : Nat → Option Nat) (p0 : Nat) (p1 : Nat) (p2 : Nat) (p3 : Nat) (p4 : Nat) (p5 : Nat) (p6 : Nat) (p7 : Nat) (p8 : Nat) (p9 : Nat) (t0 : List Value) (t1 : List Value) (t2 : List Value) (t3 : List Value) (t4 : List Value) (t5 : List Value) (t6 : List Value) (t7 : List Value) (t8 : List Value) (t9 : List Value), va_P D vwCl [(h, .inr (13, [.ref pe, .ref ne, .ref pa, .ref ro, .int 0])), (pe, .inr (9, [.int 10, .ref a1, .ref a2, .ref a3, .ref a4, .ref a5, .ref a6, .ref a7, .ref a8, .ref a9])), (a1, .inl (cy 0, 20, .inl f1)), (a2, .inl (cy 0, 20, .inl f2)), (ro, .inl (cy 0, 20, .inl f0)), (pa, .inr (4, [.int mc, .ref ed, .int 0])), (m0, .inr (20, [.int 0, .ref mp, .int 0, .ref b1, .ref b2, .ref b3, .ref b4, .ref b5, .ref mq])), (mp, .inr (4, [.int mm, .ref ep, .int 10])), (ep, .inl (cy 2, 10, .inr (.inr (.inr (.inr gp))))), (mq, .inr (4, [.int mn, .ref ed, .int 0])), (oa, .inl (cy 3, 1, .inr (.inl og))), (p0, .inr (17, t0)), (p1, .inr (17, t1)), (p2, .inr (17, t2)), (p3, .inr (17, t3)), (p4, .inr (17, t4)), (p5, .inr (17, t5)), (p6, .inr (17, t6)), (p7, .inr (17, t7)), (p8, .inr (17, t8)), (p9, .inr (17, t9))] H ∧ va_D A [(h, .inr (13, [.ref pe, .ref ne, .ref pa, .ref ro, .int 0])), (pe, .inr (9, [.int 10, .ref a1, .ref a2, .ref a3, .ref a4, .ref a5, .ref a6, .ref a7, .ref a8, .ref a9])), (a1, .inl (cy 0, 20, .inl f1)), (a2, .inl (cy 0, 20, .inl f2)), (ro, .inl (cy 0, 20, .inl f0)), (pa, .inr (4, [.int mc, .ref ed, .int 0])), (m0, .inr (20, [.int 0, .ref mp, .int 0, .ref b1, .ref b2, .ref b3, .ref b4, .ref b5, .ref mq])), (mp, .inr (4, [.int mm, .ref ep, .int 10])), (ep, .inl (cy 2, 10, .inr (.inr (.inr (.inr gp))))), (mq, .inr (4, [.int mn, .ref ed, .int 0])), (oa, .inl (cy 3, 1, .inr (.inl og))), (p0, .inr (17, t0)), (p1, .inr (17, t1)), (p2, .inr (17, t2)), (p3, .inr (17, t3)), (p4, .inr (17, t4)), (p5, .inr (17, t5)), (p6, .inr (17, t6)), (p7, .inr (17, t7)), (p8, .inr (17, t8)), (p9, .inr (17, t9))] ∧ gp 0 = some p0 ∧ gp 1 = some p1 ∧ gp 2 = some p2 ∧ gp 3 = some p3 ∧ gp 4 = some p4 ∧ gp 5 = some p5 ∧ gp 6 = some p6 ∧ gp 7 = some p7 ∧ gp 8 = some p8 ∧ gp 9 = some p9
def zx_S11 (D : va_G) (cy : Nat → ClassId) (ed : Nat) (A : Nat → Prop) (h m0 oa : Nat) (H : Heap) : Prop := ∃ (pe : Nat) (ne : Nat) (pa : Nat) (ro : Nat) (a1 : Nat) (a2 : Nat) (a3 : Nat) (a4 : Nat) (a5 : Nat) (a6 : Nat) (a7 : Nat) (a8 : Nat) (a9 : Nat) (mp : Nat) (mq : Nat) (b1 : Nat) (b2 : Nat) (b3 : Nat) (b4 : Nat) (b5 : Nat) (ep : Nat) (mc : Int32) (mm : Int32) (mn : Int32) (f1 : Nat → Int32) (f2 : Nat → Int32) (f0 : Nat → Int32) (og : Nat → Int64) (gp : Nat → Option Nat) (p0 : Nat) (p1 : Nat) (p2 : Nat) (p3 : Nat) (p4 : Nat) (p5 : Nat) (p6 : Nat) (p7 : Nat) (p8 : Nat) (p9 : Nat) (p10 : Nat) (t0 : List Value) (t1 : List Value) (t2 : List Value) (t3 : List Value) (t4 : List Value) (t5 : List Value) (t6 : List Value) (t7 : List Value) (t8 : List Value) (t9 : List Value) (t10 : List Value), va_P D vwCl [(h, .inr (13, [.ref pe, .ref ne, .ref pa, .ref ro, .int 0])), (pe, .inr (9, [.int 11, .ref a1, .ref a2, .ref a3, .ref a4, .ref a5, .ref a6, .ref a7, .ref a8, .ref a9])), (a1, .inl (cy 0, 20, .inl f1)), (a2, .inl (cy 0, 20, .inl f2)), (ro, .inl (cy 0, 20, .inl f0)), (pa, .inr (4, [.int mc, .ref ed, .int 0])), (m0, .inr (20, [.int 0, .ref mp, .int 0, .ref b1, .ref b2, .ref b3, .ref b4, .ref b5, .ref mq])), (mp, .inr (4, [.int mm, .ref ep, .int 11])), (ep, .inl (cy 2, 15, .inr (.inr (.inr (.inr gp))))), (mq, .inr (4, [.int mn, .ref ed, .int 0])), (oa, .inl (cy 3, 1, .inr (.inl og))), (p0, .inr (17, t0)), (p1, .inr (17, t1)), (p2, .inr (17, t2)), (p3, .inr (17, t3)), (p4, .inr (17, t4)), (p5, .inr (17, t5)), (p6, .inr (17, t6)), (p7, .inr (17, t7)), (p8, .inr (17, t8)), (p9, .inr (17, t9)), (p10, .inr (17, t10))] H ∧ va_D A [(h, .inr (13, [.ref pe, .ref ne, .ref pa, .ref ro, .int 0])), (pe, .inr (9, [.int 11, .ref a1, .ref a2, .ref a3, .ref a4, .ref a5, .ref a6, .ref a7, .ref a8, .ref a9])), (a1, .inl (cy 0, 20, .inl f1)), (a2, .inl (cy 0, 20, .inl f2)), (ro, .inl (cy 0, 20, .inl f0)), (pa, .inr (4, [.int mc, .ref ed, .int 0])), (m0, .inr (20, [.int 0, .ref mp, .int 0, .ref b1, .ref b2, .ref b3, .ref b4, .ref b5, .ref mq])), (mp, .inr (4, [.int mm, .ref ep, .int 11])), (ep, .inl (cy 2, 15, .inr (.inr (.inr (.inr gp))))), (mq, .inr (4, [.int mn, .ref ed, .int 0])), (oa, .inl (cy 3, 1, .inr (.inl og))), (p0, .inr (17, t0)), (p1, .inr (17, t1)), (p2, .inr (17, t2)), (p3, .inr (17, t3)), (p4, .inr (17, t4)), (p5, .inr (17, t5)), (p6, .inr (17, t6)), (p7, .inr (17, t7)), (p8, .inr (17, t8)), (p9, .inr (17, t9)), (p10, .inr (17, t10))] ∧ gp 0 = some p0 ∧ gp 1 = some p1 ∧ gp 2 = some p2 ∧ gp 3 = some p3 ∧ gp 4 = some p4 ∧ gp 5 = some p5 ∧ gp 6 = some p6 ∧ gp 7 = some p7 ∧ gp 8 = some p8 ∧ gp 9 = some p9 ∧ gp 10 = some p10
def zx_S12 (D : va_G) (cy : Nat → ClassId) (ed : Nat) (A : Nat → Prop) (h m0 oa : Nat) (H : Heap) : Prop := ∃ (pe : Nat) (ne : Nat) (pa : Nat) (ro : Nat) (a1 : Nat) (a2 : Nat) (a3 : Nat) (a4 : Nat) (a5 : Nat) (a6 : Nat) (a7 : Nat) (a8 : Nat) (a9 : Nat) (mp : Nat) (mq : Nat) (b1 : Nat) (b2 : Nat) (b3 : Nat) (b4 : Nat) (b5 : Nat) (ep : Nat) (mc : Int32) (mm : Int32) (mn : Int32) (f1 : Nat → Int32) (f2 : Nat → Int32) (f0 : Nat → Int32) (og : Nat → Int64) (gp : Nat → Option Nat) (p0 : Nat) (p1 : Nat) (p2 : Nat) (p3 : Nat) (p4 : Nat) (p5 : Nat) (p6 : Nat) (p7 : Nat) (p8 : Nat) (p9 : Nat) (p10 : Nat) (p11 : Nat) (t0 : List Value) (t1 : List Value) (t2 : List Value) (t3 : List Value) (t4 : List Value) (t5 : List Value) (t6 : List Value) (t7 : List Value) (t8 : List Value) (t9 : List Value) (t10 : List Value) (t11 : List Value), va_P D vwCl [(h, .inr (13, [.ref pe, .ref ne, .ref pa, .ref ro, .int 0])), (pe, .inr (9, [.int 12, .ref a1, .ref a2, .ref a3, .ref a4, .ref a5, .ref a6, .ref a7, .ref a8, .ref a9])), (a1, .inl (cy 0, 20, .inl f1)), (a2, .inl (cy 0, 20, .inl f2)), (ro, .inl (cy 0, 20, .inl f0)), (pa, .inr (4, [.int mc, .ref ed, .int 0])), (m0, .inr (20, [.int 0, .ref mp, .int 0, .ref b1, .ref b2, .ref b3, .ref b4, .ref b5, .ref mq])), (mp, .inr (4, [.int mm, .ref ep, .int 12])), (ep, .inl (cy 2, 15, .inr (.inr (.inr (.inr gp))))), (mq, .inr (4, [.int mn, .ref ed, .int 0])), (oa, .inl (cy 3, 1, .inr (.inl og))), (p0, .inr (17, t0)), (p1, .inr (17, t1)), (p2, .inr (17, t2)), (p3, .inr (17, t3)), (p4, .inr (17, t4)), (p5, .inr (17, t5)), (p6, .inr (17, t6)), (p7, .inr (17, t7)), (p8, .inr (17, t8)), (p9, .inr (17, t9)), (p10, .inr (17, t10)), (p11, .inr (17, t11))] H ∧ va_D A [(h, .inr (13, [.ref pe, .ref ne, .ref pa, .ref ro, .int 0])), (pe, .inr (9, [.int 12, .ref a1, .ref a2, .ref a3, .ref a4, .ref a5, .ref a6, .ref a7, .ref a8, .ref a9])), (a1, .inl (cy 0, 20, .inl f1)), (a2, .inl (cy 0, 20, .inl f2)), (ro, .inl (cy 0, 20, .inl f0)), (pa, .inr (4, [.int mc, .ref ed, .int 0])), (m0, .inr (20, [.int 0, .ref mp, .int 0, .ref b1, .ref b2, .ref b3, .ref b4, .ref b5, .ref mq])), (mp, .inr (4, [.int mm, .ref ep, .int 12])), (ep, .inl (cy 2, 15, .inr (.inr (.inr (.inr gp))))), (mq, .inr (4, [.int mn, .ref ed, .int 0])), (oa, .inl (cy 3, 1, .inr (.inl og))), (p0, .inr (17, t0)), (p1, .inr (17, t1)), (p2, .inr (17, t2)), (p3, .inr (17, t3)), (p4, .inr (17, t4)), (p5, .inr (17, t5)), (p6, .inr (17, t6)), (p7, .inr (17, t7)), (p8, .inr (17, t8)), (p9, .inr (17, t9)), (p10, .inr (17, t10)), (p11, .inr (17, t11))] ∧ gp 0 = some p0 ∧ gp 1 = some p1 ∧ gp 2 = some p2 ∧ gp 3 = some p3 ∧ gp 4 = some p4 ∧ gp 5 = some p5 ∧ gp 6 = some p6 ∧ gp 7 = some p7 ∧ gp 8 = some p8 ∧ gp 9 = some p9 ∧ gp 10 = some p10 ∧ gp 11 = some p11
def zx_S13 (D : va_G) (cy : Nat → ClassId) (ed : Nat) (A : Nat → Prop) (h m0 oa : Nat) (H : Heap) : Prop := ∃ (pe : Nat) (ne : Nat) (pa : Nat) (ro : Nat) (a1 : Nat) (a2 : Nat) (a3 : Nat) (a4 : Nat) (a5 : Nat) (a6 : Nat) (a7 : Nat) (a8 : Nat) (a9 : Nat) (mp : Nat) (mq : Nat) (b1 : Nat) (b2 : Nat) (b3 : Nat) (b4 : Nat) (b5 : Nat) (ep : Nat) (mc : Int32) (mm : Int32) (mn : Int32) (f1 : Nat → Int32) (f2 : Nat → Int32) (f0 : Nat → Int32) (og : Nat → Int64) (gp : Nat → Option Nat) (p0 : Nat) (p1 : Nat) (p2 : Nat) (p3 : Nat) (p4 : Nat) (p5 : Nat) (p6 : Nat) (p7 : Nat) (p8 : Nat) (p9 : Nat) (p10 : Nat) (p11 : Nat) (p12 : Nat) (t0 : List Value) (t1 : List Value) (t2 : List Value) (t3 : List Value) (t4 : List Value) (t5 : List Value) (t6 : List Value) (t7 : List Value) (t8 : List Value) (t9 : List Value) (t10 : List Value) (t11 : List Value) (t12 : List Value), va_P D vwCl [(h, .inr (13, [.ref pe, .ref ne, .ref pa, .ref ro, .int 0])), (pe, .inr (9, [.int 13, .ref a1, .ref a2, .ref a3, .ref a4, .ref a5, .ref a6, .ref a7, .ref a8, .ref a9])), (a1, .inl (cy 0, 20, .inl f1)), (a2, .inl (cy 0, 20, .inl f2)), (ro, .inl (cy 0, 20, .inl f0)), (pa, .inr (4, [.int mc, .ref ed, .int 0])), (m0, .inr (20, [.int 0, .ref mp, .int 0, .ref b1, .ref b2, .ref b3, .ref b4, .ref b5, .ref mq])), (mp, .inr (4, [.int mm, .ref ep, .int 13])), (ep, .inl (cy 2, 15, .inr (.inr (.inr (.inr gp))))), (mq, .inr (4, [.int mn, .ref ed, .int 0])), (oa, .inl (cy 3, 1, .inr (.inl og))), (p0, .inr (17, t0)), (p1, .inr (17, t1)), (p2, .inr (17, t2)), (p3, .inr (17, t3)), (p4, .inr (17, t4)), (p5, .inr (17, t5)), (p6, .inr (17, t6)), (p7, .inr (17, t7)), (p8, .inr (17, t8)), (p9, .inr (17, t9)), (p10, .inr (17, t10)), (p11, .inr (17, t11)), (p12, .inr (17, t12))] H ∧ va_D A [(h, .inr (13, [.ref pe, .ref ne, .ref pa, .ref ro, .int 0])), (pe, .inr (9, [.int 13, .ref a1, .ref a2, .ref a3, .ref a4, .ref a5, .ref a6, .ref a7, .ref a8, .ref a9])), (a1, .inl (cy 0, 20, .inl f1)), (a2, .inl (cy 0, 20, .inl f2)), (ro, .inl (cy 0, 20, .inl f0)), (pa, .inr (4, [.int mc, .ref ed, .int 0])), (m0, .inr (20, [.int 0, .ref mp, .int 0, .ref b1, .ref b2, .ref b3, .ref b4, .ref b5, .ref mq])), (mp, .inr (4, [.int mm, .ref ep, .int 13])), (ep, .inl (cy 2, 15, .inr (.inr (.inr (.inr gp))))), (mq, .inr (4, [.int mn, .ref ed, .int 0])), (oa, .inl (cy 3, 1, .inr (.inl og))), (p0, .inr (17, t0)), (p1, .inr (17, t1)), (p2, .inr (17, t2)), (p3, .inr (17, t3)), (p4, .inr (17, t4)), (p5, .inr (17, t5)), (p6, .inr (17, t6)), (p7, .inr (17, t7)), (p8, .inr (17, t8)), (p9, .inr (17, t9)), (p10, .inr (17, t10)), (p11, .inr (17, t11)), (p12, .inr (17, t12))] ∧ gp 0 = some p0 ∧ gp 1 = some p1 ∧ gp 2 = some p2 ∧ gp 3 = some p3 ∧ gp 4 = some p4 ∧ gp 5 = some p5 ∧ gp 6 = some p6 ∧ gp 7 = some p7 ∧ gp 8 = some p8 ∧ gp 9 = some p9 ∧ gp 10 = some p10 ∧ gp 11 = some p11 ∧ gp 12 = some p12
def zx_S14 (D : va_G) (cy : Nat → ClassId) (ed : Nat) (A : Nat → Prop) (h m0 oa : Nat) (H : Heap) : Prop := ∃ (pe : Nat) (ne : Nat) (pa : Nat) (ro : Nat) (a1 : Nat) (a2 : Nat) (a3 : Nat) (a4 : Nat) (a5 : Nat) (a6 : Nat) (a7 : Nat) (a8 : Nat) (a9 : Nat) (mp : Nat) (mq : Nat) (b1 : Nat) (b2 : Nat) (b3 : Nat) (b4 : Nat) (b5 : Nat) (ep : Nat) (mc : Int32) (mm : Int32) (mn : Int32) (f1 : Nat → Int32) (f2 : Nat → Int32) (f0 : Nat → Int32) (og : Nat → Int64) (gp : Nat → Option Nat) (p0 : Nat) (p1 : Nat) (p2 : Nat) (p3 : Nat) (p4 : Nat) (p5 : Nat) (p6 : Nat) (p7 : Nat) (p8 : Nat) (p9 : Nat) (p10 : Nat) (p11 : Nat) (p12 : Nat) (p13 : Nat) (t0 : List Value) (t1 : List Value) (t2 : List Value) (t3 : List Value) (t4 : List Value) (t5 : List Value) (t6 : List Value) (t7 : List Value) (t8 : List Value) (t9 : List Value) (t10 : List Value) (t11 : List Value) (t12 : List Value) (t13 : List Value), va_P D vwCl [(h, .inr (13, [.ref pe, .ref ne, .ref pa, .ref ro, .int 0])), (pe, .inr (9, [.int 14, .ref a1, .ref a2, .ref a3, .ref a4, .ref a5, .ref a6, .ref a7, .ref a8, .ref a9])), (a1, .inl (cy 0, 20, .inl f1)), (a2, .inl (cy 0, 20, .inl f2)), (ro, .inl (cy 0, 20, .inl f0)), (pa, .inr (4, [.int mc, .ref ed, .int 0])), (m0, .inr (20, [.int 0, .ref mp, .int 0, .ref b1, .ref b2, .ref b3, .ref b4, .ref b5, .ref mq])), (mp, .inr (4, [.int mm, .ref ep, .int 14])), (ep, .inl (cy 2, 15, .inr (.inr (.inr (.inr gp))))), (mq, .inr (4, [.int mn, .ref ed, .int 0])), (oa, .inl (cy 3, 1, .inr (.inl og))), (p0, .inr (17, t0)), (p1, .inr (17, t1)), (p2, .inr (17, t2)), (p3, .inr (17, t3)), (p4, .inr (17, t4)), (p5, .inr (17, t5)), (p6, .inr (17, t6)), (p7, .inr (17, t7)), (p8, .inr (17, t8)), (p9, .inr (17, t9)), (p10, .inr (17, t10)), (p11, .inr (17, t11)), (p12, .inr (17, t12)), (p13, .inr (17, t13))] H ∧ va_D A [(h, .inr (13, [.ref pe, .ref ne, .ref pa, .ref ro, .int 0])), (pe, .inr (9, [.int 14, .ref a1, .ref a2, .ref a3, .ref a4, .ref a5, .ref a6, .ref a7, .ref a8, .ref a9])), (a1, .inl (cy 0, 20, .inl f1)), (a2, .inl (cy 0, 20, .inl f2)), (ro, .inl (cy 0, 20, .inl f0)), (pa, .inr (4, [.int mc, .ref ed, .int 0])), (m0, .inr (20, [.int 0, .ref mp, .int 0, .ref b1, .ref b2, .ref b3, .ref b4, .ref b5, .ref mq])), (mp, .inr (4, [.int mm, .ref ep, .int 14])), (ep, .inl (cy 2, 15, .inr (.inr (.inr (.inr gp))))), (mq, .inr (4, [.int mn, .ref ed, .int 0])), (oa, .inl (cy 3, 1, .inr (.inl og))), (p0, .inr (17, t0)), (p1, .inr (17, t1)), (p2, .inr (17, t2)), (p3, .inr (17, t3)), (p4, .inr (17, t4)), (p5, .inr (17, t5)), (p6, .inr (17, t6)), (p7, .inr (17, t7)), (p8, .inr (17, t8)), (p9, .inr (17, t9)), (p10, .inr (17, t10)), (p11, .inr (17, t11)), (p12, .inr (17, t12)), (p13, .inr (17, t13))] ∧ gp 0 = some p0 ∧ gp 1 = some p1 ∧ gp 2 = some p2 ∧ gp 3 = some p3 ∧ gp 4 = some p4 ∧ gp 5 = some p5 ∧ gp 6 = some p6 ∧ gp 7 = some p7 ∧ gp 8 = some p8 ∧ gp 9 = some p9 ∧ gp 10 = some p10 ∧ gp 11 = some p11 ∧ gp 12 = some p12 ∧ gp 13 = some p13
def zx_S15 (D : va_G) (cy : Nat → ClassId) (ed : Nat) (A : Nat → Prop) (h m0 oa : Nat) (H : Heap) : Prop := ∃ (pe : Nat) (ne : Nat) (pa : Nat) (ro : Nat) (a1 : Nat) (a2 : Nat) (a3 : Nat) (a4 : Nat) (a5 : Nat) (a6 : Nat) (a7 : Nat) (a8 : Nat) (a9 : Nat) (mp : Nat) (mq : Nat) (b1 : Nat) (b2 : Nat) (b3 : Nat) (b4 : Nat) (b5 : Nat) (ep : Nat) (mc : Int32) (mm : Int32) (mn : Int32) (f1 : Nat → Int32) (f2 : Nat → Int32) (f0 : Nat → Int32) (og : Nat → Int64) (gp : Nat → Option Nat) (p0 : Nat) (p1 : Nat) (p2 : Nat) (p3 : Nat) (p4 : Nat) (p5 : Nat) (p6 : Nat) (p7 : Nat) (p8 : Nat) (p9 : Nat) (p10 : Nat) (p11 : Nat) (p12 : Nat) (p13 : Nat) (p14 : Nat) (t0 : List Value) (t1 : List Value) (t2 : List Value) (t3 : List Value) (t4 : List Value) (t5 : List Value) (t6 : List Value) (t7 : List Value) (t8 : List Value) (t9 : List Value) (t10 : List Value) (t11 : List Value) (t12 : List Value) (t13 : List Value) (t14 : List Value), va_P D vwCl [(h, .inr (13, [.ref pe, .ref ne, .ref pa, .ref ro, .int 0])), (pe, .inr (9, [.int 15, .ref a1, .ref a2, .ref a3, .ref a4, .ref a5, .ref a6, .ref a7, .ref a8, .ref a9])), (a1, .inl (cy 0, 20, .inl f1)), (a2, .inl (cy 0, 20, .inl f2)), (ro, .inl (cy 0, 20, .inl f0)), (pa, .inr (4, [.int mc, .ref ed, .int 0])), (m0, .inr (20, [.int 0, .ref mp, .int 0, .ref b1, .ref b2, .ref b3, .ref b4, .ref b5, .ref mq])), (mp, .inr (4, [.int mm, .ref ep, .int 15])), (ep, .inl (cy 2, 15, .inr (.inr (.inr (.inr gp))))), (mq, .inr (4, [.int mn, .ref ed, .int 0])), (oa, .inl (cy 3, 1, .inr (.inl og))), (p0, .inr (17, t0)), (p1, .inr (17, t1)), (p2, .inr (17, t2)), (p3, .inr (17, t3)), (p4, .inr (17, t4)), (p5, .inr (17, t5)), (p6, .inr (17, t6)), (p7, .inr (17, t7)), (p8, .inr (17, t8)), (p9, .inr (17, t9)), (p10, .inr (17, t10)), (p11, .inr (17, t11)), (p12, .inr (17, t12)), (p13, .inr (17, t13)), (p14, .inr (17, t14))] H ∧ va_D A [(h, .inr (13, [.ref pe, .ref ne, .ref pa, .ref ro, .int 0])), (pe, .inr (9, [.int 15, .ref a1, .ref a2, .ref a3, .ref a4, .ref a5, .ref a6, .ref a7, .ref a8, .ref a9])), (a1, .inl (cy 0, 20, .inl f1)), (a2, .inl (cy 0, 20, .inl f2)), (ro, .inl (cy 0, 20, .inl f0)), (pa, .inr (4, [.int mc, .ref ed, .int 0])), (m0, .inr (20, [.int 0, .ref mp, .int 0, .ref b1, .ref b2, .ref b3, .ref b4, .ref b5, .ref mq])), (mp, .inr (4, [.int mm, .ref ep, .int 15])), (ep, .inl (cy 2, 15, .inr (.inr (.inr (.inr gp))))), (mq, .inr (4, [.int mn, .ref ed, .int 0])), (oa, .inl (cy 3, 1, .inr (.inl og))), (p0, .inr (17, t0)), (p1, .inr (17, t1)), (p2, .inr (17, t2)), (p3, .inr (17, t3)), (p4, .inr (17, t4)), (p5, .inr (17, t5)), (p6, .inr (17, t6)), (p7, .inr (17, t7)), (p8, .inr (17, t8)), (p9, .inr (17, t9)), (p10, .inr (17, t10)), (p11, .inr (17, t11)), (p12, .inr (17, t12)), (p13, .inr (17, t13)), (p14, .inr (17, t14))] ∧ gp 0 = some p0 ∧ gp 1 = some p1 ∧ gp 2 = some p2 ∧ gp 3 = some p3 ∧ gp 4 = some p4 ∧ gp 5 = some p5 ∧ gp 6 = some p6 ∧ gp 7 = some p7 ∧ gp 8 = some p8 ∧ gp 9 = some p9 ∧ gp 10 = some p10 ∧ gp 11 = some p11 ∧ gp 12 = some p12 ∧ gp 13 = some p13 ∧ gp 14 = some p14
def zx_S16 (D : va_G) (cy : Nat → ClassId) (ed : Nat) (A : Nat → Prop) (h m0 oa : Nat) (H : Heap) : Prop := ∃ (pe : Nat) (ne : Nat) (pa : Nat) (ro : Nat) (a1 : Nat) (a2 : Nat) (a3 : Nat) (a4 : Nat) (a5 : Nat) (a6 : Nat) (a7 : Nat) (a8 : Nat) (a9 : Nat) (mp : Nat) (mq : Nat) (b1 : Nat) (b2 : Nat) (b3 : Nat) (b4 : Nat) (b5 : Nat) (ep : Nat) (mc : Int32) (mm : Int32) (mn : Int32) (f1 : Nat → Int32) (f2 : Nat → Int32) (f0 : Nat → Int32) (og : Nat → Int64) (gp : Nat → Option Nat), va_P D vwCl [(h, .inr (13, [.ref pe, .ref ne, .ref pa, .ref ro, .int 0])), (pe, .inr (9, [.int 16, .ref a1, .ref a2, .ref a3, .ref a4, .ref a5, .ref a6, .ref a7, .ref a8, .ref a9])), (a1, .inl (cy 0, 20, .inl f1)), (a2, .inl (cy 0, 20, .inl f2)), (ro, .inl (cy 0, 20, .inl f0)), (pa, .inr (4, [.int mc, .ref ed, .int 0])), (m0, .inr (20, [.int 0, .ref mp, .int 0, .ref b1, .ref b2, .ref b3, .ref b4, .ref b5, .ref mq])), (mp, .inr (4, [.int mm, .ref ep, .int 16])), (ep, .inl (cy 2, 22, .inr (.inr (.inr (.inr gp))))), (mq, .inr (4, [.int mn, .ref ed, .int 0])), (oa, .inl (cy 3, 1, .inr (.inl og)))] H ∧ va_D A [(h, .inr (13, [.ref pe, .ref ne, .ref pa, .ref ro, .int 0])), (pe, .inr (9, [.int 16, .ref a1, .ref a2, .ref a3, .ref a4, .ref a5, .ref a6, .ref a7, .ref a8, .ref a9])), (a1, .inl (cy 0, 20, .inl f1)), (a2, .inl (cy 0, 20, .inl f2)), (ro, .inl (cy 0, 20, .inl f0)), (pa, .inr (4, [.int mc, .ref ed, .int 0])), (m0, .inr (20, [.int 0, .ref mp, .int 0, .ref b1, .ref b2, .ref b3, .ref b4, .ref b5, .ref mq])), (mp, .inr (4, [.int mm, .ref ep, .int 16])), (ep, .inl (cy 2, 22, .inr (.inr (.inr (.inr gp))))), (mq, .inr (4, [.int mn, .ref ed, .int 0])), (oa, .inl (cy 3, 1, .inr (.inl og)))]
def zx_S17 (D : va_G) (cy : Nat → ClassId) (ed : Nat) (A : Nat → Prop) (h m0 oa : Nat) (H : Heap) : Prop := ∃ (pe : Nat) (ne : Nat) (pa : Nat) (ro : Nat) (a1 : Nat) (a2 : Nat) (a3 : Nat) (a4 : Nat) (a5 : Nat) (a6 : Nat) (a7 : Nat) (a8 : Nat) (a9 : Nat) (mp : Nat) (mq : Nat) (b1 : Nat) (b2 : Nat) (b3 : Nat) (b4 : Nat) (b5 : Nat) (ep : Nat) (mc : Int32) (mm : Int32) (mn : Int32) (f1 : Nat → Int32) (f2 : Nat → Int32) (f0 : Nat → Int32) (og : Nat → Int64) (gp : Nat → Option Nat), va_P D vwCl [(h, .inr (13, [.ref pe, .ref ne, .ref pa, .ref ro, .int 0])), (pe, .inr (9, [.int 17, .ref a1, .ref a2, .ref a3, .ref a4, .ref a5, .ref a6, .ref a7, .ref a8, .ref a9])), (a1, .inl (cy 0, 20, .inl f1)), (a2, .inl (cy 0, 20, .inl f2)), (ro, .inl (cy 0, 20, .inl f0)), (pa, .inr (4, [.int mc, .ref ed, .int 0])), (m0, .inr (20, [.int 0, .ref mp, .int 0, .ref b1, .ref b2, .ref b3, .ref b4, .ref b5, .ref mq])), (mp, .inr (4, [.int mm, .ref ep, .int 17])), (ep, .inl (cy 2, 22, .inr (.inr (.inr (.inr gp))))), (mq, .inr (4, [.int mn, .ref ed, .int 0])), (oa, .inl (cy 3, 1, .inr (.inl og)))] H ∧ va_D A [(h, .inr (13, [.ref pe, .ref ne, .ref pa, .ref ro, .int 0])), (pe, .inr (9, [.int 17, .ref a1, .ref a2, .ref a3, .ref a4, .ref a5, .ref a6, .ref a7, .ref a8, .ref a9])), (a1, .inl (cy 0, 20, .inl f1)), (a2, .inl (cy 0, 20, .inl f2)), (ro, .inl (cy 0, 20, .inl f0)), (pa, .inr (4, [.int mc, .ref ed, .int 0])), (m0, .inr (20, [.int 0, .ref mp, .int 0, .ref b1, .ref b2, .ref b3, .ref b4, .ref b5, .ref mq])), (mp, .inr (4, [.int mm, .ref ep, .int 17])), (ep, .inl (cy 2, 22, .inr (.inr (.inr (.inr gp))))), (mq, .inr (4, [.int mn, .ref ed, .int 0])), (oa, .inl (cy 3, 1, .inr (.inl og)))]
def zx_S18 (D : va_G) (cy : Nat → ClassId) (ed : Nat) (A : Nat → Prop) (h m0 oa : Nat) (H : Heap) : Prop := ∃ (pe : Nat) (ne : Nat) (pa : Nat) (ro : Nat) (a1 : Nat) (a2 : Nat) (a3 : Nat) (a4 : Nat) (a5 : Nat) (a6 : Nat) (a7 : Nat) (a8 : Nat) (a9 : Nat) (mp : Nat) (mq : Nat) (b1 : Nat) (b2 : Nat) (b3 : Nat) (b4 : Nat) (b5 : Nat) (ep : Nat) (mc : Int32) (mm : Int32) (mn : Int32) (f1 : Nat → Int32) (f2 : Nat → Int32) (f0 : Nat → Int32) (og : Nat → Int64) (gp : Nat → Option Nat), va_P D vwCl [(h, .inr (13, [.ref pe, .ref ne, .ref pa, .ref ro, .int 0])), (pe, .inr (9, [.int 18, .ref a1, .ref a2, .ref a3, .ref a4, .ref a5, .ref a6, .ref a7, .ref a8, .ref a9])), (a1, .inl (cy 0, 20, .inl f1)), (a2, .inl (cy 0, 20, .inl f2)), (ro, .inl (cy 0, 20, .inl f0)), (pa, .inr (4, [.int mc, .ref ed, .int 0])), (m0, .inr (20, [.int 0, .ref mp, .int 0, .ref b1, .ref b2, .ref b3, .ref b4, .ref b5, .ref mq])), (mp, .inr (4, [.int mm, .ref ep, .int 18])), (ep, .inl (cy 2, 22, .inr (.inr (.inr (.inr gp))))), (mq, .inr (4, [.int mn, .ref ed, .int 0])), (oa, .inl (cy 3, 1, .inr (.inl og)))] H ∧ va_D A [(h, .inr (13, [.ref pe, .ref ne, .ref pa, .ref ro, .int 0])), (pe, .inr (9, [.int 18, .ref a1, .ref a2, .ref a3, .ref a4, .ref a5, .ref a6, .ref a7, .ref a8, .ref a9])), (a1, .inl (cy 0, 20, .inl f1)), (a2, .inl (cy 0, 20, .inl f2)), (ro, .inl (cy 0, 20, .inl f0)), (pa, .inr (4, [.int mc, .ref ed, .int 0])), (m0, .inr (20, [.int 0, .ref mp, .int 0, .ref b1, .ref b2, .ref b3, .ref b4, .ref b5, .ref mq])), (mp, .inr (4, [.int mm, .ref ep, .int 18])), (ep, .inl (cy 2, 22, .inr (.inr (.inr (.inr gp))))), (mq, .inr (4, [.int mn, .ref ed, .int 0])), (oa, .inl (cy 3, 1, .inr (.inl og)))]
def zx_S19 (D : va_G) (cy : Nat → ClassId) (ed : Nat) (A : Nat → Prop) (h m0 oa : Nat) (H : Heap) : Prop := ∃ (pe : Nat) (ne : Nat) (pa : Nat) (ro : Nat) (a1 : Nat) (a2 : Nat) (a3 : Nat) (a4 : Nat) (a5 : Nat) (a6 : Nat) (a7 : Nat) (a8 : Nat) (a9 : Nat) (mp : Nat) (mq : Nat) (b1 : Nat) (b2 : Nat) (b3 : Nat) (b4 : Nat) (b5 : Nat) (ep : Nat) (mc : Int32) (mm : Int32) (mn : Int32) (f1 : Nat → Int32) (f2 : Nat → Int32) (f0 : Nat → Int32) (og : Nat → Int64) (gp : Nat → Option Nat), va_P D vwCl [(h, .inr (13, [.ref pe, .ref ne, .ref pa, .ref ro, .int 0])), (pe, .inr (9, [.int 19, .ref a1, .ref a2, .ref a3, .ref a4, .ref a5, .ref a6, .ref a7, .ref a8, .ref a9])), (a1, .inl (cy 0, 20, .inl f1)), (a2, .inl (cy 0, 20, .inl f2)), (ro, .inl (cy 0, 20, .inl f0)), (pa, .inr (4, [.int mc, .ref ed, .int 0])), (m0, .inr (20, [.int 0, .ref mp, .int 0, .ref b1, .ref b2, .ref b3, .ref b4, .ref b5, .ref mq])), (mp, .inr (4, [.int mm, .ref ep, .int 19])), (ep, .inl (cy 2, 22, .inr (.inr (.inr (.inr gp))))), (mq, .inr (4, [.int mn, .ref ed, .int 0])), (oa, .inl (cy 3, 1, .inr (.inl og)))] H ∧ va_D A [(h, .inr (13, [.ref pe, .ref ne, .ref pa, .ref ro, .int 0])), (pe, .inr (9, [.int 19, .ref a1, .ref a2, .ref a3, .ref a4, .ref a5, .ref a6, .ref a7, .ref a8, .ref a9])), (a1, .inl (cy 0, 20, .inl f1)), (a2, .inl (cy 0, 20, .inl f2)), (ro, .inl (cy 0, 20, .inl f0)), (pa, .inr (4, [.int mc, .ref ed, .int 0])), (m0, .inr (20, [.int 0, .ref mp, .int 0, .ref b1, .ref b2, .ref b3, .ref b4, .ref b5, .ref mq])), (mp, .inr (4, [.int mm, .ref ep, .int 19])), (ep, .inl (cy 2, 22, .inr (.inr (.inr (.inr gp))))), (mq, .inr (4, [.int mn, .ref ed, .int 0])), (oa, .inl (cy 3, 1, .inr (.inl og)))]
def zx_S20 (D : va_G) (cy : Nat → ClassId) (ed : Nat) (A : Nat → Prop) (h m0 oa : Nat) (H : Heap) : Prop := ∃ (pe : Nat) (ne : Nat) (pa : Nat) (ro : Nat) (a1 : Nat) (a2 : Nat) (a3 : Nat) (a4 : Nat) (a5 : Nat) (a6 : Nat) (a7 : Nat) (a8 : Nat) (a9 : Nat) (mp : Nat) (mq : Nat) (b1 : Nat) (b2 : Nat) (b3 : Nat) (b4 : Nat) (b5 : Nat) (ep : Nat) (mc : Int32) (mm : Int32) (mn : Int32) (f1 : Nat → Int32) (f2 : Nat → Int32) (f0 : Nat → Int32) (og : Nat → Int64) (gp : Nat → Option Nat), va_P D vwCl [(h, .inr (13, [.ref pe, .ref ne, .ref pa, .ref ro, .int 0])), (pe, .inr (9, [.int 20, .ref a1, .ref a2, .ref a3, .ref a4, .ref a5, .ref a6, .ref a7, .ref a8, .ref a9])), (a1, .inl (cy 0, 20, .inl f1)), (a2, .inl (cy 0, 20, .inl f2)), (ro, .inl (cy 0, 20, .inl f0)), (pa, .inr (4, [.int mc, .ref ed, .int 0])), (m0, .inr (20, [.int 0, .ref mp, .int 0, .ref b1, .ref b2, .ref b3, .ref b4, .ref b5, .ref mq])), (mp, .inr (4, [.int mm, .ref ep, .int 20])), (ep, .inl (cy 2, 22, .inr (.inr (.inr (.inr gp))))), (mq, .inr (4, [.int mn, .ref ed, .int 0])), (oa, .inl (cy 3, 1, .inr (.inl og)))] H ∧ va_D A [(h, .inr (13, [.ref pe, .ref ne, .ref pa, .ref ro, .int 0])), (pe, .inr (9, [.int 20, .ref a1, .ref a2, .ref a3, .ref a4, .ref a5, .ref a6, .ref a7, .ref a8, .ref a9])), (a1, .inl (cy 0, 20, .inl f1)), (a2, .inl (cy 0, 20, .inl f2)), (ro, .inl (cy 0, 20, .inl f0)), (pa, .inr (4, [.int mc, .ref ed, .int 0])), (m0, .inr (20, [.int 0, .ref mp, .int 0, .ref b1, .ref b2, .ref b3, .ref b4, .ref b5, .ref mq])), (mp, .inr (4, [.int mm, .ref ep, .int 20])), (ep, .inl (cy 2, 22, .inr (.inr (.inr (.inr gp))))), (mq, .inr (4, [.int mn, .ref ed, .int 0])), (oa, .inl (cy 3, 1, .inr (.inl og)))]
def zx_S21 (D : va_G) (cy : Nat → ClassId) (ed : Nat) (A : Nat → Prop) (h m0 oa : Nat) (H : Heap) : Prop := ∃ (pe : Nat) (ne : Nat) (pa : Nat) (ro : Nat) (a1 : Nat) (a2 : Nat) (a3 : Nat) (a4 : Nat) (a5 : Nat) (a6 : Nat) (a7 : Nat) (a8 : Nat) (a9 : Nat) (mp : Nat) (mq : Nat) (b1 : Nat) (b2 : Nat) (b3 : Nat) (b4 : Nat) (b5 : Nat) (ep : Nat) (el : Nat) (eq : Nat) (mc : Int32) (mm : Int32) (mn : Int32) (f1 : Nat → Int32) (f2 : Nat → Int32) (f0 : Nat → Int32) (og : Nat → Int64) (gp : Nat → Option Nat) (g : Nat → Option Nat) (gq : Nat → Option Nat) (y0 : Nat) (r0 : Nat) (q0 : List Value) (z0 : Nat) (v0 : Nat) (u0 : List Value), va_P D vwCl [(h, .inr (13, [.ref pe, .ref ne, .ref pa, .ref ro, .int 0])), (pe, .inr (9, [.int 20, .ref a1, .ref a2, .ref a3, .ref a4, .ref a5, .ref a6, .ref a7, .ref a8, .ref a9])), (a1, .inl (cy 0, 20, .inl f1)), (a2, .inl (cy 0, 20, .inl f2)), (ro, .inl (cy 0, 20, .inl f0)), (pa, .inr (4, [.int mc, .ref el, .int 1])), (el, .inl (cy 2, 10, .inr (.inr (.inr (.inr g))))), (m0, .inr (20, [.int 0, .ref mp, .int 0, .ref b1, .ref b2, .ref b3, .ref b4, .ref b5, .ref mq])), (mp, .inr (4, [.int mm, .ref ep, .int 20])), (ep, .inl (cy 2, 22, .inr (.inr (.inr (.inr gp))))), (mq, .inr (4, [.int mn, .ref eq, .int 1])), (eq, .inl (cy 2, 10, .inr (.inr (.inr (.inr gq))))), (oa, .inl (cy 3, 1, .inr (.inl og))), (y0, .inr (8, q0)), (r0, .inr (4, [.int 0, .ref ed, .int 0])), (z0, .inr (16, u0)), (v0, .inr (4, [.int 0, .ref ed, .int 0]))] H ∧ va_D A [(h, .inr (13, [.ref pe, .ref ne, .ref pa, .ref ro, .int 0])), (pe, .inr (9, [.int 20, .ref a1, .ref a2, .ref a3, .ref a4, .ref a5, .ref a6, .ref a7, .ref a8, .ref a9])), (a1, .inl (cy 0, 20, .inl f1)), (a2, .inl (cy 0, 20, .inl f2)), (ro, .inl (cy 0, 20, .inl f0)), (pa, .inr (4, [.int mc, .ref el, .int 1])), (el, .inl (cy 2, 10, .inr (.inr (.inr (.inr g))))), (m0, .inr (20, [.int 0, .ref mp, .int 0, .ref b1, .ref b2, .ref b3, .ref b4, .ref b5, .ref mq])), (mp, .inr (4, [.int mm, .ref ep, .int 20])), (ep, .inl (cy 2, 22, .inr (.inr (.inr (.inr gp))))), (mq, .inr (4, [.int mn, .ref eq, .int 1])), (eq, .inl (cy 2, 10, .inr (.inr (.inr (.inr gq))))), (oa, .inl (cy 3, 1, .inr (.inl og))), (y0, .inr (8, q0)), (r0, .inr (4, [.int 0, .ref ed, .int 0])), (z0, .inr (16, u0)), (v0, .inr (4, [.int 0, .ref ed, .int 0]))] ∧ g 0 = some y0 ∧ q0[6]? = some (.ref r0) ∧ gq 0 = some z0 ∧ u0[23]? = some (.ref v0)
def zx_S22 (D : va_G) (cy : Nat → ClassId) (ed : Nat) (A : Nat → Prop) (h m0 oa : Nat) (H : Heap) : Prop := ∃ (pe : Nat) (ne : Nat) (pa : Nat) (ro : Nat) (a1 : Nat) (a2 : Nat) (a3 : Nat) (a4 : Nat) (a5 : Nat) (a6 : Nat) (a7 : Nat) (a8 : Nat) (a9 : Nat) (mp : Nat) (mq : Nat) (b1 : Nat) (b2 : Nat) (b3 : Nat) (b4 : Nat) (b5 : Nat) (ep : Nat) (el : Nat) (eq : Nat) (mc : Int32) (mm : Int32) (mn : Int32) (f1 : Nat → Int32) (f2 : Nat → Int32) (f0 : Nat → Int32) (og : Nat → Int64) (gp : Nat → Option Nat) (g : Nat → Option Nat) (gq : Nat → Option Nat) (y0 : Nat) (y1 : Nat) (r0 : Nat) (r1 : Nat) (q0 : List Value) (q1 : List Value) (z0 : Nat) (z1 : Nat) (v0 : Nat) (v1 : Nat) (u0 : List Value) (u1 : List Value), va_P D vwCl [(h, .inr (13, [.ref pe, .ref ne, .ref pa, .ref ro, .int 0])), (pe, .inr (9, [.int 20, .ref a1, .ref a2, .ref a3, .ref a4, .ref a5, .ref a6, .ref a7, .ref a8, .ref a9])), (a1, .inl (cy 0, 20, .inl f1)), (a2, .inl (cy 0, 20, .inl f2)), (ro, .inl (cy 0, 20, .inl f0)), (pa, .inr (4, [.int mc, .ref el, .int 2])), (el, .inl (cy 2, 10, .inr (.inr (.inr (.inr g))))), (m0, .inr (20, [.int 0, .ref mp, .int 0, .ref b1, .ref b2, .ref b3, .ref b4, .ref b5, .ref mq])), (mp, .inr (4, [.int mm, .ref ep, .int 20])), (ep, .inl (cy 2, 22, .inr (.inr (.inr (.inr gp))))), (mq, .inr (4, [.int mn, .ref eq, .int 2])), (eq, .inl (cy 2, 10, .inr (.inr (.inr (.inr gq))))), (oa, .inl (cy 3, 1, .inr (.inl og))), (y0, .inr (8, q0)), (r0, .inr (4, [.int 0, .ref ed, .int 0])), (y1, .inr (8, q1)), (r1, .inr (4, [.int 0, .ref ed, .int 0])), (z0, .inr (16, u0)), (v0, .inr (4, [.int 0, .ref ed, .int 0])), (z1, .inr (16, u1)), (v1, .inr (4, [.int 0, .ref ed, .int 0]))] H ∧ va_D A [(h, .inr (13, [.ref pe, .ref ne, .ref pa, .ref ro, .int 0])), (pe, .inr (9, [.int 20, .ref a1, .ref a2, .ref a3, .ref a4, .ref a5, .ref a6, .ref a7, .ref a8, .ref a9])), (a1, .inl (cy 0, 20, .inl f1)), (a2, .inl (cy 0, 20, .inl f2)), (ro, .inl (cy 0, 20, .inl f0)), (pa, .inr (4, [.int mc, .ref el, .int 2])), (el, .inl (cy 2, 10, .inr (.inr (.inr (.inr g))))), (m0, .inr (20, [.int 0, .ref mp, .int 0, .ref b1, .ref b2, .ref b3, .ref b4, .ref b5, .ref mq])), (mp, .inr (4, [.int mm, .ref ep, .int 20])), (ep, .inl (cy 2, 22, .inr (.inr (.inr (.inr gp))))), (mq, .inr (4, [.int mn, .ref eq, .int 2])), (eq, .inl (cy 2, 10, .inr (.inr (.inr (.inr gq))))), (oa, .inl (cy 3, 1, .inr (.inl og))), (y0, .inr (8, q0)), (r0, .inr (4, [.int 0, .ref ed, .int 0])), (y1, .inr (8, q1)), (r1, .inr (4, [.int 0, .ref ed, .int 0])), (z0, .inr (16, u0)), (v0, .inr (4, [.int 0, .ref ed, .int 0])), (z1, .inr (16, u1)), (v1, .inr (4, [.int 0, .ref ed, .int 0]))] ∧ g 0 = some y0 ∧ g 1 = some y1 ∧ q0[6]? = some (.ref r0) ∧ q1[6]? = some (.ref r1) ∧ gq 0 = some z0 ∧ gq 1 = some z1 ∧ u0[23]? = some (.ref v0) ∧ u1[23]? = some (.ref v1)
def zx_S23 (D : va_G) (cy : Nat → ClassId) (ed : Nat) (A : Nat → Prop) (h m0 oa : Nat) (H : Heap) : Prop := ∃ (pe : Nat) (ne : Nat) (pa : Nat) (ro : Nat) (a1 : Nat) (a2 : Nat) (a3 : Nat) (a4 : Nat) (a5 : Nat) (a6 : Nat) (a7 : Nat) (a8 : Nat) (a9 : Nat) (mp : Nat) (mq : Nat) (b1 : Nat) (b2 : Nat) (b3 : Nat) (b4 : Nat) (b5 : Nat) (ep : Nat) (el : Nat) (eq : Nat) (mc : Int32) (mm : Int32) (mn : Int32) (f1 : Nat → Int32) (f2 : Nat → Int32) (f0 : Nat → Int32) (og : Nat → Int64) (gp : Nat → Option Nat) (g : Nat → Option Nat) (gq : Nat → Option Nat) (y0 : Nat) (y1 : Nat) (y2 : Nat) (r0 : Nat) (r1 : Nat) (r2 : Nat) (q0 : List Value) (q1 : List Value) (q2 : List Value) (z0 : Nat) (z1 : Nat) (z2 : Nat) (v0 : Nat) (v1 : Nat) (v2 : Nat) (u0 : List Value) (u1 : List Value) (u2 : List Value), va_P D vwCl [(h, .inr (13, [.ref pe, .ref ne, .ref pa, .ref ro, .int 0])), (pe, .inr (9, [.int 20, .ref a1, .ref a2, .ref a3, .ref a4, .ref a5, .ref a6, .ref a7, .ref a8, .ref a9])), (a1, .inl (cy 0, 20, .inl f1)), (a2, .inl (cy 0, 20, .inl f2)), (ro, .inl (cy 0, 20, .inl f0)), (pa, .inr (4, [.int mc, .ref el, .int 3])), (el, .inl (cy 2, 10, .inr (.inr (.inr (.inr g))))), (m0, .inr (20, [.int 0, .ref mp, .int 0, .ref b1, .ref b2, .ref b3, .ref b4, .ref b5, .ref mq])), (mp, .inr (4, [.int mm, .ref ep, .int 20])), (ep, .inl (cy 2, 22, .inr (.inr (.inr (.inr gp))))), (mq, .inr (4, [.int mn, .ref eq, .int 3])), (eq, .inl (cy 2, 10, .inr (.inr (.inr (.inr gq))))), (oa, .inl (cy 3, 1, .inr (.inl og))), (y0, .inr (8, q0)), (r0, .inr (4, [.int 0, .ref ed, .int 0])), (y1, .inr (8, q1)), (r1, .inr (4, [.int 0, .ref ed, .int 0])), (y2, .inr (8, q2)), (r2, .inr (4, [.int 0, .ref ed, .int 0])), (z0, .inr (16, u0)), (v0, .inr (4, [.int 0, .ref ed, .int 0])), (z1, .inr (16, u1)), (v1, .inr (4, [.int 0, .ref ed, .int 0])), (z2, .inr (16, u2)), (v2, .inr (4, [.int 0, .ref ed, .int 0]))] H ∧ va_D A [(h, .inr (13, [.ref pe, .ref ne, .ref pa, .ref ro, .int 0])), (pe, .inr (9, [.int 20, .ref a1, .ref a2, .ref a3, .ref a4, .ref a5, .ref a6, .ref a7, .ref a8, .ref a9])), (a1, .inl (cy 0, 20, .inl f1)), (a2, .inl (cy 0, 20, .inl f2)), (ro, .inl (cy 0, 20, .inl f0)), (pa, .inr (4, [.int mc, .ref el, .int 3])), (el, .inl (cy 2, 10, .inr (.inr (.inr (.inr g))))), (m0, .inr (20, [.int 0, .ref mp, .int 0, .ref b1, .ref b2, .ref b3, .ref b4, .ref b5, .ref mq])), (mp, .inr (4, [.int mm, .ref ep, .int 20])), (ep, .inl (cy 2, 22, .inr (.inr (.inr (.inr gp))))), (mq, .inr (4, [.int mn, .ref eq, .int 3])), (eq, .inl (cy 2, 10, .inr (.inr (.inr (.inr gq))))), (oa, .inl (cy 3, 1, .inr (.inl og))), (y0, .inr (8, q0)), (r0, .inr (4, [.int 0, .ref ed, .int 0])), (y1, .inr (8, q1)), (r1, .inr (4, [.int 0, .ref ed, .int 0])), (y2, .inr (8, q2)), (r2, .inr (4, [.int 0, .ref ed, .int 0])), (z0, .inr (16, u0)), (v0, .inr (4, [.int 0, .ref ed, .int 0])), (z1, .inr (16, u1)), (v1, .inr (4, [.int 0, .ref ed, .int 0])), (z2, .inr (16, u2)), (v2, .inr (4, [.int 0, .ref ed, .int 0]))] ∧ g 0 = some y0 ∧ g 1 = some y1 ∧ g 2 = some y2 ∧ q0[6]? = some (.ref r0) ∧ q1[6]? = some (.ref r1) ∧ q2[6]? = some (.ref r2) ∧ gq 0 = some z0 ∧ gq 1 = some z1 ∧ gq 2 = some z2 ∧ u0[23]? = some (.ref v0) ∧ u1[23]? = some (.ref v1) ∧ u2[23]? = some (.ref v2)
def zx_S24 (D : va_G) (cy : Nat → ClassId) (ed : Nat) (A : Nat → Prop) (h m0 oa : Nat) (H : Heap) : Prop := ∃ (pe : Nat) (ne : Nat) (pa : Nat) (ro : Nat) (a1 : Nat) (a2 : Nat) (a3 : Nat) (a4 : Nat) (a5 : Nat) (a6 : Nat) (a7 : Nat) (a8 : Nat) (a9 : Nat) (mp : Nat) (mq : Nat) (b1 : Nat) (b2 : Nat) (b3 : Nat) (b4 : Nat) (b5 : Nat) (ep : Nat) (el : Nat) (eq : Nat) (mc : Int32) (mm : Int32) (mn : Int32) (f1 : Nat → Int32) (f2 : Nat → Int32) (f0 : Nat → Int32) (og : Nat → Int64) (gp : Nat → Option Nat) (g : Nat → Option Nat) (gq : Nat → Option Nat) (y0 : Nat) (y1 : Nat) (y2 : Nat) (y3 : Nat) (r0 : Nat) (r1 : Nat) (r2 : Nat) (r3 : Nat) (q0 : List Value) (q1 : List Value) (q2 : List Value) (q3 : List Value) (z0 : Nat) (z1 : Nat) (z2 : Nat) (z3 : Nat) (v0 : Nat) (v1 : Nat) (v2 : Nat) (v3 : Nat) (u0 : List Value) (u1 : List Value) (u2 : List Value) (u3 : List Value), va_P D vwCl [(h, .inr (13, [.ref pe, .ref ne, .ref pa, .ref ro, .int 0])), (pe, .inr (9, [.int 20, .ref a1, .ref a2, .ref a3, .ref a4, .ref a5, .ref a6, .ref a7, .ref a8, .ref a9])), (a1, .inl (cy 0, 20, .inl f1)), (a2, .inl (cy 0, 20, .inl f2)), (ro, .inl (cy 0, 20, .inl f0)), (pa, .inr (4, [.int mc, .ref el, .int 4])), (el, .inl (cy 2, 10, .inr (.inr (.inr (.inr g))))), (m0, .inr (20, [.int 0, .ref mp, .int 0, .ref b1, .ref b2, .ref b3, .ref b4, .ref b5, .ref mq])), (mp, .inr (4, [.int mm, .ref ep, .int 20])), (ep, .inl (cy 2, 22, .inr (.inr (.inr (.inr gp))))), (mq, .inr (4, [.int mn, .ref eq, .int 4])), (eq, .inl (cy 2, 10, .inr (.inr (.inr (.inr gq))))), (oa, .inl (cy 3, 1, .inr (.inl og))), (y0, .inr (8, q0)), (r0, .inr (4, [.int 0, .ref ed, .int 0])), (y1, .inr (8, q1)), (r1, .inr (4, [.int 0, .ref ed, .int 0])), (y2, .inr (8, q2)), (r2, .inr (4, [.int 0, .ref ed, .int 0])), (y3, .inr (8, q3)), (r3, .inr (4, [.int 0, .ref ed, .int 0])), (z0, .inr (16, u0)), (v0, .inr (4, [.int 0, .ref ed, .int 0])), (z1, .inr (16, u1)), (v1, .inr (4, [.int 0, .ref ed, .int 0])), (z2, .inr (16, u2)), (v2, .inr (4, [.int 0, .ref ed, .int 0])), (z3, .inr (16, u3)), (v3, .inr (4, [.int 0, .ref ed, .int 0]))] H ∧ va_D A [(h, .inr (13, [.ref pe, .ref ne, .ref pa, .ref ro, .int 0])), (pe, .inr (9, [.int 20, .ref a1, .ref a2, .ref a3, .ref a4, .ref a5, .ref a6, .ref a7, .ref a8, .ref a9])), (a1, .inl (cy 0, 20, .inl f1)), (a2, .inl (cy 0, 20, .inl f2)), (ro, .inl (cy 0, 20, .inl f0)), (pa, .inr (4, [.int mc, .ref el, .int 4])), (el, .inl (cy 2, 10, .inr (.inr (.inr (.inr g))))), (m0, .inr (20, [.int 0, .ref mp, .int 0, .ref b1, .ref b2, .ref b3, .ref b4, .ref b5, .ref mq])), (mp, .inr (4, [.int mm, .ref ep, .int 20])), (ep, .inl (cy 2, 22, .inr (.inr (.inr (.inr gp))))), (mq, .inr (4, [.int mn, .ref eq, .int 4])), (eq, .inl (cy 2, 10, .inr (.inr (.inr (.inr gq))))), (oa, .inl (cy 3, 1, .inr (.inl og))), (y0, .inr (8, q0)), (r0, .inr (4, [.int 0, .ref ed, .int 0])), (y1, .inr (8, q1)), (r1, .inr (4, [.int 0, .ref ed, .int 0])), (y2, .inr (8, q2)), (r2, .inr (4, [.int 0, .ref ed, .int 0])), (y3, .inr (8, q3)), (r3, .inr (4, [.int 0, .ref ed, .int 0])), (z0, .inr (16, u0)), (v0, .inr (4, [.int 0, .ref ed, .int 0])), (z1, .inr (16, u1)), (v1, .inr (4, [.int 0, .ref ed, .int 0])), (z2, .inr (16, u2)), (v2, .inr (4, [.int 0, .ref ed, .int 0])), (z3, .inr (16, u3)), (v3, .inr (4, [.int 0, .ref ed, .int 0]))] ∧ g 0 = some y0 ∧ g 1 = some y1 ∧ g 2 = some y2 ∧ g 3 = some y3 ∧ q0[6]? = some (.ref r0) ∧ q1[6]? = some (.ref r1) ∧ q2[6]? = some (.ref r2) ∧ q3[6]? = some (.ref r3) ∧ gq 0 = some z0 ∧ gq 1 = some z1 ∧ gq 2 = some z2 ∧ gq 3 = some z3 ∧ u0[23]? = some (.ref v0) ∧ u1[23]? = some (.ref v1) ∧ u2[23]? = some (.ref v2) ∧ u3[23]? = some (.ref v3)
def zx_S25 (D : va_G) (cy : Nat → ClassId) (ed : Nat) (A : Nat → Prop) (h m0 oa : Nat) (H : Heap) : Prop := ∃ (pe : Nat) (ne : Nat) (pa : Nat) (ro : Nat) (a1 : Nat) (a2 : Nat) (a3 : Nat) (a4 : Nat) (a5 : Nat) (a6 : Nat) (a7 : Nat) (a8 : Nat) (a9 : Nat) (mp : Nat) (mq : Nat) (b1 : Nat) (b2 : Nat) (b3 : Nat) (b4 : Nat) (b5 : Nat) (ep : Nat) (el : Nat) (eq : Nat) (mc : Int32) (mm : Int32) (mn : Int32) (f1 : Nat → Int32) (f2 : Nat → Int32) (f0 : Nat → Int32) (og : Nat → Int64) (gp : Nat → Option Nat) (g : Nat → Option Nat) (gq : Nat → Option Nat) (y0 : Nat) (y1 : Nat) (y2 : Nat) (y3 : Nat) (y4 : Nat) (r0 : Nat) (r1 : Nat) (r2 : Nat) (r3 : Nat) (r4 : Nat) (q0 : List Value) (q1 : List Value) (q2 : List Value) (q3 : List Value) (q4 : List Value) (z0 : Nat) (z1 : Nat) (z2 : Nat) (z3 : Nat) (z4 : Nat) (v0 : Nat) (v1 : Nat) (v2 : Nat) (v3 : Nat) (v4 : Nat) (u0 : List Value) (u1 : List Value) (u2 : List Value) (u3 : List Value) (u4 : List Value), va_P D vwCl [(h, .inr (13, [.ref pe, .ref ne, .ref pa, .ref ro, .int 0])), (pe, .inr (9, [.int 20, .ref a1, .ref a2, .ref a3, .ref a4, .ref a5, .ref a6, .ref a7, .ref a8, .ref a9])), (a1, .inl (cy 0, 20, .inl f1)), (a2, .inl (cy 0, 20, .inl f2)), (ro, .inl (cy 0, 20, .inl f0)), (pa, .inr (4, [.int mc, .ref el, .int 5])), (el, .inl (cy 2, 10, .inr (.inr (.inr (.inr g))))), (m0, .inr (20, [.int 0, .ref mp, .int 0, .ref b1, .ref b2, .ref b3, .ref b4, .ref b5, .ref mq])), (mp, .inr (4, [.int mm, .ref ep, .int 20])), (ep, .inl (cy 2, 22, .inr (.inr (.inr (.inr gp))))), (mq, .inr (4, [.int mn, .ref eq, .int 5])), (eq, .inl (cy 2, 10, .inr (.inr (.inr (.inr gq))))), (oa, .inl (cy 3, 1, .inr (.inl og))), (y0, .inr (8, q0)), (r0, .inr (4, [.int 0, .ref ed, .int 0])), (y1, .inr (8, q1)), (r1, .inr (4, [.int 0, .ref ed, .int 0])), (y2, .inr (8, q2)), (r2, .inr (4, [.int 0, .ref ed, .int 0])), (y3, .inr (8, q3)), (r3, .inr (4, [.int 0, .ref ed, .int 0])), (y4, .inr (8, q4)), (r4, .inr (4, [.int 0, .ref ed, .int 0])), (z0, .inr (16, u0)), (v0, .inr (4, [.int 0, .ref ed, .int 0])), (z1, .inr (16, u1)), (v1, .inr (4, [.int 0, .ref ed, .int 0])), (z2, .inr (16, u2)), (v2, .inr (4, [.int 0, .ref ed, .int 0])), (z3, .inr (16, u3)), (v3, .inr (4, [.int 0, .ref ed, .int 0])), (z4, .inr (16, u4)), (v4, .inr (4, [.int 0, .ref ed, .int 0]))] H ∧ va_D A [(h, .inr (13, [.ref pe, .ref ne, .ref pa, .ref ro, .int 0])), (pe, .inr (9, [.int 20, .ref a1, .ref a2, .ref a3, .ref a4, .ref a5, .ref a6, .ref a7, .ref a8, .ref a9])), (a1, .inl (cy 0, 20, .inl f1)), (a2, .inl (cy 0, 20, .inl f2)), (ro, .inl (cy 0, 20, .inl f0)), (pa, .inr (4, [.int mc, .ref el, .int 5])), (el, .inl (cy 2, 10, .inr (.inr (.inr (.inr g))))), (m0, .inr (20, [.int 0, .ref mp, .int 0, .ref b1, .ref b2, .ref b3, .ref b4, .ref b5, .ref mq])), (mp, .inr (4, [.int mm, .ref ep, .int 20])), (ep, .inl (cy 2, 22, .inr (.inr (.inr (.inr gp))))), (mq, .inr (4, [.int mn, .ref eq, .int 5])), (eq, .inl (cy 2, 10, .inr (.inr (.inr (.inr gq))))), (oa, .inl (cy 3, 1, .inr (.inl og))), (y0, .inr (8, q0)), (r0, .inr (4, [.int 0, .ref ed, .int 0])), (y1, .inr (8, q1)), (r1, .inr (4, [.int 0, .ref ed, .int 0])), (y2, .inr (8, q2)), (r2, .inr (4, [.int 0, .ref ed, .int 0])), (y3, .inr (8, q3)), (r3, .inr (4, [.int 0, .ref ed, .int 0])), (y4, .inr (8, q4)), (r4, .inr (4, [.int 0, .ref ed, .int 0])), (z0, .inr (16, u0)), (v0, .inr (4, [.int 0, .ref ed, .int 0])), (z1, .inr (16, u1)), (v1, .inr (4, [.int 0, .ref ed, .int 0])), (z2, .inr (16, u2)), (v2, .inr (4, [.int 0, .ref ed, .int 0])), (z3, .inr (16, u3)), (v3, .inr (4, [.int 0, .ref ed, .int 0])), (z4, .inr (16, u4)), (v4, .inr (4, [.int 0, .ref ed, .int 0]))] ∧ g 0 = some y0 ∧ g 1 = some y1 ∧ g 2 = some y2 ∧ g 3 = some y3 ∧ g 4 = some y4 ∧ q0[6]? = some (.ref r0) ∧ q1[6]? = some (.ref r1) ∧ q2[6]? = some (.ref r2) ∧ q3[6]? = some (.ref r3) ∧ q4[6]? = some (.ref r4) ∧ gq 0 = some z0 ∧ gq 1 = some z1 ∧ gq 2 = some z2 ∧ gq 3 = some z3 ∧ gq 4 = some z4 ∧ u0[23]? = some (.ref v0) ∧ u1[23]? = some (.ref v1) ∧ u2[23]? = some (.ref v2) ∧ u3[23]? = some (.ref v3) ∧ u4[23]? = some (.ref v4)
def zx_S26 (D : va_G) (cy : Nat → ClassId) (ed : Nat) (A : Nat → Prop) (h m0 oa : Nat) (H : Heap) : Prop := ∃ (pe : Nat) (ne : Nat) (pa : Nat) (ro : Nat) (a1 : Nat) (a2 : Nat) (a3 : Nat) (a4 : Nat) (a5 : Nat) (a6 : Nat) (a7 : Nat) (a8 : Nat) (a9 : Nat) (mp : Nat) (mq : Nat) (b1 : Nat) (b2 : Nat) (b3 : Nat) (b4 : Nat) (b5 : Nat) (ep : Nat) (el : Nat) (eq : Nat) (mc : Int32) (mm : Int32) (mn : Int32) (f1 : Nat → Int32) (f2 : Nat → Int32) (f0 : Nat → Int32) (og : Nat → Int64) (gp : Nat → Option Nat) (g : Nat → Option Nat) (gq : Nat → Option Nat) (y0 : Nat) (y1 : Nat) (y2 : Nat) (y3 : Nat) (y4 : Nat) (y5 : Nat) (r0 : Nat) (r1 : Nat) (r2 : Nat) (r3 : Nat) (r4 : Nat) (r5 : Nat) (q0 : List Value) (q1 : List Value) (q2 : List Value) (q3 : List Value) (q4 : List Value) (q5 : List Value) (z0 : Nat) (z1 : Nat) (z2 : Nat) (z3 : Nat) (z4 : Nat) (z5 : Nat) (v0 : Nat) (v1 : Nat) (v2 : Nat) (v3 : Nat) (v4 : Nat) (v5 : Nat) (u0 : List Value) (u1 : List Value) (u2 : List Value) (u3 : List Value) (u4 : List Value) (u5 : List Value), va_P D vwCl [(h, .inr (13, [.ref pe, .ref ne, .ref pa, .ref ro, .int 0])), (pe, .inr (9, [.int 20, .ref a1, .ref a2, .ref a3, .ref a4, .ref a5, .ref a6, .ref a7, .ref a8, .ref a9])), (a1, .inl (cy 0, 20, .inl f1)), (a2, .inl (cy 0, 20, .inl f2)), (ro, .inl (cy 0, 20, .inl f0)), (pa, .inr (4, [.int mc, .ref el, .int 6])), (el, .inl (cy 2, 10, .inr (.inr (.inr (.inr g))))), (m0, .inr (20, [.int 0, .ref mp, .int 0, .ref b1, .ref b2, .ref b3, .ref b4, .ref b5, .ref mq])), (mp, .inr (4, [.int mm, .ref ep, .int 20])), (ep, .inl (cy 2, 22, .inr (.inr (.inr (.inr gp))))), (mq, .inr (4, [.int mn, .ref eq, .int 6])), (eq, .inl (cy 2, 10, .inr (.inr (.inr (.inr gq))))), (oa, .inl (cy 3, 1, .inr (.inl og))), (y0, .inr (8, q0)), (r0, .inr (4, [.int 0, .ref ed, .int 0])), (y1, .inr (8, q1)), (r1, .inr (4, [.int 0, .ref ed, .int 0])), (y2, .inr (8, q2)), (r2, .inr (4, [.int 0, .ref ed, .int 0])), (y3, .inr (8, q3)), (r3, .inr (4, [.int 0, .ref ed, .int 0])), (y4, .inr (8, q4)), (r4, .inr (4, [.int 0, .ref ed, .int 0])), (y5, .inr (8, q5)), (r5, .inr (4, [.int 0, .ref ed, .int 0])), (z0, .inr (16, u0)), (v0, .inr (4, [.int 0, .ref ed, .int 0])), (z1, .inr (16, u1)), (v1, .inr (4, [.int 0, .ref ed, .int 0])), (z2, .inr (16, u2)), (v2, .inr (4, [.int 0, .ref ed, .int 0])), (z3, .inr (16, u3)), (v3, .inr (4, [.int 0, .ref ed, .int 0])), (z4, .inr (16, u4)), (v4, .inr (4, [.int 0, .ref ed, .int 0])), (z5, .inr (16, u5)), (v5, .inr (4, [.int 0, .ref ed, .int 0]))] H ∧ va_D A [(h, .inr (13, [.ref pe, .ref ne, .ref pa, .ref ro, .int 0])), (pe, .inr (9, [.int 20, .ref a1, .ref a2, .ref a3, .ref a4, .ref a5, .ref a6, .ref a7, .ref a8, .ref a9])), (a1, .inl (cy 0, 20, .inl f1)), (a2, .inl (cy 0, 20, .inl f2)), (ro, .inl (cy 0, 20, .inl f0)), (pa, .inr (4, [.int mc, .ref el, .int 6])), (el, .inl (cy 2, 10, .inr (.inr (.inr (.inr g))))), (m0, .inr (20, [.int 0, .ref mp, .int 0, .ref b1, .ref b2, .ref b3, .ref b4, .ref b5, .ref mq])), (mp, .inr (4, [.int mm, .ref ep, .int 20])), (ep, .inl (cy 2, 22, .inr (.inr (.inr (.inr gp))))), (mq, .inr (4, [.int mn, .ref eq, .int 6])), (eq, .inl (cy 2, 10, .inr (.inr (.inr (.inr gq))))), (oa, .inl (cy 3, 1, .inr (.inl og))), (y0, .inr (8, q0)), (r0, .inr (4, [.int 0, .ref ed, .int 0])), (y1, .inr (8, q1)), (r1, .inr (4, [.int 0, .ref ed, .int 0])), (y2, .inr (8, q2)), (r2, .inr (4, [.int 0, .ref ed, .int 0])), (y3, .inr (8, q3)), (r3, .inr (4, [.int 0, .ref ed, .int 0])), (y4, .inr (8, q4)), (r4, .inr (4, [.int 0, .ref ed, .int 0])), (y5, .inr (8, q5)), (r5, .inr (4, [.int 0, .ref ed, .int 0])), (z0, .inr (16, u0)), (v0, .inr (4, [.int 0, .ref ed, .int 0])), (z1, .inr (16, u1)), (v1, .inr (4, [.int 0, .ref ed, .int 0])), (z2, .inr (16, u2)), (v2, .inr (4, [.int 0, .ref ed, .int 0])), (z3, .inr (16, u3)), (v3, .inr (4, [.int 0, .ref ed, .int 0])), (z4, .inr (16, u4)), (v4, .inr (4, [.int 0, .ref ed, .int 0])), (z5, .inr (16, u5)), (v5, .inr (4, [.int 0, .ref ed, .int 0]))] ∧ g 0 = some y0 ∧ g 1 = some y1 ∧ g 2 = some y2 ∧ g 3 = some y3 ∧ g 4 = some y4 ∧ g 5 = some y5 ∧ q0[6]? = some (.ref r0) ∧ q1[6]? = some (.ref r1) ∧ q2[6]? = some (.ref r2) ∧ q3[6]? = some (.ref r3) ∧ q4[6]? = some (.ref r4) ∧ q5[6]? = some (.ref r5) ∧ gq 0 = some z0 ∧ gq 1 = some z1 ∧ gq 2 = some z2 ∧ gq 3 = some z3 ∧ gq 4 = some z4 ∧ gq 5 = some z5 ∧ u0[23]? = some (.ref v0) ∧ u1[23]? = some (.ref v1) ∧ u2[23]? = some (.ref v2) ∧ u3[23]? = some (.ref v3) ∧ u4[23]? = some (.ref v4) ∧ u5[23]? = some (.ref v5)
set_option maxHeartbeats 4000000 in
set_option maxRecDepth 100000 in
theorem law_step_0 {p : Program} {l : Launch} {e : Env} {s : State} {m : MethodId} {below : List Frame} {meth : Method} {c : Code} {D : va_G} {cy : Nat → ClassId} {ed b : Nat} {A : Nat → Prop} {Q : State → Prop} (C0 : zx_LW p l s m c D cy ed b A) {h m0 oa : Nat} {H : Heap} {locs : List Loc} {ls : Array Slot} (h0 : zx_S0 D cy ed A h m0 oa H) (hS : va_S A s.heap H locs) (hl : lv_has ls 9 [(5, .int 0), (3, .ref oa), (2, .ref m0), (1, .ref h), (0, .ref b)])
    (hnext : ∀ (H : Heap) (locs : List Loc) (ls : Array Slot), zx_S1 D cy ed A h m0 oa H → va_S A s.heap H locs → lv_has ls 9 [(5, .int 6), (3, .ref oa), (2, .ref m0), (1, .ref h), (0, .ref b)] → W p l e zx_R s m #[Value.ref b] below meth c H locs 44 1340 Q (F0 m 28 ls [])) :
    W p l e zx_R s m #[Value.ref b] below meth c H locs 40 1300 Q (F0 m 28 ls []) := by
  obtain ⟨hx, hb, hml, hst, hown, hts, hX, hbl, hbA, hA, hK, hZ, hN⟩ := C0
  obtain ⟨pe, ne, pa, ro, a1, a2, a3, a4, a5, a6, a7, a8, a9, mp, mq, b1, b2, b3, b4, b5, mc, mm, mn, f1, f2, f0, og, hP, hD⟩ := h0
  refine lv_iload hx hb dL_law_28 (lv_at hl 0 rfl) ?_
  refine lv_aload_n hx hb dL_law_30 rfl (lv_at hl 4 rfl) ?_
  refine va_slen hx hb hX hbl hbA hS dL_law_31 ?_
  refine lv_topi (fun y9 ey9 => ?_)
  obtain rfl : y9 = 3072 := ey9.trans (by decide)
  refine lv_bipush (v := 6) hx hb dL_law_32 (by decide) ?_
  refine lv_isub hx hb dL_law_34 ?_
  refine lv_topi (fun y9 ey9 => ?_)
  obtain rfl : y9 = 3066 := by rw [ey9] <;> decide
  refine lv_icmp_gt (tgt := 2548) hx hb dL_law_35 (by decide) (fun c_1290 => absurd c_1290 (by decide)) (fun _ => ?_)
  refine lv_aload_n hx hb dL_law_38 rfl (lv_at hl 4 rfl) ?_
  refine lv_iload hx hb dL_law_39 (lv_at hl 0 rfl) ?_
  refine va_sld hx hb hX hbl hbA hS (zx_bn (by decide)) dL_law_41 ?_
  refine lv_topi (fun y9 ey9 => ?_)
  obtain rfl : y9 = 0 := ey9.trans (by decide)
  refine lv_bipush (v := 63) hx hb dL_law_42 (by decide) ?_
  refine lv_iand hx hb dL_law_44 ?_
  refine lv_topi (fun y9 ey9 => ?_)
  obtain rfl : y9 = 0 := by rw [ey9] <;> decide
  refine lv_tableIn (off := 255) (tgt := 300) hx hb dL_law_45 (by decide) (by decide) (by decide) (by decide) ?_
  refine lv_aload_n hx hb dL_law_300 rfl (lv_at hl 3 rfl) ?_
  refine lv_aload_n hx hb dL_law_301 rfl (lv_at hl 4 rfl) ?_
  refine lv_iload hx hb dL_law_302 (lv_at hl 0 rfl) ?_
  refine lv_iconst (v := 1) hx hb dL_law_304 (by decide) ?_
  refine lv_iadd hx hb dL_law_305 ?_
  refine lv_topi (fun y9 ey9 => ?_)
  obtain rfl : y9 = 1 := by rw [ey9] <;> decide
  refine va_sld hx hb hX hbl hbA hS (zx_bn (by decide)) dL_law_306 ?_
  refine lv_topi (fun y9 ey9 => ?_)
  obtain rfl : y9 = 0 := ey9.trans (by decide)
  refine lv_aload_n hx hb dL_law_307 rfl (lv_at hl 4 rfl) ?_
  refine lv_iload hx hb dL_law_308 (lv_at hl 0 rfl) ?_
  refine lv_iconst (v := 2) hx hb dL_law_310 (by decide) ?_
  refine lv_iadd hx hb dL_law_311 ?_
  refine lv_topi (fun y9 ey9 => ?_)
  obtain rfl : y9 = 2 := by rw [ey9] <;> decide
  refine va_sld hx hb hX hbl hbA hS (zx_bn (by decide)) dL_law_312 ?_
  refine lv_topi (fun y9 ey9 => ?_)
  obtain rfl : y9 = 0 := ey9.trans (by decide)
  refine lv_aload_n hx hb dL_law_313 rfl (lv_at hl 1 rfl) ?_
  have hPc := hP.sub (ws' := [(h, .inr (13, [.ref pe, .ref ne, .ref pa, .ref ro, .int 0])), (pe, .inr (9, [.int 0, .ref a1, .ref a2, .ref a3, .ref a4, .ref a5, .ref a6, .ref a7, .ref a8, .ref a9])), (a1, .inl (cy 0, 20, .inl f1)), (a2, .inl (cy 0, 20, .inl f2)), (oa, .inl (cy 3, 1, .inr (.inl og)))]) [0, 1, 2, 3, 9] rfl
  have hDc := hD.sub (ws' := [(h, .inr (13, [.ref pe, .ref ne, .ref pa, .ref ro, .int 0])), (pe, .inr (9, [.int 0, .ref a1, .ref a2, .ref a3, .ref a4, .ref a5, .ref a6, .ref a7, .ref a8, .ref a9])), (a1, .inl (cy 0, 20, .inl f1)), (a2, .inl (cy 0, 20, .inl f2)), (oa, .inl (cy 3, 1, .inr (.inl og)))]) [0, 1, 2, 3, 9] (by decide) rfl
  have hFc := va_free (wc := [(h, .inr (13, [.ref pe, .ref ne, .ref pa, .ref ro, .int 0])), (pe, .inr (9, [.int 0, .ref a1, .ref a2, .ref a3, .ref a4, .ref a5, .ref a6, .ref a7, .ref a8, .ref a9])), (a1, .inl (cy 0, 20, .inl f1)), (a2, .inl (cy 0, 20, .inl f2)), (oa, .inl (cy 3, 1, .inr (.inl og)))]) hD hS hA [0, 1, 2, 3, 9] rfl
  refine vx_calli (vx_runSX (As := [.ref h, .int 0, .int 0, .ref oa]) (rest := []) ⟨hx, hb, hml, hown, hts⟩ (c_L_addPerson_0 l hst D cy ed H.size h pe ne pa ro 0 a1 a2 a3 a4 a5 a6 a7 a8 a9 f1 f2 oa og) (vx_cwSW 4 hts (zx_GS mm_329 mm_330 mm_70 mm_331) rfl rfl rfl (by decide +kernel) ⟨(Nat.le_of_ble_eq_true rfl), (Nat.le_of_ble_eq_true rfl)⟩) ⟨zx_blind, zx_give hPc hK hDc hS hFc hZ hN⟩ rfl rfl hl.1 rfl (lv_room (Nat.le_of_ble_eq_true rfl)) dL_law_314 ⟨(Nat.le_of_ble_eq_true rfl), (Nat.le_of_ble_eq_true rfl)⟩) hS (fun q _ h => hFc q h) hFc (fun q _ h => hFc q h) (fun E9 ce9 q9 _ t H locs ht hvm _ hBX hz1 hk1 hS hce hcv hcl => ?_) (fun r9 u t H locs ht hvm hw hB hz1 hk1 hS => ?_)
  · exact hBX.elim
  ·
    obtain ⟨f3_1291, f4_1292, o2_1293⟩ := u
    obtain ⟨rfl, h_1294⟩ := hw
    obtain ⟨hP, hD⟩ := zx_join (wr := [(ro, .inl (cy 0, 20, .inl f0)), (pa, .inr (4, [.int mc, .ref ed, .int 0])), (m0, .inr (20, [.int 0, .ref mp, .int 0, .ref b1, .ref b2, .ref b3, .ref b4, .ref b5, .ref mq])), (mp, .inr (4, [.int mm, .ref ed, .int 0])), (mq, .inr (4, [.int mn, .ref ed, .int 0]))]) (w1 := [(h, .inr (13, [.ref pe, .ref ne, .ref pa, .ref ro, .int 0])), (pe, .inr (9, [.int 1, .ref a1, .ref a2, .ref a3, .ref a4, .ref a5, .ref a6, .ref a7, .ref a8, .ref a9])), (a1, .inl (cy 0, 20, .inl f3_1291)), (a2, .inl (cy 0, 20, .inl f4_1292)), (oa, .inl (cy 3, 1, .inr (.inl o2_1293)))]) [0, 1, 2, 3, 9] [4, 5, 6, 7, 8] rfl rfl (by decide) (by decide) hP hD hk1 hFc hB ht
    have hP : va_P D vwCl [(ro, .inl (cy 0, 20, .inl f0)), (pa, .inr (4, [.int mc, .ref ed, .int 0])), (m0, .inr (20, [.int 0, .ref mp, .int 0, .ref b1, .ref b2, .ref b3, .ref b4, .ref b5, .ref mq])), (mp, .inr (4, [.int mm, .ref ed, .int 0])), (mq, .inr (4, [.int mn, .ref ed, .int 0])), (h, .inr (13, [.ref pe, .ref ne, .ref pa, .ref ro, .int 0])), (pe, .inr (9, [.int 1, .ref a1, .ref a2, .ref a3, .ref a4, .ref a5, .ref a6, .ref a7, .ref a8, .ref a9])), (a1, .inl (cy 0, 20, .inl f3_1291)), (a2, .inl (cy 0, 20, .inl f4_1292)), (oa, .inl (cy 3, 1, .inr (.inl o2_1293)))] H := hP
    have hD : va_D A [(ro, .inl (cy 0, 20, .inl f0)), (pa, .inr (4, [.int mc, .ref ed, .int 0])), (m0, .inr (20, [.int 0, .ref mp, .int 0, .ref b1, .ref b2, .ref b3, .ref b4, .ref b5, .ref mq])), (mp, .inr (4, [.int mm, .ref ed, .int 0])), (mq, .inr (4, [.int mn, .ref ed, .int 0])), (h, .inr (13, [.ref pe, .ref ne, .ref pa, .ref ro, .int 0])), (pe, .inr (9, [.int 1, .ref a1, .ref a2, .ref a3, .ref a4, .ref a5, .ref a6, .ref a7, .ref a8, .ref a9])), (a1, .inl (cy 0, 20, .inl f3_1291)), (a2, .inl (cy 0, 20, .inl f4_1292)), (oa, .inl (cy 3, 1, .inr (.inl o2_1293)))] := hD
    refine W.widen (k := 40) (n := 1300) (Nat.le_of_ble_eq_true rfl) (Nat.le_of_ble_eq_true rfl) ?_
    refine lv_istore (lv' := [(6, .int 0), (5, .int 0), (3, .ref oa), (2, .ref m0), (1, .ref h), (0, .ref b)]) hx hb dL_law_317 hl (by decide) rfl (fun ls hl => ?_)
    refine lv_aload_n hx hb dL_law_319 rfl (lv_at hl 3 rfl) ?_
    refine lv_aload_n hx hb dL_law_320 rfl (lv_at hl 5 rfl) ?_
    refine lv_iload hx hb dL_law_321 (lv_at hl 1 rfl) ?_
    refine lv_iconst (v := 1) hx hb dL_law_323 (by decide) ?_
    refine lv_iadd hx hb dL_law_324 ?_
    refine lv_topi (fun y9 ey9 => ?_)
    obtain rfl : y9 = 1 := by rw [ey9] <;> decide
    refine va_sld hx hb hX hbl hbA hS (zx_bn (by decide)) dL_law_325 ?_
    refine lv_topi (fun y9 ey9 => ?_)
    obtain rfl : y9 = 0 := ey9.trans (by decide)
    refine lv_aload_n hx hb dL_law_326 rfl (lv_at hl 5 rfl) ?_
    refine lv_iload hx hb dL_law_327 (lv_at hl 1 rfl) ?_
    refine lv_iconst (v := 2) hx hb dL_law_329 (by decide) ?_
    refine lv_iadd hx hb dL_law_330 ?_
    refine lv_topi (fun y9 ey9 => ?_)
    obtain rfl : y9 = 2 := by rw [ey9] <;> decide
    refine va_sld hx hb hX hbl hbA hS (zx_bn (by decide)) dL_law_331 ?_
    refine lv_topi (fun y9 ey9 => ?_)
    obtain rfl : y9 = 0 := ey9.trans (by decide)
    have hPc := hP.sub (ws' := [(m0, .inr (20, [.int 0, .ref mp, .int 0, .ref b1, .ref b2, .ref b3, .ref b4, .ref b5, .ref mq])), (mp, .inr (4, [.int mm, .ref ed, .int 0]))]) [2, 3] rfl
    have hDc := hD.sub (ws' := [(m0, .inr (20, [.int 0, .ref mp, .int 0, .ref b1, .ref b2, .ref b3, .ref b4, .ref b5, .ref mq])), (mp, .inr (4, [.int mm, .ref ed, .int 0]))]) [2, 3] (by decide) rfl
    have hFc := va_free (wc := [(m0, .inr (20, [.int 0, .ref mp, .int 0, .ref b1, .ref b2, .ref b3, .ref b4, .ref b5, .ref mq])), (mp, .inr (4, [.int mm, .ref ed, .int 0]))]) hD hS hA [2, 3] rfl
    refine va_calli (va_runV (As := [.int 0, .int 0]) (rest := []) ⟨hx, hb, hml, hown, hts⟩ (c_X15_addPerson_0 l hst D cy ed H.size m0 mp mq b1 b2 b3 b4 b5 0 0 mm) (cwV 2 hts (zx_GV mm_1599 mm_1600 mm_1601 mm_78 mm_1602) rfl rfl rfl (by decide +kernel) ⟨(Nat.le_of_ble_eq_true rfl), (Nat.le_of_ble_eq_true rfl)⟩) ⟨zx_blind, va_recv hK hPc (ci := 20) (q0 := 0) rfl rfl, zx_give hPc hK hDc hS hFc hZ hN⟩ rfl rfl hl.1 rfl (lv_room (Nat.le_of_ble_eq_true rfl)) dL_law_332 ⟨(Nat.le_of_ble_eq_true rfl), (Nat.le_of_ble_eq_true rfl)⟩) hS (fun q _ h => hFc q h) hFc (fun r9 u t H1 locs ht hvm hw hB hz1 hk1 hS => ?_)
    obtain ⟨mx_1295, qx_1296, g2_1297, y_1298, fy_1299⟩ := u
    obtain ⟨rfl, h_1300⟩ := hw
    obtain ⟨hP, hD⟩ := zx_join (wr := [(ro, .inl (cy 0, 20, .inl f0)), (pa, .inr (4, [.int mc, .ref ed, .int 0])), (mq, .inr (4, [.int mn, .ref ed, .int 0])), (h, .inr (13, [.ref pe, .ref ne, .ref pa, .ref ro, .int 0])), (pe, .inr (9, [.int 1, .ref a1, .ref a2, .ref a3, .ref a4, .ref a5, .ref a6, .ref a7, .ref a8, .ref a9])), (a1, .inl (cy 0, 20, .inl f3_1291)), (a2, .inl (cy 0, 20, .inl f4_1292)), (oa, .inl (cy 3, 1, .inr (.inl o2_1293)))]) (w1 := [(m0, .inr (20, [.int 0, .ref mp, .int 0, .ref b1, .ref b2, .ref b3, .ref b4, .ref b5, .ref mq])), (mp, .inr (4, [.int mx_1295, .ref qx_1296, .int 1])), (qx_1296, .inl (cy 2, 10, .inr (.inr (.inr (.inr g2_1297))))), (y_1298, .inr (17, fy_1299))]) [2, 3] [0, 1, 4, 5, 6, 7, 8, 9] rfl rfl (by decide) (by decide) hP hD hk1 hFc hB ht
    generalize H1 = H at hP hS ⊢
    have hP : va_P D vwCl [(ro, .inl (cy 0, 20, .inl f0)), (pa, .inr (4, [.int mc, .ref ed, .int 0])), (mq, .inr (4, [.int mn, .ref ed, .int 0])), (h, .inr (13, [.ref pe, .ref ne, .ref pa, .ref ro, .int 0])), (pe, .inr (9, [.int 1, .ref a1, .ref a2, .ref a3, .ref a4, .ref a5, .ref a6, .ref a7, .ref a8, .ref a9])), (a1, .inl (cy 0, 20, .inl f3_1291)), (a2, .inl (cy 0, 20, .inl f4_1292)), (oa, .inl (cy 3, 1, .inr (.inl o2_1293))), (m0, .inr (20, [.int 0, .ref mp, .int 0, .ref b1, .ref b2, .ref b3, .ref b4, .ref b5, .ref mq])), (mp, .inr (4, [.int mx_1295, .ref qx_1296, .int 1])), (qx_1296, .inl (cy 2, 10, .inr (.inr (.inr (.inr g2_1297))))), (y_1298, .inr (17, fy_1299))] H := hP
    have hD : va_D A [(ro, .inl (cy 0, 20, .inl f0)), (pa, .inr (4, [.int mc, .ref ed, .int 0])), (mq, .inr (4, [.int mn, .ref ed, .int 0])), (h, .inr (13, [.ref pe, .ref ne, .ref pa, .ref ro, .int 0])), (pe, .inr (9, [.int 1, .ref a1, .ref a2, .ref a3, .ref a4, .ref a5, .ref a6, .ref a7, .ref a8, .ref a9])), (a1, .inl (cy 0, 20, .inl f3_1291)), (a2, .inl (cy 0, 20, .inl f4_1292)), (oa, .inl (cy 3, 1, .inr (.inl o2_1293))), (m0, .inr (20, [.int 0, .ref mp, .int 0, .ref b1, .ref b2, .ref b3, .ref b4, .ref b5, .ref mq])), (mp, .inr (4, [.int mx_1295, .ref qx_1296, .int 1])), (qx_1296, .inl (cy 2, 10, .inr (.inr (.inr (.inr g2_1297))))), (y_1298, .inr (17, fy_1299))] := hD
    refine W.widen (k := 44) (n := 1340) (Nat.le_of_ble_eq_true rfl) (Nat.le_of_ble_eq_true rfl) ?_
    refine lv_istore (lv' := [(7, .int 0), (6, .int 0), (5, .int 0), (3, .ref oa), (2, .ref m0), (1, .ref h), (0, .ref b)]) hx hb dL_law_335 hl (by decide) rfl (fun ls hl => ?_)
    refine lv_goto (tgt := 2542) hx hb dL_law_337 (by decide) ?_
    refine lv_iinc (v := 6) (lv' := [(5, .int 6), (7, .int 0), (6, .int 0), (3, .ref oa), (2, .ref m0), (1, .ref h), (0, .ref b)]) hx hb dL_law_2542 hl (k := 2) rfl (by decide) (by decide) rfl (fun ls hl => ?_)
    refine lv_goto (tgt := 28) hx hb dL_law_2545 (by decide) ?_
    have hP := hP.sub (ws' := [(h, .inr (13, [.ref pe, .ref ne, .ref pa, .ref ro, .int 0])), (pe, .inr (9, [.int 1, .ref a1, .ref a2, .ref a3, .ref a4, .ref a5, .ref a6, .ref a7, .ref a8, .ref a9])), (a1, .inl (cy 0, 20, .inl f3_1291)), (a2, .inl (cy 0, 20, .inl f4_1292)), (ro, .inl (cy 0, 20, .inl f0)), (pa, .inr (4, [.int mc, .ref ed, .int 0])), (m0, .inr (20, [.int 0, .ref mp, .int 0, .ref b1, .ref b2, .ref b3, .ref b4, .ref b5, .ref mq])), (mp, .inr (4, [.int mx_1295, .ref qx_1296, .int 1])), (qx_1296, .inl (cy 2, 10, .inr (.inr (.inr (.inr g2_1297))))), (mq, .inr (4, [.int mn, .ref ed, .int 0])), (oa, .inl (cy 3, 1, .inr (.inl o2_1293))), (y_1298, .inr (17, fy_1299))]) [3, 4, 5, 6, 0, 1, 8, 9, 10, 2, 7, 11] rfl
    have hD := hD.sub (ws' := [(h, .inr (13, [.ref pe, .ref ne, .ref pa, .ref ro, .int 0])), (pe, .inr (9, [.int 1, .ref a1, .ref a2, .ref a3, .ref a4, .ref a5, .ref a6, .ref a7, .ref a8, .ref a9])), (a1, .inl (cy 0, 20, .inl f3_1291)), (a2, .inl (cy 0, 20, .inl f4_1292)), (ro, .inl (cy 0, 20, .inl f0)), (pa, .inr (4, [.int mc, .ref ed, .int 0])), (m0, .inr (20, [.int 0, .ref mp, .int 0, .ref b1, .ref b2, .ref b3, .ref b4, .ref b5, .ref mq])), (mp, .inr (4, [.int mx_1295, .ref qx_1296, .int 1])), (qx_1296, .inl (cy 2, 10, .inr (.inr (.inr (.inr g2_1297))))), (mq, .inr (4, [.int mn, .ref ed, .int 0])), (oa, .inl (cy 3, 1, .inr (.inl o2_1293))), (y_1298, .inr (17, fy_1299))]) [3, 4, 5, 6, 0, 1, 8, 9, 10, 2, 7, 11] (by decide) rfl
    exact hnext _ _ _ ⟨pe, ne, pa, ro, a1, a2, a3, a4, a5, a6, a7, a8, a9, mp, mq, b1, b2, b3, b4, b5, qx_1296, mc, mx_1295, mn, f3_1291, f4_1292, f0, o2_1293, g2_1297, y_1298, fy_1299, hP, hD, h_1300⟩ hS (lv_sub hl [0, 3, 4, 5, 6] rfl)
set_option maxHeartbeats 4000000 in
set_option maxRecDepth 100000 in
theorem law_step_1 {p : Program} {l : Launch} {e : Env} {s : State} {m : MethodId} {below : List Frame} {meth : Method} {c : Code} {D : va_G} {cy : Nat → ClassId} {ed b : Nat} {A : Nat → Prop} {Q : State → Prop} (C0 : zx_LW p l s m c D cy ed b A) {h m0 oa : Nat} {H : Heap} {locs : List Loc} {ls : Array Slot} (h0 : zx_S1 D cy ed A h m0 oa H) (hS : va_S A s.heap H locs) (hl : lv_has ls 9 [(5, .int 6), (3, .ref oa), (2, .ref m0), (1, .ref h), (0, .ref b)])
    (hnext : ∀ (H : Heap) (locs : List Loc) (ls : Array Slot), zx_S2 D cy ed A h m0 oa H → va_S A s.heap H locs → lv_has ls 9 [(5, .int 12), (3, .ref oa), (2, .ref m0), (1, .ref h), (0, .ref b)] → W p l e zx_R s m #[Value.ref b] below meth c H locs 47 1370 Q (F0 m 28 ls [])) :
    W p l e zx_R s m #[Value.ref b] below meth c H locs 44 1340 Q (F0 m 28 ls []) := by
  obtain ⟨hx, hb, hml, hst, hown, hts, hX, hbl, hbA, hA, hK, hZ, hN⟩ := C0
  obtain ⟨pe, ne, pa, ro, a1, a2, a3, a4, a5, a6, a7, a8, a9, mp, mq, b1, b2, b3, b4, b5, ep, mc, mm, mn, f1, f2, f0, og, gp, p0, t0, hP, hD, hp0⟩ := h0
  refine lv_iload hx hb dL_law_28 (lv_at hl 0 rfl) ?_
  refine lv_aload_n hx hb dL_law_30 rfl (lv_at hl 4 rfl) ?_
  refine va_slen hx hb hX hbl hbA hS dL_law_31 ?_
  refine lv_topi (fun y9 ey9 => ?_)
  obtain rfl : y9 = 3072 := ey9.trans (by decide)
  refine lv_bipush (v := 6) hx hb dL_law_32 (by decide) ?_
  refine lv_isub hx hb dL_law_34 ?_
  refine lv_topi (fun y9 ey9 => ?_)
  obtain rfl : y9 = 3066 := by rw [ey9] <;> decide
  refine lv_icmp_gt (tgt := 2548) hx hb dL_law_35 (by decide) (fun c_1301 => absurd c_1301 (by decide)) (fun _ => ?_)
  refine lv_aload_n hx hb dL_law_38 rfl (lv_at hl 4 rfl) ?_
  refine lv_iload hx hb dL_law_39 (lv_at hl 0 rfl) ?_
  refine va_sld hx hb hX hbl hbA hS (zx_bn (by decide)) dL_law_41 ?_
  refine lv_topi (fun y9 ey9 => ?_)
  obtain rfl : y9 = 0 := ey9.trans (by decide)
  refine lv_bipush (v := 63) hx hb dL_law_42 (by decide) ?_
  refine lv_iand hx hb dL_law_44 ?_
  refine lv_topi (fun y9 ey9 => ?_)
  obtain rfl : y9 = 0 := by rw [ey9] <;> decide
  refine lv_tableIn (off := 255) (tgt := 300) hx hb dL_law_45 (by decide) (by decide) (by decide) (by decide) ?_
  refine lv_aload_n hx hb dL_law_300 rfl (lv_at hl 3 rfl) ?_
  refine lv_aload_n hx hb dL_law_301 rfl (lv_at hl 4 rfl) ?_
  refine lv_iload hx hb dL_law_302 (lv_at hl 0 rfl) ?_
  refine lv_iconst (v := 1) hx hb dL_law_304 (by decide) ?_
  refine lv_iadd hx hb dL_law_305 ?_
  refine lv_topi (fun y9 ey9 => ?_)
  obtain rfl : y9 = 7 := by rw [ey9] <;> decide
  refine va_sld hx hb hX hbl hbA hS (zx_bn (by decide)) dL_law_306 ?_
  refine lv_topi (fun y9 ey9 => ?_)
  obtain rfl : y9 = 0 := ey9.trans (by decide)
  refine lv_aload_n hx hb dL_law_307 rfl (lv_at hl 4 rfl) ?_
  refine lv_iload hx hb dL_law_308 (lv_at hl 0 rfl) ?_
  refine lv_iconst (v := 2) hx hb dL_law_310 (by decide) ?_
  refine lv_iadd hx hb dL_law_311 ?_
  refine lv_topi (fun y9 ey9 => ?_)
  obtain rfl : y9 = 8 := by rw [ey9] <;> decide
  refine va_sld hx hb hX hbl hbA hS (zx_bn (by decide)) dL_law_312 ?_
  refine lv_topi (fun y9 ey9 => ?_)
  obtain rfl : y9 = 0 := ey9.trans (by decide)
  refine lv_aload_n hx hb dL_law_313 rfl (lv_at hl 1 rfl) ?_
  have hPc := hP.sub (ws' := [(h, .inr (13, [.ref pe, .ref ne, .ref pa, .ref ro, .int 0])), (pe, .inr (9, [.int 1, .ref a1, .ref a2, .ref a3, .ref a4, .ref a5, .ref a6, .ref a7, .ref a8, .ref a9])), (a1, .inl (cy 0, 20, .inl f1)), (a2, .inl (cy 0, 20, .inl f2)), (oa, .inl (cy 3, 1, .inr (.inl og)))]) [0, 1, 2, 3, 10] rfl
  have hDc := hD.sub (ws' := [(h, .inr (13, [.ref pe, .ref ne, .ref pa, .ref ro, .int 0])), (pe, .inr (9, [.int 1, .ref a1, .ref a2, .ref a3, .ref a4, .ref a5, .ref a6, .ref a7, .ref a8, .ref a9])), (a1, .inl (cy 0, 20, .inl f1)), (a2, .inl (cy 0, 20, .inl f2)), (oa, .inl (cy 3, 1, .inr (.inl og)))]) [0, 1, 2, 3, 10] (by decide) rfl
  have hFc := va_free (wc := [(h, .inr (13, [.ref pe, .ref ne, .ref pa, .ref ro, .int 0])), (pe, .inr (9, [.int 1, .ref a1, .ref a2, .ref a3, .ref a4, .ref a5, .ref a6, .ref a7, .ref a8, .ref a9])), (a1, .inl (cy 0, 20, .inl f1)), (a2, .inl (cy 0, 20, .inl f2)), (oa, .inl (cy 3, 1, .inr (.inl og)))]) hD hS hA [0, 1, 2, 3, 10] rfl
  refine vx_calli (vx_runSX (As := [.ref h, .int 0, .int 0, .ref oa]) (rest := []) ⟨hx, hb, hml, hown, hts⟩ (c_L_addPerson_1 l hst D cy ed H.size h pe ne pa ro 0 a1 a2 a3 a4 a5 a6 a7 a8 a9 f1 f2 oa og) (vx_cwSW 4 hts (zx_GS mm_329 mm_330 mm_70 mm_331) rfl rfl rfl (by decide +kernel) ⟨(Nat.le_of_ble_eq_true rfl), (Nat.le_of_ble_eq_true rfl)⟩) ⟨zx_blind, zx_give hPc hK hDc hS hFc hZ hN⟩ rfl rfl hl.1 rfl (lv_room (Nat.le_of_ble_eq_true rfl)) dL_law_314 ⟨(Nat.le_of_ble_eq_true rfl), (Nat.le_of_ble_eq_true rfl)⟩) hS (fun q _ h => hFc q h) hFc (fun q _ h => hFc q h) (fun E9 ce9 q9 _ t H locs ht hvm _ hBX hz1 hk1 hS hce hcv hcl => ?_) (fun r9 u t H locs ht hvm hw hB hz1 hk1 hS => ?_)
  · exact hBX.elim
  ·
    obtain ⟨f3_1302, f4_1303, o2_1304⟩ := u
    obtain ⟨rfl, h_1305⟩ := hw
    obtain ⟨hP, hD⟩ := zx_join (wr := [(ro, .inl (cy 0, 20, .inl f0)), (pa, .inr (4, [.int mc, .ref ed, .int 0])), (m0, .inr (20, [.int 0, .ref mp, .int 0, .ref b1, .ref b2, .ref b3, .ref b4, .ref b5, .ref mq])), (mp, .inr (4, [.int mm, .ref ep, .int 1])), (ep, .inl (cy 2, 10, .inr (.inr (.inr (.inr gp))))), (mq, .inr (4, [.int mn, .ref ed, .int 0])), (p0, .inr (17, t0))]) (w1 := [(h, .inr (13, [.ref pe, .ref ne, .ref pa, .ref ro, .int 0])), (pe, .inr (9, [.int 2, .ref a1, .ref a2, .ref a3, .ref a4, .ref a5, .ref a6, .ref a7, .ref a8, .ref a9])), (a1, .inl (cy 0, 20, .inl f3_1302)), (a2, .inl (cy 0, 20, .inl f4_1303)), (oa, .inl (cy 3, 1, .inr (.inl o2_1304)))]) [0, 1, 2, 3, 10] [4, 5, 6, 7, 8, 9, 11] rfl rfl (by decide) (by decide) hP hD hk1 hFc hB ht
    have hP : va_P D vwCl [(ro, .inl (cy 0, 20, .inl f0)), (pa, .inr (4, [.int mc, .ref ed, .int 0])), (m0, .inr (20, [.int 0, .ref mp, .int 0, .ref b1, .ref b2, .ref b3, .ref b4, .ref b5, .ref mq])), (mp, .inr (4, [.int mm, .ref ep, .int 1])), (ep, .inl (cy 2, 10, .inr (.inr (.inr (.inr gp))))), (mq, .inr (4, [.int mn, .ref ed, .int 0])), (p0, .inr (17, t0)), (h, .inr (13, [.ref pe, .ref ne, .ref pa, .ref ro, .int 0])), (pe, .inr (9, [.int 2, .ref a1, .ref a2, .ref a3, .ref a4, .ref a5, .ref a6, .ref a7, .ref a8, .ref a9])), (a1, .inl (cy 0, 20, .inl f3_1302)), (a2, .inl (cy 0, 20, .inl f4_1303)), (oa, .inl (cy 3, 1, .inr (.inl o2_1304)))] H := hP
    have hD : va_D A [(ro, .inl (cy 0, 20, .inl f0)), (pa, .inr (4, [.int mc, .ref ed, .int 0])), (m0, .inr (20, [.int 0, .ref mp, .int 0, .ref b1, .ref b2, .ref b3, .ref b4, .ref b5, .ref mq])), (mp, .inr (4, [.int mm, .ref ep, .int 1])), (ep, .inl (cy 2, 10, .inr (.inr (.inr (.inr gp))))), (mq, .inr (4, [.int mn, .ref ed, .int 0])), (p0, .inr (17, t0)), (h, .inr (13, [.ref pe, .ref ne, .ref pa, .ref ro, .int 0])), (pe, .inr (9, [.int 2, .ref a1, .ref a2, .ref a3, .ref a4, .ref a5, .ref a6, .ref a7, .ref a8, .ref a9])), (a1, .inl (cy 0, 20, .inl f3_1302)), (a2, .inl (cy 0, 20, .inl f4_1303)), (oa, .inl (cy 3, 1, .inr (.inl o2_1304)))] := hD
    refine W.widen (k := 44) (n := 1340) (Nat.le_of_ble_eq_true rfl) (Nat.le_of_ble_eq_true rfl) ?_
    refine lv_istore (lv' := [(6, .int 0), (5, .int 6), (3, .ref oa), (2, .ref m0), (1, .ref h), (0, .ref b)]) hx hb dL_law_317 hl (by decide) rfl (fun ls hl => ?_)
    refine lv_aload_n hx hb dL_law_319 rfl (lv_at hl 3 rfl) ?_
    refine lv_aload_n hx hb dL_law_320 rfl (lv_at hl 5 rfl) ?_
    refine lv_iload hx hb dL_law_321 (lv_at hl 1 rfl) ?_
    refine lv_iconst (v := 1) hx hb dL_law_323 (by decide) ?_
    refine lv_iadd hx hb dL_law_324 ?_
    refine lv_topi (fun y9 ey9 => ?_)
    obtain rfl : y9 = 7 := by rw [ey9] <;> decide
    refine va_sld hx hb hX hbl hbA hS (zx_bn (by decide)) dL_law_325 ?_
    refine lv_topi (fun y9 ey9 => ?_)
    obtain rfl : y9 = 0 := ey9.trans (by decide)
    refine lv_aload_n hx hb dL_law_326 rfl (lv_at hl 5 rfl) ?_
    refine lv_iload hx hb dL_law_327 (lv_at hl 1 rfl) ?_
    refine lv_iconst (v := 2) hx hb dL_law_329 (by decide) ?_
    refine lv_iadd hx hb dL_law_330 ?_
    refine lv_topi (fun y9 ey9 => ?_)
    obtain rfl : y9 = 8 := by rw [ey9] <;> decide
    refine va_sld hx hb hX hbl hbA hS (zx_bn (by decide)) dL_law_331 ?_
    refine lv_topi (fun y9 ey9 => ?_)
    obtain rfl : y9 = 0 := ey9.trans (by decide)
    have hPc := hP.sub (ws' := [(m0, .inr (20, [.int 0, .ref mp, .int 0, .ref b1, .ref b2, .ref b3, .ref b4, .ref b5, .ref mq])), (mp, .inr (4, [.int mm, .ref ep, .int 1])), (ep, .inl (cy 2, 10, .inr (.inr (.inr (.inr gp)))))]) [2, 3, 4] rfl
    have hDc := hD.sub (ws' := [(m0, .inr (20, [.int 0, .ref mp, .int 0, .ref b1, .ref b2, .ref b3, .ref b4, .ref b5, .ref mq])), (mp, .inr (4, [.int mm, .ref ep, .int 1])), (ep, .inl (cy 2, 10, .inr (.inr (.inr (.inr gp)))))]) [2, 3, 4] (by decide) rfl
    have hFc := va_free (wc := [(m0, .inr (20, [.int 0, .ref mp, .int 0, .ref b1, .ref b2, .ref b3, .ref b4, .ref b5, .ref mq])), (mp, .inr (4, [.int mm, .ref ep, .int 1])), (ep, .inl (cy 2, 10, .inr (.inr (.inr (.inr gp)))))]) hD hS hA [2, 3, 4] rfl
    refine va_calli (va_runV (As := [.int 0, .int 0]) (rest := []) ⟨hx, hb, hml, hown, hts⟩ (c_X15_addPerson_1 l hst D cy ed H.size m0 mp mq b1 b2 b3 b4 b5 0 0 mm ep gp) (cwV 2 hts (zx_GV mm_1599 mm_1600 mm_1601 mm_78 mm_1602) rfl rfl rfl (by decide +kernel) ⟨(Nat.le_of_ble_eq_true rfl), (Nat.le_of_ble_eq_true rfl)⟩) ⟨zx_blind, va_recv hK hPc (ci := 20) (q0 := 0) rfl rfl, zx_give hPc hK hDc hS hFc hZ hN⟩ rfl rfl hl.1 rfl (lv_room (Nat.le_of_ble_eq_true rfl)) dL_law_332 ⟨(Nat.le_of_ble_eq_true rfl), (Nat.le_of_ble_eq_true rfl)⟩) hS (fun q _ h => hFc q h) hFc (fun r9 u t H1 locs ht hvm hw hB hz1 hk1 hS => ?_)
    obtain ⟨mx_1306, qx_1307, g2_1308, y_1309, fy_1310⟩ := u
    obtain ⟨rfl, h_1311⟩ := hw
    obtain ⟨hP, hD⟩ := zx_join (wr := [(ro, .inl (cy 0, 20, .inl f0)), (pa, .inr (4, [.int mc, .ref ed, .int 0])), (mq, .inr (4, [.int mn, .ref ed, .int 0])), (p0, .inr (17, t0)), (h, .inr (13, [.ref pe, .ref ne, .ref pa, .ref ro, .int 0])), (pe, .inr (9, [.int 2, .ref a1, .ref a2, .ref a3, .ref a4, .ref a5, .ref a6, .ref a7, .ref a8, .ref a9])), (a1, .inl (cy 0, 20, .inl f3_1302)), (a2, .inl (cy 0, 20, .inl f4_1303)), (oa, .inl (cy 3, 1, .inr (.inl o2_1304)))]) (w1 := [(m0, .inr (20, [.int 0, .ref mp, .int 0, .ref b1, .ref b2, .ref b3, .ref b4, .ref b5, .ref mq])), (mp, .inr (4, [.int mx_1306, .ref qx_1307, .int 2])), (qx_1307, .inl (cy 2, 10, .inr (.inr (.inr (.inr g2_1308))))), (y_1309, .inr (17, fy_1310))]) [2, 3, 4] [0, 1, 5, 6, 7, 8, 9, 10, 11] rfl rfl (by decide) (by decide) hP hD hk1 hFc hB ht
    generalize H1 = H at hP hS ⊢
    have hP : va_P D vwCl [(ro, .inl (cy 0, 20, .inl f0)), (pa, .inr (4, [.int mc, .ref ed, .int 0])), (mq, .inr (4, [.int mn, .ref ed, .int 0])), (p0, .inr (17, t0)), (h, .inr (13, [.ref pe, .ref ne, .ref pa, .ref ro, .int 0])), (pe, .inr (9, [.int 2, .ref a1, .ref a2, .ref a3, .ref a4, .ref a5, .ref a6, .ref a7, .ref a8, .ref a9])), (a1, .inl (cy 0, 20, .inl f3_1302)), (a2, .inl (cy 0, 20, .inl f4_1303)), (oa, .inl (cy 3, 1, .inr (.inl o2_1304))), (m0, .inr (20, [.int 0, .ref mp, .int 0, .ref b1, .ref b2, .ref b3, .ref b4, .ref b5, .ref mq])), (mp, .inr (4, [.int mx_1306, .ref qx_1307, .int 2])), (qx_1307, .inl (cy 2, 10, .inr (.inr (.inr (.inr g2_1308))))), (y_1309, .inr (17, fy_1310))] H := hP
    have hD : va_D A [(ro, .inl (cy 0, 20, .inl f0)), (pa, .inr (4, [.int mc, .ref ed, .int 0])), (mq, .inr (4, [.int mn, .ref ed, .int 0])), (p0, .inr (17, t0)), (h, .inr (13, [.ref pe, .ref ne, .ref pa, .ref ro, .int 0])), (pe, .inr (9, [.int 2, .ref a1, .ref a2, .ref a3, .ref a4, .ref a5, .ref a6, .ref a7, .ref a8, .ref a9])), (a1, .inl (cy 0, 20, .inl f3_1302)), (a2, .inl (cy 0, 20, .inl f4_1303)), (oa, .inl (cy 3, 1, .inr (.inl o2_1304))), (m0, .inr (20, [.int 0, .ref mp, .int 0, .ref b1, .ref b2, .ref b3, .ref b4, .ref b5, .ref mq])), (mp, .inr (4, [.int mx_1306, .ref qx_1307, .int 2])), (qx_1307, .inl (cy 2, 10, .inr (.inr (.inr (.inr g2_1308))))), (y_1309, .inr (17, fy_1310))] := hD
    refine W.widen (k := 47) (n := 1370) (Nat.le_of_ble_eq_true rfl) (Nat.le_of_ble_eq_true rfl) ?_
    obtain ⟨hs_1312, hs_1313⟩ := h_1311
    refine lv_istore (lv' := [(7, .int 1), (6, .int 0), (5, .int 6), (3, .ref oa), (2, .ref m0), (1, .ref h), (0, .ref b)]) hx hb dL_law_335 hl (by decide) rfl (fun ls hl => ?_)
    refine lv_goto (tgt := 2542) hx hb dL_law_337 (by decide) ?_
    refine lv_iinc (v := 12) (lv' := [(5, .int 12), (7, .int 1), (6, .int 0), (3, .ref oa), (2, .ref m0), (1, .ref h), (0, .ref b)]) hx hb dL_law_2542 hl (k := 2) rfl (by decide) (by decide) rfl (fun ls hl => ?_)
    refine lv_goto (tgt := 28) hx hb dL_law_2545 (by decide) ?_
    have hP := hP.sub (ws' := [(h, .inr (13, [.ref pe, .ref ne, .ref pa, .ref ro, .int 0])), (pe, .inr (9, [.int 2, .ref a1, .ref a2, .ref a3, .ref a4, .ref a5, .ref a6, .ref a7, .ref a8, .ref a9])), (a1, .inl (cy 0, 20, .inl f3_1302)), (a2, .inl (cy 0, 20, .inl f4_1303)), (ro, .inl (cy 0, 20, .inl f0)), (pa, .inr (4, [.int mc, .ref ed, .int 0])), (m0, .inr (20, [.int 0, .ref mp, .int 0, .ref b1, .ref b2, .ref b3, .ref b4, .ref b5, .ref mq])), (mp, .inr (4, [.int mx_1306, .ref qx_1307, .int 2])), (qx_1307, .inl (cy 2, 10, .inr (.inr (.inr (.inr g2_1308))))), (mq, .inr (4, [.int mn, .ref ed, .int 0])), (oa, .inl (cy 3, 1, .inr (.inl o2_1304))), (p0, .inr (17, t0)), (y_1309, .inr (17, fy_1310))]) [4, 5, 6, 7, 0, 1, 9, 10, 11, 2, 8, 3, 12] rfl
    have hD := hD.sub (ws' := [(h, .inr (13, [.ref pe, .ref ne, .ref pa, .ref ro, .int 0])), (pe, .inr (9, [.int 2, .ref a1, .ref a2, .ref a3, .ref a4, .ref a5, .ref a6, .ref a7, .ref a8, .ref a9])), (a1, .inl (cy 0, 20, .inl f3_1302)), (a2, .inl (cy 0, 20, .inl f4_1303)), (ro, .inl (cy 0, 20, .inl f0)), (pa, .inr (4, [.int mc, .ref ed, .int 0])), (m0, .inr (20, [.int 0, .ref mp, .int 0, .ref b1, .ref b2, .ref b3, .ref b4, .ref b5, .ref mq])), (mp, .inr (4, [.int mx_1306, .ref qx_1307, .int 2])), (qx_1307, .inl (cy 2, 10, .inr (.inr (.inr (.inr g2_1308))))), (mq, .inr (4, [.int mn, .ref ed, .int 0])), (oa, .inl (cy 3, 1, .inr (.inl o2_1304))), (p0, .inr (17, t0)), (y_1309, .inr (17, fy_1310))]) [4, 5, 6, 7, 0, 1, 9, 10, 11, 2, 8, 3, 12] (by decide) rfl
    exact hnext _ _ _ ⟨pe, ne, pa, ro, a1, a2, a3, a4, a5, a6, a7, a8, a9, mp, mq, b1, b2, b3, b4, b5, qx_1307, mc, mx_1306, mn, f3_1302, f4_1303, f0, o2_1304, g2_1308, p0, y_1309, t0, fy_1310, hP, hD, ((hs_1313 0 (by decide)).trans hp0), hs_1312⟩ hS (lv_sub hl [0, 3, 4, 5, 6] rfl)
set_option maxHeartbeats 4000000 in
set_option maxRecDepth 100000 in
theorem law_step_2 {p : Program} {l : Launch} {e : Env} {s : State} {m : MethodId} {below : List Frame} {meth : Method} {c : Code} {D : va_G} {cy : Nat → ClassId} {ed b : Nat} {A : Nat → Prop} {Q : State → Prop} (C0 : zx_LW p l s m c D cy ed b A) {h m0 oa : Nat} {H : Heap} {locs : List Loc} {ls : Array Slot} (h0 : zx_S2 D cy ed A h m0 oa H) (hS : va_S A s.heap H locs) (hl : lv_has ls 9 [(5, .int 12), (3, .ref oa), (2, .ref m0), (1, .ref h), (0, .ref b)])
    (hnext : ∀ (H : Heap) (locs : List Loc) (ls : Array Slot), zx_S3 D cy ed A h m0 oa H → va_S A s.heap H locs → lv_has ls 9 [(5, .int 18), (3, .ref oa), (2, .ref m0), (1, .ref h), (0, .ref b)] → W p l e zx_R s m #[Value.ref b] below meth c H locs 50 1400 Q (F0 m 28 ls [])) :
    W p l e zx_R s m #[Value.ref b] below meth c H locs 47 1370 Q (F0 m 28 ls []) := by
  obtain ⟨hx, hb, hml, hst, hown, hts, hX, hbl, hbA, hA, hK, hZ, hN⟩ := C0
  obtain ⟨pe, ne, pa, ro, a1, a2, a3, a4, a5, a6, a7, a8, a9, mp, mq, b1, b2, b3, b4, b5, ep, mc, mm, mn, f1, f2, f0, og, gp, p0, p1, t0, t1, hP, hD, hp0, hp1⟩ := h0
  refine lv_iload hx hb dL_law_28 (lv_at hl 0 rfl) ?_
  refine lv_aload_n hx hb dL_law_30 rfl (lv_at hl 4 rfl) ?_
  refine va_slen hx hb hX hbl hbA hS dL_law_31 ?_
  refine lv_topi (fun y9 ey9 => ?_)
  obtain rfl : y9 = 3072 := ey9.trans (by decide)
  refine lv_bipush (v := 6) hx hb dL_law_32 (by decide) ?_
  refine lv_isub hx hb dL_law_34 ?_
  refine lv_topi (fun y9 ey9 => ?_)
  obtain rfl : y9 = 3066 := by rw [ey9] <;> decide
  refine lv_icmp_gt (tgt := 2548) hx hb dL_law_35 (by decide) (fun c_1314 => absurd c_1314 (by decide)) (fun _ => ?_)
  refine lv_aload_n hx hb dL_law_38 rfl (lv_at hl 4 rfl) ?_
  refine lv_iload hx hb dL_law_39 (lv_at hl 0 rfl) ?_
  refine va_sld hx hb hX hbl hbA hS (zx_bn (by decide)) dL_law_41 ?_
  refine lv_topi (fun y9 ey9 => ?_)
  obtain rfl : y9 = 0 := ey9.trans (by decide)
  refine lv_bipush (v := 63) hx hb dL_law_42 (by decide) ?_
  refine lv_iand hx hb dL_law_44 ?_
  refine lv_topi (fun y9 ey9 => ?_)
  obtain rfl : y9 = 0 := by rw [ey9] <;> decide
  refine lv_tableIn (off := 255) (tgt := 300) hx hb dL_law_45 (by decide) (by decide) (by decide) (by decide) ?_
  refine lv_aload_n hx hb dL_law_300 rfl (lv_at hl 3 rfl) ?_
  refine lv_aload_n hx hb dL_law_301 rfl (lv_at hl 4 rfl) ?_
  refine lv_iload hx hb dL_law_302 (lv_at hl 0 rfl) ?_
  refine lv_iconst (v := 1) hx hb dL_law_304 (by decide) ?_
  refine lv_iadd hx hb dL_law_305 ?_
  refine lv_topi (fun y9 ey9 => ?_)
  obtain rfl : y9 = 13 := by rw [ey9] <;> decide
  refine va_sld hx hb hX hbl hbA hS (zx_bn (by decide)) dL_law_306 ?_
  refine lv_topi (fun y9 ey9 => ?_)
  obtain rfl : y9 = 0 := ey9.trans (by decide)
  refine lv_aload_n hx hb dL_law_307 rfl (lv_at hl 4 rfl) ?_
  refine lv_iload hx hb dL_law_308 (lv_at hl 0 rfl) ?_
  refine lv_iconst (v := 2) hx hb dL_law_310 (by decide) ?_
  refine lv_iadd hx hb dL_law_311 ?_
  refine lv_topi (fun y9 ey9 => ?_)
  obtain rfl : y9 = 14 := by rw [ey9] <;> decide
  refine va_sld hx hb hX hbl hbA hS (zx_bn (by decide)) dL_law_312 ?_
  refine lv_topi (fun y9 ey9 => ?_)
  obtain rfl : y9 = 0 := ey9.trans (by decide)
  refine lv_aload_n hx hb dL_law_313 rfl (lv_at hl 1 rfl) ?_
  have hPc := hP.sub (ws' := [(h, .inr (13, [.ref pe, .ref ne, .ref pa, .ref ro, .int 0])), (pe, .inr (9, [.int 2, .ref a1, .ref a2, .ref a3, .ref a4, .ref a5, .ref a6, .ref a7, .ref a8, .ref a9])), (a1, .inl (cy 0, 20, .inl f1)), (a2, .inl (cy 0, 20, .inl f2)), (oa, .inl (cy 3, 1, .inr (.inl og)))]) [0, 1, 2, 3, 10] rfl
  have hDc := hD.sub (ws' := [(h, .inr (13, [.ref pe, .ref ne, .ref pa, .ref ro, .int 0])), (pe, .inr (9, [.int 2, .ref a1, .ref a2, .ref a3, .ref a4, .ref a5, .ref a6, .ref a7, .ref a8, .ref a9])), (a1, .inl (cy 0, 20, .inl f1)), (a2, .inl (cy 0, 20, .inl f2)), (oa, .inl (cy 3, 1, .inr (.inl og)))]) [0, 1, 2, 3, 10] (by decide) rfl
  have hFc := va_free (wc := [(h, .inr (13, [.ref pe, .ref ne, .ref pa, .ref ro, .int 0])), (pe, .inr (9, [.int 2, .ref a1, .ref a2, .ref a3, .ref a4, .ref a5, .ref a6, .ref a7, .ref a8, .ref a9])), (a1, .inl (cy 0, 20, .inl f1)), (a2, .inl (cy 0, 20, .inl f2)), (oa, .inl (cy 3, 1, .inr (.inl og)))]) hD hS hA [0, 1, 2, 3, 10] rfl
  refine vx_calli (vx_runSX (As := [.ref h, .int 0, .int 0, .ref oa]) (rest := []) ⟨hx, hb, hml, hown, hts⟩ (c_L_addPerson_2 l hst D cy ed H.size h pe ne pa ro 0 a1 a2 a3 a4 a5 a6 a7 a8 a9 f1 f2 oa og) (vx_cwSW 4 hts (zx_GS mm_329 mm_330 mm_70 mm_331) rfl rfl rfl (by decide +kernel) ⟨(Nat.le_of_ble_eq_true rfl), (Nat.le_of_ble_eq_true rfl)⟩) ⟨zx_blind, zx_give hPc hK hDc hS hFc hZ hN⟩ rfl rfl hl.1 rfl (lv_room (Nat.le_of_ble_eq_true rfl)) dL_law_314 ⟨(Nat.le_of_ble_eq_true rfl), (Nat.le_of_ble_eq_true rfl)⟩) hS (fun q _ h => hFc q h) hFc (fun q _ h => hFc q h) (fun E9 ce9 q9 _ t H locs ht hvm _ hBX hz1 hk1 hS hce hcv hcl => ?_) (fun r9 u t H locs ht hvm hw hB hz1 hk1 hS => ?_)
  · exact hBX.elim
  ·
    obtain ⟨f3_1315, f4_1316, o2_1317⟩ := u
    obtain ⟨rfl, h_1318⟩ := hw
    obtain ⟨hP, hD⟩ := zx_join (wr := [(ro, .inl (cy 0, 20, .inl f0)), (pa, .inr (4, [.int mc, .ref ed, .int 0])), (m0, .inr (20, [.int 0, .ref mp, .int 0, .ref b1, .ref b2, .ref b3, .ref b4, .ref b5, .ref mq])), (mp, .inr (4, [.int mm, .ref ep, .int 2])), (ep, .inl (cy 2, 10, .inr (.inr (.inr (.inr gp))))), (mq, .inr (4, [.int mn, .ref ed, .int 0])), (p0, .inr (17, t0)), (p1, .inr (17, t1))]) (w1 := [(h, .inr (13, [.ref pe, .ref ne, .ref pa, .ref ro, .int 0])), (pe, .inr (9, [.int 3, .ref a1, .ref a2, .ref a3, .ref a4, .ref a5, .ref a6, .ref a7, .ref a8, .ref a9])), (a1, .inl (cy 0, 20, .inl f3_1315)), (a2, .inl (cy 0, 20, .inl f4_1316)), (oa, .inl (cy 3, 1, .inr (.inl o2_1317)))]) [0, 1, 2, 3, 10] [4, 5, 6, 7, 8, 9, 11, 12] rfl rfl (by decide) (by decide) hP hD hk1 hFc hB ht
    have hP : va_P D vwCl [(ro, .inl (cy 0, 20, .inl f0)), (pa, .inr (4, [.int mc, .ref ed, .int 0])), (m0, .inr (20, [.int 0, .ref mp, .int 0, .ref b1, .ref b2, .ref b3, .ref b4, .ref b5, .ref mq])), (mp, .inr (4, [.int mm, .ref ep, .int 2])), (ep, .inl (cy 2, 10, .inr (.inr (.inr (.inr gp))))), (mq, .inr (4, [.int mn, .ref ed, .int 0])), (p0, .inr (17, t0)), (p1, .inr (17, t1)), (h, .inr (13, [.ref pe, .ref ne, .ref pa, .ref ro, .int 0])), (pe, .inr (9, [.int 3, .ref a1, .ref a2, .ref a3, .ref a4, .ref a5, .ref a6, .ref a7, .ref a8, .ref a9])), (a1, .inl (cy 0, 20, .inl f3_1315)), (a2, .inl (cy 0, 20, .inl f4_1316)), (oa, .inl (cy 3, 1, .inr (.inl o2_1317)))] H := hP
    have hD : va_D A [(ro, .inl (cy 0, 20, .inl f0)), (pa, .inr (4, [.int mc, .ref ed, .int 0])), (m0, .inr (20, [.int 0, .ref mp, .int 0, .ref b1, .ref b2, .ref b3, .ref b4, .ref b5, .ref mq])), (mp, .inr (4, [.int mm, .ref ep, .int 2])), (ep, .inl (cy 2, 10, .inr (.inr (.inr (.inr gp))))), (mq, .inr (4, [.int mn, .ref ed, .int 0])), (p0, .inr (17, t0)), (p1, .inr (17, t1)), (h, .inr (13, [.ref pe, .ref ne, .ref pa, .ref ro, .int 0])), (pe, .inr (9, [.int 3, .ref a1, .ref a2, .ref a3, .ref a4, .ref a5, .ref a6, .ref a7, .ref a8, .ref a9])), (a1, .inl (cy 0, 20, .inl f3_1315)), (a2, .inl (cy 0, 20, .inl f4_1316)), (oa, .inl (cy 3, 1, .inr (.inl o2_1317)))] := hD
    refine W.widen (k := 47) (n := 1370) (Nat.le_of_ble_eq_true rfl) (Nat.le_of_ble_eq_true rfl) ?_
    refine lv_istore (lv' := [(6, .int 0), (5, .int 12), (3, .ref oa), (2, .ref m0), (1, .ref h), (0, .ref b)]) hx hb dL_law_317 hl (by decide) rfl (fun ls hl => ?_)
    refine lv_aload_n hx hb dL_law_319 rfl (lv_at hl 3 rfl) ?_
    refine lv_aload_n hx hb dL_law_320 rfl (lv_at hl 5 rfl) ?_
    refine lv_iload hx hb dL_law_321 (lv_at hl 1 rfl) ?_
    refine lv_iconst (v := 1) hx hb dL_law_323 (by decide) ?_
    refine lv_iadd hx hb dL_law_324 ?_
    refine lv_topi (fun y9 ey9 => ?_)
    obtain rfl : y9 = 13 := by rw [ey9] <;> decide
    refine va_sld hx hb hX hbl hbA hS (zx_bn (by decide)) dL_law_325 ?_
    refine lv_topi (fun y9 ey9 => ?_)
    obtain rfl : y9 = 0 := ey9.trans (by decide)
    refine lv_aload_n hx hb dL_law_326 rfl (lv_at hl 5 rfl) ?_
    refine lv_iload hx hb dL_law_327 (lv_at hl 1 rfl) ?_
    refine lv_iconst (v := 2) hx hb dL_law_329 (by decide) ?_
    refine lv_iadd hx hb dL_law_330 ?_
    refine lv_topi (fun y9 ey9 => ?_)
    obtain rfl : y9 = 14 := by rw [ey9] <;> decide
    refine va_sld hx hb hX hbl hbA hS (zx_bn (by decide)) dL_law_331 ?_
    refine lv_topi (fun y9 ey9 => ?_)
    obtain rfl : y9 = 0 := ey9.trans (by decide)
    have hPc := hP.sub (ws' := [(m0, .inr (20, [.int 0, .ref mp, .int 0, .ref b1, .ref b2, .ref b3, .ref b4, .ref b5, .ref mq])), (mp, .inr (4, [.int mm, .ref ep, .int 2])), (ep, .inl (cy 2, 10, .inr (.inr (.inr (.inr gp)))))]) [2, 3, 4] rfl
    have hDc := hD.sub (ws' := [(m0, .inr (20, [.int 0, .ref mp, .int 0, .ref b1, .ref b2, .ref b3, .ref b4, .ref b5, .ref mq])), (mp, .inr (4, [.int mm, .ref ep, .int 2])), (ep, .inl (cy 2, 10, .inr (.inr (.inr (.inr gp)))))]) [2, 3, 4] (by decide) rfl
    have hFc := va_free (wc := [(m0, .inr (20, [.int 0, .ref mp, .int 0, .ref b1, .ref b2, .ref b3, .ref b4, .ref b5, .ref mq])), (mp, .inr (4, [.int mm, .ref ep, .int 2])), (ep, .inl (cy 2, 10, .inr (.inr (.inr (.inr gp)))))]) hD hS hA [2, 3, 4] rfl
    refine va_calli (va_runV (As := [.int 0, .int 0]) (rest := []) ⟨hx, hb, hml, hown, hts⟩ (c_X15_addPerson_2 l hst D cy ed H.size m0 mp mq b1 b2 b3 b4 b5 0 0 mm ep gp) (cwV 2 hts (zx_GV mm_1599 mm_1600 mm_1601 mm_78 mm_1602) rfl rfl rfl (by decide +kernel) ⟨(Nat.le_of_ble_eq_true rfl), (Nat.le_of_ble_eq_true rfl)⟩) ⟨zx_blind, va_recv hK hPc (ci := 20) (q0 := 0) rfl rfl, zx_give hPc hK hDc hS hFc hZ hN⟩ rfl rfl hl.1 rfl (lv_room (Nat.le_of_ble_eq_true rfl)) dL_law_332 ⟨(Nat.le_of_ble_eq_true rfl), (Nat.le_of_ble_eq_true rfl)⟩) hS (fun q _ h => hFc q h) hFc (fun r9 u t H1 locs ht hvm hw hB hz1 hk1 hS => ?_)
    obtain ⟨mx_1319, qx_1320, g2_1321, y_1322, fy_1323⟩ := u
    obtain ⟨rfl, h_1324⟩ := hw
    obtain ⟨hP, hD⟩ := zx_join (wr := [(ro, .inl (cy 0, 20, .inl f0)), (pa, .inr (4, [.int mc, .ref ed, .int 0])), (mq, .inr (4, [.int mn, .ref ed, .int 0])), (p0, .inr (17, t0)), (p1, .inr (17, t1)), (h, .inr (13, [.ref pe, .ref ne, .ref pa, .ref ro, .int 0])), (pe, .inr (9, [.int 3, .ref a1, .ref a2, .ref a3, .ref a4, .ref a5, .ref a6, .ref a7, .ref a8, .ref a9])), (a1, .inl (cy 0, 20, .inl f3_1315)), (a2, .inl (cy 0, 20, .inl f4_1316)), (oa, .inl (cy 3, 1, .inr (.inl o2_1317)))]) (w1 := [(m0, .inr (20, [.int 0, .ref mp, .int 0, .ref b1, .ref b2, .ref b3, .ref b4, .ref b5, .ref mq])), (mp, .inr (4, [.int mx_1319, .ref qx_1320, .int 3])), (qx_1320, .inl (cy 2, 10, .inr (.inr (.inr (.inr g2_1321))))), (y_1322, .inr (17, fy_1323))]) [2, 3, 4] [0, 1, 5, 6, 7, 8, 9, 10, 11, 12] rfl rfl (by decide) (by decide) hP hD hk1 hFc hB ht
    generalize H1 = H at hP hS ⊢
    have hP : va_P D vwCl [(ro, .inl (cy 0, 20, .inl f0)), (pa, .inr (4, [.int mc, .ref ed, .int 0])), (mq, .inr (4, [.int mn, .ref ed, .int 0])), (p0, .inr (17, t0)), (p1, .inr (17, t1)), (h, .inr (13, [.ref pe, .ref ne, .ref pa, .ref ro, .int 0])), (pe, .inr (9, [.int 3, .ref a1, .ref a2, .ref a3, .ref a4, .ref a5, .ref a6, .ref a7, .ref a8, .ref a9])), (a1, .inl (cy 0, 20, .inl f3_1315)), (a2, .inl (cy 0, 20, .inl f4_1316)), (oa, .inl (cy 3, 1, .inr (.inl o2_1317))), (m0, .inr (20, [.int 0, .ref mp, .int 0, .ref b1, .ref b2, .ref b3, .ref b4, .ref b5, .ref mq])), (mp, .inr (4, [.int mx_1319, .ref qx_1320, .int 3])), (qx_1320, .inl (cy 2, 10, .inr (.inr (.inr (.inr g2_1321))))), (y_1322, .inr (17, fy_1323))] H := hP
    have hD : va_D A [(ro, .inl (cy 0, 20, .inl f0)), (pa, .inr (4, [.int mc, .ref ed, .int 0])), (mq, .inr (4, [.int mn, .ref ed, .int 0])), (p0, .inr (17, t0)), (p1, .inr (17, t1)), (h, .inr (13, [.ref pe, .ref ne, .ref pa, .ref ro, .int 0])), (pe, .inr (9, [.int 3, .ref a1, .ref a2, .ref a3, .ref a4, .ref a5, .ref a6, .ref a7, .ref a8, .ref a9])), (a1, .inl (cy 0, 20, .inl f3_1315)), (a2, .inl (cy 0, 20, .inl f4_1316)), (oa, .inl (cy 3, 1, .inr (.inl o2_1317))), (m0, .inr (20, [.int 0, .ref mp, .int 0, .ref b1, .ref b2, .ref b3, .ref b4, .ref b5, .ref mq])), (mp, .inr (4, [.int mx_1319, .ref qx_1320, .int 3])), (qx_1320, .inl (cy 2, 10, .inr (.inr (.inr (.inr g2_1321))))), (y_1322, .inr (17, fy_1323))] := hD
    refine W.widen (k := 50) (n := 1400) (Nat.le_of_ble_eq_true rfl) (Nat.le_of_ble_eq_true rfl) ?_
    obtain ⟨hs_1325, hs_1326⟩ := h_1324
    refine lv_istore (lv' := [(7, .int 2), (6, .int 0), (5, .int 12), (3, .ref oa), (2, .ref m0), (1, .ref h), (0, .ref b)]) hx hb dL_law_335 hl (by decide) rfl (fun ls hl => ?_)
    refine lv_goto (tgt := 2542) hx hb dL_law_337 (by decide) ?_
    refine lv_iinc (v := 18) (lv' := [(5, .int 18), (7, .int 2), (6, .int 0), (3, .ref oa), (2, .ref m0), (1, .ref h), (0, .ref b)]) hx hb dL_law_2542 hl (k := 2) rfl (by decide) (by decide) rfl (fun ls hl => ?_)
    refine lv_goto (tgt := 28) hx hb dL_law_2545 (by decide) ?_
    have hP := hP.sub (ws' := [(h, .inr (13, [.ref pe, .ref ne, .ref pa, .ref ro, .int 0])), (pe, .inr (9, [.int 3, .ref a1, .ref a2, .ref a3, .ref a4, .ref a5, .ref a6, .ref a7, .ref a8, .ref a9])), (a1, .inl (cy 0, 20, .inl f3_1315)), (a2, .inl (cy 0, 20, .inl f4_1316)), (ro, .inl (cy 0, 20, .inl f0)), (pa, .inr (4, [.int mc, .ref ed, .int 0])), (m0, .inr (20, [.int 0, .ref mp, .int 0, .ref b1, .ref b2, .ref b3, .ref b4, .ref b5, .ref mq])), (mp, .inr (4, [.int mx_1319, .ref qx_1320, .int 3])), (qx_1320, .inl (cy 2, 10, .inr (.inr (.inr (.inr g2_1321))))), (mq, .inr (4, [.int mn, .ref ed, .int 0])), (oa, .inl (cy 3, 1, .inr (.inl o2_1317))), (p0, .inr (17, t0)), (p1, .inr (17, t1)), (y_1322, .inr (17, fy_1323))]) [5, 6, 7, 8, 0, 1, 10, 11, 12, 2, 9, 3, 4, 13] rfl
    have hD := hD.sub (ws' := [(h, .inr (13, [.ref pe, .ref ne, .ref pa, .ref ro, .int 0])), (pe, .inr (9, [.int 3, .ref a1, .ref a2, .ref a3, .ref a4, .ref a5, .ref a6, .ref a7, .ref a8, .ref a9])), (a1, .inl (cy 0, 20, .inl f3_1315)), (a2, .inl (cy 0, 20, .inl f4_1316)), (ro, .inl (cy 0, 20, .inl f0)), (pa, .inr (4, [.int mc, .ref ed, .int 0])), (m0, .inr (20, [.int 0, .ref mp, .int 0, .ref b1, .ref b2, .ref b3, .ref b4, .ref b5, .ref mq])), (mp, .inr (4, [.int mx_1319, .ref qx_1320, .int 3])), (qx_1320, .inl (cy 2, 10, .inr (.inr (.inr (.inr g2_1321))))), (mq, .inr (4, [.int mn, .ref ed, .int 0])), (oa, .inl (cy 3, 1, .inr (.inl o2_1317))), (p0, .inr (17, t0)), (p1, .inr (17, t1)), (y_1322, .inr (17, fy_1323))]) [5, 6, 7, 8, 0, 1, 10, 11, 12, 2, 9, 3, 4, 13] (by decide) rfl
    exact hnext _ _ _ ⟨pe, ne, pa, ro, a1, a2, a3, a4, a5, a6, a7, a8, a9, mp, mq, b1, b2, b3, b4, b5, qx_1320, mc, mx_1319, mn, f3_1315, f4_1316, f0, o2_1317, g2_1321, p0, p1, y_1322, t0, t1, fy_1323, hP, hD, ((hs_1326 0 (by decide)).trans hp0), ((hs_1326 1 (by decide)).trans hp1), hs_1325⟩ hS (lv_sub hl [0, 3, 4, 5, 6] rfl)
set_option maxHeartbeats 4000000 in
set_option maxRecDepth 100000 in
theorem law_step_3 {p : Program} {l : Launch} {e : Env} {s : State} {m : MethodId} {below : List Frame} {meth : Method} {c : Code} {D : va_G} {cy : Nat → ClassId} {ed b : Nat} {A : Nat → Prop} {Q : State → Prop} (C0 : zx_LW p l s m c D cy ed b A) {h m0 oa : Nat} {H : Heap} {locs : List Loc} {ls : Array Slot} (h0 : zx_S3 D cy ed A h m0 oa H) (hS : va_S A s.heap H locs) (hl : lv_has ls 9 [(5, .int 18), (3, .ref oa), (2, .ref m0), (1, .ref h), (0, .ref b)])
    (hnext : ∀ (H : Heap) (locs : List Loc) (ls : Array Slot), zx_S4 D cy ed A h m0 oa H → va_S A s.heap H locs → lv_has ls 9 [(5, .int 24), (3, .ref oa), (2, .ref m0), (1, .ref h), (0, .ref b)] → W p l e zx_R s m #[Value.ref b] below meth c H locs 53 1430 Q (F0 m 28 ls [])) :
    W p l e zx_R s m #[Value.ref b] below meth c H locs 50 1400 Q (F0 m 28 ls []) := by
  obtain ⟨hx, hb, hml, hst, hown, hts, hX, hbl, hbA, hA, hK, hZ, hN⟩ := C0
  obtain ⟨pe, ne, pa, ro, a1, a2, a3, a4, a5, a6, a7, a8, a9, mp, mq, b1, b2, b3, b4, b5, ep, mc, mm, mn, f1, f2, f0, og, gp, p0, p1, p2, t0, t1, t2, hP, hD, hp0, hp1, hp2⟩ := h0
  refine lv_iload hx hb dL_law_28 (lv_at hl 0 rfl) ?_
  refine lv_aload_n hx hb dL_law_30 rfl (lv_at hl 4 rfl) ?_
  refine va_slen hx hb hX hbl hbA hS dL_law_31 ?_
  refine lv_topi (fun y9 ey9 => ?_)
  obtain rfl : y9 = 3072 := ey9.trans (by decide)
  refine lv_bipush (v := 6) hx hb dL_law_32 (by decide) ?_
  refine lv_isub hx hb dL_law_34 ?_
  refine lv_topi (fun y9 ey9 => ?_)
  obtain rfl : y9 = 3066 := by rw [ey9] <;> decide
  refine lv_icmp_gt (tgt := 2548) hx hb dL_law_35 (by decide) (fun c_1327 => absurd c_1327 (by decide)) (fun _ => ?_)
  refine lv_aload_n hx hb dL_law_38 rfl (lv_at hl 4 rfl) ?_
  refine lv_iload hx hb dL_law_39 (lv_at hl 0 rfl) ?_
  refine va_sld hx hb hX hbl hbA hS (zx_bn (by decide)) dL_law_41 ?_
  refine lv_topi (fun y9 ey9 => ?_)
  obtain rfl : y9 = 0 := ey9.trans (by decide)
  refine lv_bipush (v := 63) hx hb dL_law_42 (by decide) ?_
  refine lv_iand hx hb dL_law_44 ?_
  refine lv_topi (fun y9 ey9 => ?_)
  obtain rfl : y9 = 0 := by rw [ey9] <;> decide
  refine lv_tableIn (off := 255) (tgt := 300) hx hb dL_law_45 (by decide) (by decide) (by decide) (by decide) ?_
  refine lv_aload_n hx hb dL_law_300 rfl (lv_at hl 3 rfl) ?_
  refine lv_aload_n hx hb dL_law_301 rfl (lv_at hl 4 rfl) ?_
  refine lv_iload hx hb dL_law_302 (lv_at hl 0 rfl) ?_
  refine lv_iconst (v := 1) hx hb dL_law_304 (by decide) ?_
  refine lv_iadd hx hb dL_law_305 ?_
  refine lv_topi (fun y9 ey9 => ?_)
  obtain rfl : y9 = 19 := by rw [ey9] <;> decide
  refine va_sld hx hb hX hbl hbA hS (zx_bn (by decide)) dL_law_306 ?_
  refine lv_topi (fun y9 ey9 => ?_)
  obtain rfl : y9 = 0 := ey9.trans (by decide)
  refine lv_aload_n hx hb dL_law_307 rfl (lv_at hl 4 rfl) ?_
  refine lv_iload hx hb dL_law_308 (lv_at hl 0 rfl) ?_
  refine lv_iconst (v := 2) hx hb dL_law_310 (by decide) ?_
  refine lv_iadd hx hb dL_law_311 ?_
  refine lv_topi (fun y9 ey9 => ?_)
  obtain rfl : y9 = 20 := by rw [ey9] <;> decide
  refine va_sld hx hb hX hbl hbA hS (zx_bn (by decide)) dL_law_312 ?_
  refine lv_topi (fun y9 ey9 => ?_)
  obtain rfl : y9 = 0 := ey9.trans (by decide)
  refine lv_aload_n hx hb dL_law_313 rfl (lv_at hl 1 rfl) ?_
  have hPc := hP.sub (ws' := [(h, .inr (13, [.ref pe, .ref ne, .ref pa, .ref ro, .int 0])), (pe, .inr (9, [.int 3, .ref a1, .ref a2, .ref a3, .ref a4, .ref a5, .ref a6, .ref a7, .ref a8, .ref a9])), (a1, .inl (cy 0, 20, .inl f1)), (a2, .inl (cy 0, 20, .inl f2)), (oa, .inl (cy 3, 1, .inr (.inl og)))]) [0, 1, 2, 3, 10] rfl
  have hDc := hD.sub (ws' := [(h, .inr (13, [.ref pe, .ref ne, .ref pa, .ref ro, .int 0])), (pe, .inr (9, [.int 3, .ref a1, .ref a2, .ref a3, .ref a4, .ref a5, .ref a6, .ref a7, .ref a8, .ref a9])), (a1, .inl (cy 0, 20, .inl f1)), (a2, .inl (cy 0, 20, .inl f2)), (oa, .inl (cy 3, 1, .inr (.inl og)))]) [0, 1, 2, 3, 10] (by decide) rfl
  have hFc := va_free (wc := [(h, .inr (13, [.ref pe, .ref ne, .ref pa, .ref ro, .int 0])), (pe, .inr (9, [.int 3, .ref a1, .ref a2, .ref a3, .ref a4, .ref a5, .ref a6, .ref a7, .ref a8, .ref a9])), (a1, .inl (cy 0, 20, .inl f1)), (a2, .inl (cy 0, 20, .inl f2)), (oa, .inl (cy 3, 1, .inr (.inl og)))]) hD hS hA [0, 1, 2, 3, 10] rfl
  refine vx_calli (vx_runSX (As := [.ref h, .int 0, .int 0, .ref oa]) (rest := []) ⟨hx, hb, hml, hown, hts⟩ (c_L_addPerson_3 l hst D cy ed H.size h pe ne pa ro 0 a1 a2 a3 a4 a5 a6 a7 a8 a9 f1 f2 oa og) (vx_cwSW 4 hts (zx_GS mm_329 mm_330 mm_70 mm_331) rfl rfl rfl (by decide +kernel) ⟨(Nat.le_of_ble_eq_true rfl), (Nat.le_of_ble_eq_true rfl)⟩) ⟨zx_blind, zx_give hPc hK hDc hS hFc hZ hN⟩ rfl rfl hl.1 rfl (lv_room (Nat.le_of_ble_eq_true rfl)) dL_law_314 ⟨(Nat.le_of_ble_eq_true rfl), (Nat.le_of_ble_eq_true rfl)⟩) hS (fun q _ h => hFc q h) hFc (fun q _ h => hFc q h) (fun E9 ce9 q9 _ t H locs ht hvm _ hBX hz1 hk1 hS hce hcv hcl => ?_) (fun r9 u t H locs ht hvm hw hB hz1 hk1 hS => ?_)
  · exact hBX.elim
  ·
    obtain ⟨f3_1328, f4_1329, o2_1330⟩ := u
    obtain ⟨rfl, h_1331⟩ := hw
    obtain ⟨hP, hD⟩ := zx_join (wr := [(ro, .inl (cy 0, 20, .inl f0)), (pa, .inr (4, [.int mc, .ref ed, .int 0])), (m0, .inr (20, [.int 0, .ref mp, .int 0, .ref b1, .ref b2, .ref b3, .ref b4, .ref b5, .ref mq])), (mp, .inr (4, [.int mm, .ref ep, .int 3])), (ep, .inl (cy 2, 10, .inr (.inr (.inr (.inr gp))))), (mq, .inr (4, [.int mn, .ref ed, .int 0])), (p0, .inr (17, t0)), (p1, .inr (17, t1)), (p2, .inr (17, t2))]) (w1 := [(h, .inr (13, [.ref pe, .ref ne, .ref pa, .ref ro, .int 0])), (pe, .inr (9, [.int 4, .ref a1, .ref a2, .ref a3, .ref a4, .ref a5, .ref a6, .ref a7, .ref a8, .ref a9])), (a1, .inl (cy 0, 20, .inl f3_1328)), (a2, .inl (cy 0, 20, .inl f4_1329)), (oa, .inl (cy 3, 1, .inr (.inl o2_1330)))]) [0, 1, 2, 3, 10] [4, 5, 6, 7, 8, 9, 11, 12, 13] rfl rfl (by decide) (by decide) hP hD hk1 hFc hB ht
    have hP : va_P D vwCl [(ro, .inl (cy 0, 20, .inl f0)), (pa, .inr (4, [.int mc, .ref ed, .int 0])), (m0, .inr (20, [.int 0, .ref mp, .int 0, .ref b1, .ref b2, .ref b3, .ref b4, .ref b5, .ref mq])), (mp, .inr (4, [.int mm, .ref ep, .int 3])), (ep, .inl (cy 2, 10, .inr (.inr (.inr (.inr gp))))), (mq, .inr (4, [.int mn, .ref ed, .int 0])), (p0, .inr (17, t0)), (p1, .inr (17, t1)), (p2, .inr (17, t2)), (h, .inr (13, [.ref pe, .ref ne, .ref pa, .ref ro, .int 0])), (pe, .inr (9, [.int 4, .ref a1, .ref a2, .ref a3, .ref a4, .ref a5, .ref a6, .ref a7, .ref a8, .ref a9])), (a1, .inl (cy 0, 20, .inl f3_1328)), (a2, .inl (cy 0, 20, .inl f4_1329)), (oa, .inl (cy 3, 1, .inr (.inl o2_1330)))] H := hP
    have hD : va_D A [(ro, .inl (cy 0, 20, .inl f0)), (pa, .inr (4, [.int mc, .ref ed, .int 0])), (m0, .inr (20, [.int 0, .ref mp, .int 0, .ref b1, .ref b2, .ref b3, .ref b4, .ref b5, .ref mq])), (mp, .inr (4, [.int mm, .ref ep, .int 3])), (ep, .inl (cy 2, 10, .inr (.inr (.inr (.inr gp))))), (mq, .inr (4, [.int mn, .ref ed, .int 0])), (p0, .inr (17, t0)), (p1, .inr (17, t1)), (p2, .inr (17, t2)), (h, .inr (13, [.ref pe, .ref ne, .ref pa, .ref ro, .int 0])), (pe, .inr (9, [.int 4, .ref a1, .ref a2, .ref a3, .ref a4, .ref a5, .ref a6, .ref a7, .ref a8, .ref a9])), (a1, .inl (cy 0, 20, .inl f3_1328)), (a2, .inl (cy 0, 20, .inl f4_1329)), (oa, .inl (cy 3, 1, .inr (.inl o2_1330)))] := hD
    refine W.widen (k := 50) (n := 1400) (Nat.le_of_ble_eq_true rfl) (Nat.le_of_ble_eq_true rfl) ?_
    refine lv_istore (lv' := [(6, .int 0), (5, .int 18), (3, .ref oa), (2, .ref m0), (1, .ref h), (0, .ref b)]) hx hb dL_law_317 hl (by decide) rfl (fun ls hl => ?_)
    refine lv_aload_n hx hb dL_law_319 rfl (lv_at hl 3 rfl) ?_
    refine lv_aload_n hx hb dL_law_320 rfl (lv_at hl 5 rfl) ?_
    refine lv_iload hx hb dL_law_321 (lv_at hl 1 rfl) ?_
    refine lv_iconst (v := 1) hx hb dL_law_323 (by decide) ?_
    refine lv_iadd hx hb dL_law_324 ?_
    refine lv_topi (fun y9 ey9 => ?_)
    obtain rfl : y9 = 19 := by rw [ey9] <;> decide
    refine va_sld hx hb hX hbl hbA hS (zx_bn (by decide)) dL_law_325 ?_
    refine lv_topi (fun y9 ey9 => ?_)
    obtain rfl : y9 = 0 := ey9.trans (by decide)
    refine lv_aload_n hx hb dL_law_326 rfl (lv_at hl 5 rfl) ?_
    refine lv_iload hx hb dL_law_327 (lv_at hl 1 rfl) ?_
    refine lv_iconst (v := 2) hx hb dL_law_329 (by decide) ?_
    refine lv_iadd hx hb dL_law_330 ?_
    refine lv_topi (fun y9 ey9 => ?_)
    obtain rfl : y9 = 20 := by rw [ey9] <;> decide
    refine va_sld hx hb hX hbl hbA hS (zx_bn (by decide)) dL_law_331 ?_
    refine lv_topi (fun y9 ey9 => ?_)
    obtain rfl : y9 = 0 := ey9.trans (by decide)
    have hPc := hP.sub (ws' := [(m0, .inr (20, [.int 0, .ref mp, .int 0, .ref b1, .ref b2, .ref b3, .ref b4, .ref b5, .ref mq])), (mp, .inr (4, [.int mm, .ref ep, .int 3])), (ep, .inl (cy 2, 10, .inr (.inr (.inr (.inr gp)))))]) [2, 3, 4] rfl
    have hDc := hD.sub (ws' := [(m0, .inr (20, [.int 0, .ref mp, .int 0, .ref b1, .ref b2, .ref b3, .ref b4, .ref b5, .ref mq])), (mp, .inr (4, [.int mm, .ref ep, .int 3])), (ep, .inl (cy 2, 10, .inr (.inr (.inr (.inr gp)))))]) [2, 3, 4] (by decide) rfl
    have hFc := va_free (wc := [(m0, .inr (20, [.int 0, .ref mp, .int 0, .ref b1, .ref b2, .ref b3, .ref b4, .ref b5, .ref mq])), (mp, .inr (4, [.int mm, .ref ep, .int 3])), (ep, .inl (cy 2, 10, .inr (.inr (.inr (.inr gp)))))]) hD hS hA [2, 3, 4] rfl
    refine va_calli (va_runV (As := [.int 0, .int 0]) (rest := []) ⟨hx, hb, hml, hown, hts⟩ (c_X15_addPerson_3 l hst D cy ed H.size m0 mp mq b1 b2 b3 b4 b5 0 0 mm ep gp) (cwV 2 hts (zx_GV mm_1599 mm_1600 mm_1601 mm_78 mm_1602) rfl rfl rfl (by decide +kernel) ⟨(Nat.le_of_ble_eq_true rfl), (Nat.le_of_ble_eq_true rfl)⟩) ⟨zx_blind, va_recv hK hPc (ci := 20) (q0 := 0) rfl rfl, zx_give hPc hK hDc hS hFc hZ hN⟩ rfl rfl hl.1 rfl (lv_room (Nat.le_of_ble_eq_true rfl)) dL_law_332 ⟨(Nat.le_of_ble_eq_true rfl), (Nat.le_of_ble_eq_true rfl)⟩) hS (fun q _ h => hFc q h) hFc (fun r9 u t H1 locs ht hvm hw hB hz1 hk1 hS => ?_)
    obtain ⟨mx_1332, qx_1333, g2_1334, y_1335, fy_1336⟩ := u
    obtain ⟨rfl, h_1337⟩ := hw
    obtain ⟨hP, hD⟩ := zx_join (wr := [(ro, .inl (cy 0, 20, .inl f0)), (pa, .inr (4, [.int mc, .ref ed, .int 0])), (mq, .inr (4, [.int mn, .ref ed, .int 0])), (p0, .inr (17, t0)), (p1, .inr (17, t1)), (p2, .inr (17, t2)), (h, .inr (13, [.ref pe, .ref ne, .ref pa, .ref ro, .int 0])), (pe, .inr (9, [.int 4, .ref a1, .ref a2, .ref a3, .ref a4, .ref a5, .ref a6, .ref a7, .ref a8, .ref a9])), (a1, .inl (cy 0, 20, .inl f3_1328)), (a2, .inl (cy 0, 20, .inl f4_1329)), (oa, .inl (cy 3, 1, .inr (.inl o2_1330)))]) (w1 := [(m0, .inr (20, [.int 0, .ref mp, .int 0, .ref b1, .ref b2, .ref b3, .ref b4, .ref b5, .ref mq])), (mp, .inr (4, [.int mx_1332, .ref qx_1333, .int 4])), (qx_1333, .inl (cy 2, 10, .inr (.inr (.inr (.inr g2_1334))))), (y_1335, .inr (17, fy_1336))]) [2, 3, 4] [0, 1, 5, 6, 7, 8, 9, 10, 11, 12, 13] rfl rfl (by decide) (by decide) hP hD hk1 hFc hB ht
    generalize H1 = H at hP hS ⊢
    have hP : va_P D vwCl [(ro, .inl (cy 0, 20, .inl f0)), (pa, .inr (4, [.int mc, .ref ed, .int 0])), (mq, .inr (4, [.int mn, .ref ed, .int 0])), (p0, .inr (17, t0)), (p1, .inr (17, t1)), (p2, .inr (17, t2)), (h, .inr (13, [.ref pe, .ref ne, .ref pa, .ref ro, .int 0])), (pe, .inr (9, [.int 4, .ref a1, .ref a2, .ref a3, .ref a4, .ref a5, .ref a6, .ref a7, .ref a8, .ref a9])), (a1, .inl (cy 0, 20, .inl f3_1328)), (a2, .inl (cy 0, 20, .inl f4_1329)), (oa, .inl (cy 3, 1, .inr (.inl o2_1330))), (m0, .inr (20, [.int 0, .ref mp, .int 0, .ref b1, .ref b2, .ref b3, .ref b4, .ref b5, .ref mq])), (mp, .inr (4, [.int mx_1332, .ref qx_1333, .int 4])), (qx_1333, .inl (cy 2, 10, .inr (.inr (.inr (.inr g2_1334))))), (y_1335, .inr (17, fy_1336))] H := hP
    have hD : va_D A [(ro, .inl (cy 0, 20, .inl f0)), (pa, .inr (4, [.int mc, .ref ed, .int 0])), (mq, .inr (4, [.int mn, .ref ed, .int 0])), (p0, .inr (17, t0)), (p1, .inr (17, t1)), (p2, .inr (17, t2)), (h, .inr (13, [.ref pe, .ref ne, .ref pa, .ref ro, .int 0])), (pe, .inr (9, [.int 4, .ref a1, .ref a2, .ref a3, .ref a4, .ref a5, .ref a6, .ref a7, .ref a8, .ref a9])), (a1, .inl (cy 0, 20, .inl f3_1328)), (a2, .inl (cy 0, 20, .inl f4_1329)), (oa, .inl (cy 3, 1, .inr (.inl o2_1330))), (m0, .inr (20, [.int 0, .ref mp, .int 0, .ref b1, .ref b2, .ref b3, .ref b4, .ref b5, .ref mq])), (mp, .inr (4, [.int mx_1332, .ref qx_1333, .int 4])), (qx_1333, .inl (cy 2, 10, .inr (.inr (.inr (.inr g2_1334))))), (y_1335, .inr (17, fy_1336))] := hD
    refine W.widen (k := 53) (n := 1430) (Nat.le_of_ble_eq_true rfl) (Nat.le_of_ble_eq_true rfl) ?_
    obtain ⟨hs_1338, hs_1339⟩ := h_1337
    refine lv_istore (lv' := [(7, .int 3), (6, .int 0), (5, .int 18), (3, .ref oa), (2, .ref m0), (1, .ref h), (0, .ref b)]) hx hb dL_law_335 hl (by decide) rfl (fun ls hl => ?_)
    refine lv_goto (tgt := 2542) hx hb dL_law_337 (by decide) ?_
    refine lv_iinc (v := 24) (lv' := [(5, .int 24), (7, .int 3), (6, .int 0), (3, .ref oa), (2, .ref m0), (1, .ref h), (0, .ref b)]) hx hb dL_law_2542 hl (k := 2) rfl (by decide) (by decide) rfl (fun ls hl => ?_)
    refine lv_goto (tgt := 28) hx hb dL_law_2545 (by decide) ?_
    have hP := hP.sub (ws' := [(h, .inr (13, [.ref pe, .ref ne, .ref pa, .ref ro, .int 0])), (pe, .inr (9, [.int 4, .ref a1, .ref a2, .ref a3, .ref a4, .ref a5, .ref a6, .ref a7, .ref a8, .ref a9])), (a1, .inl (cy 0, 20, .inl f3_1328)), (a2, .inl (cy 0, 20, .inl f4_1329)), (ro, .inl (cy 0, 20, .inl f0)), (pa, .inr (4, [.int mc, .ref ed, .int 0])), (m0, .inr (20, [.int 0, .ref mp, .int 0, .ref b1, .ref b2, .ref b3, .ref b4, .ref b5, .ref mq])), (mp, .inr (4, [.int mx_1332, .ref qx_1333, .int 4])), (qx_1333, .inl (cy 2, 10, .inr (.inr (.inr (.inr g2_1334))))), (mq, .inr (4, [.int mn, .ref ed, .int 0])), (oa, .inl (cy 3, 1, .inr (.inl o2_1330))), (p0, .inr (17, t0)), (p1, .inr (17, t1)), (p2, .inr (17, t2)), (y_1335, .inr (17, fy_1336))]) [6, 7, 8, 9, 0, 1, 11, 12, 13, 2, 10, 3, 4, 5, 14] rfl
    have hD := hD.sub (ws' := [(h, .inr (13, [.ref pe, .ref ne, .ref pa, .ref ro, .int 0])), (pe, .inr (9, [.int 4, .ref a1, .ref a2, .ref a3, .ref a4, .ref a5, .ref a6, .ref a7, .ref a8, .ref a9])), (a1, .inl (cy 0, 20, .inl f3_1328)), (a2, .inl (cy 0, 20, .inl f4_1329)), (ro, .inl (cy 0, 20, .inl f0)), (pa, .inr (4, [.int mc, .ref ed, .int 0])), (m0, .inr (20, [.int 0, .ref mp, .int 0, .ref b1, .ref b2, .ref b3, .ref b4, .ref b5, .ref mq])), (mp, .inr (4, [.int mx_1332, .ref qx_1333, .int 4])), (qx_1333, .inl (cy 2, 10, .inr (.inr (.inr (.inr g2_1334))))), (mq, .inr (4, [.int mn, .ref ed, .int 0])), (oa, .inl (cy 3, 1, .inr (.inl o2_1330))), (p0, .inr (17, t0)), (p1, .inr (17, t1)), (p2, .inr (17, t2)), (y_1335, .inr (17, fy_1336))]) [6, 7, 8, 9, 0, 1, 11, 12, 13, 2, 10, 3, 4, 5, 14] (by decide) rfl
    exact hnext _ _ _ ⟨pe, ne, pa, ro, a1, a2, a3, a4, a5, a6, a7, a8, a9, mp, mq, b1, b2, b3, b4, b5, qx_1333, mc, mx_1332, mn, f3_1328, f4_1329, f0, o2_1330, g2_1334, p0, p1, p2, y_1335, t0, t1, t2, fy_1336, hP, hD, ((hs_1339 0 (by decide)).trans hp0), ((hs_1339 1 (by decide)).trans hp1), ((hs_1339 2 (by decide)).trans hp2), hs_1338⟩ hS (lv_sub hl [0, 3, 4, 5, 6] rfl)
set_option maxHeartbeats 4000000 in
set_option maxRecDepth 100000 in
theorem law_step_4 {p : Program} {l : Launch} {e : Env} {s : State} {m : MethodId} {below : List Frame} {meth : Method} {c : Code} {D : va_G} {cy : Nat → ClassId} {ed b : Nat} {A : Nat → Prop} {Q : State → Prop} (C0 : zx_LW p l s m c D cy ed b A) {h m0 oa : Nat} {H : Heap} {locs : List Loc} {ls : Array Slot} (h0 : zx_S4 D cy ed A h m0 oa H) (hS : va_S A s.heap H locs) (hl : lv_has ls 9 [(5, .int 24), (3, .ref oa), (2, .ref m0), (1, .ref h), (0, .ref b)])
    (hnext : ∀ (H : Heap) (locs : List Loc) (ls : Array Slot), zx_S5 D cy ed A h m0 oa H → va_S A s.heap H locs → lv_has ls 9 [(5, .int 30), (3, .ref oa), (2, .ref m0), (1, .ref h), (0, .ref b)] → W p l e zx_R s m #[Value.ref b] below meth c H locs 56 1460 Q (F0 m 28 ls [])) :
    W p l e zx_R s m #[Value.ref b] below meth c H locs 53 1430 Q (F0 m 28 ls []) := by
  obtain ⟨hx, hb, hml, hst, hown, hts, hX, hbl, hbA, hA, hK, hZ, hN⟩ := C0
  obtain ⟨pe, ne, pa, ro, a1, a2, a3, a4, a5, a6, a7, a8, a9, mp, mq, b1, b2, b3, b4, b5, ep, mc, mm, mn, f1, f2, f0, og, gp, p0, p1, p2, p3, t0, t1, t2, t3, hP, hD, hp0, hp1, hp2, hp3⟩ := h0
  refine lv_iload hx hb dL_law_28 (lv_at hl 0 rfl) ?_
  refine lv_aload_n hx hb dL_law_30 rfl (lv_at hl 4 rfl) ?_
  refine va_slen hx hb hX hbl hbA hS dL_law_31 ?_
  refine lv_topi (fun y9 ey9 => ?_)
  obtain rfl : y9 = 3072 := ey9.trans (by decide)
  refine lv_bipush (v := 6) hx hb dL_law_32 (by decide) ?_
  refine lv_isub hx hb dL_law_34 ?_
  refine lv_topi (fun y9 ey9 => ?_)
  obtain rfl : y9 = 3066 := by rw [ey9] <;> decide
  refine lv_icmp_gt (tgt := 2548) hx hb dL_law_35 (by decide) (fun c_1340 => absurd c_1340 (by decide)) (fun _ => ?_)
  refine lv_aload_n hx hb dL_law_38 rfl (lv_at hl 4 rfl) ?_
  refine lv_iload hx hb dL_law_39 (lv_at hl 0 rfl) ?_
  refine va_sld hx hb hX hbl hbA hS (zx_bn (by decide)) dL_law_41 ?_
  refine lv_topi (fun y9 ey9 => ?_)
  obtain rfl : y9 = 0 := ey9.trans (by decide)
  refine lv_bipush (v := 63) hx hb dL_law_42 (by decide) ?_
  refine lv_iand hx hb dL_law_44 ?_
  refine lv_topi (fun y9 ey9 => ?_)
  obtain rfl : y9 = 0 := by rw [ey9] <;> decide
  refine lv_tableIn (off := 255) (tgt := 300) hx hb dL_law_45 (by decide) (by decide) (by decide) (by decide) ?_
  refine lv_aload_n hx hb dL_law_300 rfl (lv_at hl 3 rfl) ?_
  refine lv_aload_n hx hb dL_law_301 rfl (lv_at hl 4 rfl) ?_
  refine lv_iload hx hb dL_law_302 (lv_at hl 0 rfl) ?_
  refine lv_iconst (v := 1) hx hb dL_law_304 (by decide) ?_
  refine lv_iadd hx hb dL_law_305 ?_
  refine lv_topi (fun y9 ey9 => ?_)
  obtain rfl : y9 = 25 := by rw [ey9] <;> decide
  refine va_sld hx hb hX hbl hbA hS (zx_bn (by decide)) dL_law_306 ?_
  refine lv_topi (fun y9 ey9 => ?_)
  obtain rfl : y9 = 0 := ey9.trans (by decide)
  refine lv_aload_n hx hb dL_law_307 rfl (lv_at hl 4 rfl) ?_
  refine lv_iload hx hb dL_law_308 (lv_at hl 0 rfl) ?_
  refine lv_iconst (v := 2) hx hb dL_law_310 (by decide) ?_
  refine lv_iadd hx hb dL_law_311 ?_
  refine lv_topi (fun y9 ey9 => ?_)
  obtain rfl : y9 = 26 := by rw [ey9] <;> decide
  refine va_sld hx hb hX hbl hbA hS (zx_bn (by decide)) dL_law_312 ?_
  refine lv_topi (fun y9 ey9 => ?_)
  obtain rfl : y9 = 0 := ey9.trans (by decide)
  refine lv_aload_n hx hb dL_law_313 rfl (lv_at hl 1 rfl) ?_
  have hPc := hP.sub (ws' := [(h, .inr (13, [.ref pe, .ref ne, .ref pa, .ref ro, .int 0])), (pe, .inr (9, [.int 4, .ref a1, .ref a2, .ref a3, .ref a4, .ref a5, .ref a6, .ref a7, .ref a8, .ref a9])), (a1, .inl (cy 0, 20, .inl f1)), (a2, .inl (cy 0, 20, .inl f2)), (oa, .inl (cy 3, 1, .inr (.inl og)))]) [0, 1, 2, 3, 10] rfl
  have hDc := hD.sub (ws' := [(h, .inr (13, [.ref pe, .ref ne, .ref pa, .ref ro, .int 0])), (pe, .inr (9, [.int 4, .ref a1, .ref a2, .ref a3, .ref a4, .ref a5, .ref a6, .ref a7, .ref a8, .ref a9])), (a1, .inl (cy 0, 20, .inl f1)), (a2, .inl (cy 0, 20, .inl f2)), (oa, .inl (cy 3, 1, .inr (.inl og)))]) [0, 1, 2, 3, 10] (by decide) rfl
  have hFc := va_free (wc := [(h, .inr (13, [.ref pe, .ref ne, .ref pa, .ref ro, .int 0])), (pe, .inr (9, [.int 4, .ref a1, .ref a2, .ref a3, .ref a4, .ref a5, .ref a6, .ref a7, .ref a8, .ref a9])), (a1, .inl (cy 0, 20, .inl f1)), (a2, .inl (cy 0, 20, .inl f2)), (oa, .inl (cy 3, 1, .inr (.inl og)))]) hD hS hA [0, 1, 2, 3, 10] rfl
  refine vx_calli (vx_runSX (As := [.ref h, .int 0, .int 0, .ref oa]) (rest := []) ⟨hx, hb, hml, hown, hts⟩ (c_L_addPerson_4 l hst D cy ed H.size h pe ne pa ro 0 a1 a2 a3 a4 a5 a6 a7 a8 a9 f1 f2 oa og) (vx_cwSW 4 hts (zx_GS mm_329 mm_330 mm_70 mm_331) rfl rfl rfl (by decide +kernel) ⟨(Nat.le_of_ble_eq_true rfl), (Nat.le_of_ble_eq_true rfl)⟩) ⟨zx_blind, zx_give hPc hK hDc hS hFc hZ hN⟩ rfl rfl hl.1 rfl (lv_room (Nat.le_of_ble_eq_true rfl)) dL_law_314 ⟨(Nat.le_of_ble_eq_true rfl), (Nat.le_of_ble_eq_true rfl)⟩) hS (fun q _ h => hFc q h) hFc (fun q _ h => hFc q h) (fun E9 ce9 q9 _ t H locs ht hvm _ hBX hz1 hk1 hS hce hcv hcl => ?_) (fun r9 u t H locs ht hvm hw hB hz1 hk1 hS => ?_)
  · exact hBX.elim
  ·
    obtain ⟨f3_1341, f4_1342, o2_1343⟩ := u
    obtain ⟨rfl, h_1344⟩ := hw
    obtain ⟨hP, hD⟩ := zx_join (wr := [(ro, .inl (cy 0, 20, .inl f0)), (pa, .inr (4, [.int mc, .ref ed, .int 0])), (m0, .inr (20, [.int 0, .ref mp, .int 0, .ref b1, .ref b2, .ref b3, .ref b4, .ref b5, .ref mq])), (mp, .inr (4, [.int mm, .ref ep, .int 4])), (ep, .inl (cy 2, 10, .inr (.inr (.inr (.inr gp))))), (mq, .inr (4, [.int mn, .ref ed, .int 0])), (p0, .inr (17, t0)), (p1, .inr (17, t1)), (p2, .inr (17, t2)), (p3, .inr (17, t3))]) (w1 := [(h, .inr (13, [.ref pe, .ref ne, .ref pa, .ref ro, .int 0])), (pe, .inr (9, [.int 5, .ref a1, .ref a2, .ref a3, .ref a4, .ref a5, .ref a6, .ref a7, .ref a8, .ref a9])), (a1, .inl (cy 0, 20, .inl f3_1341)), (a2, .inl (cy 0, 20, .inl f4_1342)), (oa, .inl (cy 3, 1, .inr (.inl o2_1343)))]) [0, 1, 2, 3, 10] [4, 5, 6, 7, 8, 9, 11, 12, 13, 14] rfl rfl (by decide) (by decide) hP hD hk1 hFc hB ht
    have hP : va_P D vwCl [(ro, .inl (cy 0, 20, .inl f0)), (pa, .inr (4, [.int mc, .ref ed, .int 0])), (m0, .inr (20, [.int 0, .ref mp, .int 0, .ref b1, .ref b2, .ref b3, .ref b4, .ref b5, .ref mq])), (mp, .inr (4, [.int mm, .ref ep, .int 4])), (ep, .inl (cy 2, 10, .inr (.inr (.inr (.inr gp))))), (mq, .inr (4, [.int mn, .ref ed, .int 0])), (p0, .inr (17, t0)), (p1, .inr (17, t1)), (p2, .inr (17, t2)), (p3, .inr (17, t3)), (h, .inr (13, [.ref pe, .ref ne, .ref pa, .ref ro, .int 0])), (pe, .inr (9, [.int 5, .ref a1, .ref a2, .ref a3, .ref a4, .ref a5, .ref a6, .ref a7, .ref a8, .ref a9])), (a1, .inl (cy 0, 20, .inl f3_1341)), (a2, .inl (cy 0, 20, .inl f4_1342)), (oa, .inl (cy 3, 1, .inr (.inl o2_1343)))] H := hP
    have hD : va_D A [(ro, .inl (cy 0, 20, .inl f0)), (pa, .inr (4, [.int mc, .ref ed, .int 0])), (m0, .inr (20, [.int 0, .ref mp, .int 0, .ref b1, .ref b2, .ref b3, .ref b4, .ref b5, .ref mq])), (mp, .inr (4, [.int mm, .ref ep, .int 4])), (ep, .inl (cy 2, 10, .inr (.inr (.inr (.inr gp))))), (mq, .inr (4, [.int mn, .ref ed, .int 0])), (p0, .inr (17, t0)), (p1, .inr (17, t1)), (p2, .inr (17, t2)), (p3, .inr (17, t3)), (h, .inr (13, [.ref pe, .ref ne, .ref pa, .ref ro, .int 0])), (pe, .inr (9, [.int 5, .ref a1, .ref a2, .ref a3, .ref a4, .ref a5, .ref a6, .ref a7, .ref a8, .ref a9])), (a1, .inl (cy 0, 20, .inl f3_1341)), (a2, .inl (cy 0, 20, .inl f4_1342)), (oa, .inl (cy 3, 1, .inr (.inl o2_1343)))] := hD
    refine W.widen (k := 53) (n := 1430) (Nat.le_of_ble_eq_true rfl) (Nat.le_of_ble_eq_true rfl) ?_
    refine lv_istore (lv' := [(6, .int 0), (5, .int 24), (3, .ref oa), (2, .ref m0), (1, .ref h), (0, .ref b)]) hx hb dL_law_317 hl (by decide) rfl (fun ls hl => ?_)
    refine lv_aload_n hx hb dL_law_319 rfl (lv_at hl 3 rfl) ?_
    refine lv_aload_n hx hb dL_law_320 rfl (lv_at hl 5 rfl) ?_
    refine lv_iload hx hb dL_law_321 (lv_at hl 1 rfl) ?_
    refine lv_iconst (v := 1) hx hb dL_law_323 (by decide) ?_
    refine lv_iadd hx hb dL_law_324 ?_
    refine lv_topi (fun y9 ey9 => ?_)
    obtain rfl : y9 = 25 := by rw [ey9] <;> decide
    refine va_sld hx hb hX hbl hbA hS (zx_bn (by decide)) dL_law_325 ?_
    refine lv_topi (fun y9 ey9 => ?_)
    obtain rfl : y9 = 0 := ey9.trans (by decide)
    refine lv_aload_n hx hb dL_law_326 rfl (lv_at hl 5 rfl) ?_
    refine lv_iload hx hb dL_law_327 (lv_at hl 1 rfl) ?_
    refine lv_iconst (v := 2) hx hb dL_law_329 (by decide) ?_
    refine lv_iadd hx hb dL_law_330 ?_
    refine lv_topi (fun y9 ey9 => ?_)
    obtain rfl : y9 = 26 := by rw [ey9] <;> decide
    refine va_sld hx hb hX hbl hbA hS (zx_bn (by decide)) dL_law_331 ?_
    refine lv_topi (fun y9 ey9 => ?_)
    obtain rfl : y9 = 0 := ey9.trans (by decide)
    have hPc := hP.sub (ws' := [(m0, .inr (20, [.int 0, .ref mp, .int 0, .ref b1, .ref b2, .ref b3, .ref b4, .ref b5, .ref mq])), (mp, .inr (4, [.int mm, .ref ep, .int 4])), (ep, .inl (cy 2, 10, .inr (.inr (.inr (.inr gp)))))]) [2, 3, 4] rfl
    have hDc := hD.sub (ws' := [(m0, .inr (20, [.int 0, .ref mp, .int 0, .ref b1, .ref b2, .ref b3, .ref b4, .ref b5, .ref mq])), (mp, .inr (4, [.int mm, .ref ep, .int 4])), (ep, .inl (cy 2, 10, .inr (.inr (.inr (.inr gp)))))]) [2, 3, 4] (by decide) rfl
    have hFc := va_free (wc := [(m0, .inr (20, [.int 0, .ref mp, .int 0, .ref b1, .ref b2, .ref b3, .ref b4, .ref b5, .ref mq])), (mp, .inr (4, [.int mm, .ref ep, .int 4])), (ep, .inl (cy 2, 10, .inr (.inr (.inr (.inr gp)))))]) hD hS hA [2, 3, 4] rfl
    refine va_calli (va_runV (As := [.int 0, .int 0]) (rest := []) ⟨hx, hb, hml, hown, hts⟩ (c_X15_addPerson_4 l hst D cy ed H.size m0 mp mq b1 b2 b3 b4 b5 0 0 mm ep gp) (cwV 2 hts (zx_GV mm_1599 mm_1600 mm_1601 mm_78 mm_1602) rfl rfl rfl (by decide +kernel) ⟨(Nat.le_of_ble_eq_true rfl), (Nat.le_of_ble_eq_true rfl)⟩) ⟨zx_blind, va_recv hK hPc (ci := 20) (q0 := 0) rfl rfl, zx_give hPc hK hDc hS hFc hZ hN⟩ rfl rfl hl.1 rfl (lv_room (Nat.le_of_ble_eq_true rfl)) dL_law_332 ⟨(Nat.le_of_ble_eq_true rfl), (Nat.le_of_ble_eq_true rfl)⟩) hS (fun q _ h => hFc q h) hFc (fun r9 u t H1 locs ht hvm hw hB hz1 hk1 hS => ?_)
    obtain ⟨mx_1345, qx_1346, g2_1347, y_1348, fy_1349⟩ := u
    obtain ⟨rfl, h_1350⟩ := hw
    obtain ⟨hP, hD⟩ := zx_join (wr := [(ro, .inl (cy 0, 20, .inl f0)), (pa, .inr (4, [.int mc, .ref ed, .int 0])), (mq, .inr (4, [.int mn, .ref ed, .int 0])), (p0, .inr (17, t0)), (p1, .inr (17, t1)), (p2, .inr (17, t2)), (p3, .inr (17, t3)), (h, .inr (13, [.ref pe, .ref ne, .ref pa, .ref ro, .int 0])), (pe, .inr (9, [.int 5, .ref a1, .ref a2, .ref a3, .ref a4, .ref a5, .ref a6, .ref a7, .ref a8, .ref a9])), (a1, .inl (cy 0, 20, .inl f3_1341)), (a2, .inl (cy 0, 20, .inl f4_1342)), (oa, .inl (cy 3, 1, .inr (.inl o2_1343)))]) (w1 := [(m0, .inr (20, [.int 0, .ref mp, .int 0, .ref b1, .ref b2, .ref b3, .ref b4, .ref b5, .ref mq])), (mp, .inr (4, [.int mx_1345, .ref qx_1346, .int 5])), (qx_1346, .inl (cy 2, 10, .inr (.inr (.inr (.inr g2_1347))))), (y_1348, .inr (17, fy_1349))]) [2, 3, 4] [0, 1, 5, 6, 7, 8, 9, 10, 11, 12, 13, 14] rfl rfl (by decide) (by decide) hP hD hk1 hFc hB ht
    generalize H1 = H at hP hS ⊢
    have hP : va_P D vwCl [(ro, .inl (cy 0, 20, .inl f0)), (pa, .inr (4, [.int mc, .ref ed, .int 0])), (mq, .inr (4, [.int mn, .ref ed, .int 0])), (p0, .inr (17, t0)), (p1, .inr (17, t1)), (p2, .inr (17, t2)), (p3, .inr (17, t3)), (h, .inr (13, [.ref pe, .ref ne, .ref pa, .ref ro, .int 0])), (pe, .inr (9, [.int 5, .ref a1, .ref a2, .ref a3, .ref a4, .ref a5, .ref a6, .ref a7, .ref a8, .ref a9])), (a1, .inl (cy 0, 20, .inl f3_1341)), (a2, .inl (cy 0, 20, .inl f4_1342)), (oa, .inl (cy 3, 1, .inr (.inl o2_1343))), (m0, .inr (20, [.int 0, .ref mp, .int 0, .ref b1, .ref b2, .ref b3, .ref b4, .ref b5, .ref mq])), (mp, .inr (4, [.int mx_1345, .ref qx_1346, .int 5])), (qx_1346, .inl (cy 2, 10, .inr (.inr (.inr (.inr g2_1347))))), (y_1348, .inr (17, fy_1349))] H := hP
    have hD : va_D A [(ro, .inl (cy 0, 20, .inl f0)), (pa, .inr (4, [.int mc, .ref ed, .int 0])), (mq, .inr (4, [.int mn, .ref ed, .int 0])), (p0, .inr (17, t0)), (p1, .inr (17, t1)), (p2, .inr (17, t2)), (p3, .inr (17, t3)), (h, .inr (13, [.ref pe, .ref ne, .ref pa, .ref ro, .int 0])), (pe, .inr (9, [.int 5, .ref a1, .ref a2, .ref a3, .ref a4, .ref a5, .ref a6, .ref a7, .ref a8, .ref a9])), (a1, .inl (cy 0, 20, .inl f3_1341)), (a2, .inl (cy 0, 20, .inl f4_1342)), (oa, .inl (cy 3, 1, .inr (.inl o2_1343))), (m0, .inr (20, [.int 0, .ref mp, .int 0, .ref b1, .ref b2, .ref b3, .ref b4, .ref b5, .ref mq])), (mp, .inr (4, [.int mx_1345, .ref qx_1346, .int 5])), (qx_1346, .inl (cy 2, 10, .inr (.inr (.inr (.inr g2_1347))))), (y_1348, .inr (17, fy_1349))] := hD
    refine W.widen (k := 56) (n := 1460) (Nat.le_of_ble_eq_true rfl) (Nat.le_of_ble_eq_true rfl) ?_
    obtain ⟨hs_1351, hs_1352⟩ := h_1350
    refine lv_istore (lv' := [(7, .int 4), (6, .int 0), (5, .int 24), (3, .ref oa), (2, .ref m0), (1, .ref h), (0, .ref b)]) hx hb dL_law_335 hl (by decide) rfl (fun ls hl => ?_)
    refine lv_goto (tgt := 2542) hx hb dL_law_337 (by decide) ?_
    refine lv_iinc (v := 30) (lv' := [(5, .int 30), (7, .int 4), (6, .int 0), (3, .ref oa), (2, .ref m0), (1, .ref h), (0, .ref b)]) hx hb dL_law_2542 hl (k := 2) rfl (by decide) (by decide) rfl (fun ls hl => ?_)
    refine lv_goto (tgt := 28) hx hb dL_law_2545 (by decide) ?_
    have hP := hP.sub (ws' := [(h, .inr (13, [.ref pe, .ref ne, .ref pa, .ref ro, .int 0])), (pe, .inr (9, [.int 5, .ref a1, .ref a2, .ref a3, .ref a4, .ref a5, .ref a6, .ref a7, .ref a8, .ref a9])), (a1, .inl (cy 0, 20, .inl f3_1341)), (a2, .inl (cy 0, 20, .inl f4_1342)), (ro, .inl (cy 0, 20, .inl f0)), (pa, .inr (4, [.int mc, .ref ed, .int 0])), (m0, .inr (20, [.int 0, .ref mp, .int 0, .ref b1, .ref b2, .ref b3, .ref b4, .ref b5, .ref mq])), (mp, .inr (4, [.int mx_1345, .ref qx_1346, .int 5])), (qx_1346, .inl (cy 2, 10, .inr (.inr (.inr (.inr g2_1347))))), (mq, .inr (4, [.int mn, .ref ed, .int 0])), (oa, .inl (cy 3, 1, .inr (.inl o2_1343))), (p0, .inr (17, t0)), (p1, .inr (17, t1)), (p2, .inr (17, t2)), (p3, .inr (17, t3)), (y_1348, .inr (17, fy_1349))]) [7, 8, 9, 10, 0, 1, 12, 13, 14, 2, 11, 3, 4, 5, 6, 15] rfl
    have hD := hD.sub (ws' := [(h, .inr (13, [.ref pe, .ref ne, .ref pa, .ref ro, .int 0])), (pe, .inr (9, [.int 5, .ref a1, .ref a2, .ref a3, .ref a4, .ref a5, .ref a6, .ref a7, .ref a8, .ref a9])), (a1, .inl (cy 0, 20, .inl f3_1341)), (a2, .inl (cy 0, 20, .inl f4_1342)), (ro, .inl (cy 0, 20, .inl f0)), (pa, .inr (4, [.int mc, .ref ed, .int 0])), (m0, .inr (20, [.int 0, .ref mp, .int 0, .ref b1, .ref b2, .ref b3, .ref b4, .ref b5, .ref mq])), (mp, .inr (4, [.int mx_1345, .ref qx_1346, .int 5])), (qx_1346, .inl (cy 2, 10, .inr (.inr (.inr (.inr g2_1347))))), (mq, .inr (4, [.int mn, .ref ed, .int 0])), (oa, .inl (cy 3, 1, .inr (.inl o2_1343))), (p0, .inr (17, t0)), (p1, .inr (17, t1)), (p2, .inr (17, t2)), (p3, .inr (17, t3)), (y_1348, .inr (17, fy_1349))]) [7, 8, 9, 10, 0, 1, 12, 13, 14, 2, 11, 3, 4, 5, 6, 15] (by decide) rfl
    exact hnext _ _ _ ⟨pe, ne, pa, ro, a1, a2, a3, a4, a5, a6, a7, a8, a9, mp, mq, b1, b2, b3, b4, b5, qx_1346, mc, mx_1345, mn, f3_1341, f4_1342, f0, o2_1343, g2_1347, p0, p1, p2, p3, y_1348, t0, t1, t2, t3, fy_1349, hP, hD, ((hs_1352 0 (by decide)).trans hp0), ((hs_1352 1 (by decide)).trans hp1), ((hs_1352 2 (by decide)).trans hp2), ((hs_1352 3 (by decide)).trans hp3), hs_1351⟩ hS (lv_sub hl [0, 3, 4, 5, 6] rfl)
set_option maxHeartbeats 4000000 in
set_option maxRecDepth 100000 in
theorem law_step_5 {p : Program} {l : Launch} {e : Env} {s : State} {m : MethodId} {below : List Frame} {meth : Method} {c : Code} {D : va_G} {cy : Nat → ClassId} {ed b : Nat} {A : Nat → Prop} {Q : State → Prop} (C0 : zx_LW p l s m c D cy ed b A) {h m0 oa : Nat} {H : Heap} {locs : List Loc} {ls : Array Slot} (h0 : zx_S5 D cy ed A h m0 oa H) (hS : va_S A s.heap H locs) (hl : lv_has ls 9 [(5, .int 30), (3, .ref oa), (2, .ref m0), (1, .ref h), (0, .ref b)])
    (hnext : ∀ (H : Heap) (locs : List Loc) (ls : Array Slot), zx_S6 D cy ed A h m0 oa H → va_S A s.heap H locs → lv_has ls 9 [(5, .int 36), (3, .ref oa), (2, .ref m0), (1, .ref h), (0, .ref b)] → W p l e zx_R s m #[Value.ref b] below meth c H locs 59 1490 Q (F0 m 28 ls [])) :
    W p l e zx_R s m #[Value.ref b] below meth c H locs 56 1460 Q (F0 m 28 ls []) := by
  obtain ⟨hx, hb, hml, hst, hown, hts, hX, hbl, hbA, hA, hK, hZ, hN⟩ := C0
  obtain ⟨pe, ne, pa, ro, a1, a2, a3, a4, a5, a6, a7, a8, a9, mp, mq, b1, b2, b3, b4, b5, ep, mc, mm, mn, f1, f2, f0, og, gp, p0, p1, p2, p3, p4, t0, t1, t2, t3, t4, hP, hD, hp0, hp1, hp2, hp3, hp4⟩ := h0
  refine lv_iload hx hb dL_law_28 (lv_at hl 0 rfl) ?_
  refine lv_aload_n hx hb dL_law_30 rfl (lv_at hl 4 rfl) ?_
  refine va_slen hx hb hX hbl hbA hS dL_law_31 ?_
  refine lv_topi (fun y9 ey9 => ?_)
  obtain rfl : y9 = 3072 := ey9.trans (by decide)
  refine lv_bipush (v := 6) hx hb dL_law_32 (by decide) ?_
  refine lv_isub hx hb dL_law_34 ?_
  refine lv_topi (fun y9 ey9 => ?_)
  obtain rfl : y9 = 3066 := by rw [ey9] <;> decide
  refine lv_icmp_gt (tgt := 2548) hx hb dL_law_35 (by decide) (fun c_1353 => absurd c_1353 (by decide)) (fun _ => ?_)
  refine lv_aload_n hx hb dL_law_38 rfl (lv_at hl 4 rfl) ?_
  refine lv_iload hx hb dL_law_39 (lv_at hl 0 rfl) ?_
  refine va_sld hx hb hX hbl hbA hS (zx_bn (by decide)) dL_law_41 ?_
  refine lv_topi (fun y9 ey9 => ?_)
  obtain rfl : y9 = 0 := ey9.trans (by decide)
  refine lv_bipush (v := 63) hx hb dL_law_42 (by decide) ?_
  refine lv_iand hx hb dL_law_44 ?_
  refine lv_topi (fun y9 ey9 => ?_)
  obtain rfl : y9 = 0 := by rw [ey9] <;> decide
  refine lv_tableIn (off := 255) (tgt := 300) hx hb dL_law_45 (by decide) (by decide) (by decide) (by decide) ?_
  refine lv_aload_n hx hb dL_law_300 rfl (lv_at hl 3 rfl) ?_
  refine lv_aload_n hx hb dL_law_301 rfl (lv_at hl 4 rfl) ?_
  refine lv_iload hx hb dL_law_302 (lv_at hl 0 rfl) ?_
  refine lv_iconst (v := 1) hx hb dL_law_304 (by decide) ?_
  refine lv_iadd hx hb dL_law_305 ?_
  refine lv_topi (fun y9 ey9 => ?_)
  obtain rfl : y9 = 31 := by rw [ey9] <;> decide
  refine va_sld hx hb hX hbl hbA hS (zx_bn (by decide)) dL_law_306 ?_
  refine lv_topi (fun y9 ey9 => ?_)
  obtain rfl : y9 = 0 := ey9.trans (by decide)
  refine lv_aload_n hx hb dL_law_307 rfl (lv_at hl 4 rfl) ?_
  refine lv_iload hx hb dL_law_308 (lv_at hl 0 rfl) ?_
  refine lv_iconst (v := 2) hx hb dL_law_310 (by decide) ?_
  refine lv_iadd hx hb dL_law_311 ?_
  refine lv_topi (fun y9 ey9 => ?_)
  obtain rfl : y9 = 32 := by rw [ey9] <;> decide
  refine va_sld hx hb hX hbl hbA hS (zx_bn (by decide)) dL_law_312 ?_
  refine lv_topi (fun y9 ey9 => ?_)
  obtain rfl : y9 = 0 := ey9.trans (by decide)
  refine lv_aload_n hx hb dL_law_313 rfl (lv_at hl 1 rfl) ?_
  have hPc := hP.sub (ws' := [(h, .inr (13, [.ref pe, .ref ne, .ref pa, .ref ro, .int 0])), (pe, .inr (9, [.int 5, .ref a1, .ref a2, .ref a3, .ref a4, .ref a5, .ref a6, .ref a7, .ref a8, .ref a9])), (a1, .inl (cy 0, 20, .inl f1)), (a2, .inl (cy 0, 20, .inl f2)), (oa, .inl (cy 3, 1, .inr (.inl og)))]) [0, 1, 2, 3, 10] rfl
  have hDc := hD.sub (ws' := [(h, .inr (13, [.ref pe, .ref ne, .ref pa, .ref ro, .int 0])), (pe, .inr (9, [.int 5, .ref a1, .ref a2, .ref a3, .ref a4, .ref a5, .ref a6, .ref a7, .ref a8, .ref a9])), (a1, .inl (cy 0, 20, .inl f1)), (a2, .inl (cy 0, 20, .inl f2)), (oa, .inl (cy 3, 1, .inr (.inl og)))]) [0, 1, 2, 3, 10] (by decide) rfl
  have hFc := va_free (wc := [(h, .inr (13, [.ref pe, .ref ne, .ref pa, .ref ro, .int 0])), (pe, .inr (9, [.int 5, .ref a1, .ref a2, .ref a3, .ref a4, .ref a5, .ref a6, .ref a7, .ref a8, .ref a9])), (a1, .inl (cy 0, 20, .inl f1)), (a2, .inl (cy 0, 20, .inl f2)), (oa, .inl (cy 3, 1, .inr (.inl og)))]) hD hS hA [0, 1, 2, 3, 10] rfl
  refine vx_calli (vx_runSX (As := [.ref h, .int 0, .int 0, .ref oa]) (rest := []) ⟨hx, hb, hml, hown, hts⟩ (c_L_addPerson_5 l hst D cy ed H.size h pe ne pa ro 0 a1 a2 a3 a4 a5 a6 a7 a8 a9 f1 f2 oa og) (vx_cwSW 4 hts (zx_GS mm_329 mm_330 mm_70 mm_331) rfl rfl rfl (by decide +kernel) ⟨(Nat.le_of_ble_eq_true rfl), (Nat.le_of_ble_eq_true rfl)⟩) ⟨zx_blind, zx_give hPc hK hDc hS hFc hZ hN⟩ rfl rfl hl.1 rfl (lv_room (Nat.le_of_ble_eq_true rfl)) dL_law_314 ⟨(Nat.le_of_ble_eq_true rfl), (Nat.le_of_ble_eq_true rfl)⟩) hS (fun q _ h => hFc q h) hFc (fun q _ h => hFc q h) (fun E9 ce9 q9 _ t H locs ht hvm _ hBX hz1 hk1 hS hce hcv hcl => ?_) (fun r9 u t H locs ht hvm hw hB hz1 hk1 hS => ?_)
  · exact hBX.elim
  ·
    obtain ⟨f3_1354, f4_1355, o2_1356⟩ := u
    obtain ⟨rfl, h_1357⟩ := hw
    obtain ⟨hP, hD⟩ := zx_join (wr := [(ro, .inl (cy 0, 20, .inl f0)), (pa, .inr (4, [.int mc, .ref ed, .int 0])), (m0, .inr (20, [.int 0, .ref mp, .int 0, .ref b1, .ref b2, .ref b3, .ref b4, .ref b5, .ref mq])), (mp, .inr (4, [.int mm, .ref ep, .int 5])), (ep, .inl (cy 2, 10, .inr (.inr (.inr (.inr gp))))), (mq, .inr (4, [.int mn, .ref ed, .int 0])), (p0, .inr (17, t0)), (p1, .inr (17, t1)), (p2, .inr (17, t2)), (p3, .inr (17, t3)), (p4, .inr (17, t4))]) (w1 := [(h, .inr (13, [.ref pe, .ref ne, .ref pa, .ref ro, .int 0])), (pe, .inr (9, [.int 6, .ref a1, .ref a2, .ref a3, .ref a4, .ref a5, .ref a6, .ref a7, .ref a8, .ref a9])), (a1, .inl (cy 0, 20, .inl f3_1354)), (a2, .inl (cy 0, 20, .inl f4_1355)), (oa, .inl (cy 3, 1, .inr (.inl o2_1356)))]) [0, 1, 2, 3, 10] [4, 5, 6, 7, 8, 9, 11, 12, 13, 14, 15] rfl rfl (by decide) (by decide) hP hD hk1 hFc hB ht
    have hP : va_P D vwCl [(ro, .inl (cy 0, 20, .inl f0)), (pa, .inr (4, [.int mc, .ref ed, .int 0])), (m0, .inr (20, [.int 0, .ref mp, .int 0, .ref b1, .ref b2, .ref b3, .ref b4, .ref b5, .ref mq])), (mp, .inr (4, [.int mm, .ref ep, .int 5])), (ep, .inl (cy 2, 10, .inr (.inr (.inr (.inr gp))))), (mq, .inr (4, [.int mn, .ref ed, .int 0])), (p0, .inr (17, t0)), (p1, .inr (17, t1)), (p2, .inr (17, t2)), (p3, .inr (17, t3)), (p4, .inr (17, t4)), (h, .inr (13, [.ref pe, .ref ne, .ref pa, .ref ro, .int 0])), (pe, .inr (9, [.int 6, .ref a1, .ref a2, .ref a3, .ref a4, .ref a5, .ref a6, .ref a7, .ref a8, .ref a9])), (a1, .inl (cy 0, 20, .inl f3_1354)), (a2, .inl (cy 0, 20, .inl f4_1355)), (oa, .inl (cy 3, 1, .inr (.inl o2_1356)))] H := hP
    have hD : va_D A [(ro, .inl (cy 0, 20, .inl f0)), (pa, .inr (4, [.int mc, .ref ed, .int 0])), (m0, .inr (20, [.int 0, .ref mp, .int 0, .ref b1, .ref b2, .ref b3, .ref b4, .ref b5, .ref mq])), (mp, .inr (4, [.int mm, .ref ep, .int 5])), (ep, .inl (cy 2, 10, .inr (.inr (.inr (.inr gp))))), (mq, .inr (4, [.int mn, .ref ed, .int 0])), (p0, .inr (17, t0)), (p1, .inr (17, t1)), (p2, .inr (17, t2)), (p3, .inr (17, t3)), (p4, .inr (17, t4)), (h, .inr (13, [.ref pe, .ref ne, .ref pa, .ref ro, .int 0])), (pe, .inr (9, [.int 6, .ref a1, .ref a2, .ref a3, .ref a4, .ref a5, .ref a6, .ref a7, .ref a8, .ref a9])), (a1, .inl (cy 0, 20, .inl f3_1354)), (a2, .inl (cy 0, 20, .inl f4_1355)), (oa, .inl (cy 3, 1, .inr (.inl o2_1356)))] := hD
    refine W.widen (k := 56) (n := 1460) (Nat.le_of_ble_eq_true rfl) (Nat.le_of_ble_eq_true rfl) ?_
    refine lv_istore (lv' := [(6, .int 0), (5, .int 30), (3, .ref oa), (2, .ref m0), (1, .ref h), (0, .ref b)]) hx hb dL_law_317 hl (by decide) rfl (fun ls hl => ?_)
    refine lv_aload_n hx hb dL_law_319 rfl (lv_at hl 3 rfl) ?_
    refine lv_aload_n hx hb dL_law_320 rfl (lv_at hl 5 rfl) ?_
    refine lv_iload hx hb dL_law_321 (lv_at hl 1 rfl) ?_
    refine lv_iconst (v := 1) hx hb dL_law_323 (by decide) ?_
    refine lv_iadd hx hb dL_law_324 ?_
    refine lv_topi (fun y9 ey9 => ?_)
    obtain rfl : y9 = 31 := by rw [ey9] <;> decide
    refine va_sld hx hb hX hbl hbA hS (zx_bn (by decide)) dL_law_325 ?_
    refine lv_topi (fun y9 ey9 => ?_)
    obtain rfl : y9 = 0 := ey9.trans (by decide)
    refine lv_aload_n hx hb dL_law_326 rfl (lv_at hl 5 rfl) ?_
    refine lv_iload hx hb dL_law_327 (lv_at hl 1 rfl) ?_
    refine lv_iconst (v := 2) hx hb dL_law_329 (by decide) ?_
    refine lv_iadd hx hb dL_law_330 ?_
    refine lv_topi (fun y9 ey9 => ?_)
    obtain rfl : y9 = 32 := by rw [ey9] <;> decide
    refine va_sld hx hb hX hbl hbA hS (zx_bn (by decide)) dL_law_331 ?_
    refine lv_topi (fun y9 ey9 => ?_)
    obtain rfl : y9 = 0 := ey9.trans (by decide)
    have hPc := hP.sub (ws' := [(m0, .inr (20, [.int 0, .ref mp, .int 0, .ref b1, .ref b2, .ref b3, .ref b4, .ref b5, .ref mq])), (mp, .inr (4, [.int mm, .ref ep, .int 5])), (ep, .inl (cy 2, 10, .inr (.inr (.inr (.inr gp)))))]) [2, 3, 4] rfl
    have hDc := hD.sub (ws' := [(m0, .inr (20, [.int 0, .ref mp, .int 0, .ref b1, .ref b2, .ref b3, .ref b4, .ref b5, .ref mq])), (mp, .inr (4, [.int mm, .ref ep, .int 5])), (ep, .inl (cy 2, 10, .inr (.inr (.inr (.inr gp)))))]) [2, 3, 4] (by decide) rfl
    have hFc := va_free (wc := [(m0, .inr (20, [.int 0, .ref mp, .int 0, .ref b1, .ref b2, .ref b3, .ref b4, .ref b5, .ref mq])), (mp, .inr (4, [.int mm, .ref ep, .int 5])), (ep, .inl (cy 2, 10, .inr (.inr (.inr (.inr gp)))))]) hD hS hA [2, 3, 4] rfl
    refine va_calli (va_runV (As := [.int 0, .int 0]) (rest := []) ⟨hx, hb, hml, hown, hts⟩ (c_X15_addPerson_5 l hst D cy ed H.size m0 mp mq b1 b2 b3 b4 b5 0 0 mm ep gp) (cwV 2 hts (zx_GV mm_1599 mm_1600 mm_1601 mm_78 mm_1602) rfl rfl rfl (by decide +kernel) ⟨(Nat.le_of_ble_eq_true rfl), (Nat.le_of_ble_eq_true rfl)⟩) ⟨zx_blind, va_recv hK hPc (ci := 20) (q0 := 0) rfl rfl, zx_give hPc hK hDc hS hFc hZ hN⟩ rfl rfl hl.1 rfl (lv_room (Nat.le_of_ble_eq_true rfl)) dL_law_332 ⟨(Nat.le_of_ble_eq_true rfl), (Nat.le_of_ble_eq_true rfl)⟩) hS (fun q _ h => hFc q h) hFc (fun r9 u t H1 locs ht hvm hw hB hz1 hk1 hS => ?_)
    obtain ⟨mx_1358, qx_1359, g2_1360, y_1361, fy_1362⟩ := u
    obtain ⟨rfl, h_1363⟩ := hw
    obtain ⟨hP, hD⟩ := zx_join (wr := [(ro, .inl (cy 0, 20, .inl f0)), (pa, .inr (4, [.int mc, .ref ed, .int 0])), (mq, .inr (4, [.int mn, .ref ed, .int 0])), (p0, .inr (17, t0)), (p1, .inr (17, t1)), (p2, .inr (17, t2)), (p3, .inr (17, t3)), (p4, .inr (17, t4)), (h, .inr (13, [.ref pe, .ref ne, .ref pa, .ref ro, .int 0])), (pe, .inr (9, [.int 6, .ref a1, .ref a2, .ref a3, .ref a4, .ref a5, .ref a6, .ref a7, .ref a8, .ref a9])), (a1, .inl (cy 0, 20, .inl f3_1354)), (a2, .inl (cy 0, 20, .inl f4_1355)), (oa, .inl (cy 3, 1, .inr (.inl o2_1356)))]) (w1 := [(m0, .inr (20, [.int 0, .ref mp, .int 0, .ref b1, .ref b2, .ref b3, .ref b4, .ref b5, .ref mq])), (mp, .inr (4, [.int mx_1358, .ref qx_1359, .int 6])), (qx_1359, .inl (cy 2, 10, .inr (.inr (.inr (.inr g2_1360))))), (y_1361, .inr (17, fy_1362))]) [2, 3, 4] [0, 1, 5, 6, 7, 8, 9, 10, 11, 12, 13, 14, 15] rfl rfl (by decide) (by decide) hP hD hk1 hFc hB ht
    generalize H1 = H at hP hS ⊢
    have hP : va_P D vwCl [(ro, .inl (cy 0, 20, .inl f0)), (pa, .inr (4, [.int mc, .ref ed, .int 0])), (mq, .inr (4, [.int mn, .ref ed, .int 0])), (p0, .inr (17, t0)), (p1, .inr (17, t1)), (p2, .inr (17, t2)), (p3, .inr (17, t3)), (p4, .inr (17, t4)), (h, .inr (13, [.ref pe, .ref ne, .ref pa, .ref ro, .int 0])), (pe, .inr (9, [.int 6, .ref a1, .ref a2, .ref a3, .ref a4, .ref a5, .ref a6, .ref a7, .ref a8, .ref a9])), (a1, .inl (cy 0, 20, .inl f3_1354)), (a2, .inl (cy 0, 20, .inl f4_1355)), (oa, .inl (cy 3, 1, .inr (.inl o2_1356))), (m0, .inr (20, [.int 0, .ref mp, .int 0, .ref b1, .ref b2, .ref b3, .ref b4, .ref b5, .ref mq])), (mp, .inr (4, [.int mx_1358, .ref qx_1359, .int 6])), (qx_1359, .inl (cy 2, 10, .inr (.inr (.inr (.inr g2_1360))))), (y_1361, .inr (17, fy_1362))] H := hP
    have hD : va_D A [(ro, .inl (cy 0, 20, .inl f0)), (pa, .inr (4, [.int mc, .ref ed, .int 0])), (mq, .inr (4, [.int mn, .ref ed, .int 0])), (p0, .inr (17, t0)), (p1, .inr (17, t1)), (p2, .inr (17, t2)), (p3, .inr (17, t3)), (p4, .inr (17, t4)), (h, .inr (13, [.ref pe, .ref ne, .ref pa, .ref ro, .int 0])), (pe, .inr (9, [.int 6, .ref a1, .ref a2, .ref a3, .ref a4, .ref a5, .ref a6, .ref a7, .ref a8, .ref a9])), (a1, .inl (cy 0, 20, .inl f3_1354)), (a2, .inl (cy 0, 20, .inl f4_1355)), (oa, .inl (cy 3, 1, .inr (.inl o2_1356))), (m0, .inr (20, [.int 0, .ref mp, .int 0, .ref b1, .ref b2, .ref b3, .ref b4, .ref b5, .ref mq])), (mp, .inr (4, [.int mx_1358, .ref qx_1359, .int 6])), (qx_1359, .inl (cy 2, 10, .inr (.inr (.inr (.inr g2_1360))))), (y_1361, .inr (17, fy_1362))] := hD
    refine W.widen (k := 59) (n := 1490) (Nat.le_of_ble_eq_true rfl) (Nat.le_of_ble_eq_true rfl) ?_
    obtain ⟨hs_1364, hs_1365⟩ := h_1363
    refine lv_istore (lv' := [(7, .int 5), (6, .int 0), (5, .int 30), (3, .ref oa), (2, .ref m0), (1, .ref h), (0, .ref b)]) hx hb dL_law_335 hl (by decide) rfl (fun ls hl => ?_)
    refine lv_goto (tgt := 2542) hx hb dL_law_337 (by decide) ?_
    refine lv_iinc (v := 36) (lv' := [(5, .int 36), (7, .int 5), (6, .int 0), (3, .ref oa), (2, .ref m0), (1, .ref h), (0, .ref b)]) hx hb dL_law_2542 hl (k := 2) rfl (by decide) (by decide) rfl (fun ls hl => ?_)
    refine lv_goto (tgt := 28) hx hb dL_law_2545 (by decide) ?_
    have hP := hP.sub (ws' := [(h, .inr (13, [.ref pe, .ref ne, .ref pa, .ref ro, .int 0])), (pe, .inr (9, [.int 6, .ref a1, .ref a2, .ref a3, .ref a4, .ref a5, .ref a6, .ref a7, .ref a8, .ref a9])), (a1, .inl (cy 0, 20, .inl f3_1354)), (a2, .inl (cy 0, 20, .inl f4_1355)), (ro, .inl (cy 0, 20, .inl f0)), (pa, .inr (4, [.int mc, .ref ed, .int 0])), (m0, .inr (20, [.int 0, .ref mp, .int 0, .ref b1, .ref b2, .ref b3, .ref b4, .ref b5, .ref mq])), (mp, .inr (4, [.int mx_1358, .ref qx_1359, .int 6])), (qx_1359, .inl (cy 2, 10, .inr (.inr (.inr (.inr g2_1360))))), (mq, .inr (4, [.int mn, .ref ed, .int 0])), (oa, .inl (cy 3, 1, .inr (.inl o2_1356))), (p0, .inr (17, t0)), (p1, .inr (17, t1)), (p2, .inr (17, t2)), (p3, .inr (17, t3)), (p4, .inr (17, t4)), (y_1361, .inr (17, fy_1362))]) [8, 9, 10, 11, 0, 1, 13, 14, 15, 2, 12, 3, 4, 5, 6, 7, 16] rfl
    have hD := hD.sub (ws' := [(h, .inr (13, [.ref pe, .ref ne, .ref pa, .ref ro, .int 0])), (pe, .inr (9, [.int 6, .ref a1, .ref a2, .ref a3, .ref a4, .ref a5, .ref a6, .ref a7, .ref a8, .ref a9])), (a1, .inl (cy 0, 20, .inl f3_1354)), (a2, .inl (cy 0, 20, .inl f4_1355)), (ro, .inl (cy 0, 20, .inl f0)), (pa, .inr (4, [.int mc, .ref ed, .int 0])), (m0, .inr (20, [.int 0, .ref mp, .int 0, .ref b1, .ref b2, .ref b3, .ref b4, .ref b5, .ref mq])), (mp, .inr (4, [.int mx_1358, .ref qx_1359, .int 6])), (qx_1359, .inl (cy 2, 10, .inr (.inr (.inr (.inr g2_1360))))), (mq, .inr (4, [.int mn, .ref ed, .int 0])), (oa, .inl (cy 3, 1, .inr (.inl o2_1356))), (p0, .inr (17, t0)), (p1, .inr (17, t1)), (p2, .inr (17, t2)), (p3, .inr (17, t3)), (p4, .inr (17, t4)), (y_1361, .inr (17, fy_1362))]) [8, 9, 10, 11, 0, 1, 13, 14, 15, 2, 12, 3, 4, 5, 6, 7, 16] (by decide) rfl
    exact hnext _ _ _ ⟨pe, ne, pa, ro, a1, a2, a3, a4, a5, a6, a7, a8, a9, mp, mq, b1, b2, b3, b4, b5, qx_1359, mc, mx_1358, mn, f3_1354, f4_1355, f0, o2_1356, g2_1360, p0, p1, p2, p3, p4, y_1361, t0, t1, t2, t3, t4, fy_1362, hP, hD, ((hs_1365 0 (by decide)).trans hp0), ((hs_1365 1 (by decide)).trans hp1), ((hs_1365 2 (by decide)).trans hp2), ((hs_1365 3 (by decide)).trans hp3), ((hs_1365 4 (by decide)).trans hp4), hs_1364⟩ hS (lv_sub hl [0, 3, 4, 5, 6] rfl)
set_option maxHeartbeats 4000000 in
set_option maxRecDepth 100000 in
theorem law_step_6 {p : Program} {l : Launch} {e : Env} {s : State} {m : MethodId} {below : List Frame} {meth : Method} {c : Code} {D : va_G} {cy : Nat → ClassId} {ed b : Nat} {A : Nat → Prop} {Q : State → Prop} (C0 : zx_LW p l s m c D cy ed b A) {h m0 oa : Nat} {H : Heap} {locs : List Loc} {ls : Array Slot} (h0 : zx_S6 D cy ed A h m0 oa H) (hS : va_S A s.heap H locs) (hl : lv_has ls 9 [(5, .int 36), (3, .ref oa), (2, .ref m0), (1, .ref h), (0, .ref b)])
    (hnext : ∀ (H : Heap) (locs : List Loc) (ls : Array Slot), zx_S7 D cy ed A h m0 oa H → va_S A s.heap H locs → lv_has ls 9 [(5, .int 42), (3, .ref oa), (2, .ref m0), (1, .ref h), (0, .ref b)] → W p l e zx_R s m #[Value.ref b] below meth c H locs 62 1520 Q (F0 m 28 ls [])) :
    W p l e zx_R s m #[Value.ref b] below meth c H locs 59 1490 Q (F0 m 28 ls []) := by
  obtain ⟨hx, hb, hml, hst, hown, hts, hX, hbl, hbA, hA, hK, hZ, hN⟩ := C0
  obtain ⟨pe, ne, pa, ro, a1, a2, a3, a4, a5, a6, a7, a8, a9, mp, mq, b1, b2, b3, b4, b5, ep, mc, mm, mn, f1, f2, f0, og, gp, p0, p1, p2, p3, p4, p5, t0, t1, t2, t3, t4, t5, hP, hD, hp0, hp1, hp2, hp3, hp4, hp5⟩ := h0
  refine lv_iload hx hb dL_law_28 (lv_at hl 0 rfl) ?_
  refine lv_aload_n hx hb dL_law_30 rfl (lv_at hl 4 rfl) ?_
  refine va_slen hx hb hX hbl hbA hS dL_law_31 ?_
  refine lv_topi (fun y9 ey9 => ?_)
  obtain rfl : y9 = 3072 := ey9.trans (by decide)
  refine lv_bipush (v := 6) hx hb dL_law_32 (by decide) ?_
  refine lv_isub hx hb dL_law_34 ?_
  refine lv_topi (fun y9 ey9 => ?_)
  obtain rfl : y9 = 3066 := by rw [ey9] <;> decide
  refine lv_icmp_gt (tgt := 2548) hx hb dL_law_35 (by decide) (fun c_1366 => absurd c_1366 (by decide)) (fun _ => ?_)
  refine lv_aload_n hx hb dL_law_38 rfl (lv_at hl 4 rfl) ?_
  refine lv_iload hx hb dL_law_39 (lv_at hl 0 rfl) ?_
  refine va_sld hx hb hX hbl hbA hS (zx_bn (by decide)) dL_law_41 ?_
  refine lv_topi (fun y9 ey9 => ?_)
  obtain rfl : y9 = 0 := ey9.trans (by decide)
  refine lv_bipush (v := 63) hx hb dL_law_42 (by decide) ?_
  refine lv_iand hx hb dL_law_44 ?_
  refine lv_topi (fun y9 ey9 => ?_)
  obtain rfl : y9 = 0 := by rw [ey9] <;> decide
  refine lv_tableIn (off := 255) (tgt := 300) hx hb dL_law_45 (by decide) (by decide) (by decide) (by decide) ?_
  refine lv_aload_n hx hb dL_law_300 rfl (lv_at hl 3 rfl) ?_
  refine lv_aload_n hx hb dL_law_301 rfl (lv_at hl 4 rfl) ?_
  refine lv_iload hx hb dL_law_302 (lv_at hl 0 rfl) ?_
  refine lv_iconst (v := 1) hx hb dL_law_304 (by decide) ?_
  refine lv_iadd hx hb dL_law_305 ?_
  refine lv_topi (fun y9 ey9 => ?_)
  obtain rfl : y9 = 37 := by rw [ey9] <;> decide
  refine va_sld hx hb hX hbl hbA hS (zx_bn (by decide)) dL_law_306 ?_
  refine lv_topi (fun y9 ey9 => ?_)
  obtain rfl : y9 = 0 := ey9.trans (by decide)
  refine lv_aload_n hx hb dL_law_307 rfl (lv_at hl 4 rfl) ?_
  refine lv_iload hx hb dL_law_308 (lv_at hl 0 rfl) ?_
  refine lv_iconst (v := 2) hx hb dL_law_310 (by decide) ?_
  refine lv_iadd hx hb dL_law_311 ?_
  refine lv_topi (fun y9 ey9 => ?_)
  obtain rfl : y9 = 38 := by rw [ey9] <;> decide
  refine va_sld hx hb hX hbl hbA hS (zx_bn (by decide)) dL_law_312 ?_
  refine lv_topi (fun y9 ey9 => ?_)
  obtain rfl : y9 = 0 := ey9.trans (by decide)
  refine lv_aload_n hx hb dL_law_313 rfl (lv_at hl 1 rfl) ?_
  have hPc := hP.sub (ws' := [(h, .inr (13, [.ref pe, .ref ne, .ref pa, .ref ro, .int 0])), (pe, .inr (9, [.int 6, .ref a1, .ref a2, .ref a3, .ref a4, .ref a5, .ref a6, .ref a7, .ref a8, .ref a9])), (a1, .inl (cy 0, 20, .inl f1)), (a2, .inl (cy 0, 20, .inl f2)), (oa, .inl (cy 3, 1, .inr (.inl og)))]) [0, 1, 2, 3, 10] rfl
  have hDc := hD.sub (ws' := [(h, .inr (13, [.ref pe, .ref ne, .ref pa, .ref ro, .int 0])), (pe, .inr (9, [.int 6, .ref a1, .ref a2, .ref a3, .ref a4, .ref a5, .ref a6, .ref a7, .ref a8, .ref a9])), (a1, .inl (cy 0, 20, .inl f1)), (a2, .inl (cy 0, 20, .inl f2)), (oa, .inl (cy 3, 1, .inr (.inl og)))]) [0, 1, 2, 3, 10] (by decide) rfl
  have hFc := va_free (wc := [(h, .inr (13, [.ref pe, .ref ne, .ref pa, .ref ro, .int 0])), (pe, .inr (9, [.int 6, .ref a1, .ref a2, .ref a3, .ref a4, .ref a5, .ref a6, .ref a7, .ref a8, .ref a9])), (a1, .inl (cy 0, 20, .inl f1)), (a2, .inl (cy 0, 20, .inl f2)), (oa, .inl (cy 3, 1, .inr (.inl og)))]) hD hS hA [0, 1, 2, 3, 10] rfl
  refine vx_calli (vx_runSX (As := [.ref h, .int 0, .int 0, .ref oa]) (rest := []) ⟨hx, hb, hml, hown, hts⟩ (c_L_addPerson_6 l hst D cy ed H.size h pe ne pa ro 0 a1 a2 a3 a4 a5 a6 a7 a8 a9 f1 f2 oa og) (vx_cwSW 4 hts (zx_GS mm_329 mm_330 mm_70 mm_331) rfl rfl rfl (by decide +kernel) ⟨(Nat.le_of_ble_eq_true rfl), (Nat.le_of_ble_eq_true rfl)⟩) ⟨zx_blind, zx_give hPc hK hDc hS hFc hZ hN⟩ rfl rfl hl.1 rfl (lv_room (Nat.le_of_ble_eq_true rfl)) dL_law_314 ⟨(Nat.le_of_ble_eq_true rfl), (Nat.le_of_ble_eq_true rfl)⟩) hS (fun q _ h => hFc q h) hFc (fun q _ h => hFc q h) (fun E9 ce9 q9 _ t H locs ht hvm _ hBX hz1 hk1 hS hce hcv hcl => ?_) (fun r9 u t H locs ht hvm hw hB hz1 hk1 hS => ?_)
  · exact hBX.elim
  ·
    obtain ⟨f3_1367, f4_1368, o2_1369⟩ := u
    obtain ⟨rfl, h_1370⟩ := hw
    obtain ⟨hP, hD⟩ := zx_join (wr := [(ro, .inl (cy 0, 20, .inl f0)), (pa, .inr (4, [.int mc, .ref ed, .int 0])), (m0, .inr (20, [.int 0, .ref mp, .int 0, .ref b1, .ref b2, .ref b3, .ref b4, .ref b5, .ref mq])), (mp, .inr (4, [.int mm, .ref ep, .int 6])), (ep, .inl (cy 2, 10, .inr (.inr (.inr (.inr gp))))), (mq, .inr (4, [.int mn, .ref ed, .int 0])), (p0, .inr (17, t0)), (p1, .inr (17, t1)), (p2, .inr (17, t2)), (p3, .inr (17, t3)), (p4, .inr (17, t4)), (p5, .inr (17, t5))]) (w1 := [(h, .inr (13, [.ref pe, .ref ne, .ref pa, .ref ro, .int 0])), (pe, .inr (9, [.int 7, .ref a1, .ref a2, .ref a3, .ref a4, .ref a5, .ref a6, .ref a7, .ref a8, .ref a9])), (a1, .inl (cy 0, 20, .inl f3_1367)), (a2, .inl (cy 0, 20, .inl f4_1368)), (oa, .inl (cy 3, 1, .inr (.inl o2_1369)))]) [0, 1, 2, 3, 10] [4, 5, 6, 7, 8, 9, 11, 12, 13, 14, 15, 16] rfl rfl (by decide) (by decide) hP hD hk1 hFc hB ht
    have hP : va_P D vwCl [(ro, .inl (cy 0, 20, .inl f0)), (pa, .inr (4, [.int mc, .ref ed, .int 0])), (m0, .inr (20, [.int 0, .ref mp, .int 0, .ref b1, .ref b2, .ref b3, .ref b4, .ref b5, .ref mq])), (mp, .inr (4, [.int mm, .ref ep, .int 6])), (ep, .inl (cy 2, 10, .inr (.inr (.inr (.inr gp))))), (mq, .inr (4, [.int mn, .ref ed, .int 0])), (p0, .inr (17, t0)), (p1, .inr (17, t1)), (p2, .inr (17, t2)), (p3, .inr (17, t3)), (p4, .inr (17, t4)), (p5, .inr (17, t5)), (h, .inr (13, [.ref pe, .ref ne, .ref pa, .ref ro, .int 0])), (pe, .inr (9, [.int 7, .ref a1, .ref a2, .ref a3, .ref a4, .ref a5, .ref a6, .ref a7, .ref a8, .ref a9])), (a1, .inl (cy 0, 20, .inl f3_1367)), (a2, .inl (cy 0, 20, .inl f4_1368)), (oa, .inl (cy 3, 1, .inr (.inl o2_1369)))] H := hP
    have hD : va_D A [(ro, .inl (cy 0, 20, .inl f0)), (pa, .inr (4, [.int mc, .ref ed, .int 0])), (m0, .inr (20, [.int 0, .ref mp, .int 0, .ref b1, .ref b2, .ref b3, .ref b4, .ref b5, .ref mq])), (mp, .inr (4, [.int mm, .ref ep, .int 6])), (ep, .inl (cy 2, 10, .inr (.inr (.inr (.inr gp))))), (mq, .inr (4, [.int mn, .ref ed, .int 0])), (p0, .inr (17, t0)), (p1, .inr (17, t1)), (p2, .inr (17, t2)), (p3, .inr (17, t3)), (p4, .inr (17, t4)), (p5, .inr (17, t5)), (h, .inr (13, [.ref pe, .ref ne, .ref pa, .ref ro, .int 0])), (pe, .inr (9, [.int 7, .ref a1, .ref a2, .ref a3, .ref a4, .ref a5, .ref a6, .ref a7, .ref a8, .ref a9])), (a1, .inl (cy 0, 20, .inl f3_1367)), (a2, .inl (cy 0, 20, .inl f4_1368)), (oa, .inl (cy 3, 1, .inr (.inl o2_1369)))] := hD
    refine W.widen (k := 59) (n := 1490) (Nat.le_of_ble_eq_true rfl) (Nat.le_of_ble_eq_true rfl) ?_
    refine lv_istore (lv' := [(6, .int 0), (5, .int 36), (3, .ref oa), (2, .ref m0), (1, .ref h), (0, .ref b)]) hx hb dL_law_317 hl (by decide) rfl (fun ls hl => ?_)
    refine lv_aload_n hx hb dL_law_319 rfl (lv_at hl 3 rfl) ?_
    refine lv_aload_n hx hb dL_law_320 rfl (lv_at hl 5 rfl) ?_
    refine lv_iload hx hb dL_law_321 (lv_at hl 1 rfl) ?_
    refine lv_iconst (v := 1) hx hb dL_law_323 (by decide) ?_
    refine lv_iadd hx hb dL_law_324 ?_
    refine lv_topi (fun y9 ey9 => ?_)
    obtain rfl : y9 = 37 := by rw [ey9] <;> decide
    refine va_sld hx hb hX hbl hbA hS (zx_bn (by decide)) dL_law_325 ?_
    refine lv_topi (fun y9 ey9 => ?_)
    obtain rfl : y9 = 0 := ey9.trans (by decide)
    refine lv_aload_n hx hb dL_law_326 rfl (lv_at hl 5 rfl) ?_
    refine lv_iload hx hb dL_law_327 (lv_at hl 1 rfl) ?_
    refine lv_iconst (v := 2) hx hb dL_law_329 (by decide) ?_
    refine lv_iadd hx hb dL_law_330 ?_
    refine lv_topi (fun y9 ey9 => ?_)
    obtain rfl : y9 = 38 := by rw [ey9] <;> decide
    refine va_sld hx hb hX hbl hbA hS (zx_bn (by decide)) dL_law_331 ?_
    refine lv_topi (fun y9 ey9 => ?_)
    obtain rfl : y9 = 0 := ey9.trans (by decide)
    have hPc := hP.sub (ws' := [(m0, .inr (20, [.int 0, .ref mp, .int 0, .ref b1, .ref b2, .ref b3, .ref b4, .ref b5, .ref mq])), (mp, .inr (4, [.int mm, .ref ep, .int 6])), (ep, .inl (cy 2, 10, .inr (.inr (.inr (.inr gp)))))]) [2, 3, 4] rfl
    have hDc := hD.sub (ws' := [(m0, .inr (20, [.int 0, .ref mp, .int 0, .ref b1, .ref b2, .ref b3, .ref b4, .ref b5, .ref mq])), (mp, .inr (4, [.int mm, .ref ep, .int 6])), (ep, .inl (cy 2, 10, .inr (.inr (.inr (.inr gp)))))]) [2, 3, 4] (by decide) rfl
    have hFc := va_free (wc := [(m0, .inr (20, [.int 0, .ref mp, .int 0, .ref b1, .ref b2, .ref b3, .ref b4, .ref b5, .ref mq])), (mp, .inr (4, [.int mm, .ref ep, .int 6])), (ep, .inl (cy 2, 10, .inr (.inr (.inr (.inr gp)))))]) hD hS hA [2, 3, 4] rfl
    refine va_calli (va_runV (As := [.int 0, .int 0]) (rest := []) ⟨hx, hb, hml, hown, hts⟩ (c_X15_addPerson_6 l hst D cy ed H.size m0 mp mq b1 b2 b3 b4 b5 0 0 mm ep gp) (cwV 2 hts (zx_GV mm_1599 mm_1600 mm_1601 mm_78 mm_1602) rfl rfl rfl (by decide +kernel) ⟨(Nat.le_of_ble_eq_true rfl), (Nat.le_of_ble_eq_true rfl)⟩) ⟨zx_blind, va_recv hK hPc (ci := 20) (q0 := 0) rfl rfl, zx_give hPc hK hDc hS hFc hZ hN⟩ rfl rfl hl.1 rfl (lv_room (Nat.le_of_ble_eq_true rfl)) dL_law_332 ⟨(Nat.le_of_ble_eq_true rfl), (Nat.le_of_ble_eq_true rfl)⟩) hS (fun q _ h => hFc q h) hFc (fun r9 u t H1 locs ht hvm hw hB hz1 hk1 hS => ?_)
    obtain ⟨mx_1371, qx_1372, g2_1373, y_1374, fy_1375⟩ := u
    obtain ⟨rfl, h_1376⟩ := hw
    obtain ⟨hP, hD⟩ := zx_join (wr := [(ro, .inl (cy 0, 20, .inl f0)), (pa, .inr (4, [.int mc, .ref ed, .int 0])), (mq, .inr (4, [.int mn, .ref ed, .int 0])), (p0, .inr (17, t0)), (p1, .inr (17, t1)), (p2, .inr (17, t2)), (p3, .inr (17, t3)), (p4, .inr (17, t4)), (p5, .inr (17, t5)), (h, .inr (13, [.ref pe, .ref ne, .ref pa, .ref ro, .int 0])), (pe, .inr (9, [.int 7, .ref a1, .ref a2, .ref a3, .ref a4, .ref a5, .ref a6, .ref a7, .ref a8, .ref a9])), (a1, .inl (cy 0, 20, .inl f3_1367)), (a2, .inl (cy 0, 20, .inl f4_1368)), (oa, .inl (cy 3, 1, .inr (.inl o2_1369)))]) (w1 := [(m0, .inr (20, [.int 0, .ref mp, .int 0, .ref b1, .ref b2, .ref b3, .ref b4, .ref b5, .ref mq])), (mp, .inr (4, [.int mx_1371, .ref qx_1372, .int 7])), (qx_1372, .inl (cy 2, 10, .inr (.inr (.inr (.inr g2_1373))))), (y_1374, .inr (17, fy_1375))]) [2, 3, 4] [0, 1, 5, 6, 7, 8, 9, 10, 11, 12, 13, 14, 15, 16] rfl rfl (by decide) (by decide) hP hD hk1 hFc hB ht
    generalize H1 = H at hP hS ⊢
    have hP : va_P D vwCl [(ro, .inl (cy 0, 20, .inl f0)), (pa, .inr (4, [.int mc, .ref ed, .int 0])), (mq, .inr (4, [.int mn, .ref ed, .int 0])), (p0, .inr (17, t0)), (p1, .inr (17, t1)), (p2, .inr (17, t2)), (p3, .inr (17, t3)), (p4, .inr (17, t4)), (p5, .inr (17, t5)), (h, .inr (13, [.ref pe, .ref ne, .ref pa, .ref ro, .int 0])), (pe, .inr (9, [.int 7, .ref a1, .ref a2, .ref a3, .ref a4, .ref a5, .ref a6, .ref a7, .ref a8, .ref a9])), (a1, .inl (cy 0, 20, .inl f3_1367)), (a2, .inl (cy 0, 20, .inl f4_1368)), (oa, .inl (cy 3, 1, .inr (.inl o2_1369))), (m0, .inr (20, [.int 0, .ref mp, .int 0, .ref b1, .ref b2, .ref b3, .ref b4, .ref b5, .ref mq])), (mp, .inr (4, [.int mx_1371, .ref qx_1372, .int 7])), (qx_1372, .inl (cy 2, 10, .inr (.inr (.inr (.inr g2_1373))))), (y_1374, .inr (17, fy_1375))] H := hP
    have hD : va_D A [(ro, .inl (cy 0, 20, .inl f0)), (pa, .inr (4, [.int mc, .ref ed, .int 0])), (mq, .inr (4, [.int mn, .ref ed, .int 0])), (p0, .inr (17, t0)), (p1, .inr (17, t1)), (p2, .inr (17, t2)), (p3, .inr (17, t3)), (p4, .inr (17, t4)), (p5, .inr (17, t5)), (h, .inr (13, [.ref pe, .ref ne, .ref pa, .ref ro, .int 0])), (pe, .inr (9, [.int 7, .ref a1, .ref a2, .ref a3, .ref a4, .ref a5, .ref a6, .ref a7, .ref a8, .ref a9])), (a1, .inl (cy 0, 20, .inl f3_1367)), (a2, .inl (cy 0, 20, .inl f4_1368)), (oa, .inl (cy 3, 1, .inr (.inl o2_1369))), (m0, .inr (20, [.int 0, .ref mp, .int 0, .ref b1, .ref b2, .ref b3, .ref b4, .ref b5, .ref mq])), (mp, .inr (4, [.int mx_1371, .ref qx_1372, .int 7])), (qx_1372, .inl (cy 2, 10, .inr (.inr (.inr (.inr g2_1373))))), (y_1374, .inr (17, fy_1375))] := hD
    refine W.widen (k := 62) (n := 1520) (Nat.le_of_ble_eq_true rfl) (Nat.le_of_ble_eq_true rfl) ?_
    obtain ⟨hs_1377, hs_1378⟩ := h_1376
    refine lv_istore (lv' := [(7, .int 6), (6, .int 0), (5, .int 36), (3, .ref oa), (2, .ref m0), (1, .ref h), (0, .ref b)]) hx hb dL_law_335 hl (by decide) rfl (fun ls hl => ?_)
    refine lv_goto (tgt := 2542) hx hb dL_law_337 (by decide) ?_
    refine lv_iinc (v := 42) (lv' := [(5, .int 42), (7, .int 6), (6, .int 0), (3, .ref oa), (2, .ref m0), (1, .ref h), (0, .ref b)]) hx hb dL_law_2542 hl (k := 2) rfl (by decide) (by decide) rfl (fun ls hl => ?_)
    refine lv_goto (tgt := 28) hx hb dL_law_2545 (by decide) ?_
    have hP := hP.sub (ws' := [(h, .inr (13, [.ref pe, .ref ne, .ref pa, .ref ro, .int 0])), (pe, .inr (9, [.int 7, .ref a1, .ref a2, .ref a3, .ref a4, .ref a5, .ref a6, .ref a7, .ref a8, .ref a9])), (a1, .inl (cy 0, 20, .inl f3_1367)), (a2, .inl (cy 0, 20, .inl f4_1368)), (ro, .inl (cy 0, 20, .inl f0)), (pa, .inr (4, [.int mc, .ref ed, .int 0])), (m0, .inr (20, [.int 0, .ref mp, .int 0, .ref b1, .ref b2, .ref b3, .ref b4, .ref b5, .ref mq])), (mp, .inr (4, [.int mx_1371, .ref qx_1372, .int 7])), (qx_1372, .inl (cy 2, 10, .inr (.inr (.inr (.inr g2_1373))))), (mq, .inr (4, [.int mn, .ref ed, .int 0])), (oa, .inl (cy 3, 1, .inr (.inl o2_1369))), (p0, .inr (17, t0)), (p1, .inr (17, t1)), (p2, .inr (17, t2)), (p3, .inr (17, t3)), (p4, .inr (17, t4)), (p5, .inr (17, t5)), (y_1374, .inr (17, fy_1375))]) [9, 10, 11, 12, 0, 1, 14, 15, 16, 2, 13, 3, 4, 5, 6, 7, 8, 17] rfl
    have hD := hD.sub (ws' := [(h, .inr (13, [.ref pe, .ref ne, .ref pa, .ref ro, .int 0])), (pe, .inr (9, [.int 7, .ref a1, .ref a2, .ref a3, .ref a4, .ref a5, .ref a6, .ref a7, .ref a8, .ref a9])), (a1, .inl (cy 0, 20, .inl f3_1367)), (a2, .inl (cy 0, 20, .inl f4_1368)), (ro, .inl (cy 0, 20, .inl f0)), (pa, .inr (4, [.int mc, .ref ed, .int 0])), (m0, .inr (20, [.int 0, .ref mp, .int 0, .ref b1, .ref b2, .ref b3, .ref b4, .ref b5, .ref mq])), (mp, .inr (4, [.int mx_1371, .ref qx_1372, .int 7])), (qx_1372, .inl (cy 2, 10, .inr (.inr (.inr (.inr g2_1373))))), (mq, .inr (4, [.int mn, .ref ed, .int 0])), (oa, .inl (cy 3, 1, .inr (.inl o2_1369))), (p0, .inr (17, t0)), (p1, .inr (17, t1)), (p2, .inr (17, t2)), (p3, .inr (17, t3)), (p4, .inr (17, t4)), (p5, .inr (17, t5)), (y_1374, .inr (17, fy_1375))]) [9, 10, 11, 12, 0, 1, 14, 15, 16, 2, 13, 3, 4, 5, 6, 7, 8, 17] (by decide) rfl
    exact hnext _ _ _ ⟨pe, ne, pa, ro, a1, a2, a3, a4, a5, a6, a7, a8, a9, mp, mq, b1, b2, b3, b4, b5, qx_1372, mc, mx_1371, mn, f3_1367, f4_1368, f0, o2_1369, g2_1373, p0, p1, p2, p3, p4, p5, y_1374, t0, t1, t2, t3, t4, t5, fy_1375, hP, hD, ((hs_1378 0 (by decide)).trans hp0), ((hs_1378 1 (by decide)).trans hp1), ((hs_1378 2 (by decide)).trans hp2), ((hs_1378 3 (by decide)).trans hp3), ((hs_1378 4 (by decide)).trans hp4), ((hs_1378 5 (by decide)).trans hp5), hs_1377⟩ hS (lv_sub hl [0, 3, 4, 5, 6] rfl)
set_option maxHeartbeats 4000000 in
set_option maxRecDepth 100000 in
theorem law_step_7 {p : Program} {l : Launch} {e : Env} {s : State} {m : MethodId} {below : List Frame} {meth : Method} {c : Code} {D : va_G} {cy : Nat → ClassId} {ed b : Nat} {A : Nat → Prop} {Q : State → Prop} (C0 : zx_LW p l s m c D cy ed b A) {h m0 oa : Nat} {H : Heap} {locs : List Loc} {ls : Array Slot} (h0 : zx_S7 D cy ed A h m0 oa H) (hS : va_S A s.heap H locs) (hl : lv_has ls 9 [(5, .int 42), (3, .ref oa), (2, .ref m0), (1, .ref h), (0, .ref b)])
    (hnext : ∀ (H : Heap) (locs : List Loc) (ls : Array Slot), zx_S8 D cy ed A h m0 oa H → va_S A s.heap H locs → lv_has ls 9 [(5, .int 48), (3, .ref oa), (2, .ref m0), (1, .ref h), (0, .ref b)] → W p l e zx_R s m #[Value.ref b] below meth c H locs 65 1550 Q (F0 m 28 ls [])) :
    W p l e zx_R s m #[Value.ref b] below meth c H locs 62 1520 Q (F0 m 28 ls []) := by
  obtain ⟨hx, hb, hml, hst, hown, hts, hX, hbl, hbA, hA, hK, hZ, hN⟩ := C0
  obtain ⟨pe, ne, pa, ro, a1, a2, a3, a4, a5, a6, a7, a8, a9, mp, mq, b1, b2, b3, b4, b5, ep, mc, mm, mn, f1, f2, f0, og, gp, p0, p1, p2, p3, p4, p5, p6, t0, t1, t2, t3, t4, t5, t6, hP, hD, hp0, hp1, hp2, hp3, hp4, hp5, hp6⟩ := h0
  refine lv_iload hx hb dL_law_28 (lv_at hl 0 rfl) ?_
  refine lv_aload_n hx hb dL_law_30 rfl (lv_at hl 4 rfl) ?_
  refine va_slen hx hb hX hbl hbA hS dL_law_31 ?_
  refine lv_topi (fun y9 ey9 => ?_)
  obtain rfl : y9 = 3072 := ey9.trans (by decide)
  refine lv_bipush (v := 6) hx hb dL_law_32 (by decide) ?_
  refine lv_isub hx hb dL_law_34 ?_
  refine lv_topi (fun y9 ey9 => ?_)
  obtain rfl : y9 = 3066 := by rw [ey9] <;> decide
  refine lv_icmp_gt (tgt := 2548) hx hb dL_law_35 (by decide) (fun c_1379 => absurd c_1379 (by decide)) (fun _ => ?_)
  refine lv_aload_n hx hb dL_law_38 rfl (lv_at hl 4 rfl) ?_
  refine lv_iload hx hb dL_law_39 (lv_at hl 0 rfl) ?_
  refine va_sld hx hb hX hbl hbA hS (zx_bn (by decide)) dL_law_41 ?_
  refine lv_topi (fun y9 ey9 => ?_)
  obtain rfl : y9 = 0 := ey9.trans (by decide)
  refine lv_bipush (v := 63) hx hb dL_law_42 (by decide) ?_
  refine lv_iand hx hb dL_law_44 ?_
  refine lv_topi (fun y9 ey9 => ?_)
  obtain rfl : y9 = 0 := by rw [ey9] <;> decide
  refine lv_tableIn (off := 255) (tgt := 300) hx hb dL_law_45 (by decide) (by decide) (by decide) (by decide) ?_
  refine lv_aload_n hx hb dL_law_300 rfl (lv_at hl 3 rfl) ?_
  refine lv_aload_n hx hb dL_law_301 rfl (lv_at hl 4 rfl) ?_
  refine lv_iload hx hb dL_law_302 (lv_at hl 0 rfl) ?_
  refine lv_iconst (v := 1) hx hb dL_law_304 (by decide) ?_
  refine lv_iadd hx hb dL_law_305 ?_
  refine lv_topi (fun y9 ey9 => ?_)
  obtain rfl : y9 = 43 := by rw [ey9] <;> decide
  refine va_sld hx hb hX hbl hbA hS (zx_bn (by decide)) dL_law_306 ?_
  refine lv_topi (fun y9 ey9 => ?_)
  obtain rfl : y9 = 0 := ey9.trans (by decide)
  refine lv_aload_n hx hb dL_law_307 rfl (lv_at hl 4 rfl) ?_
  refine lv_iload hx hb dL_law_308 (lv_at hl 0 rfl) ?_
  refine lv_iconst (v := 2) hx hb dL_law_310 (by decide) ?_
  refine lv_iadd hx hb dL_law_311 ?_
  refine lv_topi (fun y9 ey9 => ?_)
  obtain rfl : y9 = 44 := by rw [ey9] <;> decide
  refine va_sld hx hb hX hbl hbA hS (zx_bn (by decide)) dL_law_312 ?_
  refine lv_topi (fun y9 ey9 => ?_)
  obtain rfl : y9 = 0 := ey9.trans (by decide)
  refine lv_aload_n hx hb dL_law_313 rfl (lv_at hl 1 rfl) ?_
  have hPc := hP.sub (ws' := [(h, .inr (13, [.ref pe, .ref ne, .ref pa, .ref ro, .int 0])), (pe, .inr (9, [.int 7, .ref a1, .ref a2, .ref a3, .ref a4, .ref a5, .ref a6, .ref a7, .ref a8, .ref a9])), (a1, .inl (cy 0, 20, .inl f1)), (a2, .inl (cy 0, 20, .inl f2)), (oa, .inl (cy 3, 1, .inr (.inl og)))]) [0, 1, 2, 3, 10] rfl
  have hDc := hD.sub (ws' := [(h, .inr (13, [.ref pe, .ref ne, .ref pa, .ref ro, .int 0])), (pe, .inr (9, [.int 7, .ref a1, .ref a2, .ref a3, .ref a4, .ref a5, .ref a6, .ref a7, .ref a8, .ref a9])), (a1, .inl (cy 0, 20, .inl f1)), (a2, .inl (cy 0, 20, .inl f2)), (oa, .inl (cy 3, 1, .inr (.inl og)))]) [0, 1, 2, 3, 10] (by decide) rfl
  have hFc := va_free (wc := [(h, .inr (13, [.ref pe, .ref ne, .ref pa, .ref ro, .int 0])), (pe, .inr (9, [.int 7, .ref a1, .ref a2, .ref a3, .ref a4, .ref a5, .ref a6, .ref a7, .ref a8, .ref a9])), (a1, .inl (cy 0, 20, .inl f1)), (a2, .inl (cy 0, 20, .inl f2)), (oa, .inl (cy 3, 1, .inr (.inl og)))]) hD hS hA [0, 1, 2, 3, 10] rfl
  refine vx_calli (vx_runSX (As := [.ref h, .int 0, .int 0, .ref oa]) (rest := []) ⟨hx, hb, hml, hown, hts⟩ (c_L_addPerson_7 l hst D cy ed H.size h pe ne pa ro 0 a1 a2 a3 a4 a5 a6 a7 a8 a9 f1 f2 oa og) (vx_cwSW 4 hts (zx_GS mm_329 mm_330 mm_70 mm_331) rfl rfl rfl (by decide +kernel) ⟨(Nat.le_of_ble_eq_true rfl), (Nat.le_of_ble_eq_true rfl)⟩) ⟨zx_blind, zx_give hPc hK hDc hS hFc hZ hN⟩ rfl rfl hl.1 rfl (lv_room (Nat.le_of_ble_eq_true rfl)) dL_law_314 ⟨(Nat.le_of_ble_eq_true rfl), (Nat.le_of_ble_eq_true rfl)⟩) hS (fun q _ h => hFc q h) hFc (fun q _ h => hFc q h) (fun E9 ce9 q9 _ t H locs ht hvm _ hBX hz1 hk1 hS hce hcv hcl => ?_) (fun r9 u t H locs ht hvm hw hB hz1 hk1 hS => ?_)
  · exact hBX.elim
  ·
    obtain ⟨f3_1380, f4_1381, o2_1382⟩ := u
    obtain ⟨rfl, h_1383⟩ := hw
    obtain ⟨hP, hD⟩ := zx_join (wr := [(ro, .inl (cy 0, 20, .inl f0)), (pa, .inr (4, [.int mc, .ref ed, .int 0])), (m0, .inr (20, [.int 0, .ref mp, .int 0, .ref b1, .ref b2, .ref b3, .ref b4, .ref b5, .ref mq])), (mp, .inr (4, [.int mm, .ref ep, .int 7])), (ep, .inl (cy 2, 10, .inr (.inr (.inr (.inr gp))))), (mq, .inr (4, [.int mn, .ref ed, .int 0])), (p0, .inr (17, t0)), (p1, .inr (17, t1)), (p2, .inr (17, t2)), (p3, .inr (17, t3)), (p4, .inr (17, t4)), (p5, .inr (17, t5)), (p6, .inr (17, t6))]) (w1 := [(h, .inr (13, [.ref pe, .ref ne, .ref pa, .ref ro, .int 0])), (pe, .inr (9, [.int 8, .ref a1, .ref a2, .ref a3, .ref a4, .ref a5, .ref a6, .ref a7, .ref a8, .ref a9])), (a1, .inl (cy 0, 20, .inl f3_1380)), (a2, .inl (cy 0, 20, .inl f4_1381)), (oa, .inl (cy 3, 1, .inr (.inl o2_1382)))]) [0, 1, 2, 3, 10] [4, 5, 6, 7, 8, 9, 11, 12, 13, 14, 15, 16, 17] rfl rfl (by decide) (by decide) hP hD hk1 hFc hB ht
    have hP : va_P D vwCl [(ro, .inl (cy 0, 20, .inl f0)), (pa, .inr (4, [.int mc, .ref ed, .int 0])), (m0, .inr (20, [.int 0, .ref mp, .int 0, .ref b1, .ref b2, .ref b3, .ref b4, .ref b5, .ref mq])), (mp, .inr (4, [.int mm, .ref ep, .int 7])), (ep, .inl (cy 2, 10, .inr (.inr (.inr (.inr gp))))), (mq, .inr (4, [.int mn, .ref ed, .int 0])), (p0, .inr (17, t0)), (p1, .inr (17, t1)), (p2, .inr (17, t2)), (p3, .inr (17, t3)), (p4, .inr (17, t4)), (p5, .inr (17, t5)), (p6, .inr (17, t6)), (h, .inr (13, [.ref pe, .ref ne, .ref pa, .ref ro, .int 0])), (pe, .inr (9, [.int 8, .ref a1, .ref a2, .ref a3, .ref a4, .ref a5, .ref a6, .ref a7, .ref a8, .ref a9])), (a1, .inl (cy 0, 20, .inl f3_1380)), (a2, .inl (cy 0, 20, .inl f4_1381)), (oa, .inl (cy 3, 1, .inr (.inl o2_1382)))] H := hP
    have hD : va_D A [(ro, .inl (cy 0, 20, .inl f0)), (pa, .inr (4, [.int mc, .ref ed, .int 0])), (m0, .inr (20, [.int 0, .ref mp, .int 0, .ref b1, .ref b2, .ref b3, .ref b4, .ref b5, .ref mq])), (mp, .inr (4, [.int mm, .ref ep, .int 7])), (ep, .inl (cy 2, 10, .inr (.inr (.inr (.inr gp))))), (mq, .inr (4, [.int mn, .ref ed, .int 0])), (p0, .inr (17, t0)), (p1, .inr (17, t1)), (p2, .inr (17, t2)), (p3, .inr (17, t3)), (p4, .inr (17, t4)), (p5, .inr (17, t5)), (p6, .inr (17, t6)), (h, .inr (13, [.ref pe, .ref ne, .ref pa, .ref ro, .int 0])), (pe, .inr (9, [.int 8, .ref a1, .ref a2, .ref a3, .ref a4, .ref a5, .ref a6, .ref a7, .ref a8, .ref a9])), (a1, .inl (cy 0, 20, .inl f3_1380)), (a2, .inl (cy 0, 20, .inl f4_1381)), (oa, .inl (cy 3, 1, .inr (.inl o2_1382)))] := hD
    refine W.widen (k := 62) (n := 1520) (Nat.le_of_ble_eq_true rfl) (Nat.le_of_ble_eq_true rfl) ?_
    refine lv_istore (lv' := [(6, .int 0), (5, .int 42), (3, .ref oa), (2, .ref m0), (1, .ref h), (0, .ref b)]) hx hb dL_law_317 hl (by decide) rfl (fun ls hl => ?_)
    refine lv_aload_n hx hb dL_law_319 rfl (lv_at hl 3 rfl) ?_
    refine lv_aload_n hx hb dL_law_320 rfl (lv_at hl 5 rfl) ?_
    refine lv_iload hx hb dL_law_321 (lv_at hl 1 rfl) ?_
    refine lv_iconst (v := 1) hx hb dL_law_323 (by decide) ?_
    refine lv_iadd hx hb dL_law_324 ?_
    refine lv_topi (fun y9 ey9 => ?_)
    obtain rfl : y9 = 43 := by rw [ey9] <;> decide
    refine va_sld hx hb hX hbl hbA hS (zx_bn (by decide)) dL_law_325 ?_
    refine lv_topi (fun y9 ey9 => ?_)
    obtain rfl : y9 = 0 := ey9.trans (by decide)
    refine lv_aload_n hx hb dL_law_326 rfl (lv_at hl 5 rfl) ?_
    refine lv_iload hx hb dL_law_327 (lv_at hl 1 rfl) ?_
    refine lv_iconst (v := 2) hx hb dL_law_329 (by decide) ?_
    refine lv_iadd hx hb dL_law_330 ?_
    refine lv_topi (fun y9 ey9 => ?_)
    obtain rfl : y9 = 44 := by rw [ey9] <;> decide
    refine va_sld hx hb hX hbl hbA hS (zx_bn (by decide)) dL_law_331 ?_
    refine lv_topi (fun y9 ey9 => ?_)
    obtain rfl : y9 = 0 := ey9.trans (by decide)
    have hPc := hP.sub (ws' := [(m0, .inr (20, [.int 0, .ref mp, .int 0, .ref b1, .ref b2, .ref b3, .ref b4, .ref b5, .ref mq])), (mp, .inr (4, [.int mm, .ref ep, .int 7])), (ep, .inl (cy 2, 10, .inr (.inr (.inr (.inr gp)))))]) [2, 3, 4] rfl
    have hDc := hD.sub (ws' := [(m0, .inr (20, [.int 0, .ref mp, .int 0, .ref b1, .ref b2, .ref b3, .ref b4, .ref b5, .ref mq])), (mp, .inr (4, [.int mm, .ref ep, .int 7])), (ep, .inl (cy 2, 10, .inr (.inr (.inr (.inr gp)))))]) [2, 3, 4] (by decide) rfl
    have hFc := va_free (wc := [(m0, .inr (20, [.int 0, .ref mp, .int 0, .ref b1, .ref b2, .ref b3, .ref b4, .ref b5, .ref mq])), (mp, .inr (4, [.int mm, .ref ep, .int 7])), (ep, .inl (cy 2, 10, .inr (.inr (.inr (.inr gp)))))]) hD hS hA [2, 3, 4] rfl
    refine va_calli (va_runV (As := [.int 0, .int 0]) (rest := []) ⟨hx, hb, hml, hown, hts⟩ (c_X15_addPerson_7 l hst D cy ed H.size m0 mp mq b1 b2 b3 b4 b5 0 0 mm ep gp) (cwV 2 hts (zx_GV mm_1599 mm_1600 mm_1601 mm_78 mm_1602) rfl rfl rfl (by decide +kernel) ⟨(Nat.le_of_ble_eq_true rfl), (Nat.le_of_ble_eq_true rfl)⟩) ⟨zx_blind, va_recv hK hPc (ci := 20) (q0 := 0) rfl rfl, zx_give hPc hK hDc hS hFc hZ hN⟩ rfl rfl hl.1 rfl (lv_room (Nat.le_of_ble_eq_true rfl)) dL_law_332 ⟨(Nat.le_of_ble_eq_true rfl), (Nat.le_of_ble_eq_true rfl)⟩) hS (fun q _ h => hFc q h) hFc (fun r9 u t H1 locs ht hvm hw hB hz1 hk1 hS => ?_)
    obtain ⟨mx_1384, qx_1385, g2_1386, y_1387, fy_1388⟩ := u
    obtain ⟨rfl, h_1389⟩ := hw
    obtain ⟨hP, hD⟩ := zx_join (wr := [(ro, .inl (cy 0, 20, .inl f0)), (pa, .inr (4, [.int mc, .ref ed, .int 0])), (mq, .inr (4, [.int mn, .ref ed, .int 0])), (p0, .inr (17, t0)), (p1, .inr (17, t1)), (p2, .inr (17, t2)), (p3, .inr (17, t3)), (p4, .inr (17, t4)), (p5, .inr (17, t5)), (p6, .inr (17, t6)), (h, .inr (13, [.ref pe, .ref ne, .ref pa, .ref ro, .int 0])), (pe, .inr (9, [.int 8, .ref a1, .ref a2, .ref a3, .ref a4, .ref a5, .ref a6, .ref a7, .ref a8, .ref a9])), (a1, .inl (cy 0, 20, .inl f3_1380)), (a2, .inl (cy 0, 20, .inl f4_1381)), (oa, .inl (cy 3, 1, .inr (.inl o2_1382)))]) (w1 := [(m0, .inr (20, [.int 0, .ref mp, .int 0, .ref b1, .ref b2, .ref b3, .ref b4, .ref b5, .ref mq])), (mp, .inr (4, [.int mx_1384, .ref qx_1385, .int 8])), (qx_1385, .inl (cy 2, 10, .inr (.inr (.inr (.inr g2_1386))))), (y_1387, .inr (17, fy_1388))]) [2, 3, 4] [0, 1, 5, 6, 7, 8, 9, 10, 11, 12, 13, 14, 15, 16, 17] rfl rfl (by decide) (by decide) hP hD hk1 hFc hB ht
    generalize H1 = H at hP hS ⊢
    have hP : va_P D vwCl [(ro, .inl (cy 0, 20, .inl f0)), (pa, .inr (4, [.int mc, .ref ed, .int 0])), (mq, .inr (4, [.int mn, .ref ed, .int 0])), (p0, .inr (17, t0)), (p1, .inr (17, t1)), (p2, .inr (17, t2)), (p3, .inr (17, t3)), (p4, .inr (17, t4)), (p5, .inr (17, t5)), (p6, .inr (17, t6)), (h, .inr (13, [.ref pe, .ref ne, .ref pa, .ref ro, .int 0])), (pe, .inr (9, [.int 8, .ref a1, .ref a2, .ref a3, .ref a4, .ref a5, .ref a6, .ref a7, .ref a8, .ref a9])), (a1, .inl (cy 0, 20, .inl f3_1380)), (a2, .inl (cy 0, 20, .inl f4_1381)), (oa, .inl (cy 3, 1, .inr (.inl o2_1382))), (m0, .inr (20, [.int 0, .ref mp, .int 0, .ref b1, .ref b2, .ref b3, .ref b4, .ref b5, .ref mq])), (mp, .inr (4, [.int mx_1384, .ref qx_1385, .int 8])), (qx_1385, .inl (cy 2, 10, .inr (.inr (.inr (.inr g2_1386))))), (y_1387, .inr (17, fy_1388))] H := hP
    have hD : va_D A [(ro, .inl (cy 0, 20, .inl f0)), (pa, .inr (4, [.int mc, .ref ed, .int 0])), (mq, .inr (4, [.int mn, .ref ed, .int 0])), (p0, .inr (17, t0)), (p1, .inr (17, t1)), (p2, .inr (17, t2)), (p3, .inr (17, t3)), (p4, .inr (17, t4)), (p5, .inr (17, t5)), (p6, .inr (17, t6)), (h, .inr (13, [.ref pe, .ref ne, .ref pa, .ref ro, .int 0])), (pe, .inr (9, [.int 8, .ref a1, .ref a2, .ref a3, .ref a4, .ref a5, .ref a6, .ref a7, .ref a8, .ref a9])), (a1, .inl (cy 0, 20, .inl f3_1380)), (a2, .inl (cy 0, 20, .inl f4_1381)), (oa, .inl (cy 3, 1, .inr (.inl o2_1382))), (m0, .inr (20, [.int 0, .ref mp, .int 0, .ref b1, .ref b2, .ref b3, .ref b4, .ref b5, .ref mq])), (mp, .inr (4, [.int mx_1384, .ref qx_1385, .int 8])), (qx_1385, .inl (cy 2, 10, .inr (.inr (.inr (.inr g2_1386))))), (y_1387, .inr (17, fy_1388))] := hD
    refine W.widen (k := 65) (n := 1550) (Nat.le_of_ble_eq_true rfl) (Nat.le_of_ble_eq_true rfl) ?_
    obtain ⟨hs_1390, hs_1391⟩ := h_1389
    refine lv_istore (lv' := [(7, .int 7), (6, .int 0), (5, .int 42), (3, .ref oa), (2, .ref m0), (1, .ref h), (0, .ref b)]) hx hb dL_law_335 hl (by decide) rfl (fun ls hl => ?_)
    refine lv_goto (tgt := 2542) hx hb dL_law_337 (by decide) ?_
    refine lv_iinc (v := 48) (lv' := [(5, .int 48), (7, .int 7), (6, .int 0), (3, .ref oa), (2, .ref m0), (1, .ref h), (0, .ref b)]) hx hb dL_law_2542 hl (k := 2) rfl (by decide) (by decide) rfl (fun ls hl => ?_)
    refine lv_goto (tgt := 28) hx hb dL_law_2545 (by decide) ?_
    have hP := hP.sub (ws' := [(h, .inr (13, [.ref pe, .ref ne, .ref pa, .ref ro, .int 0])), (pe, .inr (9, [.int 8, .ref a1, .ref a2, .ref a3, .ref a4, .ref a5, .ref a6, .ref a7, .ref a8, .ref a9])), (a1, .inl (cy 0, 20, .inl f3_1380)), (a2, .inl (cy 0, 20, .inl f4_1381)), (ro, .inl (cy 0, 20, .inl f0)), (pa, .inr (4, [.int mc, .ref ed, .int 0])), (m0, .inr (20, [.int 0, .ref mp, .int 0, .ref b1, .ref b2, .ref b3, .ref b4, .ref b5, .ref mq])), (mp, .inr (4, [.int mx_1384, .ref qx_1385, .int 8])), (qx_1385, .inl (cy 2, 10, .inr (.inr (.inr (.inr g2_1386))))), (mq, .inr (4, [.int mn, .ref ed, .int 0])), (oa, .inl (cy 3, 1, .inr (.inl o2_1382))), (p0, .inr (17, t0)), (p1, .inr (17, t1)), (p2, .inr (17, t2)), (p3, .inr (17, t3)), (p4, .inr (17, t4)), (p5, .inr (17, t5)), (p6, .inr (17, t6)), (y_1387, .inr (17, fy_1388))]) [10, 11, 12, 13, 0, 1, 15, 16, 17, 2, 14, 3, 4, 5, 6, 7, 8, 9, 18] rfl
    have hD := hD.sub (ws' := [(h, .inr (13, [.ref pe, .ref ne, .ref pa, .ref ro, .int 0])), (pe, .inr (9, [.int 8, .ref a1, .ref a2, .ref a3, .ref a4, .ref a5, .ref a6, .ref a7, .ref a8, .ref a9])), (a1, .inl (cy 0, 20, .inl f3_1380)), (a2, .inl (cy 0, 20, .inl f4_1381)), (ro, .inl (cy 0, 20, .inl f0)), (pa, .inr (4, [.int mc, .ref ed, .int 0])), (m0, .inr (20, [.int 0, .ref mp, .int 0, .ref b1, .ref b2, .ref b3, .ref b4, .ref b5, .ref mq])), (mp, .inr (4, [.int mx_1384, .ref qx_1385, .int 8])), (qx_1385, .inl (cy 2, 10, .inr (.inr (.inr (.inr g2_1386))))), (mq, .inr (4, [.int mn, .ref ed, .int 0])), (oa, .inl (cy 3, 1, .inr (.inl o2_1382))), (p0, .inr (17, t0)), (p1, .inr (17, t1)), (p2, .inr (17, t2)), (p3, .inr (17, t3)), (p4, .inr (17, t4)), (p5, .inr (17, t5)), (p6, .inr (17, t6)), (y_1387, .inr (17, fy_1388))]) [10, 11, 12, 13, 0, 1, 15, 16, 17, 2, 14, 3, 4, 5, 6, 7, 8, 9, 18] (by decide) rfl
    exact hnext _ _ _ ⟨pe, ne, pa, ro, a1, a2, a3, a4, a5, a6, a7, a8, a9, mp, mq, b1, b2, b3, b4, b5, qx_1385, mc, mx_1384, mn, f3_1380, f4_1381, f0, o2_1382, g2_1386, p0, p1, p2, p3, p4, p5, p6, y_1387, t0, t1, t2, t3, t4, t5, t6, fy_1388, hP, hD, ((hs_1391 0 (by decide)).trans hp0), ((hs_1391 1 (by decide)).trans hp1), ((hs_1391 2 (by decide)).trans hp2), ((hs_1391 3 (by decide)).trans hp3), ((hs_1391 4 (by decide)).trans hp4), ((hs_1391 5 (by decide)).trans hp5), ((hs_1391 6 (by decide)).trans hp6), hs_1390⟩ hS (lv_sub hl [0, 3, 4, 5, 6] rfl)
set_option maxHeartbeats 4000000 in
set_option maxRecDepth 100000 in
theorem law_step_8 {p : Program} {l : Launch} {e : Env} {s : State} {m : MethodId} {below : List Frame} {meth : Method} {c : Code} {D : va_G} {cy : Nat → ClassId} {ed b : Nat} {A : Nat → Prop} {Q : State → Prop} (C0 : zx_LW p l s m c D cy ed b A) {h m0 oa : Nat} {H : Heap} {locs : List Loc} {ls : Array Slot} (h0 : zx_S8 D cy ed A h m0 oa H) (hS : va_S A s.heap H locs) (hl : lv_has ls 9 [(5, .int 48), (3, .ref oa), (2, .ref m0), (1, .ref h), (0, .ref b)])
    (hnext : ∀ (H : Heap) (locs : List Loc) (ls : Array Slot), zx_S9 D cy ed A h m0 oa H → va_S A s.heap H locs → lv_has ls 9 [(5, .int 54), (3, .ref oa), (2, .ref m0), (1, .ref h), (0, .ref b)] → W p l e zx_R s m #[Value.ref b] below meth c H locs 68 1580 Q (F0 m 28 ls [])) :
    W p l e zx_R s m #[Value.ref b] below meth c H locs 65 1550 Q (F0 m 28 ls []) := by
  obtain ⟨hx, hb, hml, hst, hown, hts, hX, hbl, hbA, hA, hK, hZ, hN⟩ := C0
  obtain ⟨pe, ne, pa, ro, a1, a2, a3, a4, a5, a6, a7, a8, a9, mp, mq, b1, b2, b3, b4, b5, ep, mc, mm, mn, f1, f2, f0, og, gp, p0, p1, p2, p3, p4, p5, p6, p7, t0, t1, t2, t3, t4, t5, t6, t7, hP, hD, hp0, hp1, hp2, hp3, hp4, hp5, hp6, hp7⟩ := h0
  refine lv_iload hx hb dL_law_28 (lv_at hl 0 rfl) ?_
  refine lv_aload_n hx hb dL_law_30 rfl (lv_at hl 4 rfl) ?_
  refine va_slen hx hb hX hbl hbA hS dL_law_31 ?_
  refine lv_topi (fun y9 ey9 => ?_)
  obtain rfl : y9 = 3072 := ey9.trans (by decide)
  refine lv_bipush (v := 6) hx hb dL_law_32 (by decide) ?_
  refine lv_isub hx hb dL_law_34 ?_
  refine lv_topi (fun y9 ey9 => ?_)
  obtain rfl : y9 = 3066 := by rw [ey9] <;> decide
  refine lv_icmp_gt (tgt := 2548) hx hb dL_law_35 (by decide) (fun c_1392 => absurd c_1392 (by decide)) (fun _ => ?_)
  refine lv_aload_n hx hb dL_law_38 rfl (lv_at hl 4 rfl) ?_
  refine lv_iload hx hb dL_law_39 (lv_at hl 0 rfl) ?_
  refine va_sld hx hb hX hbl hbA hS (zx_bn (by decide)) dL_law_41 ?_
  refine lv_topi (fun y9 ey9 => ?_)
  obtain rfl : y9 = 0 := ey9.trans (by decide)
  refine lv_bipush (v := 63) hx hb dL_law_42 (by decide) ?_
  refine lv_iand hx hb dL_law_44 ?_
  refine lv_topi (fun y9 ey9 => ?_)
  obtain rfl : y9 = 0 := by rw [ey9] <;> decide
  refine lv_tableIn (off := 255) (tgt := 300) hx hb dL_law_45 (by decide) (by decide) (by decide) (by decide) ?_
  refine lv_aload_n hx hb dL_law_300 rfl (lv_at hl 3 rfl) ?_
  refine lv_aload_n hx hb dL_law_301 rfl (lv_at hl 4 rfl) ?_
  refine lv_iload hx hb dL_law_302 (lv_at hl 0 rfl) ?_
  refine lv_iconst (v := 1) hx hb dL_law_304 (by decide) ?_
  refine lv_iadd hx hb dL_law_305 ?_
  refine lv_topi (fun y9 ey9 => ?_)
  obtain rfl : y9 = 49 := by rw [ey9] <;> decide
  refine va_sld hx hb hX hbl hbA hS (zx_bn (by decide)) dL_law_306 ?_
  refine lv_topi (fun y9 ey9 => ?_)
  obtain rfl : y9 = 0 := ey9.trans (by decide)
  refine lv_aload_n hx hb dL_law_307 rfl (lv_at hl 4 rfl) ?_
  refine lv_iload hx hb dL_law_308 (lv_at hl 0 rfl) ?_
  refine lv_iconst (v := 2) hx hb dL_law_310 (by decide) ?_
  refine lv_iadd hx hb dL_law_311 ?_
  refine lv_topi (fun y9 ey9 => ?_)
  obtain rfl : y9 = 50 := by rw [ey9] <;> decide
  refine va_sld hx hb hX hbl hbA hS (zx_bn (by decide)) dL_law_312 ?_
  refine lv_topi (fun y9 ey9 => ?_)
  obtain rfl : y9 = 0 := ey9.trans (by decide)
  refine lv_aload_n hx hb dL_law_313 rfl (lv_at hl 1 rfl) ?_
  have hPc := hP.sub (ws' := [(h, .inr (13, [.ref pe, .ref ne, .ref pa, .ref ro, .int 0])), (pe, .inr (9, [.int 8, .ref a1, .ref a2, .ref a3, .ref a4, .ref a5, .ref a6, .ref a7, .ref a8, .ref a9])), (a1, .inl (cy 0, 20, .inl f1)), (a2, .inl (cy 0, 20, .inl f2)), (oa, .inl (cy 3, 1, .inr (.inl og)))]) [0, 1, 2, 3, 10] rfl
  have hDc := hD.sub (ws' := [(h, .inr (13, [.ref pe, .ref ne, .ref pa, .ref ro, .int 0])), (pe, .inr (9, [.int 8, .ref a1, .ref a2, .ref a3, .ref a4, .ref a5, .ref a6, .ref a7, .ref a8, .ref a9])), (a1, .inl (cy 0, 20, .inl f1)), (a2, .inl (cy 0, 20, .inl f2)), (oa, .inl (cy 3, 1, .inr (.inl og)))]) [0, 1, 2, 3, 10] (by decide) rfl
  have hFc := va_free (wc := [(h, .inr (13, [.ref pe, .ref ne, .ref pa, .ref ro, .int 0])), (pe, .inr (9, [.int 8, .ref a1, .ref a2, .ref a3, .ref a4, .ref a5, .ref a6, .ref a7, .ref a8, .ref a9])), (a1, .inl (cy 0, 20, .inl f1)), (a2, .inl (cy 0, 20, .inl f2)), (oa, .inl (cy 3, 1, .inr (.inl og)))]) hD hS hA [0, 1, 2, 3, 10] rfl
  refine vx_calli (vx_runSX (As := [.ref h, .int 0, .int 0, .ref oa]) (rest := []) ⟨hx, hb, hml, hown, hts⟩ (c_L_addPerson_8 l hst D cy ed H.size h pe ne pa ro 0 a1 a2 a3 a4 a5 a6 a7 a8 a9 f1 f2 oa og) (vx_cwSW 4 hts (zx_GS mm_329 mm_330 mm_70 mm_331) rfl rfl rfl (by decide +kernel) ⟨(Nat.le_of_ble_eq_true rfl), (Nat.le_of_ble_eq_true rfl)⟩) ⟨zx_blind, zx_give hPc hK hDc hS hFc hZ hN⟩ rfl rfl hl.1 rfl (lv_room (Nat.le_of_ble_eq_true rfl)) dL_law_314 ⟨(Nat.le_of_ble_eq_true rfl), (Nat.le_of_ble_eq_true rfl)⟩) hS (fun q _ h => hFc q h) hFc (fun q _ h => hFc q h) (fun E9 ce9 q9 _ t H locs ht hvm _ hBX hz1 hk1 hS hce hcv hcl => ?_) (fun r9 u t H locs ht hvm hw hB hz1 hk1 hS => ?_)
  · exact hBX.elim
  ·
    obtain ⟨f3_1393, f4_1394, o2_1395⟩ := u
    obtain ⟨rfl, h_1396⟩ := hw
    obtain ⟨hP, hD⟩ := zx_join (wr := [(ro, .inl (cy 0, 20, .inl f0)), (pa, .inr (4, [.int mc, .ref ed, .int 0])), (m0, .inr (20, [.int 0, .ref mp, .int 0, .ref b1, .ref b2, .ref b3, .ref b4, .ref b5, .ref mq])), (mp, .inr (4, [.int mm, .ref ep, .int 8])), (ep, .inl (cy 2, 10, .inr (.inr (.inr (.inr gp))))), (mq, .inr (4, [.int mn, .ref ed, .int 0])), (p0, .inr (17, t0)), (p1, .inr (17, t1)), (p2, .inr (17, t2)), (p3, .inr (17, t3)), (p4, .inr (17, t4)), (p5, .inr (17, t5)), (p6, .inr (17, t6)), (p7, .inr (17, t7))]) (w1 := [(h, .inr (13, [.ref pe, .ref ne, .ref pa, .ref ro, .int 0])), (pe, .inr (9, [.int 9, .ref a1, .ref a2, .ref a3, .ref a4, .ref a5, .ref a6, .ref a7, .ref a8, .ref a9])), (a1, .inl (cy 0, 20, .inl f3_1393)), (a2, .inl (cy 0, 20, .inl f4_1394)), (oa, .inl (cy 3, 1, .inr (.inl o2_1395)))]) [0, 1, 2, 3, 10] [4, 5, 6, 7, 8, 9, 11, 12, 13, 14, 15, 16, 17, 18] rfl rfl (by decide) (by decide) hP hD hk1 hFc hB ht
    have hP : va_P D vwCl [(ro, .inl (cy 0, 20, .inl f0)), (pa, .inr (4, [.int mc, .ref ed, .int 0])), (m0, .inr (20, [.int 0, .ref mp, .int 0, .ref b1, .ref b2, .ref b3, .ref b4, .ref b5, .ref mq])), (mp, .inr (4, [.int mm, .ref ep, .int 8])), (ep, .inl (cy 2, 10, .inr (.inr (.inr (.inr gp))))), (mq, .inr (4, [.int mn, .ref ed, .int 0])), (p0, .inr (17, t0)), (p1, .inr (17, t1)), (p2, .inr (17, t2)), (p3, .inr (17, t3)), (p4, .inr (17, t4)), (p5, .inr (17, t5)), (p6, .inr (17, t6)), (p7, .inr (17, t7)), (h, .inr (13, [.ref pe, .ref ne, .ref pa, .ref ro, .int 0])), (pe, .inr (9, [.int 9, .ref a1, .ref a2, .ref a3, .ref a4, .ref a5, .ref a6, .ref a7, .ref a8, .ref a9])), (a1, .inl (cy 0, 20, .inl f3_1393)), (a2, .inl (cy 0, 20, .inl f4_1394)), (oa, .inl (cy 3, 1, .inr (.inl o2_1395)))] H := hP
    have hD : va_D A [(ro, .inl (cy 0, 20, .inl f0)), (pa, .inr (4, [.int mc, .ref ed, .int 0])), (m0, .inr (20, [.int 0, .ref mp, .int 0, .ref b1, .ref b2, .ref b3, .ref b4, .ref b5, .ref mq])), (mp, .inr (4, [.int mm, .ref ep, .int 8])), (ep, .inl (cy 2, 10, .inr (.inr (.inr (.inr gp))))), (mq, .inr (4, [.int mn, .ref ed, .int 0])), (p0, .inr (17, t0)), (p1, .inr (17, t1)), (p2, .inr (17, t2)), (p3, .inr (17, t3)), (p4, .inr (17, t4)), (p5, .inr (17, t5)), (p6, .inr (17, t6)), (p7, .inr (17, t7)), (h, .inr (13, [.ref pe, .ref ne, .ref pa, .ref ro, .int 0])), (pe, .inr (9, [.int 9, .ref a1, .ref a2, .ref a3, .ref a4, .ref a5, .ref a6, .ref a7, .ref a8, .ref a9])), (a1, .inl (cy 0, 20, .inl f3_1393)), (a2, .inl (cy 0, 20, .inl f4_1394)), (oa, .inl (cy 3, 1, .inr (.inl o2_1395)))] := hD
    refine W.widen (k := 65) (n := 1550) (Nat.le_of_ble_eq_true rfl) (Nat.le_of_ble_eq_true rfl) ?_
    refine lv_istore (lv' := [(6, .int 0), (5, .int 48), (3, .ref oa), (2, .ref m0), (1, .ref h), (0, .ref b)]) hx hb dL_law_317 hl (by decide) rfl (fun ls hl => ?_)
    refine lv_aload_n hx hb dL_law_319 rfl (lv_at hl 3 rfl) ?_
    refine lv_aload_n hx hb dL_law_320 rfl (lv_at hl 5 rfl) ?_
    refine lv_iload hx hb dL_law_321 (lv_at hl 1 rfl) ?_
    refine lv_iconst (v := 1) hx hb dL_law_323 (by decide) ?_
    refine lv_iadd hx hb dL_law_324 ?_
    refine lv_topi (fun y9 ey9 => ?_)
    obtain rfl : y9 = 49 := by rw [ey9] <;> decide
    refine va_sld hx hb hX hbl hbA hS (zx_bn (by decide)) dL_law_325 ?_
    refine lv_topi (fun y9 ey9 => ?_)
    obtain rfl : y9 = 0 := ey9.trans (by decide)
    refine lv_aload_n hx hb dL_law_326 rfl (lv_at hl 5 rfl) ?_
    refine lv_iload hx hb dL_law_327 (lv_at hl 1 rfl) ?_
    refine lv_iconst (v := 2) hx hb dL_law_329 (by decide) ?_
    refine lv_iadd hx hb dL_law_330 ?_
    refine lv_topi (fun y9 ey9 => ?_)
    obtain rfl : y9 = 50 := by rw [ey9] <;> decide
    refine va_sld hx hb hX hbl hbA hS (zx_bn (by decide)) dL_law_331 ?_
    refine lv_topi (fun y9 ey9 => ?_)
    obtain rfl : y9 = 0 := ey9.trans (by decide)
    have hPc := hP.sub (ws' := [(m0, .inr (20, [.int 0, .ref mp, .int 0, .ref b1, .ref b2, .ref b3, .ref b4, .ref b5, .ref mq])), (mp, .inr (4, [.int mm, .ref ep, .int 8])), (ep, .inl (cy 2, 10, .inr (.inr (.inr (.inr gp)))))]) [2, 3, 4] rfl
    have hDc := hD.sub (ws' := [(m0, .inr (20, [.int 0, .ref mp, .int 0, .ref b1, .ref b2, .ref b3, .ref b4, .ref b5, .ref mq])), (mp, .inr (4, [.int mm, .ref ep, .int 8])), (ep, .inl (cy 2, 10, .inr (.inr (.inr (.inr gp)))))]) [2, 3, 4] (by decide) rfl
    have hFc := va_free (wc := [(m0, .inr (20, [.int 0, .ref mp, .int 0, .ref b1, .ref b2, .ref b3, .ref b4, .ref b5, .ref mq])), (mp, .inr (4, [.int mm, .ref ep, .int 8])), (ep, .inl (cy 2, 10, .inr (.inr (.inr (.inr gp)))))]) hD hS hA [2, 3, 4] rfl
    refine va_calli (va_runV (As := [.int 0, .int 0]) (rest := []) ⟨hx, hb, hml, hown, hts⟩ (c_X15_addPerson_8 l hst D cy ed H.size m0 mp mq b1 b2 b3 b4 b5 0 0 mm ep gp) (cwV 2 hts (zx_GV mm_1599 mm_1600 mm_1601 mm_78 mm_1602) rfl rfl rfl (by decide +kernel) ⟨(Nat.le_of_ble_eq_true rfl), (Nat.le_of_ble_eq_true rfl)⟩) ⟨zx_blind, va_recv hK hPc (ci := 20) (q0 := 0) rfl rfl, zx_give hPc hK hDc hS hFc hZ hN⟩ rfl rfl hl.1 rfl (lv_room (Nat.le_of_ble_eq_true rfl)) dL_law_332 ⟨(Nat.le_of_ble_eq_true rfl), (Nat.le_of_ble_eq_true rfl)⟩) hS (fun q _ h => hFc q h) hFc (fun r9 u t H1 locs ht hvm hw hB hz1 hk1 hS => ?_)
    obtain ⟨mx_1397, qx_1398, g2_1399, y_1400, fy_1401⟩ := u
    obtain ⟨rfl, h_1402⟩ := hw
    obtain ⟨hP, hD⟩ := zx_join (wr := [(ro, .inl (cy 0, 20, .inl f0)), (pa, .inr (4, [.int mc, .ref ed, .int 0])), (mq, .inr (4, [.int mn, .ref ed, .int 0])), (p0, .inr (17, t0)), (p1, .inr (17, t1)), (p2, .inr (17, t2)), (p3, .inr (17, t3)), (p4, .inr (17, t4)), (p5, .inr (17, t5)), (p6, .inr (17, t6)), (p7, .inr (17, t7)), (h, .inr (13, [.ref pe, .ref ne, .ref pa, .ref ro, .int 0])), (pe, .inr (9, [.int 9, .ref a1, .ref a2, .ref a3, .ref a4, .ref a5, .ref a6, .ref a7, .ref a8, .ref a9])), (a1, .inl (cy 0, 20, .inl f3_1393)), (a2, .inl (cy 0, 20, .inl f4_1394)), (oa, .inl (cy 3, 1, .inr (.inl o2_1395)))]) (w1 := [(m0, .inr (20, [.int 0, .ref mp, .int 0, .ref b1, .ref b2, .ref b3, .ref b4, .ref b5, .ref mq])), (mp, .inr (4, [.int mx_1397, .ref qx_1398, .int 9])), (qx_1398, .inl (cy 2, 10, .inr (.inr (.inr (.inr g2_1399))))), (y_1400, .inr (17, fy_1401))]) [2, 3, 4] [0, 1, 5, 6, 7, 8, 9, 10, 11, 12, 13, 14, 15, 16, 17, 18] rfl rfl (by decide) (by decide) hP hD hk1 hFc hB ht
    generalize H1 = H at hP hS ⊢
    have hP : va_P D vwCl [(ro, .inl (cy 0, 20, .inl f0)), (pa, .inr (4, [.int mc, .ref ed, .int 0])), (mq, .inr (4, [.int mn, .ref ed, .int 0])), (p0, .inr (17, t0)), (p1, .inr (17, t1)), (p2, .inr (17, t2)), (p3, .inr (17, t3)), (p4, .inr (17, t4)), (p5, .inr (17, t5)), (p6, .inr (17, t6)), (p7, .inr (17, t7)), (h, .inr (13, [.ref pe, .ref ne, .ref pa, .ref ro, .int 0])), (pe, .inr (9, [.int 9, .ref a1, .ref a2, .ref a3, .ref a4, .ref a5, .ref a6, .ref a7, .ref a8, .ref a9])), (a1, .inl (cy 0, 20, .inl f3_1393)), (a2, .inl (cy 0, 20, .inl f4_1394)), (oa, .inl (cy 3, 1, .inr (.inl o2_1395))), (m0, .inr (20, [.int 0, .ref mp, .int 0, .ref b1, .ref b2, .ref b3, .ref b4, .ref b5, .ref mq])), (mp, .inr (4, [.int mx_1397, .ref qx_1398, .int 9])), (qx_1398, .inl (cy 2, 10, .inr (.inr (.inr (.inr g2_1399))))), (y_1400, .inr (17, fy_1401))] H := hP
    have hD : va_D A [(ro, .inl (cy 0, 20, .inl f0)), (pa, .inr (4, [.int mc, .ref ed, .int 0])), (mq, .inr (4, [.int mn, .ref ed, .int 0])), (p0, .inr (17, t0)), (p1, .inr (17, t1)), (p2, .inr (17, t2)), (p3, .inr (17, t3)), (p4, .inr (17, t4)), (p5, .inr (17, t5)), (p6, .inr (17, t6)), (p7, .inr (17, t7)), (h, .inr (13, [.ref pe, .ref ne, .ref pa, .ref ro, .int 0])), (pe, .inr (9, [.int 9, .ref a1, .ref a2, .ref a3, .ref a4, .ref a5, .ref a6, .ref a7, .ref a8, .ref a9])), (a1, .inl (cy 0, 20, .inl f3_1393)), (a2, .inl (cy 0, 20, .inl f4_1394)), (oa, .inl (cy 3, 1, .inr (.inl o2_1395))), (m0, .inr (20, [.int 0, .ref mp, .int 0, .ref b1, .ref b2, .ref b3, .ref b4, .ref b5, .ref mq])), (mp, .inr (4, [.int mx_1397, .ref qx_1398, .int 9])), (qx_1398, .inl (cy 2, 10, .inr (.inr (.inr (.inr g2_1399))))), (y_1400, .inr (17, fy_1401))] := hD
    refine W.widen (k := 68) (n := 1580) (Nat.le_of_ble_eq_true rfl) (Nat.le_of_ble_eq_true rfl) ?_
    obtain ⟨hs_1403, hs_1404⟩ := h_1402
    refine lv_istore (lv' := [(7, .int 8), (6, .int 0), (5, .int 48), (3, .ref oa), (2, .ref m0), (1, .ref h), (0, .ref b)]) hx hb dL_law_335 hl (by decide) rfl (fun ls hl => ?_)
    refine lv_goto (tgt := 2542) hx hb dL_law_337 (by decide) ?_
    refine lv_iinc (v := 54) (lv' := [(5, .int 54), (7, .int 8), (6, .int 0), (3, .ref oa), (2, .ref m0), (1, .ref h), (0, .ref b)]) hx hb dL_law_2542 hl (k := 2) rfl (by decide) (by decide) rfl (fun ls hl => ?_)
    refine lv_goto (tgt := 28) hx hb dL_law_2545 (by decide) ?_
    have hP := hP.sub (ws' := [(h, .inr (13, [.ref pe, .ref ne, .ref pa, .ref ro, .int 0])), (pe, .inr (9, [.int 9, .ref a1, .ref a2, .ref a3, .ref a4, .ref a5, .ref a6, .ref a7, .ref a8, .ref a9])), (a1, .inl (cy 0, 20, .inl f3_1393)), (a2, .inl (cy 0, 20, .inl f4_1394)), (ro, .inl (cy 0, 20, .inl f0)), (pa, .inr (4, [.int mc, .ref ed, .int 0])), (m0, .inr (20, [.int 0, .ref mp, .int 0, .ref b1, .ref b2, .ref b3, .ref b4, .ref b5, .ref mq])), (mp, .inr (4, [.int mx_1397, .ref qx_1398, .int 9])), (qx_1398, .inl (cy 2, 10, .inr (.inr (.inr (.inr g2_1399))))), (mq, .inr (4, [.int mn, .ref ed, .int 0])), (oa, .inl (cy 3, 1, .inr (.inl o2_1395))), (p0, .inr (17, t0)), (p1, .inr (17, t1)), (p2, .inr (17, t2)), (p3, .inr (17, t3)), (p4, .inr (17, t4)), (p5, .inr (17, t5)), (p6, .inr (17, t6)), (p7, .inr (17, t7)), (y_1400, .inr (17, fy_1401))]) [11, 12, 13, 14, 0, 1, 16, 17, 18, 2, 15, 3, 4, 5, 6, 7, 8, 9, 10, 19] rfl
    have hD := hD.sub (ws' := [(h, .inr (13, [.ref pe, .ref ne, .ref pa, .ref ro, .int 0])), (pe, .inr (9, [.int 9, .ref a1, .ref a2, .ref a3, .ref a4, .ref a5, .ref a6, .ref a7, .ref a8, .ref a9])), (a1, .inl (cy 0, 20, .inl f3_1393)), (a2, .inl (cy 0, 20, .inl f4_1394)), (ro, .inl (cy 0, 20, .inl f0)), (pa, .inr (4, [.int mc, .ref ed, .int 0])), (m0, .inr (20, [.int 0, .ref mp, .int 0, .ref b1, .ref b2, .ref b3, .ref b4, .ref b5, .ref mq])), (mp, .inr (4, [.int mx_1397, .ref qx_1398, .int 9])), (qx_1398, .inl (cy 2, 10, .inr (.inr (.inr (.inr g2_1399))))), (mq, .inr (4, [.int mn, .ref ed, .int 0])), (oa, .inl (cy 3, 1, .inr (.inl o2_1395))), (p0, .inr (17, t0)), (p1, .inr (17, t1)), (p2, .inr (17, t2)), (p3, .inr (17, t3)), (p4, .inr (17, t4)), (p5, .inr (17, t5)), (p6, .inr (17, t6)), (p7, .inr (17, t7)), (y_1400, .inr (17, fy_1401))]) [11, 12, 13, 14, 0, 1, 16, 17, 18, 2, 15, 3, 4, 5, 6, 7, 8, 9, 10, 19] (by decide) rfl
    exact hnext _ _ _ ⟨pe, ne, pa, ro, a1, a2, a3, a4, a5, a6, a7, a8, a9, mp, mq, b1, b2, b3, b4, b5, qx_1398, mc, mx_1397, mn, f3_1393, f4_1394, f0, o2_1395, g2_1399, p0, p1, p2, p3, p4, p5, p6, p7, y_1400, t0, t1, t2, t3, t4, t5, t6, t7, fy_1401, hP, hD, ((hs_1404 0 (by decide)).trans hp0), ((hs_1404 1 (by decide)).trans hp1), ((hs_1404 2 (by decide)).trans hp2), ((hs_1404 3 (by decide)).trans hp3), ((hs_1404 4 (by decide)).trans hp4), ((hs_1404 5 (by decide)).trans hp5), ((hs_1404 6 (by decide)).trans hp6), ((hs_1404 7 (by decide)).trans hp7), hs_1403⟩ hS (lv_sub hl [0, 3, 4, 5, 6] rfl)
set_option maxHeartbeats 4000000 in
set_option maxRecDepth 100000 in
theorem law_step_9 {p : Program} {l : Launch} {e : Env} {s : State} {m : MethodId} {below : List Frame} {meth : Method} {c : Code} {D : va_G} {cy : Nat → ClassId} {ed b : Nat} {A : Nat → Prop} {Q : State → Prop} (C0 : zx_LW p l s m c D cy ed b A) {h m0 oa : Nat} {H : Heap} {locs : List Loc} {ls : Array Slot} (h0 : zx_S9 D cy ed A h m0 oa H) (hS : va_S A s.heap H locs) (hl : lv_has ls 9 [(5, .int 54), (3, .ref oa), (2, .ref m0), (1, .ref h), (0, .ref b)])
    (hnext : ∀ (H : Heap) (locs : List Loc) (ls : Array Slot), zx_S10 D cy ed A h m0 oa H → va_S A s.heap H locs → lv_has ls 9 [(5, .int 60), (3, .ref oa), (2, .ref m0), (1, .ref h), (0, .ref b)] → W p l e zx_R s m #[Value.ref b] below meth c H locs 71 1610 Q (F0 m 28 ls [])) :
    W p l e zx_R s m #[Value.ref b] below meth c H locs 68 1580 Q (F0 m 28 ls []) := by
  obtain ⟨hx, hb, hml, hst, hown, hts, hX, hbl, hbA, hA, hK, hZ, hN⟩ := C0
  obtain ⟨pe, ne, pa, ro, a1, a2, a3, a4, a5, a6, a7, a8, a9, mp, mq, b1, b2, b3, b4, b5, ep, mc, mm, mn, f1, f2, f0, og, gp, p0, p1, p2, p3, p4, p5, p6, p7, p8, t0, t1, t2, t3, t4, t5, t6, t7, t8, hP, hD, hp0, hp1, hp2, hp3, hp4, hp5, hp6, hp7, hp8⟩ := h0
  refine lv_iload hx hb dL_law_28 (lv_at hl 0 rfl) ?_
  refine lv_aload_n hx hb dL_law_30 rfl (lv_at hl 4 rfl) ?_
  refine va_slen hx hb hX hbl hbA hS dL_law_31 ?_
  refine lv_topi (fun y9 ey9 => ?_)
  obtain rfl : y9 = 3072 := ey9.trans (by decide)
  refine lv_bipush (v := 6) hx hb dL_law_32 (by decide) ?_
  refine lv_isub hx hb dL_law_34 ?_
  refine lv_topi (fun y9 ey9 => ?_)
  obtain rfl : y9 = 3066 := by rw [ey9] <;> decide
  refine lv_icmp_gt (tgt := 2548) hx hb dL_law_35 (by decide) (fun c_1405 => absurd c_1405 (by decide)) (fun _ => ?_)
  refine lv_aload_n hx hb dL_law_38 rfl (lv_at hl 4 rfl) ?_
  refine lv_iload hx hb dL_law_39 (lv_at hl 0 rfl) ?_
  refine va_sld hx hb hX hbl hbA hS (zx_bn (by decide)) dL_law_41 ?_
  refine lv_topi (fun y9 ey9 => ?_)
  obtain rfl : y9 = 0 := ey9.trans (by decide)
  refine lv_bipush (v := 63) hx hb dL_law_42 (by decide) ?_
  refine lv_iand hx hb dL_law_44 ?_
  refine lv_topi (fun y9 ey9 => ?_)
  obtain rfl : y9 = 0 := by rw [ey9] <;> decide
  refine lv_tableIn (off := 255) (tgt := 300) hx hb dL_law_45 (by decide) (by decide) (by decide) (by decide) ?_
  refine lv_aload_n hx hb dL_law_300 rfl (lv_at hl 3 rfl) ?_
  refine lv_aload_n hx hb dL_law_301 rfl (lv_at hl 4 rfl) ?_
  refine lv_iload hx hb dL_law_302 (lv_at hl 0 rfl) ?_
  refine lv_iconst (v := 1) hx hb dL_law_304 (by decide) ?_
  refine lv_iadd hx hb dL_law_305 ?_
  refine lv_topi (fun y9 ey9 => ?_)
  obtain rfl : y9 = 55 := by rw [ey9] <;> decide
  refine va_sld hx hb hX hbl hbA hS (zx_bn (by decide)) dL_law_306 ?_
  refine lv_topi (fun y9 ey9 => ?_)
  obtain rfl : y9 = 0 := ey9.trans (by decide)
  refine lv_aload_n hx hb dL_law_307 rfl (lv_at hl 4 rfl) ?_
  refine lv_iload hx hb dL_law_308 (lv_at hl 0 rfl) ?_
  refine lv_iconst (v := 2) hx hb dL_law_310 (by decide) ?_
  refine lv_iadd hx hb dL_law_311 ?_
  refine lv_topi (fun y9 ey9 => ?_)
  obtain rfl : y9 = 56 := by rw [ey9] <;> decide
  refine va_sld hx hb hX hbl hbA hS (zx_bn (by decide)) dL_law_312 ?_
  refine lv_topi (fun y9 ey9 => ?_)
  obtain rfl : y9 = 0 := ey9.trans (by decide)
  refine lv_aload_n hx hb dL_law_313 rfl (lv_at hl 1 rfl) ?_
  have hPc := hP.sub (ws' := [(h, .inr (13, [.ref pe, .ref ne, .ref pa, .ref ro, .int 0])), (pe, .inr (9, [.int 9, .ref a1, .ref a2, .ref a3, .ref a4, .ref a5, .ref a6, .ref a7, .ref a8, .ref a9])), (a1, .inl (cy 0, 20, .inl f1)), (a2, .inl (cy 0, 20, .inl f2)), (oa, .inl (cy 3, 1, .inr (.inl og)))]) [0, 1, 2, 3, 10] rfl
  have hDc := hD.sub (ws' := [(h, .inr (13, [.ref pe, .ref ne, .ref pa, .ref ro, .int 0])), (pe, .inr (9, [.int 9, .ref a1, .ref a2, .ref a3, .ref a4, .ref a5, .ref a6, .ref a7, .ref a8, .ref a9])), (a1, .inl (cy 0, 20, .inl f1)), (a2, .inl (cy 0, 20, .inl f2)), (oa, .inl (cy 3, 1, .inr (.inl og)))]) [0, 1, 2, 3, 10] (by decide) rfl
  have hFc := va_free (wc := [(h, .inr (13, [.ref pe, .ref ne, .ref pa, .ref ro, .int 0])), (pe, .inr (9, [.int 9, .ref a1, .ref a2, .ref a3, .ref a4, .ref a5, .ref a6, .ref a7, .ref a8, .ref a9])), (a1, .inl (cy 0, 20, .inl f1)), (a2, .inl (cy 0, 20, .inl f2)), (oa, .inl (cy 3, 1, .inr (.inl og)))]) hD hS hA [0, 1, 2, 3, 10] rfl
  refine vx_calli (vx_runSX (As := [.ref h, .int 0, .int 0, .ref oa]) (rest := []) ⟨hx, hb, hml, hown, hts⟩ (c_L_addPerson_9 l hst D cy ed H.size h pe ne pa ro 0 a1 a2 a3 a4 a5 a6 a7 a8 a9 f1 f2 oa og) (vx_cwSW 4 hts (zx_GS mm_329 mm_330 mm_70 mm_331) rfl rfl rfl (by decide +kernel) ⟨(Nat.le_of_ble_eq_true rfl), (Nat.le_of_ble_eq_true rfl)⟩) ⟨zx_blind, zx_give hPc hK hDc hS hFc hZ hN⟩ rfl rfl hl.1 rfl (lv_room (Nat.le_of_ble_eq_true rfl)) dL_law_314 ⟨(Nat.le_of_ble_eq_true rfl), (Nat.le_of_ble_eq_true rfl)⟩) hS (fun q _ h => hFc q h) hFc (fun q _ h => hFc q h) (fun E9 ce9 q9 _ t H locs ht hvm _ hBX hz1 hk1 hS hce hcv hcl => ?_) (fun r9 u t H locs ht hvm hw hB hz1 hk1 hS => ?_)
  · exact hBX.elim
  ·
    obtain ⟨f3_1406, f4_1407, o2_1408⟩ := u
    obtain ⟨rfl, h_1409⟩ := hw
    obtain ⟨hP, hD⟩ := zx_join (wr := [(ro, .inl (cy 0, 20, .inl f0)), (pa, .inr (4, [.int mc, .ref ed, .int 0])), (m0, .inr (20, [.int 0, .ref mp, .int 0, .ref b1, .ref b2, .ref b3, .ref b4, .ref b5, .ref mq])), (mp, .inr (4, [.int mm, .ref ep, .int 9])), (ep, .inl (cy 2, 10, .inr (.inr (.inr (.inr gp))))), (mq, .inr (4, [.int mn, .ref ed, .int 0])), (p0, .inr (17, t0)), (p1, .inr (17, t1)), (p2, .inr (17, t2)), (p3, .inr (17, t3)), (p4, .inr (17, t4)), (p5, .inr (17, t5)), (p6, .inr (17, t6)), (p7, .inr (17, t7)), (p8, .inr (17, t8))]) (w1 := [(h, .inr (13, [.ref pe, .ref ne, .ref pa, .ref ro, .int 0])), (pe, .inr (9, [.int 10, .ref a1, .ref a2, .ref a3, .ref a4, .ref a5, .ref a6, .ref a7, .ref a8, .ref a9])), (a1, .inl (cy 0, 20, .inl f3_1406)), (a2, .inl (cy 0, 20, .inl f4_1407)), (oa, .inl (cy 3, 1, .inr (.inl o2_1408)))]) [0, 1, 2, 3, 10] [4, 5, 6, 7, 8, 9, 11, 12, 13, 14, 15, 16, 17, 18, 19] rfl rfl (by decide) (by decide) hP hD hk1 hFc hB ht
    have hP : va_P D vwCl [(ro, .inl (cy 0, 20, .inl f0)), (pa, .inr (4, [.int mc, .ref ed, .int 0])), (m0, .inr (20, [.int 0, .ref mp, .int 0, .ref b1, .ref b2, .ref b3, .ref b4, .ref b5, .ref mq])), (mp, .inr (4, [.int mm, .ref ep, .int 9])), (ep, .inl (cy 2, 10, .inr (.inr (.inr (.inr gp))))), (mq, .inr (4, [.int mn, .ref ed, .int 0])), (p0, .inr (17, t0)), (p1, .inr (17, t1)), (p2, .inr (17, t2)), (p3, .inr (17, t3)), (p4, .inr (17, t4)), (p5, .inr (17, t5)), (p6, .inr (17, t6)), (p7, .inr (17, t7)), (p8, .inr (17, t8)), (h, .inr (13, [.ref pe, .ref ne, .ref pa, .ref ro, .int 0])), (pe, .inr (9, [.int 10, .ref a1, .ref a2, .ref a3, .ref a4, .ref a5, .ref a6, .ref a7, .ref a8, .ref a9])), (a1, .inl (cy 0, 20, .inl f3_1406)), (a2, .inl (cy 0, 20, .inl f4_1407)), (oa, .inl (cy 3, 1, .inr (.inl o2_1408)))] H := hP
    have hD : va_D A [(ro, .inl (cy 0, 20, .inl f0)), (pa, .inr (4, [.int mc, .ref ed, .int 0])), (m0, .inr (20, [.int 0, .ref mp, .int 0, .ref b1, .ref b2, .ref b3, .ref b4, .ref b5, .ref mq])), (mp, .inr (4, [.int mm, .ref ep, .int 9])), (ep, .inl (cy 2, 10, .inr (.inr (.inr (.inr gp))))), (mq, .inr (4, [.int mn, .ref ed, .int 0])), (p0, .inr (17, t0)), (p1, .inr (17, t1)), (p2, .inr (17, t2)), (p3, .inr (17, t3)), (p4, .inr (17, t4)), (p5, .inr (17, t5)), (p6, .inr (17, t6)), (p7, .inr (17, t7)), (p8, .inr (17, t8)), (h, .inr (13, [.ref pe, .ref ne, .ref pa, .ref ro, .int 0])), (pe, .inr (9, [.int 10, .ref a1, .ref a2, .ref a3, .ref a4, .ref a5, .ref a6, .ref a7, .ref a8, .ref a9])), (a1, .inl (cy 0, 20, .inl f3_1406)), (a2, .inl (cy 0, 20, .inl f4_1407)), (oa, .inl (cy 3, 1, .inr (.inl o2_1408)))] := hD
    refine W.widen (k := 68) (n := 1580) (Nat.le_of_ble_eq_true rfl) (Nat.le_of_ble_eq_true rfl) ?_
    refine lv_istore (lv' := [(6, .int 0), (5, .int 54), (3, .ref oa), (2, .ref m0), (1, .ref h), (0, .ref b)]) hx hb dL_law_317 hl (by decide) rfl (fun ls hl => ?_)
    refine lv_aload_n hx hb dL_law_319 rfl (lv_at hl 3 rfl) ?_
    refine lv_aload_n hx hb dL_law_320 rfl (lv_at hl 5 rfl) ?_
    refine lv_iload hx hb dL_law_321 (lv_at hl 1 rfl) ?_
    refine lv_iconst (v := 1) hx hb dL_law_323 (by decide) ?_
    refine lv_iadd hx hb dL_law_324 ?_
    refine lv_topi (fun y9 ey9 => ?_)
    obtain rfl : y9 = 55 := by rw [ey9] <;> decide
    refine va_sld hx hb hX hbl hbA hS (zx_bn (by decide)) dL_law_325 ?_
    refine lv_topi (fun y9 ey9 => ?_)
    obtain rfl : y9 = 0 := ey9.trans (by decide)
    refine lv_aload_n hx hb dL_law_326 rfl (lv_at hl 5 rfl) ?_
    refine lv_iload hx hb dL_law_327 (lv_at hl 1 rfl) ?_
    refine lv_iconst (v := 2) hx hb dL_law_329 (by decide) ?_
    refine lv_iadd hx hb dL_law_330 ?_
    refine lv_topi (fun y9 ey9 => ?_)
    obtain rfl : y9 = 56 := by rw [ey9] <;> decide
    refine va_sld hx hb hX hbl hbA hS (zx_bn (by decide)) dL_law_331 ?_
    refine lv_topi (fun y9 ey9 => ?_)
    obtain rfl : y9 = 0 := ey9.trans (by decide)
    have hPc := hP.sub (ws' := [(m0, .inr (20, [.int 0, .ref mp, .int 0, .ref b1, .ref b2, .ref b3, .ref b4, .ref b5, .ref mq])), (mp, .inr (4, [.int mm, .ref ep, .int 9])), (ep, .inl (cy 2, 10, .inr (.inr (.inr (.inr gp)))))]) [2, 3, 4] rfl
    have hDc := hD.sub (ws' := [(m0, .inr (20, [.int 0, .ref mp, .int 0, .ref b1, .ref b2, .ref b3, .ref b4, .ref b5, .ref mq])), (mp, .inr (4, [.int mm, .ref ep, .int 9])), (ep, .inl (cy 2, 10, .inr (.inr (.inr (.inr gp)))))]) [2, 3, 4] (by decide) rfl
    have hFc := va_free (wc := [(m0, .inr (20, [.int 0, .ref mp, .int 0, .ref b1, .ref b2, .ref b3, .ref b4, .ref b5, .ref mq])), (mp, .inr (4, [.int mm, .ref ep, .int 9])), (ep, .inl (cy 2, 10, .inr (.inr (.inr (.inr gp)))))]) hD hS hA [2, 3, 4] rfl
    refine va_calli (va_runV (As := [.int 0, .int 0]) (rest := []) ⟨hx, hb, hml, hown, hts⟩ (c_X15_addPerson_9 l hst D cy ed H.size m0 mp mq b1 b2 b3 b4 b5 0 0 mm ep gp) (cwV 2 hts (zx_GV mm_1599 mm_1600 mm_1601 mm_78 mm_1602) rfl rfl rfl (by decide +kernel) ⟨(Nat.le_of_ble_eq_true rfl), (Nat.le_of_ble_eq_true rfl)⟩) ⟨zx_blind, va_recv hK hPc (ci := 20) (q0 := 0) rfl rfl, zx_give hPc hK hDc hS hFc hZ hN⟩ rfl rfl hl.1 rfl (lv_room (Nat.le_of_ble_eq_true rfl)) dL_law_332 ⟨(Nat.le_of_ble_eq_true rfl), (Nat.le_of_ble_eq_true rfl)⟩) hS (fun q _ h => hFc q h) hFc (fun r9 u t H1 locs ht hvm hw hB hz1 hk1 hS => ?_)
    obtain ⟨mx_1410, qx_1411, g2_1412, y_1413, fy_1414⟩ := u
    obtain ⟨rfl, h_1415⟩ := hw
    obtain ⟨hP, hD⟩ := zx_join (wr := [(ro, .inl (cy 0, 20, .inl f0)), (pa, .inr (4, [.int mc, .ref ed, .int 0])), (mq, .inr (4, [.int mn, .ref ed, .int 0])), (p0, .inr (17, t0)), (p1, .inr (17, t1)), (p2, .inr (17, t2)), (p3, .inr (17, t3)), (p4, .inr (17, t4)), (p5, .inr (17, t5)), (p6, .inr (17, t6)), (p7, .inr (17, t7)), (p8, .inr (17, t8)), (h, .inr (13, [.ref pe, .ref ne, .ref pa, .ref ro, .int 0])), (pe, .inr (9, [.int 10, .ref a1, .ref a2, .ref a3, .ref a4, .ref a5, .ref a6, .ref a7, .ref a8, .ref a9])), (a1, .inl (cy 0, 20, .inl f3_1406)), (a2, .inl (cy 0, 20, .inl f4_1407)), (oa, .inl (cy 3, 1, .inr (.inl o2_1408)))]) (w1 := [(m0, .inr (20, [.int 0, .ref mp, .int 0, .ref b1, .ref b2, .ref b3, .ref b4, .ref b5, .ref mq])), (mp, .inr (4, [.int mx_1410, .ref qx_1411, .int 10])), (qx_1411, .inl (cy 2, 10, .inr (.inr (.inr (.inr g2_1412))))), (y_1413, .inr (17, fy_1414))]) [2, 3, 4] [0, 1, 5, 6, 7, 8, 9, 10, 11, 12, 13, 14, 15, 16, 17, 18, 19] rfl rfl (by decide) (by decide) hP hD hk1 hFc hB ht
    generalize H1 = H at hP hS ⊢
    have hP : va_P D vwCl [(ro, .inl (cy 0, 20, .inl f0)), (pa, .inr (4, [.int mc, .ref ed, .int 0])), (mq, .inr (4, [.int mn, .ref ed, .int 0])), (p0, .inr (17, t0)), (p1, .inr (17, t1)), (p2, .inr (17, t2)), (p3, .inr (17, t3)), (p4, .inr (17, t4)), (p5, .inr (17, t5)), (p6, .inr (17, t6)), (p7, .inr (17, t7)), (p8, .inr (17, t8)), (h, .inr (13, [.ref pe, .ref ne, .ref pa, .ref ro, .int 0])), (pe, .inr (9, [.int 10, .ref a1, .ref a2, .ref a3, .ref a4, .ref a5, .ref a6, .ref a7, .ref a8, .ref a9])), (a1, .inl (cy 0, 20, .inl f3_1406)), (a2, .inl (cy 0, 20, .inl f4_1407)), (oa, .inl (cy 3, 1, .inr (.inl o2_1408))), (m0, .inr (20, [.int 0, .ref mp, .int 0, .ref b1, .ref b2, .ref b3, .ref b4, .ref b5, .ref mq])), (mp, .inr (4, [.int mx_1410, .ref qx_1411, .int 10])), (qx_1411, .inl (cy 2, 10, .inr (.inr (.inr (.inr g2_1412))))), (y_1413, .inr (17, fy_1414))] H := hP
    have hD : va_D A [(ro, .inl (cy 0, 20, .inl f0)), (pa, .inr (4, [.int mc, .ref ed, .int 0])), (mq, .inr (4, [.int mn, .ref ed, .int 0])), (p0, .inr (17, t0)), (p1, .inr (17, t1)), (p2, .inr (17, t2)), (p3, .inr (17, t3)), (p4, .inr (17, t4)), (p5, .inr (17, t5)), (p6, .inr (17, t6)), (p7, .inr (17, t7)), (p8, .inr (17, t8)), (h, .inr (13, [.ref pe, .ref ne, .ref pa, .ref ro, .int 0])), (pe, .inr (9, [.int 10, .ref a1, .ref a2, .ref a3, .ref a4, .ref a5, .ref a6, .ref a7, .ref a8, .ref a9])), (a1, .inl (cy 0, 20, .inl f3_1406)), (a2, .inl (cy 0, 20, .inl f4_1407)), (oa, .inl (cy 3, 1, .inr (.inl o2_1408))), (m0, .inr (20, [.int 0, .ref mp, .int 0, .ref b1, .ref b2, .ref b3, .ref b4, .ref b5, .ref mq])), (mp, .inr (4, [.int mx_1410, .ref qx_1411, .int 10])), (qx_1411, .inl (cy 2, 10, .inr (.inr (.inr (.inr g2_1412))))), (y_1413, .inr (17, fy_1414))] := hD
    refine W.widen (k := 71) (n := 1610) (Nat.le_of_ble_eq_true rfl) (Nat.le_of_ble_eq_true rfl) ?_
    obtain ⟨hs_1416, hs_1417⟩ := h_1415
    refine lv_istore (lv' := [(7, .int 9), (6, .int 0), (5, .int 54), (3, .ref oa), (2, .ref m0), (1, .ref h), (0, .ref b)]) hx hb dL_law_335 hl (by decide) rfl (fun ls hl => ?_)
    refine lv_goto (tgt := 2542) hx hb dL_law_337 (by decide) ?_
    refine lv_iinc (v := 60) (lv' := [(5, .int 60), (7, .int 9), (6, .int 0), (3, .ref oa), (2, .ref m0), (1, .ref h), (0, .ref b)]) hx hb dL_law_2542 hl (k := 2) rfl (by decide) (by decide) rfl (fun ls hl => ?_)
    refine lv_goto (tgt := 28) hx hb dL_law_2545 (by decide) ?_
    have hP := hP.sub (ws' := [(h, .inr (13, [.ref pe, .ref ne, .ref pa, .ref ro, .int 0])), (pe, .inr (9, [.int 10, .ref a1, .ref a2, .ref a3, .ref a4, .ref a5, .ref a6, .ref a7, .ref a8, .ref a9])), (a1, .inl (cy 0, 20, .inl f3_1406)), (a2, .inl (cy 0, 20, .inl f4_1407)), (ro, .inl (cy 0, 20, .inl f0)), (pa, .inr (4, [.int mc, .ref ed, .int 0])), (m0, .inr (20, [.int 0, .ref mp, .int 0, .ref b1, .ref b2, .ref b3, .ref b4, .ref b5, .ref mq])), (mp, .inr (4, [.int mx_1410, .ref qx_1411, .int 10])), (qx_1411, .inl (cy 2, 10, .inr (.inr (.inr (.inr g2_1412))))), (mq, .inr (4, [.int mn, .ref ed, .int 0])), (oa, .inl (cy 3, 1, .inr (.inl o2_1408))), (p0, .inr (17, t0)), (p1, .inr (17, t1)), (p2, .inr (17, t2)), (p3, .inr (17, t3)), (p4, .inr (17, t4)), (p5, .inr (17, t5)), (p6, .inr (17, t6)), (p7, .inr (17, t7)), (p8, .inr (17, t8)), (y_1413, .inr (17, fy_1414))]) [12, 13, 14, 15, 0, 1, 17, 18, 19, 2, 16, 3, 4, 5, 6, 7, 8, 9, 10, 11, 20] rfl
    have hD := hD.sub (ws' := [(h, .inr (13, [.ref pe, .ref ne, .ref pa, .ref ro, .int 0])), (pe, .inr (9, [.int 10, .ref a1, .ref a2, .ref a3, .ref a4, .ref a5, .ref a6, .ref a7, .ref a8, .ref a9])), (a1, .inl (cy 0, 20, .inl f3_1406)), (a2, .inl (cy 0, 20, .inl f4_1407)), (ro, .inl (cy 0, 20, .inl f0)), (pa, .inr (4, [.int mc, .ref ed, .int 0])), (m0, .inr (20, [.int 0, .ref mp, .int 0, .ref b1, .ref b2, .ref b3, .ref b4, .ref b5, .ref mq])), (mp, .inr (4, [.int mx_1410, .ref qx_1411, .int 10])), (qx_1411, .inl (cy 2, 10, .inr (.inr (.inr (.inr g2_1412))))), (mq, .inr (4, [.int mn, .ref ed, .int 0])), (oa, .inl (cy 3, 1, .inr (.inl o2_1408))), (p0, .inr (17, t0)), (p1, .inr (17, t1)), (p2, .inr (17, t2)), (p3, .inr (17, t3)), (p4, .inr (17, t4)), (p5, .inr (17, t5)), (p6, .inr (17, t6)), (p7, .inr (17, t7)), (p8, .inr (17, t8)), (y_1413, .inr (17, fy_1414))]) [12, 13, 14, 15, 0, 1, 17, 18, 19, 2, 16, 3, 4, 5, 6, 7, 8, 9, 10, 11, 20] (by decide) rfl
    exact hnext _ _ _ ⟨pe, ne, pa, ro, a1, a2, a3, a4, a5, a6, a7, a8, a9, mp, mq, b1, b2, b3, b4, b5, qx_1411, mc, mx_1410, mn, f3_1406, f4_1407, f0, o2_1408, g2_1412, p0, p1, p2, p3, p4, p5, p6, p7, p8, y_1413, t0, t1, t2, t3, t4, t5, t6, t7, t8, fy_1414, hP, hD, ((hs_1417 0 (by decide)).trans hp0), ((hs_1417 1 (by decide)).trans hp1), ((hs_1417 2 (by decide)).trans hp2), ((hs_1417 3 (by decide)).trans hp3), ((hs_1417 4 (by decide)).trans hp4), ((hs_1417 5 (by decide)).trans hp5), ((hs_1417 6 (by decide)).trans hp6), ((hs_1417 7 (by decide)).trans hp7), ((hs_1417 8 (by decide)).trans hp8), hs_1416⟩ hS (lv_sub hl [0, 3, 4, 5, 6] rfl)
set_option maxHeartbeats 4000000 in
set_option maxRecDepth 100000 in
theorem law_step_10 {p : Program} {l : Launch} {e : Env} {s : State} {m : MethodId} {below : List Frame} {meth : Method} {c : Code} {D : va_G} {cy : Nat → ClassId} {ed b : Nat} {A : Nat → Prop} {Q : State → Prop} (C0 : zx_LW p l s m c D cy ed b A) {h m0 oa : Nat} {H : Heap} {locs : List Loc} {ls : Array Slot} (h0 : zx_S10 D cy ed A h m0 oa H) (hS : va_S A s.heap H locs) (hl : lv_has ls 9 [(5, .int 60), (3, .ref oa), (2, .ref m0), (1, .ref h), (0, .ref b)])
    (hnext : ∀ (H : Heap) (locs : List Loc) (ls : Array Slot), zx_S11 D cy ed A h m0 oa H → va_S A s.heap H locs → lv_has ls 9 [(5, .int 66), (3, .ref oa), (2, .ref m0), (1, .ref h), (0, .ref b)] → W p l e zx_R s m #[Value.ref b] below meth c H locs 75 1655 Q (F0 m 28 ls [])) :
    W p l e zx_R s m #[Value.ref b] below meth c H locs 71 1610 Q (F0 m 28 ls []) := by
  obtain ⟨hx, hb, hml, hst, hown, hts, hX, hbl, hbA, hA, hK, hZ, hN⟩ := C0
  obtain ⟨pe, ne, pa, ro, a1, a2, a3, a4, a5, a6, a7, a8, a9, mp, mq, b1, b2, b3, b4, b5, ep, mc, mm, mn, f1, f2, f0, og, gp, p0, p1, p2, p3, p4, p5, p6, p7, p8, p9, t0, t1, t2, t3, t4, t5, t6, t7, t8, t9, hP, hD, hp0, hp1, hp2, hp3, hp4, hp5, hp6, hp7, hp8, hp9⟩ := h0
  refine lv_iload hx hb dL_law_28 (lv_at hl 0 rfl) ?_
  refine lv_aload_n hx hb dL_law_30 rfl (lv_at hl 4 rfl) ?_
  refine va_slen hx hb hX hbl hbA hS dL_law_31 ?_
  refine lv_topi (fun y9 ey9 => ?_)
  obtain rfl : y9 = 3072 := ey9.trans (by decide)
  refine lv_bipush (v := 6) hx hb dL_law_32 (by decide) ?_
  refine lv_isub hx hb dL_law_34 ?_
  refine lv_topi (fun y9 ey9 => ?_)
  obtain rfl : y9 = 3066 := by rw [ey9] <;> decide
  refine lv_icmp_gt (tgt := 2548) hx hb dL_law_35 (by decide) (fun c_1418 => absurd c_1418 (by decide)) (fun _ => ?_)
  refine lv_aload_n hx hb dL_law_38 rfl (lv_at hl 4 rfl) ?_
  refine lv_iload hx hb dL_law_39 (lv_at hl 0 rfl) ?_
  refine va_sld hx hb hX hbl hbA hS (zx_bn (by decide)) dL_law_41 ?_
  refine lv_topi (fun y9 ey9 => ?_)
  obtain rfl : y9 = 0 := ey9.trans (by decide)
  refine lv_bipush (v := 63) hx hb dL_law_42 (by decide) ?_
  refine lv_iand hx hb dL_law_44 ?_
  refine lv_topi (fun y9 ey9 => ?_)
  obtain rfl : y9 = 0 := by rw [ey9] <;> decide
  refine lv_tableIn (off := 255) (tgt := 300) hx hb dL_law_45 (by decide) (by decide) (by decide) (by decide) ?_
  refine lv_aload_n hx hb dL_law_300 rfl (lv_at hl 3 rfl) ?_
  refine lv_aload_n hx hb dL_law_301 rfl (lv_at hl 4 rfl) ?_
  refine lv_iload hx hb dL_law_302 (lv_at hl 0 rfl) ?_
  refine lv_iconst (v := 1) hx hb dL_law_304 (by decide) ?_
  refine lv_iadd hx hb dL_law_305 ?_
  refine lv_topi (fun y9 ey9 => ?_)
  obtain rfl : y9 = 61 := by rw [ey9] <;> decide
  refine va_sld hx hb hX hbl hbA hS (zx_bn (by decide)) dL_law_306 ?_
  refine lv_topi (fun y9 ey9 => ?_)
  obtain rfl : y9 = 0 := ey9.trans (by decide)
  refine lv_aload_n hx hb dL_law_307 rfl (lv_at hl 4 rfl) ?_
  refine lv_iload hx hb dL_law_308 (lv_at hl 0 rfl) ?_
  refine lv_iconst (v := 2) hx hb dL_law_310 (by decide) ?_
  refine lv_iadd hx hb dL_law_311 ?_
  refine lv_topi (fun y9 ey9 => ?_)
  obtain rfl : y9 = 62 := by rw [ey9] <;> decide
  refine va_sld hx hb hX hbl hbA hS (zx_bn (by decide)) dL_law_312 ?_
  refine lv_topi (fun y9 ey9 => ?_)
  obtain rfl : y9 = 0 := ey9.trans (by decide)
  refine lv_aload_n hx hb dL_law_313 rfl (lv_at hl 1 rfl) ?_
  have hPc := hP.sub (ws' := [(h, .inr (13, [.ref pe, .ref ne, .ref pa, .ref ro, .int 0])), (pe, .inr (9, [.int 10, .ref a1, .ref a2, .ref a3, .ref a4, .ref a5, .ref a6, .ref a7, .ref a8, .ref a9])), (a1, .inl (cy 0, 20, .inl f1)), (a2, .inl (cy 0, 20, .inl f2)), (oa, .inl (cy 3, 1, .inr (.inl og)))]) [0, 1, 2, 3, 10] rfl
  have hDc := hD.sub (ws' := [(h, .inr (13, [.ref pe, .ref ne, .ref pa, .ref ro, .int 0])), (pe, .inr (9, [.int 10, .ref a1, .ref a2, .ref a3, .ref a4, .ref a5, .ref a6, .ref a7, .ref a8, .ref a9])), (a1, .inl (cy 0, 20, .inl f1)), (a2, .inl (cy 0, 20, .inl f2)), (oa, .inl (cy 3, 1, .inr (.inl og)))]) [0, 1, 2, 3, 10] (by decide) rfl
  have hFc := va_free (wc := [(h, .inr (13, [.ref pe, .ref ne, .ref pa, .ref ro, .int 0])), (pe, .inr (9, [.int 10, .ref a1, .ref a2, .ref a3, .ref a4, .ref a5, .ref a6, .ref a7, .ref a8, .ref a9])), (a1, .inl (cy 0, 20, .inl f1)), (a2, .inl (cy 0, 20, .inl f2)), (oa, .inl (cy 3, 1, .inr (.inl og)))]) hD hS hA [0, 1, 2, 3, 10] rfl
  refine vx_calli (vx_runSX (As := [.ref h, .int 0, .int 0, .ref oa]) (rest := []) ⟨hx, hb, hml, hown, hts⟩ (c_L_addPerson_10 l hst D cy ed H.size h pe ne pa ro 0 a1 a2 a3 a4 a5 a6 a7 a8 a9 f1 f2 oa og) (vx_cwSW 4 hts (zx_GS mm_329 mm_330 mm_70 mm_331) rfl rfl rfl (by decide +kernel) ⟨(Nat.le_of_ble_eq_true rfl), (Nat.le_of_ble_eq_true rfl)⟩) ⟨zx_blind, zx_give hPc hK hDc hS hFc hZ hN⟩ rfl rfl hl.1 rfl (lv_room (Nat.le_of_ble_eq_true rfl)) dL_law_314 ⟨(Nat.le_of_ble_eq_true rfl), (Nat.le_of_ble_eq_true rfl)⟩) hS (fun q _ h => hFc q h) hFc (fun q _ h => hFc q h) (fun E9 ce9 q9 _ t H locs ht hvm _ hBX hz1 hk1 hS hce hcv hcl => ?_) (fun r9 u t H locs ht hvm hw hB hz1 hk1 hS => ?_)
  · exact hBX.elim
  ·
    obtain ⟨f3_1419, f4_1420, o2_1421⟩ := u
    obtain ⟨rfl, h_1422⟩ := hw
    obtain ⟨hP, hD⟩ := zx_join (wr := [(ro, .inl (cy 0, 20, .inl f0)), (pa, .inr (4, [.int mc, .ref ed, .int 0])), (m0, .inr (20, [.int 0, .ref mp, .int 0, .ref b1, .ref b2, .ref b3, .ref b4, .ref b5, .ref mq])), (mp, .inr (4, [.int mm, .ref ep, .int 10])), (ep, .inl (cy 2, 10, .inr (.inr (.inr (.inr gp))))), (mq, .inr (4, [.int mn, .ref ed, .int 0])), (p0, .inr (17, t0)), (p1, .inr (17, t1)), (p2, .inr (17, t2)), (p3, .inr (17, t3)), (p4, .inr (17, t4)), (p5, .inr (17, t5)), (p6, .inr (17, t6)), (p7, .inr (17, t7)), (p8, .inr (17, t8)), (p9, .inr (17, t9))]) (w1 := [(h, .inr (13, [.ref pe, .ref ne, .ref pa, .ref ro, .int 0])), (pe, .inr (9, [.int 11, .ref a1, .ref a2, .ref a3, .ref a4, .ref a5, .ref a6, .ref a7, .ref a8, .ref a9])), (a1, .inl (cy 0, 20, .inl f3_1419)), (a2, .inl (cy 0, 20, .inl f4_1420)), (oa, .inl (cy 3, 1, .inr (.inl o2_1421)))]) [0, 1, 2, 3, 10] [4, 5, 6, 7, 8, 9, 11, 12, 13, 14, 15, 16, 17, 18, 19, 20] rfl rfl (by decide) (by decide) hP hD hk1 hFc hB ht
    have hP : va_P D vwCl [(ro, .inl (cy 0, 20, .inl f0)), (pa, .inr (4, [.int mc, .ref ed, .int 0])), (m0, .inr (20, [.int 0, .ref mp, .int 0, .ref b1, .ref b2, .ref b3, .ref b4, .ref b5, .ref mq])), (mp, .inr (4, [.int mm, .ref ep, .int 10])), (ep, .inl (cy 2, 10, .inr (.inr (.inr (.inr gp))))), (mq, .inr (4, [.int mn, .ref ed, .int 0])), (p0, .inr (17, t0)), (p1, .inr (17, t1)), (p2, .inr (17, t2)), (p3, .inr (17, t3)), (p4, .inr (17, t4)), (p5, .inr (17, t5)), (p6, .inr (17, t6)), (p7, .inr (17, t7)), (p8, .inr (17, t8)), (p9, .inr (17, t9)), (h, .inr (13, [.ref pe, .ref ne, .ref pa, .ref ro, .int 0])), (pe, .inr (9, [.int 11, .ref a1, .ref a2, .ref a3, .ref a4, .ref a5, .ref a6, .ref a7, .ref a8, .ref a9])), (a1, .inl (cy 0, 20, .inl f3_1419)), (a2, .inl (cy 0, 20, .inl f4_1420)), (oa, .inl (cy 3, 1, .inr (.inl o2_1421)))] H := hP
    have hD : va_D A [(ro, .inl (cy 0, 20, .inl f0)), (pa, .inr (4, [.int mc, .ref ed, .int 0])), (m0, .inr (20, [.int 0, .ref mp, .int 0, .ref b1, .ref b2, .ref b3, .ref b4, .ref b5, .ref mq])), (mp, .inr (4, [.int mm, .ref ep, .int 10])), (ep, .inl (cy 2, 10, .inr (.inr (.inr (.inr gp))))), (mq, .inr (4, [.int mn, .ref ed, .int 0])), (p0, .inr (17, t0)), (p1, .inr (17, t1)), (p2, .inr (17, t2)), (p3, .inr (17, t3)), (p4, .inr (17, t4)), (p5, .inr (17, t5)), (p6, .inr (17, t6)), (p7, .inr (17, t7)), (p8, .inr (17, t8)), (p9, .inr (17, t9)), (h, .inr (13, [.ref pe, .ref ne, .ref pa, .ref ro, .int 0])), (pe, .inr (9, [.int 11, .ref a1, .ref a2, .ref a3, .ref a4, .ref a5, .ref a6, .ref a7, .ref a8, .ref a9])), (a1, .inl (cy 0, 20, .inl f3_1419)), (a2, .inl (cy 0, 20, .inl f4_1420)), (oa, .inl (cy 3, 1, .inr (.inl o2_1421)))] := hD
    refine W.widen (k := 71) (n := 1610) (Nat.le_of_ble_eq_true rfl) (Nat.le_of_ble_eq_true rfl) ?_
    refine lv_istore (lv' := [(6, .int 0), (5, .int 60), (3, .ref oa), (2, .ref m0), (1, .ref h), (0, .ref b)]) hx hb dL_law_317 hl (by decide) rfl (fun ls hl => ?_)
    refine lv_aload_n hx hb dL_law_319 rfl (lv_at hl 3 rfl) ?_
    refine lv_aload_n hx hb dL_law_320 rfl (lv_at hl 5 rfl) ?_
    refine lv_iload hx hb dL_law_321 (lv_at hl 1 rfl) ?_
    refine lv_iconst (v := 1) hx hb dL_law_323 (by decide) ?_
    refine lv_iadd hx hb dL_law_324 ?_
    refine lv_topi (fun y9 ey9 => ?_)
    obtain rfl : y9 = 61 := by rw [ey9] <;> decide
    refine va_sld hx hb hX hbl hbA hS (zx_bn (by decide)) dL_law_325 ?_
    refine lv_topi (fun y9 ey9 => ?_)
    obtain rfl : y9 = 0 := ey9.trans (by decide)
    refine lv_aload_n hx hb dL_law_326 rfl (lv_at hl 5 rfl) ?_
    refine lv_iload hx hb dL_law_327 (lv_at hl 1 rfl) ?_
    refine lv_iconst (v := 2) hx hb dL_law_329 (by decide) ?_
    refine lv_iadd hx hb dL_law_330 ?_
    refine lv_topi (fun y9 ey9 => ?_)
    obtain rfl : y9 = 62 := by rw [ey9] <;> decide
    refine va_sld hx hb hX hbl hbA hS (zx_bn (by decide)) dL_law_331 ?_
    refine lv_topi (fun y9 ey9 => ?_)
    obtain rfl : y9 = 0 := ey9.trans (by decide)
    have hPc := hP.sub (ws' := [(m0, .inr (20, [.int 0, .ref mp, .int 0, .ref b1, .ref b2, .ref b3, .ref b4, .ref b5, .ref mq])), (mp, .inr (4, [.int mm, .ref ep, .int 10])), (ep, .inl (cy 2, 10, .inr (.inr (.inr (.inr gp))))), (p0, .inr (17, t0)), (p1, .inr (17, t1)), (p2, .inr (17, t2)), (p3, .inr (17, t3)), (p4, .inr (17, t4)), (p5, .inr (17, t5)), (p6, .inr (17, t6)), (p7, .inr (17, t7)), (p8, .inr (17, t8)), (p9, .inr (17, t9))]) [2, 3, 4, 6, 7, 8, 9, 10, 11, 12, 13, 14, 15] rfl
    have hDc := hD.sub (ws' := [(m0, .inr (20, [.int 0, .ref mp, .int 0, .ref b1, .ref b2, .ref b3, .ref b4, .ref b5, .ref mq])), (mp, .inr (4, [.int mm, .ref ep, .int 10])), (ep, .inl (cy 2, 10, .inr (.inr (.inr (.inr gp))))), (p0, .inr (17, t0)), (p1, .inr (17, t1)), (p2, .inr (17, t2)), (p3, .inr (17, t3)), (p4, .inr (17, t4)), (p5, .inr (17, t5)), (p6, .inr (17, t6)), (p7, .inr (17, t7)), (p8, .inr (17, t8)), (p9, .inr (17, t9))]) [2, 3, 4, 6, 7, 8, 9, 10, 11, 12, 13, 14, 15] (by decide) rfl
    have hFc := va_free (wc := [(m0, .inr (20, [.int 0, .ref mp, .int 0, .ref b1, .ref b2, .ref b3, .ref b4, .ref b5, .ref mq])), (mp, .inr (4, [.int mm, .ref ep, .int 10])), (ep, .inl (cy 2, 10, .inr (.inr (.inr (.inr gp))))), (p0, .inr (17, t0)), (p1, .inr (17, t1)), (p2, .inr (17, t2)), (p3, .inr (17, t3)), (p4, .inr (17, t4)), (p5, .inr (17, t5)), (p6, .inr (17, t6)), (p7, .inr (17, t7)), (p8, .inr (17, t8)), (p9, .inr (17, t9))]) hD hS hA [2, 3, 4, 6, 7, 8, 9, 10, 11, 12, 13, 14, 15] rfl
    refine va_calli (va_runV (As := [.int 0, .int 0]) (rest := []) ⟨hx, hb, hml, hown, hts⟩ (c_X15_addPerson_10 l hst D cy ed H.size m0 mp mq b1 b2 b3 b4 b5 0 0 mm ep gp p0 p1 p2 p3 p4 p5 p6 p7 p8 p9 t0 t1 t2 t3 t4 t5 t6 t7 t8 t9 hp0 hp1 hp2 hp3 hp4 hp5 hp6 hp7 hp8 hp9) (cwV 2 hts (zx_GV mm_1599 mm_1600 mm_1601 mm_78 mm_1602) rfl rfl rfl (by decide +kernel) ⟨(Nat.le_of_ble_eq_true rfl), (Nat.le_of_ble_eq_true rfl)⟩) ⟨zx_blind, va_recv hK hPc (ci := 20) (q0 := 0) rfl rfl, zx_give hPc hK hDc hS hFc hZ hN⟩ rfl rfl hl.1 rfl (lv_room (Nat.le_of_ble_eq_true rfl)) dL_law_332 ⟨(Nat.le_of_ble_eq_true rfl), (Nat.le_of_ble_eq_true rfl)⟩) hS (fun q _ h => hFc q h) hFc (fun r9 u t H1 locs ht hvm hw hB hz1 hk1 hS => ?_)
    obtain ⟨mx_1423, qx_1424, g2_1425, y_1426, fy_1427⟩ := u
    obtain ⟨rfl, h_1428⟩ := hw
    obtain ⟨hP, hD⟩ := zx_join (wr := [(ro, .inl (cy 0, 20, .inl f0)), (pa, .inr (4, [.int mc, .ref ed, .int 0])), (mq, .inr (4, [.int mn, .ref ed, .int 0])), (h, .inr (13, [.ref pe, .ref ne, .ref pa, .ref ro, .int 0])), (pe, .inr (9, [.int 11, .ref a1, .ref a2, .ref a3, .ref a4, .ref a5, .ref a6, .ref a7, .ref a8, .ref a9])), (a1, .inl (cy 0, 20, .inl f3_1419)), (a2, .inl (cy 0, 20, .inl f4_1420)), (oa, .inl (cy 3, 1, .inr (.inl o2_1421)))]) (w1 := [(m0, .inr (20, [.int 0, .ref mp, .int 0, .ref b1, .ref b2, .ref b3, .ref b4, .ref b5, .ref mq])), (mp, .inr (4, [.int mx_1423, .ref qx_1424, .int 11])), (qx_1424, .inl (cy 2, 15, .inr (.inr (.inr (.inr g2_1425))))), (y_1426, .inr (17, fy_1427)), (p0, .inr (17, t0)), (p1, .inr (17, t1)), (p2, .inr (17, t2)), (p3, .inr (17, t3)), (p4, .inr (17, t4)), (p5, .inr (17, t5)), (p6, .inr (17, t6)), (p7, .inr (17, t7)), (p8, .inr (17, t8)), (p9, .inr (17, t9))]) [2, 3, 4, 6, 7, 8, 9, 10, 11, 12, 13, 14, 15] [0, 1, 5, 16, 17, 18, 19, 20] rfl rfl (by decide) (by decide) hP hD hk1 hFc hB ht
    generalize H1 = H at hP hS ⊢
    have hP : va_P D vwCl [(ro, .inl (cy 0, 20, .inl f0)), (pa, .inr (4, [.int mc, .ref ed, .int 0])), (mq, .inr (4, [.int mn, .ref ed, .int 0])), (h, .inr (13, [.ref pe, .ref ne, .ref pa, .ref ro, .int 0])), (pe, .inr (9, [.int 11, .ref a1, .ref a2, .ref a3, .ref a4, .ref a5, .ref a6, .ref a7, .ref a8, .ref a9])), (a1, .inl (cy 0, 20, .inl f3_1419)), (a2, .inl (cy 0, 20, .inl f4_1420)), (oa, .inl (cy 3, 1, .inr (.inl o2_1421))), (m0, .inr (20, [.int 0, .ref mp, .int 0, .ref b1, .ref b2, .ref b3, .ref b4, .ref b5, .ref mq])), (mp, .inr (4, [.int mx_1423, .ref qx_1424, .int 11])), (qx_1424, .inl (cy 2, 15, .inr (.inr (.inr (.inr g2_1425))))), (y_1426, .inr (17, fy_1427)), (p0, .inr (17, t0)), (p1, .inr (17, t1)), (p2, .inr (17, t2)), (p3, .inr (17, t3)), (p4, .inr (17, t4)), (p5, .inr (17, t5)), (p6, .inr (17, t6)), (p7, .inr (17, t7)), (p8, .inr (17, t8)), (p9, .inr (17, t9))] H := hP
    have hD : va_D A [(ro, .inl (cy 0, 20, .inl f0)), (pa, .inr (4, [.int mc, .ref ed, .int 0])), (mq, .inr (4, [.int mn, .ref ed, .int 0])), (h, .inr (13, [.ref pe, .ref ne, .ref pa, .ref ro, .int 0])), (pe, .inr (9, [.int 11, .ref a1, .ref a2, .ref a3, .ref a4, .ref a5, .ref a6, .ref a7, .ref a8, .ref a9])), (a1, .inl (cy 0, 20, .inl f3_1419)), (a2, .inl (cy 0, 20, .inl f4_1420)), (oa, .inl (cy 3, 1, .inr (.inl o2_1421))), (m0, .inr (20, [.int 0, .ref mp, .int 0, .ref b1, .ref b2, .ref b3, .ref b4, .ref b5, .ref mq])), (mp, .inr (4, [.int mx_1423, .ref qx_1424, .int 11])), (qx_1424, .inl (cy 2, 15, .inr (.inr (.inr (.inr g2_1425))))), (y_1426, .inr (17, fy_1427)), (p0, .inr (17, t0)), (p1, .inr (17, t1)), (p2, .inr (17, t2)), (p3, .inr (17, t3)), (p4, .inr (17, t4)), (p5, .inr (17, t5)), (p6, .inr (17, t6)), (p7, .inr (17, t7)), (p8, .inr (17, t8)), (p9, .inr (17, t9))] := hD
    refine W.widen (k := 75) (n := 1655) (Nat.le_of_ble_eq_true rfl) (Nat.le_of_ble_eq_true rfl) ?_
    obtain ⟨hs_1429, hs_1430⟩ := h_1428
    refine lv_istore (lv' := [(7, .int 10), (6, .int 0), (5, .int 60), (3, .ref oa), (2, .ref m0), (1, .ref h), (0, .ref b)]) hx hb dL_law_335 hl (by decide) rfl (fun ls hl => ?_)
    refine lv_goto (tgt := 2542) hx hb dL_law_337 (by decide) ?_
    refine lv_iinc (v := 66) (lv' := [(5, .int 66), (7, .int 10), (6, .int 0), (3, .ref oa), (2, .ref m0), (1, .ref h), (0, .ref b)]) hx hb dL_law_2542 hl (k := 2) rfl (by decide) (by decide) rfl (fun ls hl => ?_)
    refine lv_goto (tgt := 28) hx hb dL_law_2545 (by decide) ?_
    have hP := hP.sub (ws' := [(h, .inr (13, [.ref pe, .ref ne, .ref pa, .ref ro, .int 0])), (pe, .inr (9, [.int 11, .ref a1, .ref a2, .ref a3, .ref a4, .ref a5, .ref a6, .ref a7, .ref a8, .ref a9])), (a1, .inl (cy 0, 20, .inl f3_1419)), (a2, .inl (cy 0, 20, .inl f4_1420)), (ro, .inl (cy 0, 20, .inl f0)), (pa, .inr (4, [.int mc, .ref ed, .int 0])), (m0, .inr (20, [.int 0, .ref mp, .int 0, .ref b1, .ref b2, .ref b3, .ref b4, .ref b5, .ref mq])), (mp, .inr (4, [.int mx_1423, .ref qx_1424, .int 11])), (qx_1424, .inl (cy 2, 15, .inr (.inr (.inr (.inr g2_1425))))), (mq, .inr (4, [.int mn, .ref ed, .int 0])), (oa, .inl (cy 3, 1, .inr (.inl o2_1421))), (p0, .inr (17, t0)), (p1, .inr (17, t1)), (p2, .inr (17, t2)), (p3, .inr (17, t3)), (p4, .inr (17, t4)), (p5, .inr (17, t5)), (p6, .inr (17, t6)), (p7, .inr (17, t7)), (p8, .inr (17, t8)), (p9, .inr (17, t9)), (y_1426, .inr (17, fy_1427))]) [3, 4, 5, 6, 0, 1, 8, 9, 10, 2, 7, 12, 13, 14, 15, 16, 17, 18, 19, 20, 21, 11] rfl
    have hD := hD.sub (ws' := [(h, .inr (13, [.ref pe, .ref ne, .ref pa, .ref ro, .int 0])), (pe, .inr (9, [.int 11, .ref a1, .ref a2, .ref a3, .ref a4, .ref a5, .ref a6, .ref a7, .ref a8, .ref a9])), (a1, .inl (cy 0, 20, .inl f3_1419)), (a2, .inl (cy 0, 20, .inl f4_1420)), (ro, .inl (cy 0, 20, .inl f0)), (pa, .inr (4, [.int mc, .ref ed, .int 0])), (m0, .inr (20, [.int 0, .ref mp, .int 0, .ref b1, .ref b2, .ref b3, .ref b4, .ref b5, .ref mq])), (mp, .inr (4, [.int mx_1423, .ref qx_1424, .int 11])), (qx_1424, .inl (cy 2, 15, .inr (.inr (.inr (.inr g2_1425))))), (mq, .inr (4, [.int mn, .ref ed, .int 0])), (oa, .inl (cy 3, 1, .inr (.inl o2_1421))), (p0, .inr (17, t0)), (p1, .inr (17, t1)), (p2, .inr (17, t2)), (p3, .inr (17, t3)), (p4, .inr (17, t4)), (p5, .inr (17, t5)), (p6, .inr (17, t6)), (p7, .inr (17, t7)), (p8, .inr (17, t8)), (p9, .inr (17, t9)), (y_1426, .inr (17, fy_1427))]) [3, 4, 5, 6, 0, 1, 8, 9, 10, 2, 7, 12, 13, 14, 15, 16, 17, 18, 19, 20, 21, 11] (by decide) rfl
    exact hnext _ _ _ ⟨pe, ne, pa, ro, a1, a2, a3, a4, a5, a6, a7, a8, a9, mp, mq, b1, b2, b3, b4, b5, qx_1424, mc, mx_1423, mn, f3_1419, f4_1420, f0, o2_1421, g2_1425, p0, p1, p2, p3, p4, p5, p6, p7, p8, p9, y_1426, t0, t1, t2, t3, t4, t5, t6, t7, t8, t9, fy_1427, hP, hD, ((hs_1430 0 (by decide)).trans hp0), ((hs_1430 1 (by decide)).trans hp1), ((hs_1430 2 (by decide)).trans hp2), ((hs_1430 3 (by decide)).trans hp3), ((hs_1430 4 (by decide)).trans hp4), ((hs_1430 5 (by decide)).trans hp5), ((hs_1430 6 (by decide)).trans hp6), ((hs_1430 7 (by decide)).trans hp7), ((hs_1430 8 (by decide)).trans hp8), ((hs_1430 9 (by decide)).trans hp9), hs_1429⟩ hS (lv_sub hl [0, 3, 4, 5, 6] rfl)
set_option maxHeartbeats 4000000 in
set_option maxRecDepth 100000 in
theorem law_step_11 {p : Program} {l : Launch} {e : Env} {s : State} {m : MethodId} {below : List Frame} {meth : Method} {c : Code} {D : va_G} {cy : Nat → ClassId} {ed b : Nat} {A : Nat → Prop} {Q : State → Prop} (C0 : zx_LW p l s m c D cy ed b A) {h m0 oa : Nat} {H : Heap} {locs : List Loc} {ls : Array Slot} (h0 : zx_S11 D cy ed A h m0 oa H) (hS : va_S A s.heap H locs) (hl : lv_has ls 9 [(5, .int 66), (3, .ref oa), (2, .ref m0), (1, .ref h), (0, .ref b)])
    (hnext : ∀ (H : Heap) (locs : List Loc) (ls : Array Slot), zx_S12 D cy ed A h m0 oa H → va_S A s.heap H locs → lv_has ls 9 [(5, .int 72), (3, .ref oa), (2, .ref m0), (1, .ref h), (0, .ref b)] → W p l e zx_R s m #[Value.ref b] below meth c H locs 78 1685 Q (F0 m 28 ls [])) :
    W p l e zx_R s m #[Value.ref b] below meth c H locs 75 1655 Q (F0 m 28 ls []) := by
  obtain ⟨hx, hb, hml, hst, hown, hts, hX, hbl, hbA, hA, hK, hZ, hN⟩ := C0
  obtain ⟨pe, ne, pa, ro, a1, a2, a3, a4, a5, a6, a7, a8, a9, mp, mq, b1, b2, b3, b4, b5, ep, mc, mm, mn, f1, f2, f0, og, gp, p0, p1, p2, p3, p4, p5, p6, p7, p8, p9, p10, t0, t1, t2, t3, t4, t5, t6, t7, t8, t9, t10, hP, hD, hp0, hp1, hp2, hp3, hp4, hp5, hp6, hp7, hp8, hp9, hp10⟩ := h0
  refine lv_iload hx hb dL_law_28 (lv_at hl 0 rfl) ?_
  refine lv_aload_n hx hb dL_law_30 rfl (lv_at hl 4 rfl) ?_
  refine va_slen hx hb hX hbl hbA hS dL_law_31 ?_
  refine lv_topi (fun y9 ey9 => ?_)
  obtain rfl : y9 = 3072 := ey9.trans (by decide)
  refine lv_bipush (v := 6) hx hb dL_law_32 (by decide) ?_
  refine lv_isub hx hb dL_law_34 ?_
  refine lv_topi (fun y9 ey9 => ?_)
  obtain rfl : y9 = 3066 := by rw [ey9] <;> decide
  refine lv_icmp_gt (tgt := 2548) hx hb dL_law_35 (by decide) (fun c_1431 => absurd c_1431 (by decide)) (fun _ => ?_)
  refine lv_aload_n hx hb dL_law_38 rfl (lv_at hl 4 rfl) ?_
  refine lv_iload hx hb dL_law_39 (lv_at hl 0 rfl) ?_
  refine va_sld hx hb hX hbl hbA hS (zx_bn (by decide)) dL_law_41 ?_
  refine lv_topi (fun y9 ey9 => ?_)
  obtain rfl : y9 = 0 := ey9.trans (by decide)
  refine lv_bipush (v := 63) hx hb dL_law_42 (by decide) ?_
  refine lv_iand hx hb dL_law_44 ?_
  refine lv_topi (fun y9 ey9 => ?_)
  obtain rfl : y9 = 0 := by rw [ey9] <;> decide
  refine lv_tableIn (off := 255) (tgt := 300) hx hb dL_law_45 (by decide) (by decide) (by decide) (by decide) ?_
  refine lv_aload_n hx hb dL_law_300 rfl (lv_at hl 3 rfl) ?_
  refine lv_aload_n hx hb dL_law_301 rfl (lv_at hl 4 rfl) ?_
  refine lv_iload hx hb dL_law_302 (lv_at hl 0 rfl) ?_
  refine lv_iconst (v := 1) hx hb dL_law_304 (by decide) ?_
  refine lv_iadd hx hb dL_law_305 ?_
  refine lv_topi (fun y9 ey9 => ?_)
  obtain rfl : y9 = 67 := by rw [ey9] <;> decide
  refine va_sld hx hb hX hbl hbA hS (zx_bn (by decide)) dL_law_306 ?_
  refine lv_topi (fun y9 ey9 => ?_)
  obtain rfl : y9 = 0 := ey9.trans (by decide)
  refine lv_aload_n hx hb dL_law_307 rfl (lv_at hl 4 rfl) ?_
  refine lv_iload hx hb dL_law_308 (lv_at hl 0 rfl) ?_
  refine lv_iconst (v := 2) hx hb dL_law_310 (by decide) ?_
  refine lv_iadd hx hb dL_law_311 ?_
  refine lv_topi (fun y9 ey9 => ?_)
  obtain rfl : y9 = 68 := by rw [ey9] <;> decide
  refine va_sld hx hb hX hbl hbA hS (zx_bn (by decide)) dL_law_312 ?_
  refine lv_topi (fun y9 ey9 => ?_)
  obtain rfl : y9 = 0 := ey9.trans (by decide)
  refine lv_aload_n hx hb dL_law_313 rfl (lv_at hl 1 rfl) ?_
  have hPc := hP.sub (ws' := [(h, .inr (13, [.ref pe, .ref ne, .ref pa, .ref ro, .int 0])), (pe, .inr (9, [.int 11, .ref a1, .ref a2, .ref a3, .ref a4, .ref a5, .ref a6, .ref a7, .ref a8, .ref a9])), (a1, .inl (cy 0, 20, .inl f1)), (a2, .inl (cy 0, 20, .inl f2)), (oa, .inl (cy 3, 1, .inr (.inl og)))]) [0, 1, 2, 3, 10] rfl
  have hDc := hD.sub (ws' := [(h, .inr (13, [.ref pe, .ref ne, .ref pa, .ref ro, .int 0])), (pe, .inr (9, [.int 11, .ref a1, .ref a2, .ref a3, .ref a4, .ref a5, .ref a6, .ref a7, .ref a8, .ref a9])), (a1, .inl (cy 0, 20, .inl f1)), (a2, .inl (cy 0, 20, .inl f2)), (oa, .inl (cy 3, 1, .inr (.inl og)))]) [0, 1, 2, 3, 10] (by decide) rfl
  have hFc := va_free (wc := [(h, .inr (13, [.ref pe, .ref ne, .ref pa, .ref ro, .int 0])), (pe, .inr (9, [.int 11, .ref a1, .ref a2, .ref a3, .ref a4, .ref a5, .ref a6, .ref a7, .ref a8, .ref a9])), (a1, .inl (cy 0, 20, .inl f1)), (a2, .inl (cy 0, 20, .inl f2)), (oa, .inl (cy 3, 1, .inr (.inl og)))]) hD hS hA [0, 1, 2, 3, 10] rfl
  refine vx_calli (vx_runSX (As := [.ref h, .int 0, .int 0, .ref oa]) (rest := []) ⟨hx, hb, hml, hown, hts⟩ (c_L_addPerson_11 l hst D cy ed H.size h pe ne pa ro 0 a1 a2 a3 a4 a5 a6 a7 a8 a9 f1 f2 oa og) (vx_cwSW 4 hts (zx_GS mm_329 mm_330 mm_70 mm_331) rfl rfl rfl (by decide +kernel) ⟨(Nat.le_of_ble_eq_true rfl), (Nat.le_of_ble_eq_true rfl)⟩) ⟨zx_blind, zx_give hPc hK hDc hS hFc hZ hN⟩ rfl rfl hl.1 rfl (lv_room (Nat.le_of_ble_eq_true rfl)) dL_law_314 ⟨(Nat.le_of_ble_eq_true rfl), (Nat.le_of_ble_eq_true rfl)⟩) hS (fun q _ h => hFc q h) hFc (fun q _ h => hFc q h) (fun E9 ce9 q9 _ t H locs ht hvm _ hBX hz1 hk1 hS hce hcv hcl => ?_) (fun r9 u t H locs ht hvm hw hB hz1 hk1 hS => ?_)
  · exact hBX.elim
  ·
    obtain ⟨f3_1432, f4_1433, o2_1434⟩ := u
    obtain ⟨rfl, h_1435⟩ := hw
    obtain ⟨hP, hD⟩ := zx_join (wr := [(ro, .inl (cy 0, 20, .inl f0)), (pa, .inr (4, [.int mc, .ref ed, .int 0])), (m0, .inr (20, [.int 0, .ref mp, .int 0, .ref b1, .ref b2, .ref b3, .ref b4, .ref b5, .ref mq])), (mp, .inr (4, [.int mm, .ref ep, .int 11])), (ep, .inl (cy 2, 15, .inr (.inr (.inr (.inr gp))))), (mq, .inr (4, [.int mn, .ref ed, .int 0])), (p0, .inr (17, t0)), (p1, .inr (17, t1)), (p2, .inr (17, t2)), (p3, .inr (17, t3)), (p4, .inr (17, t4)), (p5, .inr (17, t5)), (p6, .inr (17, t6)), (p7, .inr (17, t7)), (p8, .inr (17, t8)), (p9, .inr (17, t9)), (p10, .inr (17, t10))]) (w1 := [(h, .inr (13, [.ref pe, .ref ne, .ref pa, .ref ro, .int 0])), (pe, .inr (9, [.int 12, .ref a1, .ref a2, .ref a3, .ref a4, .ref a5, .ref a6, .ref a7, .ref a8, .ref a9])), (a1, .inl (cy 0, 20, .inl f3_1432)), (a2, .inl (cy 0, 20, .inl f4_1433)), (oa, .inl (cy 3, 1, .inr (.inl o2_1434)))]) [0, 1, 2, 3, 10] [4, 5, 6, 7, 8, 9, 11, 12, 13, 14, 15, 16, 17, 18, 19, 20, 21] rfl rfl (by decide) (by decide) hP hD hk1 hFc hB ht
    have hP : va_P D vwCl [(ro, .inl (cy 0, 20, .inl f0)), (pa, .inr (4, [.int mc, .ref ed, .int 0])), (m0, .inr (20, [.int 0, .ref mp, .int 0, .ref b1, .ref b2, .ref b3, .ref b4, .ref b5, .ref mq])), (mp, .inr (4, [.int mm, .ref ep, .int 11])), (ep, .inl (cy 2, 15, .inr (.inr (.inr (.inr gp))))), (mq, .inr (4, [.int mn, .ref ed, .int 0])), (p0, .inr (17, t0)), (p1, .inr (17, t1)), (p2, .inr (17, t2)), (p3, .inr (17, t3)), (p4, .inr (17, t4)), (p5, .inr (17, t5)), (p6, .inr (17, t6)), (p7, .inr (17, t7)), (p8, .inr (17, t8)), (p9, .inr (17, t9)), (p10, .inr (17, t10)), (h, .inr (13, [.ref pe, .ref ne, .ref pa, .ref ro, .int 0])), (pe, .inr (9, [.int 12, .ref a1, .ref a2, .ref a3, .ref a4, .ref a5, .ref a6, .ref a7, .ref a8, .ref a9])), (a1, .inl (cy 0, 20, .inl f3_1432)), (a2, .inl (cy 0, 20, .inl f4_1433)), (oa, .inl (cy 3, 1, .inr (.inl o2_1434)))] H := hP
    have hD : va_D A [(ro, .inl (cy 0, 20, .inl f0)), (pa, .inr (4, [.int mc, .ref ed, .int 0])), (m0, .inr (20, [.int 0, .ref mp, .int 0, .ref b1, .ref b2, .ref b3, .ref b4, .ref b5, .ref mq])), (mp, .inr (4, [.int mm, .ref ep, .int 11])), (ep, .inl (cy 2, 15, .inr (.inr (.inr (.inr gp))))), (mq, .inr (4, [.int mn, .ref ed, .int 0])), (p0, .inr (17, t0)), (p1, .inr (17, t1)), (p2, .inr (17, t2)), (p3, .inr (17, t3)), (p4, .inr (17, t4)), (p5, .inr (17, t5)), (p6, .inr (17, t6)), (p7, .inr (17, t7)), (p8, .inr (17, t8)), (p9, .inr (17, t9)), (p10, .inr (17, t10)), (h, .inr (13, [.ref pe, .ref ne, .ref pa, .ref ro, .int 0])), (pe, .inr (9, [.int 12, .ref a1, .ref a2, .ref a3, .ref a4, .ref a5, .ref a6, .ref a7, .ref a8, .ref a9])), (a1, .inl (cy 0, 20, .inl f3_1432)), (a2, .inl (cy 0, 20, .inl f4_1433)), (oa, .inl (cy 3, 1, .inr (.inl o2_1434)))] := hD
    refine W.widen (k := 75) (n := 1655) (Nat.le_of_ble_eq_true rfl) (Nat.le_of_ble_eq_true rfl) ?_
    refine lv_istore (lv' := [(6, .int 0), (5, .int 66), (3, .ref oa), (2, .ref m0), (1, .ref h), (0, .ref b)]) hx hb dL_law_317 hl (by decide) rfl (fun ls hl => ?_)
    refine lv_aload_n hx hb dL_law_319 rfl (lv_at hl 3 rfl) ?_
    refine lv_aload_n hx hb dL_law_320 rfl (lv_at hl 5 rfl) ?_
    refine lv_iload hx hb dL_law_321 (lv_at hl 1 rfl) ?_
    refine lv_iconst (v := 1) hx hb dL_law_323 (by decide) ?_
    refine lv_iadd hx hb dL_law_324 ?_
    refine lv_topi (fun y9 ey9 => ?_)
    obtain rfl : y9 = 67 := by rw [ey9] <;> decide
    refine va_sld hx hb hX hbl hbA hS (zx_bn (by decide)) dL_law_325 ?_
    refine lv_topi (fun y9 ey9 => ?_)
    obtain rfl : y9 = 0 := ey9.trans (by decide)
    refine lv_aload_n hx hb dL_law_326 rfl (lv_at hl 5 rfl) ?_
    refine lv_iload hx hb dL_law_327 (lv_at hl 1 rfl) ?_
    refine lv_iconst (v := 2) hx hb dL_law_329 (by decide) ?_
    refine lv_iadd hx hb dL_law_330 ?_
    refine lv_topi (fun y9 ey9 => ?_)
    obtain rfl : y9 = 68 := by rw [ey9] <;> decide
    refine va_sld hx hb hX hbl hbA hS (zx_bn (by decide)) dL_law_331 ?_
    refine lv_topi (fun y9 ey9 => ?_)
    obtain rfl : y9 = 0 := ey9.trans (by decide)
    have hPc := hP.sub (ws' := [(m0, .inr (20, [.int 0, .ref mp, .int 0, .ref b1, .ref b2, .ref b3, .ref b4, .ref b5, .ref mq])), (mp, .inr (4, [.int mm, .ref ep, .int 11])), (ep, .inl (cy 2, 15, .inr (.inr (.inr (.inr gp)))))]) [2, 3, 4] rfl
    have hDc := hD.sub (ws' := [(m0, .inr (20, [.int 0, .ref mp, .int 0, .ref b1, .ref b2, .ref b3, .ref b4, .ref b5, .ref mq])), (mp, .inr (4, [.int mm, .ref ep, .int 11])), (ep, .inl (cy 2, 15, .inr (.inr (.inr (.inr gp)))))]) [2, 3, 4] (by decide) rfl
    have hFc := va_free (wc := [(m0, .inr (20, [.int 0, .ref mp, .int 0, .ref b1, .ref b2, .ref b3, .ref b4, .ref b5, .ref mq])), (mp, .inr (4, [.int mm, .ref ep, .int 11])), (ep, .inl (cy 2, 15, .inr (.inr (.inr (.inr gp)))))]) hD hS hA [2, 3, 4] rfl
    refine va_calli (va_runV (As := [.int 0, .int 0]) (rest := []) ⟨hx, hb, hml, hown, hts⟩ (c_X15_addPerson_11 l hst D cy ed H.size m0 mp mq b1 b2 b3 b4 b5 0 0 mm ep gp) (cwV 2 hts (zx_GV mm_1599 mm_1600 mm_1601 mm_78 mm_1602) rfl rfl rfl (by decide +kernel) ⟨(Nat.le_of_ble_eq_true rfl), (Nat.le_of_ble_eq_true rfl)⟩) ⟨zx_blind, va_recv hK hPc (ci := 20) (q0 := 0) rfl rfl, zx_give hPc hK hDc hS hFc hZ hN⟩ rfl rfl hl.1 rfl (lv_room (Nat.le_of_ble_eq_true rfl)) dL_law_332 ⟨(Nat.le_of_ble_eq_true rfl), (Nat.le_of_ble_eq_true rfl)⟩) hS (fun q _ h => hFc q h) hFc (fun r9 u t H1 locs ht hvm hw hB hz1 hk1 hS => ?_)
    obtain ⟨mx_1436, qx_1437, g2_1438, y_1439, fy_1440⟩ := u
    obtain ⟨rfl, h_1441⟩ := hw
    obtain ⟨hP, hD⟩ := zx_join (wr := [(ro, .inl (cy 0, 20, .inl f0)), (pa, .inr (4, [.int mc, .ref ed, .int 0])), (mq, .inr (4, [.int mn, .ref ed, .int 0])), (p0, .inr (17, t0)), (p1, .inr (17, t1)), (p2, .inr (17, t2)), (p3, .inr (17, t3)), (p4, .inr (17, t4)), (p5, .inr (17, t5)), (p6, .inr (17, t6)), (p7, .inr (17, t7)), (p8, .inr (17, t8)), (p9, .inr (17, t9)), (p10, .inr (17, t10)), (h, .inr (13, [.ref pe, .ref ne, .ref pa, .ref ro, .int 0])), (pe, .inr (9, [.int 12, .ref a1, .ref a2, .ref a3, .ref a4, .ref a5, .ref a6, .ref a7, .ref a8, .ref a9])), (a1, .inl (cy 0, 20, .inl f3_1432)), (a2, .inl (cy 0, 20, .inl f4_1433)), (oa, .inl (cy 3, 1, .inr (.inl o2_1434)))]) (w1 := [(m0, .inr (20, [.int 0, .ref mp, .int 0, .ref b1, .ref b2, .ref b3, .ref b4, .ref b5, .ref mq])), (mp, .inr (4, [.int mx_1436, .ref qx_1437, .int 12])), (qx_1437, .inl (cy 2, 15, .inr (.inr (.inr (.inr g2_1438))))), (y_1439, .inr (17, fy_1440))]) [2, 3, 4] [0, 1, 5, 6, 7, 8, 9, 10, 11, 12, 13, 14, 15, 16, 17, 18, 19, 20, 21] rfl rfl (by decide) (by decide) hP hD hk1 hFc hB ht
    generalize H1 = H at hP hS ⊢
    have hP : va_P D vwCl [(ro, .inl (cy 0, 20, .inl f0)), (pa, .inr (4, [.int mc, .ref ed, .int 0])), (mq, .inr (4, [.int mn, .ref ed, .int 0])), (p0, .inr (17, t0)), (p1, .inr (17, t1)), (p2, .inr (17, t2)), (p3, .inr (17, t3)), (p4, .inr (17, t4)), (p5, .inr (17, t5)), (p6, .inr (17, t6)), (p7, .inr (17, t7)), (p8, .inr (17, t8)), (p9, .inr (17, t9)), (p10, .inr (17, t10)), (h, .inr (13, [.ref pe, .ref ne, .ref pa, .ref ro, .int 0])), (pe, .inr (9, [.int 12, .ref a1, .ref a2, .ref a3, .ref a4, .ref a5, .ref a6, .ref a7, .ref a8, .ref a9])), (a1, .inl (cy 0, 20, .inl f3_1432)), (a2, .inl (cy 0, 20, .inl f4_1433)), (oa, .inl (cy 3, 1, .inr (.inl o2_1434))), (m0, .inr (20, [.int 0, .ref mp, .int 0, .ref b1, .ref b2, .ref b3, .ref b4, .ref b5, .ref mq])), (mp, .inr (4, [.int mx_1436, .ref qx_1437, .int 12])), (qx_1437, .inl (cy 2, 15, .inr (.inr (.inr (.inr g2_1438))))), (y_1439, .inr (17, fy_1440))] H := hP
    have hD : va_D A [(ro, .inl (cy 0, 20, .inl f0)), (pa, .inr (4, [.int mc, .ref ed, .int 0])), (mq, .inr (4, [.int mn, .ref ed, .int 0])), (p0, .inr (17, t0)), (p1, .inr (17, t1)), (p2, .inr (17, t2)), (p3, .inr (17, t3)), (p4, .inr (17, t4)), (p5, .inr (17, t5)), (p6, .inr (17, t6)), (p7, .inr (17, t7)), (p8, .inr (17, t8)), (p9, .inr (17, t9)), (p10, .inr (17, t10)), (h, .inr (13, [.ref pe, .ref ne, .ref pa, .ref ro, .int 0])), (pe, .inr (9, [.int 12, .ref a1, .ref a2, .ref a3, .ref a4, .ref a5, .ref a6, .ref a7, .ref a8, .ref a9])), (a1, .inl (cy 0, 20, .inl f3_1432)), (a2, .inl (cy 0, 20, .inl f4_1433)), (oa, .inl (cy 3, 1, .inr (.inl o2_1434))), (m0, .inr (20, [.int 0, .ref mp, .int 0, .ref b1, .ref b2, .ref b3, .ref b4, .ref b5, .ref mq])), (mp, .inr (4, [.int mx_1436, .ref qx_1437, .int 12])), (qx_1437, .inl (cy 2, 15, .inr (.inr (.inr (.inr g2_1438))))), (y_1439, .inr (17, fy_1440))] := hD
    refine W.widen (k := 78) (n := 1685) (Nat.le_of_ble_eq_true rfl) (Nat.le_of_ble_eq_true rfl) ?_
    obtain ⟨hs_1442, hs_1443⟩ := h_1441
    refine lv_istore (lv' := [(7, .int 11), (6, .int 0), (5, .int 66), (3, .ref oa), (2, .ref m0), (1, .ref h), (0, .ref b)]) hx hb dL_law_335 hl (by decide) rfl (fun ls hl => ?_)
    refine lv_goto (tgt := 2542) hx hb dL_law_337 (by decide) ?_
    refine lv_iinc (v := 72) (lv' := [(5, .int 72), (7, .int 11), (6, .int 0), (3, .ref oa), (2, .ref m0), (1, .ref h), (0, .ref b)]) hx hb dL_law_2542 hl (k := 2) rfl (by decide) (by decide) rfl (fun ls hl => ?_)
    refine lv_goto (tgt := 28) hx hb dL_law_2545 (by decide) ?_
    have hP := hP.sub (ws' := [(h, .inr (13, [.ref pe, .ref ne, .ref pa, .ref ro, .int 0])), (pe, .inr (9, [.int 12, .ref a1, .ref a2, .ref a3, .ref a4, .ref a5, .ref a6, .ref a7, .ref a8, .ref a9])), (a1, .inl (cy 0, 20, .inl f3_1432)), (a2, .inl (cy 0, 20, .inl f4_1433)), (ro, .inl (cy 0, 20, .inl f0)), (pa, .inr (4, [.int mc, .ref ed, .int 0])), (m0, .inr (20, [.int 0, .ref mp, .int 0, .ref b1, .ref b2, .ref b3, .ref b4, .ref b5, .ref mq])), (mp, .inr (4, [.int mx_1436, .ref qx_1437, .int 12])), (qx_1437, .inl (cy 2, 15, .inr (.inr (.inr (.inr g2_1438))))), (mq, .inr (4, [.int mn, .ref ed, .int 0])), (oa, .inl (cy 3, 1, .inr (.inl o2_1434))), (p0, .inr (17, t0)), (p1, .inr (17, t1)), (p2, .inr (17, t2)), (p3, .inr (17, t3)), (p4, .inr (17, t4)), (p5, .inr (17, t5)), (p6, .inr (17, t6)), (p7, .inr (17, t7)), (p8, .inr (17, t8)), (p9, .inr (17, t9)), (p10, .inr (17, t10)), (y_1439, .inr (17, fy_1440))]) [14, 15, 16, 17, 0, 1, 19, 20, 21, 2, 18, 3, 4, 5, 6, 7, 8, 9, 10, 11, 12, 13, 22] rfl
    have hD := hD.sub (ws' := [(h, .inr (13, [.ref pe, .ref ne, .ref pa, .ref ro, .int 0])), (pe, .inr (9, [.int 12, .ref a1, .ref a2, .ref a3, .ref a4, .ref a5, .ref a6, .ref a7, .ref a8, .ref a9])), (a1, .inl (cy 0, 20, .inl f3_1432)), (a2, .inl (cy 0, 20, .inl f4_1433)), (ro, .inl (cy 0, 20, .inl f0)), (pa, .inr (4, [.int mc, .ref ed, .int 0])), (m0, .inr (20, [.int 0, .ref mp, .int 0, .ref b1, .ref b2, .ref b3, .ref b4, .ref b5, .ref mq])), (mp, .inr (4, [.int mx_1436, .ref qx_1437, .int 12])), (qx_1437, .inl (cy 2, 15, .inr (.inr (.inr (.inr g2_1438))))), (mq, .inr (4, [.int mn, .ref ed, .int 0])), (oa, .inl (cy 3, 1, .inr (.inl o2_1434))), (p0, .inr (17, t0)), (p1, .inr (17, t1)), (p2, .inr (17, t2)), (p3, .inr (17, t3)), (p4, .inr (17, t4)), (p5, .inr (17, t5)), (p6, .inr (17, t6)), (p7, .inr (17, t7)), (p8, .inr (17, t8)), (p9, .inr (17, t9)), (p10, .inr (17, t10)), (y_1439, .inr (17, fy_1440))]) [14, 15, 16, 17, 0, 1, 19, 20, 21, 2, 18, 3, 4, 5, 6, 7, 8, 9, 10, 11, 12, 13, 22] (by decide) rfl
    exact hnext _ _ _ ⟨pe, ne, pa, ro, a1, a2, a3, a4, a5, a6, a7, a8, a9, mp, mq, b1, b2, b3, b4, b5, qx_1437, mc, mx_1436, mn, f3_1432, f4_1433, f0, o2_1434, g2_1438, p0, p1, p2, p3, p4, p5, p6, p7, p8, p9, p10, y_1439, t0, t1, t2, t3, t4, t5, t6, t7, t8, t9, t10, fy_1440, hP, hD, ((hs_1443 0 (by decide)).trans hp0), ((hs_1443 1 (by decide)).trans hp1), ((hs_1443 2 (by decide)).trans hp2), ((hs_1443 3 (by decide)).trans hp3), ((hs_1443 4 (by decide)).trans hp4), ((hs_1443 5 (by decide)).trans hp5), ((hs_1443 6 (by decide)).trans hp6), ((hs_1443 7 (by decide)).trans hp7), ((hs_1443 8 (by decide)).trans hp8), ((hs_1443 9 (by decide)).trans hp9), ((hs_1443 10 (by decide)).trans hp10), hs_1442⟩ hS (lv_sub hl [0, 3, 4, 5, 6] rfl)
set_option maxHeartbeats 4000000 in
set_option maxRecDepth 100000 in
theorem law_step_12 {p : Program} {l : Launch} {e : Env} {s : State} {m : MethodId} {below : List Frame} {meth : Method} {c : Code} {D : va_G} {cy : Nat → ClassId} {ed b : Nat} {A : Nat → Prop} {Q : State → Prop} (C0 : zx_LW p l s m c D cy ed b A) {h m0 oa : Nat} {H : Heap} {locs : List Loc} {ls : Array Slot} (h0 : zx_S12 D cy ed A h m0 oa H) (hS : va_S A s.heap H locs) (hl : lv_has ls 9 [(5, .int 72), (3, .ref oa), (2, .ref m0), (1, .ref h), (0, .ref b)])
    (hnext : ∀ (H : Heap) (locs : List Loc) (ls : Array Slot), zx_S13 D cy ed A h m0 oa H → va_S A s.heap H locs → lv_has ls 9 [(5, .int 78), (3, .ref oa), (2, .ref m0), (1, .ref h), (0, .ref b)] → W p l e zx_R s m #[Value.ref b] below meth c H locs 81 1715 Q (F0 m 28 ls [])) :
    W p l e zx_R s m #[Value.ref b] below meth c H locs 78 1685 Q (F0 m 28 ls []) := by
  obtain ⟨hx, hb, hml, hst, hown, hts, hX, hbl, hbA, hA, hK, hZ, hN⟩ := C0
  obtain ⟨pe, ne, pa, ro, a1, a2, a3, a4, a5, a6, a7, a8, a9, mp, mq, b1, b2, b3, b4, b5, ep, mc, mm, mn, f1, f2, f0, og, gp, p0, p1, p2, p3, p4, p5, p6, p7, p8, p9, p10, p11, t0, t1, t2, t3, t4, t5, t6, t7, t8, t9, t10, t11, hP, hD, hp0, hp1, hp2, hp3, hp4, hp5, hp6, hp7, hp8, hp9, hp10, hp11⟩ := h0
  refine lv_iload hx hb dL_law_28 (lv_at hl 0 rfl) ?_
  refine lv_aload_n hx hb dL_law_30 rfl (lv_at hl 4 rfl) ?_
  refine va_slen hx hb hX hbl hbA hS dL_law_31 ?_
  refine lv_topi (fun y9 ey9 => ?_)
  obtain rfl : y9 = 3072 := ey9.trans (by decide)
  refine lv_bipush (v := 6) hx hb dL_law_32 (by decide) ?_
  refine lv_isub hx hb dL_law_34 ?_
  refine lv_topi (fun y9 ey9 => ?_)
  obtain rfl : y9 = 3066 := by rw [ey9] <;> decide
  refine lv_icmp_gt (tgt := 2548) hx hb dL_law_35 (by decide) (fun c_1444 => absurd c_1444 (by decide)) (fun _ => ?_)
  refine lv_aload_n hx hb dL_law_38 rfl (lv_at hl 4 rfl) ?_
  refine lv_iload hx hb dL_law_39 (lv_at hl 0 rfl) ?_
  refine va_sld hx hb hX hbl hbA hS (zx_bn (by decide)) dL_law_41 ?_
  refine lv_topi (fun y9 ey9 => ?_)
  obtain rfl : y9 = 0 := ey9.trans (by decide)
  refine lv_bipush (v := 63) hx hb dL_law_42 (by decide) ?_
  refine lv_iand hx hb dL_law_44 ?_
  refine lv_topi (fun y9 ey9 => ?_)
  obtain rfl : y9 = 0 := by rw [ey9] <;> decide
  refine lv_tableIn (off := 255) (tgt := 300) hx hb dL_law_45 (by decide) (by decide) (by decide) (by decide) ?_
  refine lv_aload_n hx hb dL_law_300 rfl (lv_at hl 3 rfl) ?_
  refine lv_aload_n hx hb dL_law_301 rfl (lv_at hl 4 rfl) ?_
  refine lv_iload hx hb dL_law_302 (lv_at hl 0 rfl) ?_
  refine lv_iconst (v := 1) hx hb dL_law_304 (by decide) ?_
  refine lv_iadd hx hb dL_law_305 ?_
  refine lv_topi (fun y9 ey9 => ?_)
  obtain rfl : y9 = 73 := by rw [ey9] <;> decide
  refine va_sld hx hb hX hbl hbA hS (zx_bn (by decide)) dL_law_306 ?_
  refine lv_topi (fun y9 ey9 => ?_)
  obtain rfl : y9 = 0 := ey9.trans (by decide)
  refine lv_aload_n hx hb dL_law_307 rfl (lv_at hl 4 rfl) ?_
  refine lv_iload hx hb dL_law_308 (lv_at hl 0 rfl) ?_
  refine lv_iconst (v := 2) hx hb dL_law_310 (by decide) ?_
  refine lv_iadd hx hb dL_law_311 ?_
  refine lv_topi (fun y9 ey9 => ?_)
  obtain rfl : y9 = 74 := by rw [ey9] <;> decide
  refine va_sld hx hb hX hbl hbA hS (zx_bn (by decide)) dL_law_312 ?_
  refine lv_topi (fun y9 ey9 => ?_)
  obtain rfl : y9 = 0 := ey9.trans (by decide)
  refine lv_aload_n hx hb dL_law_313 rfl (lv_at hl 1 rfl) ?_
  have hPc := hP.sub (ws' := [(h, .inr (13, [.ref pe, .ref ne, .ref pa, .ref ro, .int 0])), (pe, .inr (9, [.int 12, .ref a1, .ref a2, .ref a3, .ref a4, .ref a5, .ref a6, .ref a7, .ref a8, .ref a9])), (a1, .inl (cy 0, 20, .inl f1)), (a2, .inl (cy 0, 20, .inl f2)), (oa, .inl (cy 3, 1, .inr (.inl og)))]) [0, 1, 2, 3, 10] rfl
  have hDc := hD.sub (ws' := [(h, .inr (13, [.ref pe, .ref ne, .ref pa, .ref ro, .int 0])), (pe, .inr (9, [.int 12, .ref a1, .ref a2, .ref a3, .ref a4, .ref a5, .ref a6, .ref a7, .ref a8, .ref a9])), (a1, .inl (cy 0, 20, .inl f1)), (a2, .inl (cy 0, 20, .inl f2)), (oa, .inl (cy 3, 1, .inr (.inl og)))]) [0, 1, 2, 3, 10] (by decide) rfl
  have hFc := va_free (wc := [(h, .inr (13, [.ref pe, .ref ne, .ref pa, .ref ro, .int 0])), (pe, .inr (9, [.int 12, .ref a1, .ref a2, .ref a3, .ref a4, .ref a5, .ref a6, .ref a7, .ref a8, .ref a9])), (a1, .inl (cy 0, 20, .inl f1)), (a2, .inl (cy 0, 20, .inl f2)), (oa, .inl (cy 3, 1, .inr (.inl og)))]) hD hS hA [0, 1, 2, 3, 10] rfl
  refine vx_calli (vx_runSX (As := [.ref h, .int 0, .int 0, .ref oa]) (rest := []) ⟨hx, hb, hml, hown, hts⟩ (c_L_addPerson_12 l hst D cy ed H.size h pe ne pa ro 0 a1 a2 a3 a4 a5 a6 a7 a8 a9 f1 f2 oa og) (vx_cwSW 4 hts (zx_GS mm_329 mm_330 mm_70 mm_331) rfl rfl rfl (by decide +kernel) ⟨(Nat.le_of_ble_eq_true rfl), (Nat.le_of_ble_eq_true rfl)⟩) ⟨zx_blind, zx_give hPc hK hDc hS hFc hZ hN⟩ rfl rfl hl.1 rfl (lv_room (Nat.le_of_ble_eq_true rfl)) dL_law_314 ⟨(Nat.le_of_ble_eq_true rfl), (Nat.le_of_ble_eq_true rfl)⟩) hS (fun q _ h => hFc q h) hFc (fun q _ h => hFc q h) (fun E9 ce9 q9 _ t H locs ht hvm _ hBX hz1 hk1 hS hce hcv hcl => ?_) (fun r9 u t H locs ht hvm hw hB hz1 hk1 hS => ?_)
  · exact hBX.elim
  ·
    obtain ⟨f3_1445, f4_1446, o2_1447⟩ := u
    obtain ⟨rfl, h_1448⟩ := hw
    obtain ⟨hP, hD⟩ := zx_join (wr := [(ro, .inl (cy 0, 20, .inl f0)), (pa, .inr (4, [.int mc, .ref ed, .int 0])), (m0, .inr (20, [.int 0, .ref mp, .int 0, .ref b1, .ref b2, .ref b3, .ref b4, .ref b5, .ref mq])), (mp, .inr (4, [.int mm, .ref ep, .int 12])), (ep, .inl (cy 2, 15, .inr (.inr (.inr (.inr gp))))), (mq, .inr (4, [.int mn, .ref ed, .int 0])), (p0, .inr (17, t0)), (p1, .inr (17, t1)), (p2, .inr (17, t2)), (p3, .inr (17, t3)), (p4, .inr (17, t4)), (p5, .inr (17, t5)), (p6, .inr (17, t6)), (p7, .inr (17, t7)), (p8, .inr (17, t8)), (p9, .inr (17, t9)), (p10, .inr (17, t10)), (p11, .inr (17, t11))]) (w1 := [(h, .inr (13, [.ref pe, .ref ne, .ref pa, .ref ro, .int 0])), (pe, .inr (9, [.int 13, .ref a1, .ref a2, .ref a3, .ref a4, .ref a5, .ref a6, .ref a7, .ref a8, .ref a9])), (a1, .inl (cy 0, 20, .inl f3_1445)), (a2, .inl (cy 0, 20, .inl f4_1446)), (oa, .inl (cy 3, 1, .inr (.inl o2_1447)))]) [0, 1, 2, 3, 10] [4, 5, 6, 7, 8, 9, 11, 12, 13, 14, 15, 16, 17, 18, 19, 20, 21, 22] rfl rfl (by decide) (by decide) hP hD hk1 hFc hB ht
    have hP : va_P D vwCl [(ro, .inl (cy 0, 20, .inl f0)), (pa, .inr (4, [.int mc, .ref ed, .int 0])), (m0, .inr (20, [.int 0, .ref mp, .int 0, .ref b1, .ref b2, .ref b3, .ref b4, .ref b5, .ref mq])), (mp, .inr (4, [.int mm, .ref ep, .int 12])), (ep, .inl (cy 2, 15, .inr (.inr (.inr (.inr gp))))), (mq, .inr (4, [.int mn, .ref ed, .int 0])), (p0, .inr (17, t0)), (p1, .inr (17, t1)), (p2, .inr (17, t2)), (p3, .inr (17, t3)), (p4, .inr (17, t4)), (p5, .inr (17, t5)), (p6, .inr (17, t6)), (p7, .inr (17, t7)), (p8, .inr (17, t8)), (p9, .inr (17, t9)), (p10, .inr (17, t10)), (p11, .inr (17, t11)), (h, .inr (13, [.ref pe, .ref ne, .ref pa, .ref ro, .int 0])), (pe, .inr (9, [.int 13, .ref a1, .ref a2, .ref a3, .ref a4, .ref a5, .ref a6, .ref a7, .ref a8, .ref a9])), (a1, .inl (cy 0, 20, .inl f3_1445)), (a2, .inl (cy 0, 20, .inl f4_1446)), (oa, .inl (cy 3, 1, .inr (.inl o2_1447)))] H := hP
    have hD : va_D A [(ro, .inl (cy 0, 20, .inl f0)), (pa, .inr (4, [.int mc, .ref ed, .int 0])), (m0, .inr (20, [.int 0, .ref mp, .int 0, .ref b1, .ref b2, .ref b3, .ref b4, .ref b5, .ref mq])), (mp, .inr (4, [.int mm, .ref ep, .int 12])), (ep, .inl (cy 2, 15, .inr (.inr (.inr (.inr gp))))), (mq, .inr (4, [.int mn, .ref ed, .int 0])), (p0, .inr (17, t0)), (p1, .inr (17, t1)), (p2, .inr (17, t2)), (p3, .inr (17, t3)), (p4, .inr (17, t4)), (p5, .inr (17, t5)), (p6, .inr (17, t6)), (p7, .inr (17, t7)), (p8, .inr (17, t8)), (p9, .inr (17, t9)), (p10, .inr (17, t10)), (p11, .inr (17, t11)), (h, .inr (13, [.ref pe, .ref ne, .ref pa, .ref ro, .int 0])), (pe, .inr (9, [.int 13, .ref a1, .ref a2, .ref a3, .ref a4, .ref a5, .ref a6, .ref a7, .ref a8, .ref a9])), (a1, .inl (cy 0, 20, .inl f3_1445)), (a2, .inl (cy 0, 20, .inl f4_1446)), (oa, .inl (cy 3, 1, .inr (.inl o2_1447)))] := hD
    refine W.widen (k := 78) (n := 1685) (Nat.le_of_ble_eq_true rfl) (Nat.le_of_ble_eq_true rfl) ?_
    refine lv_istore (lv' := [(6, .int 0), (5, .int 72), (3, .ref oa), (2, .ref m0), (1, .ref h), (0, .ref b)]) hx hb dL_law_317 hl (by decide) rfl (fun ls hl => ?_)
    refine lv_aload_n hx hb dL_law_319 rfl (lv_at hl 3 rfl) ?_
    refine lv_aload_n hx hb dL_law_320 rfl (lv_at hl 5 rfl) ?_
    refine lv_iload hx hb dL_law_321 (lv_at hl 1 rfl) ?_
    refine lv_iconst (v := 1) hx hb dL_law_323 (by decide) ?_
    refine lv_iadd hx hb dL_law_324 ?_
    refine lv_topi (fun y9 ey9 => ?_)
    obtain rfl : y9 = 73 := by rw [ey9] <;> decide
    refine va_sld hx hb hX hbl hbA hS (zx_bn (by decide)) dL_law_325 ?_
    refine lv_topi (fun y9 ey9 => ?_)
    obtain rfl : y9 = 0 := ey9.trans (by decide)
    refine lv_aload_n hx hb dL_law_326 rfl (lv_at hl 5 rfl) ?_
    refine lv_iload hx hb dL_law_327 (lv_at hl 1 rfl) ?_
    refine lv_iconst (v := 2) hx hb dL_law_329 (by decide) ?_
    refine lv_iadd hx hb dL_law_330 ?_
    refine lv_topi (fun y9 ey9 => ?_)
    obtain rfl : y9 = 74 := by rw [ey9] <;> decide
    refine va_sld hx hb hX hbl hbA hS (zx_bn (by decide)) dL_law_331 ?_
    refine lv_topi (fun y9 ey9 => ?_)
    obtain rfl : y9 = 0 := ey9.trans (by decide)
    have hPc := hP.sub (ws' := [(m0, .inr (20, [.int 0, .ref mp, .int 0, .ref b1, .ref b2, .ref b3, .ref b4, .ref b5, .ref mq])), (mp, .inr (4, [.int mm, .ref ep, .int 12])), (ep, .inl (cy 2, 15, .inr (.inr (.inr (.inr gp)))))]) [2, 3, 4] rfl
    have hDc := hD.sub (ws' := [(m0, .inr (20, [.int 0, .ref mp, .int 0, .ref b1, .ref b2, .ref b3, .ref b4, .ref b5, .ref mq])), (mp, .inr (4, [.int mm, .ref ep, .int 12])), (ep, .inl (cy 2, 15, .inr (.inr (.inr (.inr gp)))))]) [2, 3, 4] (by decide) rfl
    have hFc := va_free (wc := [(m0, .inr (20, [.int 0, .ref mp, .int 0, .ref b1, .ref b2, .ref b3, .ref b4, .ref b5, .ref mq])), (mp, .inr (4, [.int mm, .ref ep, .int 12])), (ep, .inl (cy 2, 15, .inr (.inr (.inr (.inr gp)))))]) hD hS hA [2, 3, 4] rfl
    refine va_calli (va_runV (As := [.int 0, .int 0]) (rest := []) ⟨hx, hb, hml, hown, hts⟩ (c_X15_addPerson_12 l hst D cy ed H.size m0 mp mq b1 b2 b3 b4 b5 0 0 mm ep gp) (cwV 2 hts (zx_GV mm_1599 mm_1600 mm_1601 mm_78 mm_1602) rfl rfl rfl (by decide +kernel) ⟨(Nat.le_of_ble_eq_true rfl), (Nat.le_of_ble_eq_true rfl)⟩) ⟨zx_blind, va_recv hK hPc (ci := 20) (q0 := 0) rfl rfl, zx_give hPc hK hDc hS hFc hZ hN⟩ rfl rfl hl.1 rfl (lv_room (Nat.le_of_ble_eq_true rfl)) dL_law_332 ⟨(Nat.le_of_ble_eq_true rfl), (Nat.le_of_ble_eq_true rfl)⟩) hS (fun q _ h => hFc q h) hFc (fun r9 u t H1 locs ht hvm hw hB hz1 hk1 hS => ?_)
    obtain ⟨mx_1449, qx_1450, g2_1451, y_1452, fy_1453⟩ := u
    obtain ⟨rfl, h_1454⟩ := hw
    obtain ⟨hP, hD⟩ := zx_join (wr := [(ro, .inl (cy 0, 20, .inl f0)), (pa, .inr (4, [.int mc, .ref ed, .int 0])), (mq, .inr (4, [.int mn, .ref ed, .int 0])), (p0, .inr (17, t0)), (p1, .inr (17, t1)), (p2, .inr (17, t2)), (p3, .inr (17, t3)), (p4, .inr (17, t4)), (p5, .inr (17, t5)), (p6, .inr (17, t6)), (p7, .inr (17, t7)), (p8, .inr (17, t8)), (p9, .inr (17, t9)), (p10, .inr (17, t10)), (p11, .inr (17, t11)), (h, .inr (13, [.ref pe, .ref ne, .ref pa, .ref ro, .int 0])), (pe, .inr (9, [.int 13, .ref a1, .ref a2, .ref a3, .ref a4, .ref a5, .ref a6, .ref a7, .ref a8, .ref a9])), (a1, .inl (cy 0, 20, .inl f3_1445)), (a2, .inl (cy 0, 20, .inl f4_1446)), (oa, .inl (cy 3, 1, .inr (.inl o2_1447)))]) (w1 := [(m0, .inr (20, [.int 0, .ref mp, .int 0, .ref b1, .ref b2, .ref b3, .ref b4, .ref b5, .ref mq])), (mp, .inr (4, [.int mx_1449, .ref qx_1450, .int 13])), (qx_1450, .inl (cy 2, 15, .inr (.inr (.inr (.inr g2_1451))))), (y_1452, .inr (17, fy_1453))]) [2, 3, 4] [0, 1, 5, 6, 7, 8, 9, 10, 11, 12, 13, 14, 15, 16, 17, 18, 19, 20, 21, 22] rfl rfl (by decide) (by decide) hP hD hk1 hFc hB ht
    generalize H1 = H at hP hS ⊢
    have hP : va_P D vwCl [(ro, .inl (cy 0, 20, .inl f0)), (pa, .inr (4, [.int mc, .ref ed, .int 0])), (mq, .inr (4, [.int mn, .ref ed, .int 0])), (p0, .inr (17, t0)), (p1, .inr (17, t1)), (p2, .inr (17, t2)), (p3, .inr (17, t3)), (p4, .inr (17, t4)), (p5, .inr (17, t5)), (p6, .inr (17, t6)), (p7, .inr (17, t7)), (p8, .inr (17, t8)), (p9, .inr (17, t9)), (p10, .inr (17, t10)), (p11, .inr (17, t11)), (h, .inr (13, [.ref pe, .ref ne, .ref pa, .ref ro, .int 0])), (pe, .inr (9, [.int 13, .ref a1, .ref a2, .ref a3, .ref a4, .ref a5, .ref a6, .ref a7, .ref a8, .ref a9])), (a1, .inl (cy 0, 20, .inl f3_1445)), (a2, .inl (cy 0, 20, .inl f4_1446)), (oa, .inl (cy 3, 1, .inr (.inl o2_1447))), (m0, .inr (20, [.int 0, .ref mp, .int 0, .ref b1, .ref b2, .ref b3, .ref b4, .ref b5, .ref mq])), (mp, .inr (4, [.int mx_1449, .ref qx_1450, .int 13])), (qx_1450, .inl (cy 2, 15, .inr (.inr (.inr (.inr g2_1451))))), (y_1452, .inr (17, fy_1453))] H := hP
    have hD : va_D A [(ro, .inl (cy 0, 20, .inl f0)), (pa, .inr (4, [.int mc, .ref ed, .int 0])), (mq, .inr (4, [.int mn, .ref ed, .int 0])), (p0, .inr (17, t0)), (p1, .inr (17, t1)), (p2, .inr (17, t2)), (p3, .inr (17, t3)), (p4, .inr (17, t4)), (p5, .inr (17, t5)), (p6, .inr (17, t6)), (p7, .inr (17, t7)), (p8, .inr (17, t8)), (p9, .inr (17, t9)), (p10, .inr (17, t10)), (p11, .inr (17, t11)), (h, .inr (13, [.ref pe, .ref ne, .ref pa, .ref ro, .int 0])), (pe, .inr (9, [.int 13, .ref a1, .ref a2, .ref a3, .ref a4, .ref a5, .ref a6, .ref a7, .ref a8, .ref a9])), (a1, .inl (cy 0, 20, .inl f3_1445)), (a2, .inl (cy 0, 20, .inl f4_1446)), (oa, .inl (cy 3, 1, .inr (.inl o2_1447))), (m0, .inr (20, [.int 0, .ref mp, .int 0, .ref b1, .ref b2, .ref b3, .ref b4, .ref b5, .ref mq])), (mp, .inr (4, [.int mx_1449, .ref qx_1450, .int 13])), (qx_1450, .inl (cy 2, 15, .inr (.inr (.inr (.inr g2_1451))))), (y_1452, .inr (17, fy_1453))] := hD
    refine W.widen (k := 81) (n := 1715) (Nat.le_of_ble_eq_true rfl) (Nat.le_of_ble_eq_true rfl) ?_
    obtain ⟨hs_1455, hs_1456⟩ := h_1454
    refine lv_istore (lv' := [(7, .int 12), (6, .int 0), (5, .int 72), (3, .ref oa), (2, .ref m0), (1, .ref h), (0, .ref b)]) hx hb dL_law_335 hl (by decide) rfl (fun ls hl => ?_)
    refine lv_goto (tgt := 2542) hx hb dL_law_337 (by decide) ?_
    refine lv_iinc (v := 78) (lv' := [(5, .int 78), (7, .int 12), (6, .int 0), (3, .ref oa), (2, .ref m0), (1, .ref h), (0, .ref b)]) hx hb dL_law_2542 hl (k := 2) rfl (by decide) (by decide) rfl (fun ls hl => ?_)
    refine lv_goto (tgt := 28) hx hb dL_law_2545 (by decide) ?_
    have hP := hP.sub (ws' := [(h, .inr (13, [.ref pe, .ref ne, .ref pa, .ref ro, .int 0])), (pe, .inr (9, [.int 13, .ref a1, .ref a2, .ref a3, .ref a4, .ref a5, .ref a6, .ref a7, .ref a8, .ref a9])), (a1, .inl (cy 0, 20, .inl f3_1445)), (a2, .inl (cy 0, 20, .inl f4_1446)), (ro, .inl (cy 0, 20, .inl f0)), (pa, .inr (4, [.int mc, .ref ed, .int 0])), (m0, .inr (20, [.int 0, .ref mp, .int 0, .ref b1, .ref b2, .ref b3, .ref b4, .ref b5, .ref mq])), (mp, .inr (4, [.int mx_1449, .ref qx_1450, .int 13])), (qx_1450, .inl (cy 2, 15, .inr (.inr (.inr (.inr g2_1451))))), (mq, .inr (4, [.int mn, .ref ed, .int 0])), (oa, .inl (cy 3, 1, .inr (.inl o2_1447))), (p0, .inr (17, t0)), (p1, .inr (17, t1)), (p2, .inr (17, t2)), (p3, .inr (17, t3)), (p4, .inr (17, t4)), (p5, .inr (17, t5)), (p6, .inr (17, t6)), (p7, .inr (17, t7)), (p8, .inr (17, t8)), (p9, .inr (17, t9)), (p10, .inr (17, t10)), (p11, .inr (17, t11)), (y_1452, .inr (17, fy_1453))]) [15, 16, 17, 18, 0, 1, 20, 21, 22, 2, 19, 3, 4, 5, 6, 7, 8, 9, 10, 11, 12, 13, 14, 23] rfl
    have hD := hD.sub (ws' := [(h, .inr (13, [.ref pe, .ref ne, .ref pa, .ref ro, .int 0])), (pe, .inr (9, [.int 13, .ref a1, .ref a2, .ref a3, .ref a4, .ref a5, .ref a6, .ref a7, .ref a8, .ref a9])), (a1, .inl (cy 0, 20, .inl f3_1445)), (a2, .inl (cy 0, 20, .inl f4_1446)), (ro, .inl (cy 0, 20, .inl f0)), (pa, .inr (4, [.int mc, .ref ed, .int 0])), (m0, .inr (20, [.int 0, .ref mp, .int 0, .ref b1, .ref b2, .ref b3, .ref b4, .ref b5, .ref mq])), (mp, .inr (4, [.int mx_1449, .ref qx_1450, .int 13])), (qx_1450, .inl (cy 2, 15, .inr (.inr (.inr (.inr g2_1451))))), (mq, .inr (4, [.int mn, .ref ed, .int 0])), (oa, .inl (cy 3, 1, .inr (.inl o2_1447))), (p0, .inr (17, t0)), (p1, .inr (17, t1)), (p2, .inr (17, t2)), (p3, .inr (17, t3)), (p4, .inr (17, t4)), (p5, .inr (17, t5)), (p6, .inr (17, t6)), (p7, .inr (17, t7)), (p8, .inr (17, t8)), (p9, .inr (17, t9)), (p10, .inr (17, t10)), (p11, .inr (17, t11)), (y_1452, .inr (17, fy_1453))]) [15, 16, 17, 18, 0, 1, 20, 21, 22, 2, 19, 3, 4, 5, 6, 7, 8, 9, 10, 11, 12, 13, 14, 23] (by decide) rfl
    exact hnext _ _ _ ⟨pe, ne, pa, ro, a1, a2, a3, a4, a5, a6, a7, a8, a9, mp, mq, b1, b2, b3, b4, b5, qx_1450, mc, mx_1449, mn, f3_1445, f4_1446, f0, o2_1447, g2_1451, p0, p1, p2, p3, p4, p5, p6, p7, p8, p9, p10, p11, y_1452, t0, t1, t2, t3, t4, t5, t6, t7, t8, t9, t10, t11, fy_1453, hP, hD, ((hs_1456 0 (by decide)).trans hp0), ((hs_1456 1 (by decide)).trans hp1), ((hs_1456 2 (by decide)).trans hp2), ((hs_1456 3 (by decide)).trans hp3), ((hs_1456 4 (by decide)).trans hp4), ((hs_1456 5 (by decide)).trans hp5), ((hs_1456 6 (by decide)).trans hp6), ((hs_1456 7 (by decide)).trans hp7), ((hs_1456 8 (by decide)).trans hp8), ((hs_1456 9 (by decide)).trans hp9), ((hs_1456 10 (by decide)).trans hp10), ((hs_1456 11 (by decide)).trans hp11), hs_1455⟩ hS (lv_sub hl [0, 3, 4, 5, 6] rfl)
set_option maxHeartbeats 4000000 in
set_option maxRecDepth 100000 in
theorem law_step_13 {p : Program} {l : Launch} {e : Env} {s : State} {m : MethodId} {below : List Frame} {meth : Method} {c : Code} {D : va_G} {cy : Nat → ClassId} {ed b : Nat} {A : Nat → Prop} {Q : State → Prop} (C0 : zx_LW p l s m c D cy ed b A) {h m0 oa : Nat} {H : Heap} {locs : List Loc} {ls : Array Slot} (h0 : zx_S13 D cy ed A h m0 oa H) (hS : va_S A s.heap H locs) (hl : lv_has ls 9 [(5, .int 78), (3, .ref oa), (2, .ref m0), (1, .ref h), (0, .ref b)])
    (hnext : ∀ (H : Heap) (locs : List Loc) (ls : Array Slot), zx_S14 D cy ed A h m0 oa H → va_S A s.heap H locs → lv_has ls 9 [(5, .int 84), (3, .ref oa), (2, .ref m0), (1, .ref h), (0, .ref b)] → W p l e zx_R s m #[Value.ref b] below meth c H locs 84 1745 Q (F0 m 28 ls [])) :
    W p l e zx_R s m #[Value.ref b] below meth c H locs 81 1715 Q (F0 m 28 ls []) := by
  obtain ⟨hx, hb, hml, hst, hown, hts, hX, hbl, hbA, hA, hK, hZ, hN⟩ := C0
  obtain ⟨pe, ne, pa, ro, a1, a2, a3, a4, a5, a6, a7, a8, a9, mp, mq, b1, b2, b3, b4, b5, ep, mc, mm, mn, f1, f2, f0, og, gp, p0, p1, p2, p3, p4, p5, p6, p7, p8, p9, p10, p11, p12, t0, t1, t2, t3, t4, t5, t6, t7, t8, t9, t10, t11, t12, hP, hD, hp0, hp1, hp2, hp3, hp4, hp5, hp6, hp7, hp8, hp9, hp10, hp11, hp12⟩ := h0
  refine lv_iload hx hb dL_law_28 (lv_at hl 0 rfl) ?_
  refine lv_aload_n hx hb dL_law_30 rfl (lv_at hl 4 rfl) ?_
  refine va_slen hx hb hX hbl hbA hS dL_law_31 ?_
  refine lv_topi (fun y9 ey9 => ?_)
  obtain rfl : y9 = 3072 := ey9.trans (by decide)
  refine lv_bipush (v := 6) hx hb dL_law_32 (by decide) ?_
  refine lv_isub hx hb dL_law_34 ?_
  refine lv_topi (fun y9 ey9 => ?_)
  obtain rfl : y9 = 3066 := by rw [ey9] <;> decide
  refine lv_icmp_gt (tgt := 2548) hx hb dL_law_35 (by decide) (fun c_1457 => absurd c_1457 (by decide)) (fun _ => ?_)
  refine lv_aload_n hx hb dL_law_38 rfl (lv_at hl 4 rfl) ?_
  refine lv_iload hx hb dL_law_39 (lv_at hl 0 rfl) ?_
  refine va_sld hx hb hX hbl hbA hS (zx_bn (by decide)) dL_law_41 ?_
  refine lv_topi (fun y9 ey9 => ?_)
  obtain rfl : y9 = 0 := ey9.trans (by decide)
  refine lv_bipush (v := 63) hx hb dL_law_42 (by decide) ?_
  refine lv_iand hx hb dL_law_44 ?_
  refine lv_topi (fun y9 ey9 => ?_)
  obtain rfl : y9 = 0 := by rw [ey9] <;> decide
  refine lv_tableIn (off := 255) (tgt := 300) hx hb dL_law_45 (by decide) (by decide) (by decide) (by decide) ?_
  refine lv_aload_n hx hb dL_law_300 rfl (lv_at hl 3 rfl) ?_
  refine lv_aload_n hx hb dL_law_301 rfl (lv_at hl 4 rfl) ?_
  refine lv_iload hx hb dL_law_302 (lv_at hl 0 rfl) ?_
  refine lv_iconst (v := 1) hx hb dL_law_304 (by decide) ?_
  refine lv_iadd hx hb dL_law_305 ?_
  refine lv_topi (fun y9 ey9 => ?_)
  obtain rfl : y9 = 79 := by rw [ey9] <;> decide
  refine va_sld hx hb hX hbl hbA hS (zx_bn (by decide)) dL_law_306 ?_
  refine lv_topi (fun y9 ey9 => ?_)
  obtain rfl : y9 = 0 := ey9.trans (by decide)
  refine lv_aload_n hx hb dL_law_307 rfl (lv_at hl 4 rfl) ?_
  refine lv_iload hx hb dL_law_308 (lv_at hl 0 rfl) ?_
  refine lv_iconst (v := 2) hx hb dL_law_310 (by decide) ?_
  refine lv_iadd hx hb dL_law_311 ?_
  refine lv_topi (fun y9 ey9 => ?_)
  obtain rfl : y9 = 80 := by rw [ey9] <;> decide
  refine va_sld hx hb hX hbl hbA hS (zx_bn (by decide)) dL_law_312 ?_
  refine lv_topi (fun y9 ey9 => ?_)
  obtain rfl : y9 = 0 := ey9.trans (by decide)
  refine lv_aload_n hx hb dL_law_313 rfl (lv_at hl 1 rfl) ?_
  have hPc := hP.sub (ws' := [(h, .inr (13, [.ref pe, .ref ne, .ref pa, .ref ro, .int 0])), (pe, .inr (9, [.int 13, .ref a1, .ref a2, .ref a3, .ref a4, .ref a5, .ref a6, .ref a7, .ref a8, .ref a9])), (a1, .inl (cy 0, 20, .inl f1)), (a2, .inl (cy 0, 20, .inl f2)), (oa, .inl (cy 3, 1, .inr (.inl og)))]) [0, 1, 2, 3, 10] rfl
  have hDc := hD.sub (ws' := [(h, .inr (13, [.ref pe, .ref ne, .ref pa, .ref ro, .int 0])), (pe, .inr (9, [.int 13, .ref a1, .ref a2, .ref a3, .ref a4, .ref a5, .ref a6, .ref a7, .ref a8, .ref a9])), (a1, .inl (cy 0, 20, .inl f1)), (a2, .inl (cy 0, 20, .inl f2)), (oa, .inl (cy 3, 1, .inr (.inl og)))]) [0, 1, 2, 3, 10] (by decide) rfl
  have hFc := va_free (wc := [(h, .inr (13, [.ref pe, .ref ne, .ref pa, .ref ro, .int 0])), (pe, .inr (9, [.int 13, .ref a1, .ref a2, .ref a3, .ref a4, .ref a5, .ref a6, .ref a7, .ref a8, .ref a9])), (a1, .inl (cy 0, 20, .inl f1)), (a2, .inl (cy 0, 20, .inl f2)), (oa, .inl (cy 3, 1, .inr (.inl og)))]) hD hS hA [0, 1, 2, 3, 10] rfl
  refine vx_calli (vx_runSX (As := [.ref h, .int 0, .int 0, .ref oa]) (rest := []) ⟨hx, hb, hml, hown, hts⟩ (c_L_addPerson_13 l hst D cy ed H.size h pe ne pa ro 0 a1 a2 a3 a4 a5 a6 a7 a8 a9 f1 f2 oa og) (vx_cwSW 4 hts (zx_GS mm_329 mm_330 mm_70 mm_331) rfl rfl rfl (by decide +kernel) ⟨(Nat.le_of_ble_eq_true rfl), (Nat.le_of_ble_eq_true rfl)⟩) ⟨zx_blind, zx_give hPc hK hDc hS hFc hZ hN⟩ rfl rfl hl.1 rfl (lv_room (Nat.le_of_ble_eq_true rfl)) dL_law_314 ⟨(Nat.le_of_ble_eq_true rfl), (Nat.le_of_ble_eq_true rfl)⟩) hS (fun q _ h => hFc q h) hFc (fun q _ h => hFc q h) (fun E9 ce9 q9 _ t H locs ht hvm _ hBX hz1 hk1 hS hce hcv hcl => ?_) (fun r9 u t H locs ht hvm hw hB hz1 hk1 hS => ?_)
  · exact hBX.elim
  ·
    obtain ⟨f3_1458, f4_1459, o2_1460⟩ := u
    obtain ⟨rfl, h_1461⟩ := hw
    obtain ⟨hP, hD⟩ := zx_join (wr := [(ro, .inl (cy 0, 20, .inl f0)), (pa, .inr (4, [.int mc, .ref ed, .int 0])), (m0, .inr (20, [.int 0, .ref mp, .int 0, .ref b1, .ref b2, .ref b3, .ref b4, .ref b5, .ref mq])), (mp, .inr (4, [.int mm, .ref ep, .int 13])), (ep, .inl (cy 2, 15, .inr (.inr (.inr (.inr gp))))), (mq, .inr (4, [.int mn, .ref ed, .int 0])), (p0, .inr (17, t0)), (p1, .inr (17, t1)), (p2, .inr (17, t2)), (p3, .inr (17, t3)), (p4, .inr (17, t4)), (p5, .inr (17, t5)), (p6, .inr (17, t6)), (p7, .inr (17, t7)), (p8, .inr (17, t8)), (p9, .inr (17, t9)), (p10, .inr (17, t10)), (p11, .inr (17, t11)), (p12, .inr (17, t12))]) (w1 := [(h, .inr (13, [.ref pe, .ref ne, .ref pa, .ref ro, .int 0])), (pe, .inr (9, [.int 14, .ref a1, .ref a2, .ref a3, .ref a4, .ref a5, .ref a6, .ref a7, .ref a8, .ref a9])), (a1, .inl (cy 0, 20, .inl f3_1458)), (a2, .inl (cy 0, 20, .inl f4_1459)), (oa, .inl (cy 3, 1, .inr (.inl o2_1460)))]) [0, 1, 2, 3, 10] [4, 5, 6, 7, 8, 9, 11, 12, 13, 14, 15, 16, 17, 18, 19, 20, 21, 22, 23] rfl rfl (by decide) (by decide) hP hD hk1 hFc hB ht
    have hP : va_P D vwCl [(ro, .inl (cy 0, 20, .inl f0)), (pa, .inr (4, [.int mc, .ref ed, .int 0])), (m0, .inr (20, [.int 0, .ref mp, .int 0, .ref b1, .ref b2, .ref b3, .ref b4, .ref b5, .ref mq])), (mp, .inr (4, [.int mm, .ref ep, .int 13])), (ep, .inl (cy 2, 15, .inr (.inr (.inr (.inr gp))))), (mq, .inr (4, [.int mn, .ref ed, .int 0])), (p0, .inr (17, t0)), (p1, .inr (17, t1)), (p2, .inr (17, t2)), (p3, .inr (17, t3)), (p4, .inr (17, t4)), (p5, .inr (17, t5)), (p6, .inr (17, t6)), (p7, .inr (17, t7)), (p8, .inr (17, t8)), (p9, .inr (17, t9)), (p10, .inr (17, t10)), (p11, .inr (17, t11)), (p12, .inr (17, t12)), (h, .inr (13, [.ref pe, .ref ne, .ref pa, .ref ro, .int 0])), (pe, .inr (9, [.int 14, .ref a1, .ref a2, .ref a3, .ref a4, .ref a5, .ref a6, .ref a7, .ref a8, .ref a9])), (a1, .inl (cy 0, 20, .inl f3_1458)), (a2, .inl (cy 0, 20, .inl f4_1459)), (oa, .inl (cy 3, 1, .inr (.inl o2_1460)))] H := hP
    have hD : va_D A [(ro, .inl (cy 0, 20, .inl f0)), (pa, .inr (4, [.int mc, .ref ed, .int 0])), (m0, .inr (20, [.int 0, .ref mp, .int 0, .ref b1, .ref b2, .ref b3, .ref b4, .ref b5, .ref mq])), (mp, .inr (4, [.int mm, .ref ep, .int 13])), (ep, .inl (cy 2, 15, .inr (.inr (.inr (.inr gp))))), (mq, .inr (4, [.int mn, .ref ed, .int 0])), (p0, .inr (17, t0)), (p1, .inr (17, t1)), (p2, .inr (17, t2)), (p3, .inr (17, t3)), (p4, .inr (17, t4)), (p5, .inr (17, t5)), (p6, .inr (17, t6)), (p7, .inr (17, t7)), (p8, .inr (17, t8)), (p9, .inr (17, t9)), (p10, .inr (17, t10)), (p11, .inr (17, t11)), (p12, .inr (17, t12)), (h, .inr (13, [.ref pe, .ref ne, .ref pa, .ref ro, .int 0])), (pe, .inr (9, [.int 14, .ref a1, .ref a2, .ref a3, .ref a4, .ref a5, .ref a6, .ref a7, .ref a8, .ref a9])), (a1, .inl (cy 0, 20, .inl f3_1458)), (a2, .inl (cy 0, 20, .inl f4_1459)), (oa, .inl (cy 3, 1, .inr (.inl o2_1460)))] := hD
    refine W.widen (k := 81) (n := 1715) (Nat.le_of_ble_eq_true rfl) (Nat.le_of_ble_eq_true rfl) ?_
    refine lv_istore (lv' := [(6, .int 0), (5, .int 78), (3, .ref oa), (2, .ref m0), (1, .ref h), (0, .ref b)]) hx hb dL_law_317 hl (by decide) rfl (fun ls hl => ?_)
    refine lv_aload_n hx hb dL_law_319 rfl (lv_at hl 3 rfl) ?_
    refine lv_aload_n hx hb dL_law_320 rfl (lv_at hl 5 rfl) ?_
    refine lv_iload hx hb dL_law_321 (lv_at hl 1 rfl) ?_
    refine lv_iconst (v := 1) hx hb dL_law_323 (by decide) ?_
    refine lv_iadd hx hb dL_law_324 ?_
    refine lv_topi (fun y9 ey9 => ?_)
    obtain rfl : y9 = 79 := by rw [ey9] <;> decide
    refine va_sld hx hb hX hbl hbA hS (zx_bn (by decide)) dL_law_325 ?_
    refine lv_topi (fun y9 ey9 => ?_)
    obtain rfl : y9 = 0 := ey9.trans (by decide)
    refine lv_aload_n hx hb dL_law_326 rfl (lv_at hl 5 rfl) ?_
    refine lv_iload hx hb dL_law_327 (lv_at hl 1 rfl) ?_
    refine lv_iconst (v := 2) hx hb dL_law_329 (by decide) ?_
    refine lv_iadd hx hb dL_law_330 ?_
    refine lv_topi (fun y9 ey9 => ?_)
    obtain rfl : y9 = 80 := by rw [ey9] <;> decide
    refine va_sld hx hb hX hbl hbA hS (zx_bn (by decide)) dL_law_331 ?_
    refine lv_topi (fun y9 ey9 => ?_)
    obtain rfl : y9 = 0 := ey9.trans (by decide)
    have hPc := hP.sub (ws' := [(m0, .inr (20, [.int 0, .ref mp, .int 0, .ref b1, .ref b2, .ref b3, .ref b4, .ref b5, .ref mq])), (mp, .inr (4, [.int mm, .ref ep, .int 13])), (ep, .inl (cy 2, 15, .inr (.inr (.inr (.inr gp)))))]) [2, 3, 4] rfl
    have hDc := hD.sub (ws' := [(m0, .inr (20, [.int 0, .ref mp, .int 0, .ref b1, .ref b2, .ref b3, .ref b4, .ref b5, .ref mq])), (mp, .inr (4, [.int mm, .ref ep, .int 13])), (ep, .inl (cy 2, 15, .inr (.inr (.inr (.inr gp)))))]) [2, 3, 4] (by decide) rfl
    have hFc := va_free (wc := [(m0, .inr (20, [.int 0, .ref mp, .int 0, .ref b1, .ref b2, .ref b3, .ref b4, .ref b5, .ref mq])), (mp, .inr (4, [.int mm, .ref ep, .int 13])), (ep, .inl (cy 2, 15, .inr (.inr (.inr (.inr gp)))))]) hD hS hA [2, 3, 4] rfl
    refine va_calli (va_runV (As := [.int 0, .int 0]) (rest := []) ⟨hx, hb, hml, hown, hts⟩ (c_X15_addPerson_13 l hst D cy ed H.size m0 mp mq b1 b2 b3 b4 b5 0 0 mm ep gp) (cwV 2 hts (zx_GV mm_1599 mm_1600 mm_1601 mm_78 mm_1602) rfl rfl rfl (by decide +kernel) ⟨(Nat.le_of_ble_eq_true rfl), (Nat.le_of_ble_eq_true rfl)⟩) ⟨zx_blind, va_recv hK hPc (ci := 20) (q0 := 0) rfl rfl, zx_give hPc hK hDc hS hFc hZ hN⟩ rfl rfl hl.1 rfl (lv_room (Nat.le_of_ble_eq_true rfl)) dL_law_332 ⟨(Nat.le_of_ble_eq_true rfl), (Nat.le_of_ble_eq_true rfl)⟩) hS (fun q _ h => hFc q h) hFc (fun r9 u t H1 locs ht hvm hw hB hz1 hk1 hS => ?_)
    obtain ⟨mx_1462, qx_1463, g2_1464, y_1465, fy_1466⟩ := u
    obtain ⟨rfl, h_1467⟩ := hw
    obtain ⟨hP, hD⟩ := zx_join (wr := [(ro, .inl (cy 0, 20, .inl f0)), (pa, .inr (4, [.int mc, .ref ed, .int 0])), (mq, .inr (4, [.int mn, .ref ed, .int 0])), (p0, .inr (17, t0)), (p1, .inr (17, t1)), (p2, .inr (17, t2)), (p3, .inr (17, t3)), (p4, .inr (17, t4)), (p5, .inr (17, t5)), (p6, .inr (17, t6)), (p7, .inr (17, t7)), (p8, .inr (17, t8)), (p9, .inr (17, t9)), (p10, .inr (17, t10)), (p11, .inr (17, t11)), (p12, .inr (17, t12)), (h, .inr (13, [.ref pe, .ref ne, .ref pa, .ref ro, .int 0])), (pe, .inr (9, [.int 14, .ref a1, .ref a2, .ref a3, .ref a4, .ref a5, .ref a6, .ref a7, .ref a8, .ref a9])), (a1, .inl (cy 0, 20, .inl f3_1458)), (a2, .inl (cy 0, 20, .inl f4_1459)), (oa, .inl (cy 3, 1, .inr (.inl o2_1460)))]) (w1 := [(m0, .inr (20, [.int 0, .ref mp, .int 0, .ref b1, .ref b2, .ref b3, .ref b4, .ref b5, .ref mq])), (mp, .inr (4, [.int mx_1462, .ref qx_1463, .int 14])), (qx_1463, .inl (cy 2, 15, .inr (.inr (.inr (.inr g2_1464))))), (y_1465, .inr (17, fy_1466))]) [2, 3, 4] [0, 1, 5, 6, 7, 8, 9, 10, 11, 12, 13, 14, 15, 16, 17, 18, 19, 20, 21, 22, 23] rfl rfl (by decide) (by decide) hP hD hk1 hFc hB ht
    generalize H1 = H at hP hS ⊢
    have hP : va_P D vwCl [(ro, .inl (cy 0, 20, .inl f0)), (pa, .inr (4, [.int mc, .ref ed, .int 0])), (mq, .inr (4, [.int mn, .ref ed, .int 0])), (p0, .inr (17, t0)), (p1, .inr (17, t1)), (p2, .inr (17, t2)), (p3, .inr (17, t3)), (p4, .inr (17, t4)), (p5, .inr (17, t5)), (p6, .inr (17, t6)), (p7, .inr (17, t7)), (p8, .inr (17, t8)), (p9, .inr (17, t9)), (p10, .inr (17, t10)), (p11, .inr (17, t11)), (p12, .inr (17, t12)), (h, .inr (13, [.ref pe, .ref ne, .ref pa, .ref ro, .int 0])), (pe, .inr (9, [.int 14, .ref a1, .ref a2, .ref a3, .ref a4, .ref a5, .ref a6, .ref a7, .ref a8, .ref a9])), (a1, .inl (cy 0, 20, .inl f3_1458)), (a2, .inl (cy 0, 20, .inl f4_1459)), (oa, .inl (cy 3, 1, .inr (.inl o2_1460))), (m0, .inr (20, [.int 0, .ref mp, .int 0, .ref b1, .ref b2, .ref b3, .ref b4, .ref b5, .ref mq])), (mp, .inr (4, [.int mx_1462, .ref qx_1463, .int 14])), (qx_1463, .inl (cy 2, 15, .inr (.inr (.inr (.inr g2_1464))))), (y_1465, .inr (17, fy_1466))] H := hP
    have hD : va_D A [(ro, .inl (cy 0, 20, .inl f0)), (pa, .inr (4, [.int mc, .ref ed, .int 0])), (mq, .inr (4, [.int mn, .ref ed, .int 0])), (p0, .inr (17, t0)), (p1, .inr (17, t1)), (p2, .inr (17, t2)), (p3, .inr (17, t3)), (p4, .inr (17, t4)), (p5, .inr (17, t5)), (p6, .inr (17, t6)), (p7, .inr (17, t7)), (p8, .inr (17, t8)), (p9, .inr (17, t9)), (p10, .inr (17, t10)), (p11, .inr (17, t11)), (p12, .inr (17, t12)), (h, .inr (13, [.ref pe, .ref ne, .ref pa, .ref ro, .int 0])), (pe, .inr (9, [.int 14, .ref a1, .ref a2, .ref a3, .ref a4, .ref a5, .ref a6, .ref a7, .ref a8, .ref a9])), (a1, .inl (cy 0, 20, .inl f3_1458)), (a2, .inl (cy 0, 20, .inl f4_1459)), (oa, .inl (cy 3, 1, .inr (.inl o2_1460))), (m0, .inr (20, [.int 0, .ref mp, .int 0, .ref b1, .ref b2, .ref b3, .ref b4, .ref b5, .ref mq])), (mp, .inr (4, [.int mx_1462, .ref qx_1463, .int 14])), (qx_1463, .inl (cy 2, 15, .inr (.inr (.inr (.inr g2_1464))))), (y_1465, .inr (17, fy_1466))] := hD
    refine W.widen (k := 84) (n := 1745) (Nat.le_of_ble_eq_true rfl) (Nat.le_of_ble_eq_true rfl) ?_
    obtain ⟨hs_1468, hs_1469⟩ := h_1467
    refine lv_istore (lv' := [(7, .int 13), (6, .int 0), (5, .int 78), (3, .ref oa), (2, .ref m0), (1, .ref h), (0, .ref b)]) hx hb dL_law_335 hl (by decide) rfl (fun ls hl => ?_)
    refine lv_goto (tgt := 2542) hx hb dL_law_337 (by decide) ?_
    refine lv_iinc (v := 84) (lv' := [(5, .int 84), (7, .int 13), (6, .int 0), (3, .ref oa), (2, .ref m0), (1, .ref h), (0, .ref b)]) hx hb dL_law_2542 hl (k := 2) rfl (by decide) (by decide) rfl (fun ls hl => ?_)
    refine lv_goto (tgt := 28) hx hb dL_law_2545 (by decide) ?_
    have hP := hP.sub (ws' := [(h, .inr (13, [.ref pe, .ref ne, .ref pa, .ref ro, .int 0])), (pe, .inr (9, [.int 14, .ref a1, .ref a2, .ref a3, .ref a4, .ref a5, .ref a6, .ref a7, .ref a8, .ref a9])), (a1, .inl (cy 0, 20, .inl f3_1458)), (a2, .inl (cy 0, 20, .inl f4_1459)), (ro, .inl (cy 0, 20, .inl f0)), (pa, .inr (4, [.int mc, .ref ed, .int 0])), (m0, .inr (20, [.int 0, .ref mp, .int 0, .ref b1, .ref b2, .ref b3, .ref b4, .ref b5, .ref mq])), (mp, .inr (4, [.int mx_1462, .ref qx_1463, .int 14])), (qx_1463, .inl (cy 2, 15, .inr (.inr (.inr (.inr g2_1464))))), (mq, .inr (4, [.int mn, .ref ed, .int 0])), (oa, .inl (cy 3, 1, .inr (.inl o2_1460))), (p0, .inr (17, t0)), (p1, .inr (17, t1)), (p2, .inr (17, t2)), (p3, .inr (17, t3)), (p4, .inr (17, t4)), (p5, .inr (17, t5)), (p6, .inr (17, t6)), (p7, .inr (17, t7)), (p8, .inr (17, t8)), (p9, .inr (17, t9)), (p10, .inr (17, t10)), (p11, .inr (17, t11)), (p12, .inr (17, t12)), (y_1465, .inr (17, fy_1466))]) [16, 17, 18, 19, 0, 1, 21, 22, 23, 2, 20, 3, 4, 5, 6, 7, 8, 9, 10, 11, 12, 13, 14, 15, 24] rfl
    have hD := hD.sub (ws' := [(h, .inr (13, [.ref pe, .ref ne, .ref pa, .ref ro, .int 0])), (pe, .inr (9, [.int 14, .ref a1, .ref a2, .ref a3, .ref a4, .ref a5, .ref a6, .ref a7, .ref a8, .ref a9])), (a1, .inl (cy 0, 20, .inl f3_1458)), (a2, .inl (cy 0, 20, .inl f4_1459)), (ro, .inl (cy 0, 20, .inl f0)), (pa, .inr (4, [.int mc, .ref ed, .int 0])), (m0, .inr (20, [.int 0, .ref mp, .int 0, .ref b1, .ref b2, .ref b3, .ref b4, .ref b5, .ref mq])), (mp, .inr (4, [.int mx_1462, .ref qx_1463, .int 14])), (qx_1463, .inl (cy 2, 15, .inr (.inr (.inr (.inr g2_1464))))), (mq, .inr (4, [.int mn, .ref ed, .int 0])), (oa, .inl (cy 3, 1, .inr (.inl o2_1460))), (p0, .inr (17, t0)), (p1, .inr (17, t1)), (p2, .inr (17, t2)), (p3, .inr (17, t3)), (p4, .inr (17, t4)), (p5, .inr (17, t5)), (p6, .inr (17, t6)), (p7, .inr (17, t7)), (p8, .inr (17, t8)), (p9, .inr (17, t9)), (p10, .inr (17, t10)), (p11, .inr (17, t11)), (p12, .inr (17, t12)), (y_1465, .inr (17, fy_1466))]) [16, 17, 18, 19, 0, 1, 21, 22, 23, 2, 20, 3, 4, 5, 6, 7, 8, 9, 10, 11, 12, 13, 14, 15, 24] (by decide) rfl
    exact hnext _ _ _ ⟨pe, ne, pa, ro, a1, a2, a3, a4, a5, a6, a7, a8, a9, mp, mq, b1, b2, b3, b4, b5, qx_1463, mc, mx_1462, mn, f3_1458, f4_1459, f0, o2_1460, g2_1464, p0, p1, p2, p3, p4, p5, p6, p7, p8, p9, p10, p11, p12, y_1465, t0, t1, t2, t3, t4, t5, t6, t7, t8, t9, t10, t11, t12, fy_1466, hP, hD, ((hs_1469 0 (by decide)).trans hp0), ((hs_1469 1 (by decide)).trans hp1), ((hs_1469 2 (by decide)).trans hp2), ((hs_1469 3 (by decide)).trans hp3), ((hs_1469 4 (by decide)).trans hp4), ((hs_1469 5 (by decide)).trans hp5), ((hs_1469 6 (by decide)).trans hp6), ((hs_1469 7 (by decide)).trans hp7), ((hs_1469 8 (by decide)).trans hp8), ((hs_1469 9 (by decide)).trans hp9), ((hs_1469 10 (by decide)).trans hp10), ((hs_1469 11 (by decide)).trans hp11), ((hs_1469 12 (by decide)).trans hp12), hs_1468⟩ hS (lv_sub hl [0, 3, 4, 5, 6] rfl)
set_option maxHeartbeats 4000000 in
set_option maxRecDepth 100000 in
theorem law_step_14 {p : Program} {l : Launch} {e : Env} {s : State} {m : MethodId} {below : List Frame} {meth : Method} {c : Code} {D : va_G} {cy : Nat → ClassId} {ed b : Nat} {A : Nat → Prop} {Q : State → Prop} (C0 : zx_LW p l s m c D cy ed b A) {h m0 oa : Nat} {H : Heap} {locs : List Loc} {ls : Array Slot} (h0 : zx_S14 D cy ed A h m0 oa H) (hS : va_S A s.heap H locs) (hl : lv_has ls 9 [(5, .int 84), (3, .ref oa), (2, .ref m0), (1, .ref h), (0, .ref b)])
    (hnext : ∀ (H : Heap) (locs : List Loc) (ls : Array Slot), zx_S15 D cy ed A h m0 oa H → va_S A s.heap H locs → lv_has ls 9 [(5, .int 90), (3, .ref oa), (2, .ref m0), (1, .ref h), (0, .ref b)] → W p l e zx_R s m #[Value.ref b] below meth c H locs 87 1775 Q (F0 m 28 ls [])) :
    W p l e zx_R s m #[Value.ref b] below meth c H locs 84 1745 Q (F0 m 28 ls []) := by
  obtain ⟨hx, hb, hml, hst, hown, hts, hX, hbl, hbA, hA, hK, hZ, hN⟩ := C0
  obtain ⟨pe, ne, pa, ro, a1, a2, a3, a4, a5, a6, a7, a8, a9, mp, mq, b1, b2, b3, b4, b5, ep, mc, mm, mn, f1, f2, f0, og, gp, p0, p1, p2, p3, p4, p5, p6, p7, p8, p9, p10, p11, p12, p13, t0, t1, t2, t3, t4, t5, t6, t7, t8, t9, t10, t11, t12, t13, hP, hD, hp0, hp1, hp2, hp3, hp4, hp5, hp6, hp7, hp8, hp9, hp10, hp11, hp12, hp13⟩ := h0
  refine lv_iload hx hb dL_law_28 (lv_at hl 0 rfl) ?_
  refine lv_aload_n hx hb dL_law_30 rfl (lv_at hl 4 rfl) ?_
  refine va_slen hx hb hX hbl hbA hS dL_law_31 ?_
  refine lv_topi (fun y9 ey9 => ?_)
  obtain rfl : y9 = 3072 := ey9.trans (by decide)
  refine lv_bipush (v := 6) hx hb dL_law_32 (by decide) ?_
  refine lv_isub hx hb dL_law_34 ?_
  refine lv_topi (fun y9 ey9 => ?_)
  obtain rfl : y9 = 3066 := by rw [ey9] <;> decide
  refine lv_icmp_gt (tgt := 2548) hx hb dL_law_35 (by decide) (fun c_1470 => absurd c_1470 (by decide)) (fun _ => ?_)
  refine lv_aload_n hx hb dL_law_38 rfl (lv_at hl 4 rfl) ?_
  refine lv_iload hx hb dL_law_39 (lv_at hl 0 rfl) ?_
  refine va_sld hx hb hX hbl hbA hS (zx_bn (by decide)) dL_law_41 ?_
  refine lv_topi (fun y9 ey9 => ?_)
  obtain rfl : y9 = 0 := ey9.trans (by decide)
  refine lv_bipush (v := 63) hx hb dL_law_42 (by decide) ?_
  refine lv_iand hx hb dL_law_44 ?_
  refine lv_topi (fun y9 ey9 => ?_)
  obtain rfl : y9 = 0 := by rw [ey9] <;> decide
  refine lv_tableIn (off := 255) (tgt := 300) hx hb dL_law_45 (by decide) (by decide) (by decide) (by decide) ?_
  refine lv_aload_n hx hb dL_law_300 rfl (lv_at hl 3 rfl) ?_
  refine lv_aload_n hx hb dL_law_301 rfl (lv_at hl 4 rfl) ?_
  refine lv_iload hx hb dL_law_302 (lv_at hl 0 rfl) ?_
  refine lv_iconst (v := 1) hx hb dL_law_304 (by decide) ?_
  refine lv_iadd hx hb dL_law_305 ?_
  refine lv_topi (fun y9 ey9 => ?_)
  obtain rfl : y9 = 85 := by rw [ey9] <;> decide
  refine va_sld hx hb hX hbl hbA hS (zx_bn (by decide)) dL_law_306 ?_
  refine lv_topi (fun y9 ey9 => ?_)
  obtain rfl : y9 = 0 := ey9.trans (by decide)
  refine lv_aload_n hx hb dL_law_307 rfl (lv_at hl 4 rfl) ?_
  refine lv_iload hx hb dL_law_308 (lv_at hl 0 rfl) ?_
  refine lv_iconst (v := 2) hx hb dL_law_310 (by decide) ?_
  refine lv_iadd hx hb dL_law_311 ?_
  refine lv_topi (fun y9 ey9 => ?_)
  obtain rfl : y9 = 86 := by rw [ey9] <;> decide
  refine va_sld hx hb hX hbl hbA hS (zx_bn (by decide)) dL_law_312 ?_
  refine lv_topi (fun y9 ey9 => ?_)
  obtain rfl : y9 = 0 := ey9.trans (by decide)
  refine lv_aload_n hx hb dL_law_313 rfl (lv_at hl 1 rfl) ?_
  have hPc := hP.sub (ws' := [(h, .inr (13, [.ref pe, .ref ne, .ref pa, .ref ro, .int 0])), (pe, .inr (9, [.int 14, .ref a1, .ref a2, .ref a3, .ref a4, .ref a5, .ref a6, .ref a7, .ref a8, .ref a9])), (a1, .inl (cy 0, 20, .inl f1)), (a2, .inl (cy 0, 20, .inl f2)), (oa, .inl (cy 3, 1, .inr (.inl og)))]) [0, 1, 2, 3, 10] rfl
  have hDc := hD.sub (ws' := [(h, .inr (13, [.ref pe, .ref ne, .ref pa, .ref ro, .int 0])), (pe, .inr (9, [.int 14, .ref a1, .ref a2, .ref a3, .ref a4, .ref a5, .ref a6, .ref a7, .ref a8, .ref a9])), (a1, .inl (cy 0, 20, .inl f1)), (a2, .inl (cy 0, 20, .inl f2)), (oa, .inl (cy 3, 1, .inr (.inl og)))]) [0, 1, 2, 3, 10] (by decide) rfl
  have hFc := va_free (wc := [(h, .inr (13, [.ref pe, .ref ne, .ref pa, .ref ro, .int 0])), (pe, .inr (9, [.int 14, .ref a1, .ref a2, .ref a3, .ref a4, .ref a5, .ref a6, .ref a7, .ref a8, .ref a9])), (a1, .inl (cy 0, 20, .inl f1)), (a2, .inl (cy 0, 20, .inl f2)), (oa, .inl (cy 3, 1, .inr (.inl og)))]) hD hS hA [0, 1, 2, 3, 10] rfl
  refine vx_calli (vx_runSX (As := [.ref h, .int 0, .int 0, .ref oa]) (rest := []) ⟨hx, hb, hml, hown, hts⟩ (c_L_addPerson_14 l hst D cy ed H.size h pe ne pa ro 0 a1 a2 a3 a4 a5 a6 a7 a8 a9 f1 f2 oa og) (vx_cwSW 4 hts (zx_GS mm_329 mm_330 mm_70 mm_331) rfl rfl rfl (by decide +kernel) ⟨(Nat.le_of_ble_eq_true rfl), (Nat.le_of_ble_eq_true rfl)⟩) ⟨zx_blind, zx_give hPc hK hDc hS hFc hZ hN⟩ rfl rfl hl.1 rfl (lv_room (Nat.le_of_ble_eq_true rfl)) dL_law_314 ⟨(Nat.le_of_ble_eq_true rfl), (Nat.le_of_ble_eq_true rfl)⟩) hS (fun q _ h => hFc q h) hFc (fun q _ h => hFc q h) (fun E9 ce9 q9 _ t H locs ht hvm _ hBX hz1 hk1 hS hce hcv hcl => ?_) (fun r9 u t H locs ht hvm hw hB hz1 hk1 hS => ?_)
  · exact hBX.elim
  ·
    obtain ⟨f3_1471, f4_1472, o2_1473⟩ := u
    obtain ⟨rfl, h_1474⟩ := hw
    obtain ⟨hP, hD⟩ := zx_join (wr := [(ro, .inl (cy 0, 20, .inl f0)), (pa, .inr (4, [.int mc, .ref ed, .int 0])), (m0, .inr (20, [.int 0, .ref mp, .int 0, .ref b1, .ref b2, .ref b3, .ref b4, .ref b5, .ref mq])), (mp, .inr (4, [.int mm, .ref ep, .int 14])), (ep, .inl (cy 2, 15, .inr (.inr (.inr (.inr gp))))), (mq, .inr (4, [.int mn, .ref ed, .int 0])), (p0, .inr (17, t0)), (p1, .inr (17, t1)), (p2, .inr (17, t2)), (p3, .inr (17, t3)), (p4, .inr (17, t4)), (p5, .inr (17, t5)), (p6, .inr (17, t6)), (p7, .inr (17, t7)), (p8, .inr (17, t8)), (p9, .inr (17, t9)), (p10, .inr (17, t10)), (p11, .inr (17, t11)), (p12, .inr (17, t12)), (p13, .inr (17, t13))]) (w1 := [(h, .inr (13, [.ref pe, .ref ne, .ref pa, .ref ro, .int 0])), (pe, .inr (9, [.int 15, .ref a1, .ref a2, .ref a3, .ref a4, .ref a5, .ref a6, .ref a7, .ref a8, .ref a9])), (a1, .inl (cy 0, 20, .inl f3_1471)), (a2, .inl (cy 0, 20, .inl f4_1472)), (oa, .inl (cy 3, 1, .inr (.inl o2_1473)))]) [0, 1, 2, 3, 10] [4, 5, 6, 7, 8, 9, 11, 12, 13, 14, 15, 16, 17, 18, 19, 20, 21, 22, 23, 24] rfl rfl (by decide) (by decide) hP hD hk1 hFc hB ht
    have hP : va_P D vwCl [(ro, .inl (cy 0, 20, .inl f0)), (pa, .inr (4, [.int mc, .ref ed, .int 0])), (m0, .inr (20, [.int 0, .ref mp, .int 0, .ref b1, .ref b2, .ref b3, .ref b4, .ref b5, .ref mq])), (mp, .inr (4, [.int mm, .ref ep, .int 14])), (ep, .inl (cy 2, 15, .inr (.inr (.inr (.inr gp))))), (mq, .inr (4, [.int mn, .ref ed, .int 0])), (p0, .inr (17, t0)), (p1, .inr (17, t1)), (p2, .inr (17, t2)), (p3, .inr (17, t3)), (p4, .inr (17, t4)), (p5, .inr (17, t5)), (p6, .inr (17, t6)), (p7, .inr (17, t7)), (p8, .inr (17, t8)), (p9, .inr (17, t9)), (p10, .inr (17, t10)), (p11, .inr (17, t11)), (p12, .inr (17, t12)), (p13, .inr (17, t13)), (h, .inr (13, [.ref pe, .ref ne, .ref pa, .ref ro, .int 0])), (pe, .inr (9, [.int 15, .ref a1, .ref a2, .ref a3, .ref a4, .ref a5, .ref a6, .ref a7, .ref a8, .ref a9])), (a1, .inl (cy 0, 20, .inl f3_1471)), (a2, .inl (cy 0, 20, .inl f4_1472)), (oa, .inl (cy 3, 1, .inr (.inl o2_1473)))] H := hP
    have hD : va_D A [(ro, .inl (cy 0, 20, .inl f0)), (pa, .inr (4, [.int mc, .ref ed, .int 0])), (m0, .inr (20, [.int 0, .ref mp, .int 0, .ref b1, .ref b2, .ref b3, .ref b4, .ref b5, .ref mq])), (mp, .inr (4, [.int mm, .ref ep, .int 14])), (ep, .inl (cy 2, 15, .inr (.inr (.inr (.inr gp))))), (mq, .inr (4, [.int mn, .ref ed, .int 0])), (p0, .inr (17, t0)), (p1, .inr (17, t1)), (p2, .inr (17, t2)), (p3, .inr (17, t3)), (p4, .inr (17, t4)), (p5, .inr (17, t5)), (p6, .inr (17, t6)), (p7, .inr (17, t7)), (p8, .inr (17, t8)), (p9, .inr (17, t9)), (p10, .inr (17, t10)), (p11, .inr (17, t11)), (p12, .inr (17, t12)), (p13, .inr (17, t13)), (h, .inr (13, [.ref pe, .ref ne, .ref pa, .ref ro, .int 0])), (pe, .inr (9, [.int 15, .ref a1, .ref a2, .ref a3, .ref a4, .ref a5, .ref a6, .ref a7, .ref a8, .ref a9])), (a1, .inl (cy 0, 20, .inl f3_1471)), (a2, .inl (cy 0, 20, .inl f4_1472)), (oa, .inl (cy 3, 1, .inr (.inl o2_1473)))] := hD
    refine W.widen (k := 84) (n := 1745) (Nat.le_of_ble_eq_true rfl) (Nat.le_of_ble_eq_true rfl) ?_
    refine lv_istore (lv' := [(6, .int 0), (5, .int 84), (3, .ref oa), (2, .ref m0), (1, .ref h), (0, .ref b)]) hx hb dL_law_317 hl (by decide) rfl (fun ls hl => ?_)
    refine lv_aload_n hx hb dL_law_319 rfl (lv_at hl 3 rfl) ?_
    refine lv_aload_n hx hb dL_law_320 rfl (lv_at hl 5 rfl) ?_
    refine lv_iload hx hb dL_law_321 (lv_at hl 1 rfl) ?_
    refine lv_iconst (v := 1) hx hb dL_law_323 (by decide) ?_
    refine lv_iadd hx hb dL_law_324 ?_
    refine lv_topi (fun y9 ey9 => ?_)
    obtain rfl : y9 = 85 := by rw [ey9] <;> decide
    refine va_sld hx hb hX hbl hbA hS (zx_bn (by decide)) dL_law_325 ?_
    refine lv_topi (fun y9 ey9 => ?_)
    obtain rfl : y9 = 0 := ey9.trans (by decide)
    refine lv_aload_n hx hb dL_law_326 rfl (lv_at hl 5 rfl) ?_
    refine lv_iload hx hb dL_law_327 (lv_at hl 1 rfl) ?_
    refine lv_iconst (v := 2) hx hb dL_law_329 (by decide) ?_
    refine lv_iadd hx hb dL_law_330 ?_
    refine lv_topi (fun y9 ey9 => ?_)
    obtain rfl : y9 = 86 := by rw [ey9] <;> decide
    refine va_sld hx hb hX hbl hbA hS (zx_bn (by decide)) dL_law_331 ?_
    refine lv_topi (fun y9 ey9 => ?_)
    obtain rfl : y9 = 0 := ey9.trans (by decide)
    have hPc := hP.sub (ws' := [(m0, .inr (20, [.int 0, .ref mp, .int 0, .ref b1, .ref b2, .ref b3, .ref b4, .ref b5, .ref mq])), (mp, .inr (4, [.int mm, .ref ep, .int 14])), (ep, .inl (cy 2, 15, .inr (.inr (.inr (.inr gp)))))]) [2, 3, 4] rfl
    have hDc := hD.sub (ws' := [(m0, .inr (20, [.int 0, .ref mp, .int 0, .ref b1, .ref b2, .ref b3, .ref b4, .ref b5, .ref mq])), (mp, .inr (4, [.int mm, .ref ep, .int 14])), (ep, .inl (cy 2, 15, .inr (.inr (.inr (.inr gp)))))]) [2, 3, 4] (by decide) rfl
    have hFc := va_free (wc := [(m0, .inr (20, [.int 0, .ref mp, .int 0, .ref b1, .ref b2, .ref b3, .ref b4, .ref b5, .ref mq])), (mp, .inr (4, [.int mm, .ref ep, .int 14])), (ep, .inl (cy 2, 15, .inr (.inr (.inr (.inr gp)))))]) hD hS hA [2, 3, 4] rfl
    refine va_calli (va_runV (As := [.int 0, .int 0]) (rest := []) ⟨hx, hb, hml, hown, hts⟩ (c_X15_addPerson_14 l hst D cy ed H.size m0 mp mq b1 b2 b3 b4 b5 0 0 mm ep gp) (cwV 2 hts (zx_GV mm_1599 mm_1600 mm_1601 mm_78 mm_1602) rfl rfl rfl (by decide +kernel) ⟨(Nat.le_of_ble_eq_true rfl), (Nat.le_of_ble_eq_true rfl)⟩) ⟨zx_blind, va_recv hK hPc (ci := 20) (q0 := 0) rfl rfl, zx_give hPc hK hDc hS hFc hZ hN⟩ rfl rfl hl.1 rfl (lv_room (Nat.le_of_ble_eq_true rfl)) dL_law_332 ⟨(Nat.le_of_ble_eq_true rfl), (Nat.le_of_ble_eq_true rfl)⟩) hS (fun q _ h => hFc q h) hFc (fun r9 u t H1 locs ht hvm hw hB hz1 hk1 hS => ?_)
    obtain ⟨mx_1475, qx_1476, g2_1477, y_1478, fy_1479⟩ := u
    obtain ⟨rfl, h_1480⟩ := hw
    obtain ⟨hP, hD⟩ := zx_join (wr := [(ro, .inl (cy 0, 20, .inl f0)), (pa, .inr (4, [.int mc, .ref ed, .int 0])), (mq, .inr (4, [.int mn, .ref ed, .int 0])), (p0, .inr (17, t0)), (p1, .inr (17, t1)), (p2, .inr (17, t2)), (p3, .inr (17, t3)), (p4, .inr (17, t4)), (p5, .inr (17, t5)), (p6, .inr (17, t6)), (p7, .inr (17, t7)), (p8, .inr (17, t8)), (p9, .inr (17, t9)), (p10, .inr (17, t10)), (p11, .inr (17, t11)), (p12, .inr (17, t12)), (p13, .inr (17, t13)), (h, .inr (13, [.ref pe, .ref ne, .ref pa, .ref ro, .int 0])), (pe, .inr (9, [.int 15, .ref a1, .ref a2, .ref a3, .ref a4, .ref a5, .ref a6, .ref a7, .ref a8, .ref a9])), (a1, .inl (cy 0, 20, .inl f3_1471)), (a2, .inl (cy 0, 20, .inl f4_1472)), (oa, .inl (cy 3, 1, .inr (.inl o2_1473)))]) (w1 := [(m0, .inr (20, [.int 0, .ref mp, .int 0, .ref b1, .ref b2, .ref b3, .ref b4, .ref b5, .ref mq])), (mp, .inr (4, [.int mx_1475, .ref qx_1476, .int 15])), (qx_1476, .inl (cy 2, 15, .inr (.inr (.inr (.inr g2_1477))))), (y_1478, .inr (17, fy_1479))]) [2, 3, 4] [0, 1, 5, 6, 7, 8, 9, 10, 11, 12, 13, 14, 15, 16, 17, 18, 19, 20, 21, 22, 23, 24] rfl rfl (by decide) (by decide) hP hD hk1 hFc hB ht
    generalize H1 = H at hP hS ⊢
    have hP : va_P D vwCl [(ro, .inl (cy 0, 20, .inl f0)), (pa, .inr (4, [.int mc, .ref ed, .int 0])), (mq, .inr (4, [.int mn, .ref ed, .int 0])), (p0, .inr (17, t0)), (p1, .inr (17, t1)), (p2, .inr (17, t2)), (p3, .inr (17, t3)), (p4, .inr (17, t4)), (p5, .inr (17, t5)), (p6, .inr (17, t6)), (p7, .inr (17, t7)), (p8, .inr (17, t8)), (p9, .inr (17, t9)), (p10, .inr (17, t10)), (p11, .inr (17, t11)), (p12, .inr (17, t12)), (p13, .inr (17, t13)), (h, .inr (13, [.ref pe, .ref ne, .ref pa, .ref ro, .int 0])), (pe, .inr (9, [.int 15, .ref a1, .ref a2, .ref a3, .ref a4, .ref a5, .ref a6, .ref a7, .ref a8, .ref a9])), (a1, .inl (cy 0, 20, .inl f3_1471)), (a2, .inl (cy 0, 20, .inl f4_1472)), (oa, .inl (cy 3, 1, .inr (.inl o2_1473))), (m0, .inr (20, [.int 0, .ref mp, .int 0, .ref b1, .ref b2, .ref b3, .ref b4, .ref b5, .ref mq])), (mp, .inr (4, [.int mx_1475, .ref qx_1476, .int 15])), (qx_1476, .inl (cy 2, 15, .inr (.inr (.inr (.inr g2_1477))))), (y_1478, .inr (17, fy_1479))] H := hP
    have hD : va_D A [(ro, .inl (cy 0, 20, .inl f0)), (pa, .inr (4, [.int mc, .ref ed, .int 0])), (mq, .inr (4, [.int mn, .ref ed, .int 0])), (p0, .inr (17, t0)), (p1, .inr (17, t1)), (p2, .inr (17, t2)), (p3, .inr (17, t3)), (p4, .inr (17, t4)), (p5, .inr (17, t5)), (p6, .inr (17, t6)), (p7, .inr (17, t7)), (p8, .inr (17, t8)), (p9, .inr (17, t9)), (p10, .inr (17, t10)), (p11, .inr (17, t11)), (p12, .inr (17, t12)), (p13, .inr (17, t13)), (h, .inr (13, [.ref pe, .ref ne, .ref pa, .ref ro, .int 0])), (pe, .inr (9, [.int 15, .ref a1, .ref a2, .ref a3, .ref a4, .ref a5, .ref a6, .ref a7, .ref a8, .ref a9])), (a1, .inl (cy 0, 20, .inl f3_1471)), (a2, .inl (cy 0, 20, .inl f4_1472)), (oa, .inl (cy 3, 1, .inr (.inl o2_1473))), (m0, .inr (20, [.int 0, .ref mp, .int 0, .ref b1, .ref b2, .ref b3, .ref b4, .ref b5, .ref mq])), (mp, .inr (4, [.int mx_1475, .ref qx_1476, .int 15])), (qx_1476, .inl (cy 2, 15, .inr (.inr (.inr (.inr g2_1477))))), (y_1478, .inr (17, fy_1479))] := hD
    refine W.widen (k := 87) (n := 1775) (Nat.le_of_ble_eq_true rfl) (Nat.le_of_ble_eq_true rfl) ?_
    obtain ⟨hs_1481, hs_1482⟩ := h_1480
    refine lv_istore (lv' := [(7, .int 14), (6, .int 0), (5, .int 84), (3, .ref oa), (2, .ref m0), (1, .ref h), (0, .ref b)]) hx hb dL_law_335 hl (by decide) rfl (fun ls hl => ?_)
    refine lv_goto (tgt := 2542) hx hb dL_law_337 (by decide) ?_
    refine lv_iinc (v := 90) (lv' := [(5, .int 90), (7, .int 14), (6, .int 0), (3, .ref oa), (2, .ref m0), (1, .ref h), (0, .ref b)]) hx hb dL_law_2542 hl (k := 2) rfl (by decide) (by decide) rfl (fun ls hl => ?_)
    refine lv_goto (tgt := 28) hx hb dL_law_2545 (by decide) ?_
    have hP := hP.sub (ws' := [(h, .inr (13, [.ref pe, .ref ne, .ref pa, .ref ro, .int 0])), (pe, .inr (9, [.int 15, .ref a1, .ref a2, .ref a3, .ref a4, .ref a5, .ref a6, .ref a7, .ref a8, .ref a9])), (a1, .inl (cy 0, 20, .inl f3_1471)), (a2, .inl (cy 0, 20, .inl f4_1472)), (ro, .inl (cy 0, 20, .inl f0)), (pa, .inr (4, [.int mc, .ref ed, .int 0])), (m0, .inr (20, [.int 0, .ref mp, .int 0, .ref b1, .ref b2, .ref b3, .ref b4, .ref b5, .ref mq])), (mp, .inr (4, [.int mx_1475, .ref qx_1476, .int 15])), (qx_1476, .inl (cy 2, 15, .inr (.inr (.inr (.inr g2_1477))))), (mq, .inr (4, [.int mn, .ref ed, .int 0])), (oa, .inl (cy 3, 1, .inr (.inl o2_1473))), (p0, .inr (17, t0)), (p1, .inr (17, t1)), (p2, .inr (17, t2)), (p3, .inr (17, t3)), (p4, .inr (17, t4)), (p5, .inr (17, t5)), (p6, .inr (17, t6)), (p7, .inr (17, t7)), (p8, .inr (17, t8)), (p9, .inr (17, t9)), (p10, .inr (17, t10)), (p11, .inr (17, t11)), (p12, .inr (17, t12)), (p13, .inr (17, t13)), (y_1478, .inr (17, fy_1479))]) [17, 18, 19, 20, 0, 1, 22, 23, 24, 2, 21, 3, 4, 5, 6, 7, 8, 9, 10, 11, 12, 13, 14, 15, 16, 25] rfl
    have hD := hD.sub (ws' := [(h, .inr (13, [.ref pe, .ref ne, .ref pa, .ref ro, .int 0])), (pe, .inr (9, [.int 15, .ref a1, .ref a2, .ref a3, .ref a4, .ref a5, .ref a6, .ref a7, .ref a8, .ref a9])), (a1, .inl (cy 0, 20, .inl f3_1471)), (a2, .inl (cy 0, 20, .inl f4_1472)), (ro, .inl (cy 0, 20, .inl f0)), (pa, .inr (4, [.int mc, .ref ed, .int 0])), (m0, .inr (20, [.int 0, .ref mp, .int 0, .ref b1, .ref b2, .ref b3, .ref b4, .ref b5, .ref mq])), (mp, .inr (4, [.int mx_1475, .ref qx_1476, .int 15])), (qx_1476, .inl (cy 2, 15, .inr (.inr (.inr (.inr g2_1477))))), (mq, .inr (4, [.int mn, .ref ed, .int 0])), (oa, .inl (cy 3, 1, .inr (.inl o2_1473))), (p0, .inr (17, t0)), (p1, .inr (17, t1)), (p2, .inr (17, t2)), (p3, .inr (17, t3)), (p4, .inr (17, t4)), (p5, .inr (17, t5)), (p6, .inr (17, t6)), (p7, .inr (17, t7)), (p8, .inr (17, t8)), (p9, .inr (17, t9)), (p10, .inr (17, t10)), (p11, .inr (17, t11)), (p12, .inr (17, t12)), (p13, .inr (17, t13)), (y_1478, .inr (17, fy_1479))]) [17, 18, 19, 20, 0, 1, 22, 23, 24, 2, 21, 3, 4, 5, 6, 7, 8, 9, 10, 11, 12, 13, 14, 15, 16, 25] (by decide) rfl
    exact hnext _ _ _ ⟨pe, ne, pa, ro, a1, a2, a3, a4, a5, a6, a7, a8, a9, mp, mq, b1, b2, b3, b4, b5, qx_1476, mc, mx_1475, mn, f3_1471, f4_1472, f0, o2_1473, g2_1477, p0, p1, p2, p3, p4, p5, p6, p7, p8, p9, p10, p11, p12, p13, y_1478, t0, t1, t2, t3, t4, t5, t6, t7, t8, t9, t10, t11, t12, t13, fy_1479, hP, hD, ((hs_1482 0 (by decide)).trans hp0), ((hs_1482 1 (by decide)).trans hp1), ((hs_1482 2 (by decide)).trans hp2), ((hs_1482 3 (by decide)).trans hp3), ((hs_1482 4 (by decide)).trans hp4), ((hs_1482 5 (by decide)).trans hp5), ((hs_1482 6 (by decide)).trans hp6), ((hs_1482 7 (by decide)).trans hp7), ((hs_1482 8 (by decide)).trans hp8), ((hs_1482 9 (by decide)).trans hp9), ((hs_1482 10 (by decide)).trans hp10), ((hs_1482 11 (by decide)).trans hp11), ((hs_1482 12 (by decide)).trans hp12), ((hs_1482 13 (by decide)).trans hp13), hs_1481⟩ hS (lv_sub hl [0, 3, 4, 5, 6] rfl)
set_option maxHeartbeats 4000000 in
set_option maxRecDepth 100000 in
theorem law_step_15 {p : Program} {l : Launch} {e : Env} {s : State} {m : MethodId} {below : List Frame} {meth : Method} {c : Code} {D : va_G} {cy : Nat → ClassId} {ed b : Nat} {A : Nat → Prop} {Q : State → Prop} (C0 : zx_LW p l s m c D cy ed b A) {h m0 oa : Nat} {H : Heap} {locs : List Loc} {ls : Array Slot} (h0 : zx_S15 D cy ed A h m0 oa H) (hS : va_S A s.heap H locs) (hl : lv_has ls 9 [(5, .int 90), (3, .ref oa), (2, .ref m0), (1, .ref h), (0, .ref b)])
    (hnext : ∀ (H : Heap) (locs : List Loc) (ls : Array Slot), zx_S16 D cy ed A h m0 oa H → va_S A s.heap H locs → lv_has ls 9 [(5, .int 96), (3, .ref oa), (2, .ref m0), (1, .ref h), (0, .ref b)] → W p l e zx_R s m #[Value.ref b] below meth c H locs 91 1827 Q (F0 m 28 ls [])) :
    W p l e zx_R s m #[Value.ref b] below meth c H locs 87 1775 Q (F0 m 28 ls []) := by
  obtain ⟨hx, hb, hml, hst, hown, hts, hX, hbl, hbA, hA, hK, hZ, hN⟩ := C0
  obtain ⟨pe, ne, pa, ro, a1, a2, a3, a4, a5, a6, a7, a8, a9, mp, mq, b1, b2, b3, b4, b5, ep, mc, mm, mn, f1, f2, f0, og, gp, p0, p1, p2, p3, p4, p5, p6, p7, p8, p9, p10, p11, p12, p13, p14, t0, t1, t2, t3, t4, t5, t6, t7, t8, t9, t10, t11, t12, t13, t14, hP, hD, hp0, hp1, hp2, hp3, hp4, hp5, hp6, hp7, hp8, hp9, hp10, hp11, hp12, hp13, hp14⟩ := h0
  refine lv_iload hx hb dL_law_28 (lv_at hl 0 rfl) ?_
  refine lv_aload_n hx hb dL_law_30 rfl (lv_at hl 4 rfl) ?_
  refine va_slen hx hb hX hbl hbA hS dL_law_31 ?_
  refine lv_topi (fun y9 ey9 => ?_)
  obtain rfl : y9 = 3072 := ey9.trans (by decide)
  refine lv_bipush (v := 6) hx hb dL_law_32 (by decide) ?_
  refine lv_isub hx hb dL_law_34 ?_
  refine lv_topi (fun y9 ey9 => ?_)
  obtain rfl : y9 = 3066 := by rw [ey9] <;> decide
  refine lv_icmp_gt (tgt := 2548) hx hb dL_law_35 (by decide) (fun c_1483 => absurd c_1483 (by decide)) (fun _ => ?_)
  refine lv_aload_n hx hb dL_law_38 rfl (lv_at hl 4 rfl) ?_
  refine lv_iload hx hb dL_law_39 (lv_at hl 0 rfl) ?_
  refine va_sld hx hb hX hbl hbA hS (zx_bn (by decide)) dL_law_41 ?_
  refine lv_topi (fun y9 ey9 => ?_)
  obtain rfl : y9 = 0 := ey9.trans (by decide)
  refine lv_bipush (v := 63) hx hb dL_law_42 (by decide) ?_
  refine lv_iand hx hb dL_law_44 ?_
  refine lv_topi (fun y9 ey9 => ?_)
  obtain rfl : y9 = 0 := by rw [ey9] <;> decide
  refine lv_tableIn (off := 255) (tgt := 300) hx hb dL_law_45 (by decide) (by decide) (by decide) (by decide) ?_
  refine lv_aload_n hx hb dL_law_300 rfl (lv_at hl 3 rfl) ?_
  refine lv_aload_n hx hb dL_law_301 rfl (lv_at hl 4 rfl) ?_
  refine lv_iload hx hb dL_law_302 (lv_at hl 0 rfl) ?_
  refine lv_iconst (v := 1) hx hb dL_law_304 (by decide) ?_
  refine lv_iadd hx hb dL_law_305 ?_
  refine lv_topi (fun y9 ey9 => ?_)
  obtain rfl : y9 = 91 := by rw [ey9] <;> decide
  refine va_sld hx hb hX hbl hbA hS (zx_bn (by decide)) dL_law_306 ?_
  refine lv_topi (fun y9 ey9 => ?_)
  obtain rfl : y9 = 0 := ey9.trans (by decide)
  refine lv_aload_n hx hb dL_law_307 rfl (lv_at hl 4 rfl) ?_
  refine lv_iload hx hb dL_law_308 (lv_at hl 0 rfl) ?_
  refine lv_iconst (v := 2) hx hb dL_law_310 (by decide) ?_
  refine lv_iadd hx hb dL_law_311 ?_
  refine lv_topi (fun y9 ey9 => ?_)
  obtain rfl : y9 = 92 := by rw [ey9] <;> decide
  refine va_sld hx hb hX hbl hbA hS (zx_bn (by decide)) dL_law_312 ?_
  refine lv_topi (fun y9 ey9 => ?_)
  obtain rfl : y9 = 0 := ey9.trans (by decide)
  refine lv_aload_n hx hb dL_law_313 rfl (lv_at hl 1 rfl) ?_
  have hPc := hP.sub (ws' := [(h, .inr (13, [.ref pe, .ref ne, .ref pa, .ref ro, .int 0])), (pe, .inr (9, [.int 15, .ref a1, .ref a2, .ref a3, .ref a4, .ref a5, .ref a6, .ref a7, .ref a8, .ref a9])), (a1, .inl (cy 0, 20, .inl f1)), (a2, .inl (cy 0, 20, .inl f2)), (oa, .inl (cy 3, 1, .inr (.inl og)))]) [0, 1, 2, 3, 10] rfl
  have hDc := hD.sub (ws' := [(h, .inr (13, [.ref pe, .ref ne, .ref pa, .ref ro, .int 0])), (pe, .inr (9, [.int 15, .ref a1, .ref a2, .ref a3, .ref a4, .ref a5, .ref a6, .ref a7, .ref a8, .ref a9])), (a1, .inl (cy 0, 20, .inl f1)), (a2, .inl (cy 0, 20, .inl f2)), (oa, .inl (cy 3, 1, .inr (.inl og)))]) [0, 1, 2, 3, 10] (by decide) rfl
  have hFc := va_free (wc := [(h, .inr (13, [.ref pe, .ref ne, .ref pa, .ref ro, .int 0])), (pe, .inr (9, [.int 15, .ref a1, .ref a2, .ref a3, .ref a4, .ref a5, .ref a6, .ref a7, .ref a8, .ref a9])), (a1, .inl (cy 0, 20, .inl f1)), (a2, .inl (cy 0, 20, .inl f2)), (oa, .inl (cy 3, 1, .inr (.inl og)))]) hD hS hA [0, 1, 2, 3, 10] rfl
  refine vx_calli (vx_runSX (As := [.ref h, .int 0, .int 0, .ref oa]) (rest := []) ⟨hx, hb, hml, hown, hts⟩ (c_L_addPerson_15 l hst D cy ed H.size h pe ne pa ro 0 a1 a2 a3 a4 a5 a6 a7 a8 a9 f1 f2 oa og) (vx_cwSW 4 hts (zx_GS mm_329 mm_330 mm_70 mm_331) rfl rfl rfl (by decide +kernel) ⟨(Nat.le_of_ble_eq_true rfl), (Nat.le_of_ble_eq_true rfl)⟩) ⟨zx_blind, zx_give hPc hK hDc hS hFc hZ hN⟩ rfl rfl hl.1 rfl (lv_room (Nat.le_of_ble_eq_true rfl)) dL_law_314 ⟨(Nat.le_of_ble_eq_true rfl), (Nat.le_of_ble_eq_true rfl)⟩) hS (fun q _ h => hFc q h) hFc (fun q _ h => hFc q h) (fun E9 ce9 q9 _ t H locs ht hvm _ hBX hz1 hk1 hS hce hcv hcl => ?_) (fun r9 u t H locs ht hvm hw hB hz1 hk1 hS => ?_)
  · exact hBX.elim
  ·
    obtain ⟨f3_1484, f4_1485, o2_1486⟩ := u
    obtain ⟨rfl, h_1487⟩ := hw
    obtain ⟨hP, hD⟩ := zx_join (wr := [(ro, .inl (cy 0, 20, .inl f0)), (pa, .inr (4, [.int mc, .ref ed, .int 0])), (m0, .inr (20, [.int 0, .ref mp, .int 0, .ref b1, .ref b2, .ref b3, .ref b4, .ref b5, .ref mq])), (mp, .inr (4, [.int mm, .ref ep, .int 15])), (ep, .inl (cy 2, 15, .inr (.inr (.inr (.inr gp))))), (mq, .inr (4, [.int mn, .ref ed, .int 0])), (p0, .inr (17, t0)), (p1, .inr (17, t1)), (p2, .inr (17, t2)), (p3, .inr (17, t3)), (p4, .inr (17, t4)), (p5, .inr (17, t5)), (p6, .inr (17, t6)), (p7, .inr (17, t7)), (p8, .inr (17, t8)), (p9, .inr (17, t9)), (p10, .inr (17, t10)), (p11, .inr (17, t11)), (p12, .inr (17, t12)), (p13, .inr (17, t13)), (p14, .inr (17, t14))]) (w1 := [(h, .inr (13, [.ref pe, .ref ne, .ref pa, .ref ro, .int 0])), (pe, .inr (9, [.int 16, .ref a1, .ref a2, .ref a3, .ref a4, .ref a5, .ref a6, .ref a7, .ref a8, .ref a9])), (a1, .inl (cy 0, 20, .inl f3_1484)), (a2, .inl (cy 0, 20, .inl f4_1485)), (oa, .inl (cy 3, 1, .inr (.inl o2_1486)))]) [0, 1, 2, 3, 10] [4, 5, 6, 7, 8, 9, 11, 12, 13, 14, 15, 16, 17, 18, 19, 20, 21, 22, 23, 24, 25] rfl rfl (by decide) (by decide) hP hD hk1 hFc hB ht
    have hP : va_P D vwCl [(ro, .inl (cy 0, 20, .inl f0)), (pa, .inr (4, [.int mc, .ref ed, .int 0])), (m0, .inr (20, [.int 0, .ref mp, .int 0, .ref b1, .ref b2, .ref b3, .ref b4, .ref b5, .ref mq])), (mp, .inr (4, [.int mm, .ref ep, .int 15])), (ep, .inl (cy 2, 15, .inr (.inr (.inr (.inr gp))))), (mq, .inr (4, [.int mn, .ref ed, .int 0])), (p0, .inr (17, t0)), (p1, .inr (17, t1)), (p2, .inr (17, t2)), (p3, .inr (17, t3)), (p4, .inr (17, t4)), (p5, .inr (17, t5)), (p6, .inr (17, t6)), (p7, .inr (17, t7)), (p8, .inr (17, t8)), (p9, .inr (17, t9)), (p10, .inr (17, t10)), (p11, .inr (17, t11)), (p12, .inr (17, t12)), (p13, .inr (17, t13)), (p14, .inr (17, t14)), (h, .inr (13, [.ref pe, .ref ne, .ref pa, .ref ro, .int 0])), (pe, .inr (9, [.int 16, .ref a1, .ref a2, .ref a3, .ref a4, .ref a5, .ref a6, .ref a7, .ref a8, .ref a9])), (a1, .inl (cy 0, 20, .inl f3_1484)), (a2, .inl (cy 0, 20, .inl f4_1485)), (oa, .inl (cy 3, 1, .inr (.inl o2_1486)))] H := hP
    have hD : va_D A [(ro, .inl (cy 0, 20, .inl f0)), (pa, .inr (4, [.int mc, .ref ed, .int 0])), (m0, .inr (20, [.int 0, .ref mp, .int 0, .ref b1, .ref b2, .ref b3, .ref b4, .ref b5, .ref mq])), (mp, .inr (4, [.int mm, .ref ep, .int 15])), (ep, .inl (cy 2, 15, .inr (.inr (.inr (.inr gp))))), (mq, .inr (4, [.int mn, .ref ed, .int 0])), (p0, .inr (17, t0)), (p1, .inr (17, t1)), (p2, .inr (17, t2)), (p3, .inr (17, t3)), (p4, .inr (17, t4)), (p5, .inr (17, t5)), (p6, .inr (17, t6)), (p7, .inr (17, t7)), (p8, .inr (17, t8)), (p9, .inr (17, t9)), (p10, .inr (17, t10)), (p11, .inr (17, t11)), (p12, .inr (17, t12)), (p13, .inr (17, t13)), (p14, .inr (17, t14)), (h, .inr (13, [.ref pe, .ref ne, .ref pa, .ref ro, .int 0])), (pe, .inr (9, [.int 16, .ref a1, .ref a2, .ref a3, .ref a4, .ref a5, .ref a6, .ref a7, .ref a8, .ref a9])), (a1, .inl (cy 0, 20, .inl f3_1484)), (a2, .inl (cy 0, 20, .inl f4_1485)), (oa, .inl (cy 3, 1, .inr (.inl o2_1486)))] := hD
    refine W.widen (k := 87) (n := 1775) (Nat.le_of_ble_eq_true rfl) (Nat.le_of_ble_eq_true rfl) ?_
    refine lv_istore (lv' := [(6, .int 0), (5, .int 90), (3, .ref oa), (2, .ref m0), (1, .ref h), (0, .ref b)]) hx hb dL_law_317 hl (by decide) rfl (fun ls hl => ?_)
    refine lv_aload_n hx hb dL_law_319 rfl (lv_at hl 3 rfl) ?_
    refine lv_aload_n hx hb dL_law_320 rfl (lv_at hl 5 rfl) ?_
    refine lv_iload hx hb dL_law_321 (lv_at hl 1 rfl) ?_
    refine lv_iconst (v := 1) hx hb dL_law_323 (by decide) ?_
    refine lv_iadd hx hb dL_law_324 ?_
    refine lv_topi (fun y9 ey9 => ?_)
    obtain rfl : y9 = 91 := by rw [ey9] <;> decide
    refine va_sld hx hb hX hbl hbA hS (zx_bn (by decide)) dL_law_325 ?_
    refine lv_topi (fun y9 ey9 => ?_)
    obtain rfl : y9 = 0 := ey9.trans (by decide)
    refine lv_aload_n hx hb dL_law_326 rfl (lv_at hl 5 rfl) ?_
    refine lv_iload hx hb dL_law_327 (lv_at hl 1 rfl) ?_
    refine lv_iconst (v := 2) hx hb dL_law_329 (by decide) ?_
    refine lv_iadd hx hb dL_law_330 ?_
    refine lv_topi (fun y9 ey9 => ?_)
    obtain rfl : y9 = 92 := by rw [ey9] <;> decide
    refine va_sld hx hb hX hbl hbA hS (zx_bn (by decide)) dL_law_331 ?_
    refine lv_topi (fun y9 ey9 => ?_)
    obtain rfl : y9 = 0 := ey9.trans (by decide)
    have hPc := hP.sub (ws' := [(m0, .inr (20, [.int 0, .ref mp, .int 0, .ref b1, .ref b2, .ref b3, .ref b4, .ref b5, .ref mq])), (mp, .inr (4, [.int mm, .ref ep, .int 15])), (ep, .inl (cy 2, 15, .inr (.inr (.inr (.inr gp))))), (p0, .inr (17, t0)), (p1, .inr (17, t1)), (p2, .inr (17, t2)), (p3, .inr (17, t3)), (p4, .inr (17, t4)), (p5, .inr (17, t5)), (p6, .inr (17, t6)), (p7, .inr (17, t7)), (p8, .inr (17, t8)), (p9, .inr (17, t9)), (p10, .inr (17, t10)), (p11, .inr (17, t11)), (p12, .inr (17, t12)), (p13, .inr (17, t13)), (p14, .inr (17, t14))]) [2, 3, 4, 6, 7, 8, 9, 10, 11, 12, 13, 14, 15, 16, 17, 18, 19, 20] rfl
    have hDc := hD.sub (ws' := [(m0, .inr (20, [.int 0, .ref mp, .int 0, .ref b1, .ref b2, .ref b3, .ref b4, .ref b5, .ref mq])), (mp, .inr (4, [.int mm, .ref ep, .int 15])), (ep, .inl (cy 2, 15, .inr (.inr (.inr (.inr gp))))), (p0, .inr (17, t0)), (p1, .inr (17, t1)), (p2, .inr (17, t2)), (p3, .inr (17, t3)), (p4, .inr (17, t4)), (p5, .inr (17, t5)), (p6, .inr (17, t6)), (p7, .inr (17, t7)), (p8, .inr (17, t8)), (p9, .inr (17, t9)), (p10, .inr (17, t10)), (p11, .inr (17, t11)), (p12, .inr (17, t12)), (p13, .inr (17, t13)), (p14, .inr (17, t14))]) [2, 3, 4, 6, 7, 8, 9, 10, 11, 12, 13, 14, 15, 16, 17, 18, 19, 20] (by decide) rfl
    have hFc := va_free (wc := [(m0, .inr (20, [.int 0, .ref mp, .int 0, .ref b1, .ref b2, .ref b3, .ref b4, .ref b5, .ref mq])), (mp, .inr (4, [.int mm, .ref ep, .int 15])), (ep, .inl (cy 2, 15, .inr (.inr (.inr (.inr gp))))), (p0, .inr (17, t0)), (p1, .inr (17, t1)), (p2, .inr (17, t2)), (p3, .inr (17, t3)), (p4, .inr (17, t4)), (p5, .inr (17, t5)), (p6, .inr (17, t6)), (p7, .inr (17, t7)), (p8, .inr (17, t8)), (p9, .inr (17, t9)), (p10, .inr (17, t10)), (p11, .inr (17, t11)), (p12, .inr (17, t12)), (p13, .inr (17, t13)), (p14, .inr (17, t14))]) hD hS hA [2, 3, 4, 6, 7, 8, 9, 10, 11, 12, 13, 14, 15, 16, 17, 18, 19, 20] rfl
    refine va_calli (va_runV (As := [.int 0, .int 0]) (rest := []) ⟨hx, hb, hml, hown, hts⟩ (c_X15_addPerson_15 l hst D cy ed H.size m0 mp mq b1 b2 b3 b4 b5 0 0 mm ep gp p0 p1 p2 p3 p4 p5 p6 p7 p8 p9 p10 p11 p12 p13 p14 t0 t1 t2 t3 t4 t5 t6 t7 t8 t9 t10 t11 t12 t13 t14 hp0 hp1 hp2 hp3 hp4 hp5 hp6 hp7 hp8 hp9 hp10 hp11 hp12 hp13 hp14) (cwV 2 hts (zx_GV mm_1599 mm_1600 mm_1601 mm_78 mm_1602) rfl rfl rfl (by decide +kernel) ⟨(Nat.le_of_ble_eq_true rfl), (Nat.le_of_ble_eq_true rfl)⟩) ⟨zx_blind, va_recv hK hPc (ci := 20) (q0 := 0) rfl rfl, zx_give hPc hK hDc hS hFc hZ hN⟩ rfl rfl hl.1 rfl (lv_room (Nat.le_of_ble_eq_true rfl)) dL_law_332 ⟨(Nat.le_of_ble_eq_true rfl), (Nat.le_of_ble_eq_true rfl)⟩) hS (fun q _ h => hFc q h) hFc (fun r9 u t H1 locs ht hvm hw hB hz1 hk1 hS => ?_)
    obtain ⟨mx_1488, qx_1489, g2_1490, y_1491, fy_1492⟩ := u
    obtain ⟨rfl, h_1493⟩ := hw
    obtain ⟨hP, hD⟩ := zx_join (wr := [(ro, .inl (cy 0, 20, .inl f0)), (pa, .inr (4, [.int mc, .ref ed, .int 0])), (mq, .inr (4, [.int mn, .ref ed, .int 0])), (h, .inr (13, [.ref pe, .ref ne, .ref pa, .ref ro, .int 0])), (pe, .inr (9, [.int 16, .ref a1, .ref a2, .ref a3, .ref a4, .ref a5, .ref a6, .ref a7, .ref a8, .ref a9])), (a1, .inl (cy 0, 20, .inl f3_1484)), (a2, .inl (cy 0, 20, .inl f4_1485)), (oa, .inl (cy 3, 1, .inr (.inl o2_1486)))]) (w1 := [(m0, .inr (20, [.int 0, .ref mp, .int 0, .ref b1, .ref b2, .ref b3, .ref b4, .ref b5, .ref mq])), (mp, .inr (4, [.int mx_1488, .ref qx_1489, .int 16])), (qx_1489, .inl (cy 2, 22, .inr (.inr (.inr (.inr g2_1490))))), (y_1491, .inr (17, fy_1492)), (p0, .inr (17, t0)), (p1, .inr (17, t1)), (p2, .inr (17, t2)), (p3, .inr (17, t3)), (p4, .inr (17, t4)), (p5, .inr (17, t5)), (p6, .inr (17, t6)), (p7, .inr (17, t7)), (p8, .inr (17, t8)), (p9, .inr (17, t9)), (p10, .inr (17, t10)), (p11, .inr (17, t11)), (p12, .inr (17, t12)), (p13, .inr (17, t13)), (p14, .inr (17, t14))]) [2, 3, 4, 6, 7, 8, 9, 10, 11, 12, 13, 14, 15, 16, 17, 18, 19, 20] [0, 1, 5, 21, 22, 23, 24, 25] rfl rfl (by decide) (by decide) hP hD hk1 hFc hB ht
    generalize H1 = H at hP hS ⊢
    have hP : va_P D vwCl [(ro, .inl (cy 0, 20, .inl f0)), (pa, .inr (4, [.int mc, .ref ed, .int 0])), (mq, .inr (4, [.int mn, .ref ed, .int 0])), (h, .inr (13, [.ref pe, .ref ne, .ref pa, .ref ro, .int 0])), (pe, .inr (9, [.int 16, .ref a1, .ref a2, .ref a3, .ref a4, .ref a5, .ref a6, .ref a7, .ref a8, .ref a9])), (a1, .inl (cy 0, 20, .inl f3_1484)), (a2, .inl (cy 0, 20, .inl f4_1485)), (oa, .inl (cy 3, 1, .inr (.inl o2_1486))), (m0, .inr (20, [.int 0, .ref mp, .int 0, .ref b1, .ref b2, .ref b3, .ref b4, .ref b5, .ref mq])), (mp, .inr (4, [.int mx_1488, .ref qx_1489, .int 16])), (qx_1489, .inl (cy 2, 22, .inr (.inr (.inr (.inr g2_1490))))), (y_1491, .inr (17, fy_1492)), (p0, .inr (17, t0)), (p1, .inr (17, t1)), (p2, .inr (17, t2)), (p3, .inr (17, t3)), (p4, .inr (17, t4)), (p5, .inr (17, t5)), (p6, .inr (17, t6)), (p7, .inr (17, t7)), (p8, .inr (17, t8)), (p9, .inr (17, t9)), (p10, .inr (17, t10)), (p11, .inr (17, t11)), (p12, .inr (17, t12)), (p13, .inr (17, t13)), (p14, .inr (17, t14))] H := hP
    have hD : va_D A [(ro, .inl (cy 0, 20, .inl f0)), (pa, .inr (4, [.int mc, .ref ed, .int 0])), (mq, .inr (4, [.int mn, .ref ed, .int 0])), (h, .inr (13, [.ref pe, .ref ne, .ref pa, .ref ro, .int 0])), (pe, .inr (9, [.int 16, .ref a1, .ref a2, .ref a3, .ref a4, .ref a5, .ref a6, .ref a7, .ref a8, .ref a9])), (a1, .inl (cy 0, 20, .inl f3_1484)), (a2, .inl (cy 0, 20, .inl f4_1485)), (oa, .inl (cy 3, 1, .inr (.inl o2_1486))), (m0, .inr (20, [.int 0, .ref mp, .int 0, .ref b1, .ref b2, .ref b3, .ref b4, .ref b5, .ref mq])), (mp, .inr (4, [.int mx_1488, .ref qx_1489, .int 16])), (qx_1489, .inl (cy 2, 22, .inr (.inr (.inr (.inr g2_1490))))), (y_1491, .inr (17, fy_1492)), (p0, .inr (17, t0)), (p1, .inr (17, t1)), (p2, .inr (17, t2)), (p3, .inr (17, t3)), (p4, .inr (17, t4)), (p5, .inr (17, t5)), (p6, .inr (17, t6)), (p7, .inr (17, t7)), (p8, .inr (17, t8)), (p9, .inr (17, t9)), (p10, .inr (17, t10)), (p11, .inr (17, t11)), (p12, .inr (17, t12)), (p13, .inr (17, t13)), (p14, .inr (17, t14))] := hD
    refine W.widen (k := 91) (n := 1827) (Nat.le_of_ble_eq_true rfl) (Nat.le_of_ble_eq_true rfl) ?_
    obtain ⟨hs_1494, hs_1495⟩ := h_1493
    refine lv_istore (lv' := [(7, .int 15), (6, .int 0), (5, .int 90), (3, .ref oa), (2, .ref m0), (1, .ref h), (0, .ref b)]) hx hb dL_law_335 hl (by decide) rfl (fun ls hl => ?_)
    refine lv_goto (tgt := 2542) hx hb dL_law_337 (by decide) ?_
    refine lv_iinc (v := 96) (lv' := [(5, .int 96), (7, .int 15), (6, .int 0), (3, .ref oa), (2, .ref m0), (1, .ref h), (0, .ref b)]) hx hb dL_law_2542 hl (k := 2) rfl (by decide) (by decide) rfl (fun ls hl => ?_)
    refine lv_goto (tgt := 28) hx hb dL_law_2545 (by decide) ?_
    have hP := hP.sub (ws' := [(h, .inr (13, [.ref pe, .ref ne, .ref pa, .ref ro, .int 0])), (pe, .inr (9, [.int 16, .ref a1, .ref a2, .ref a3, .ref a4, .ref a5, .ref a6, .ref a7, .ref a8, .ref a9])), (a1, .inl (cy 0, 20, .inl f3_1484)), (a2, .inl (cy 0, 20, .inl f4_1485)), (ro, .inl (cy 0, 20, .inl f0)), (pa, .inr (4, [.int mc, .ref ed, .int 0])), (m0, .inr (20, [.int 0, .ref mp, .int 0, .ref b1, .ref b2, .ref b3, .ref b4, .ref b5, .ref mq])), (mp, .inr (4, [.int mx_1488, .ref qx_1489, .int 16])), (qx_1489, .inl (cy 2, 22, .inr (.inr (.inr (.inr g2_1490))))), (mq, .inr (4, [.int mn, .ref ed, .int 0])), (oa, .inl (cy 3, 1, .inr (.inl o2_1486)))]) [3, 4, 5, 6, 0, 1, 8, 9, 10, 2, 7] rfl
    have hD := hD.sub (ws' := [(h, .inr (13, [.ref pe, .ref ne, .ref pa, .ref ro, .int 0])), (pe, .inr (9, [.int 16, .ref a1, .ref a2, .ref a3, .ref a4, .ref a5, .ref a6, .ref a7, .ref a8, .ref a9])), (a1, .inl (cy 0, 20, .inl f3_1484)), (a2, .inl (cy 0, 20, .inl f4_1485)), (ro, .inl (cy 0, 20, .inl f0)), (pa, .inr (4, [.int mc, .ref ed, .int 0])), (m0, .inr (20, [.int 0, .ref mp, .int 0, .ref b1, .ref b2, .ref b3, .ref b4, .ref b5, .ref mq])), (mp, .inr (4, [.int mx_1488, .ref qx_1489, .int 16])), (qx_1489, .inl (cy 2, 22, .inr (.inr (.inr (.inr g2_1490))))), (mq, .inr (4, [.int mn, .ref ed, .int 0])), (oa, .inl (cy 3, 1, .inr (.inl o2_1486)))]) [3, 4, 5, 6, 0, 1, 8, 9, 10, 2, 7] (by decide) rfl
    exact hnext _ _ _ ⟨pe, ne, pa, ro, a1, a2, a3, a4, a5, a6, a7, a8, a9, mp, mq, b1, b2, b3, b4, b5, qx_1489, mc, mx_1488, mn, f3_1484, f4_1485, f0, o2_1486, g2_1490, hP, hD⟩ hS (lv_sub hl [0, 3, 4, 5, 6] rfl)
set_option maxHeartbeats 4000000 in
set_option maxRecDepth 100000 in
theorem law_step_16 {p : Program} {l : Launch} {e : Env} {s : State} {m : MethodId} {below : List Frame} {meth : Method} {c : Code} {D : va_G} {cy : Nat → ClassId} {ed b : Nat} {A : Nat → Prop} {Q : State → Prop} (C0 : zx_LW p l s m c D cy ed b A) {h m0 oa : Nat} {H : Heap} {locs : List Loc} {ls : Array Slot} (h0 : zx_S16 D cy ed A h m0 oa H) (hS : va_S A s.heap H locs) (hl : lv_has ls 9 [(5, .int 96), (3, .ref oa), (2, .ref m0), (1, .ref h), (0, .ref b)])
    (hnext : ∀ (H : Heap) (locs : List Loc) (ls : Array Slot), zx_S17 D cy ed A h m0 oa H → va_S A s.heap H locs → lv_has ls 9 [(5, .int 102), (3, .ref oa), (2, .ref m0), (1, .ref h), (0, .ref b)] → W p l e zx_R s m #[Value.ref b] below meth c H locs 94 1857 Q (F0 m 28 ls [])) :
    W p l e zx_R s m #[Value.ref b] below meth c H locs 91 1827 Q (F0 m 28 ls []) := by
  obtain ⟨hx, hb, hml, hst, hown, hts, hX, hbl, hbA, hA, hK, hZ, hN⟩ := C0
  obtain ⟨pe, ne, pa, ro, a1, a2, a3, a4, a5, a6, a7, a8, a9, mp, mq, b1, b2, b3, b4, b5, ep, mc, mm, mn, f1, f2, f0, og, gp, hP, hD⟩ := h0
  refine lv_iload hx hb dL_law_28 (lv_at hl 0 rfl) ?_
  refine lv_aload_n hx hb dL_law_30 rfl (lv_at hl 4 rfl) ?_
  refine va_slen hx hb hX hbl hbA hS dL_law_31 ?_
  refine lv_topi (fun y9 ey9 => ?_)
  obtain rfl : y9 = 3072 := ey9.trans (by decide)
  refine lv_bipush (v := 6) hx hb dL_law_32 (by decide) ?_
  refine lv_isub hx hb dL_law_34 ?_
  refine lv_topi (fun y9 ey9 => ?_)
  obtain rfl : y9 = 3066 := by rw [ey9] <;> decide
  refine lv_icmp_gt (tgt := 2548) hx hb dL_law_35 (by decide) (fun c_1496 => absurd c_1496 (by decide)) (fun _ => ?_)
  refine lv_aload_n hx hb dL_law_38 rfl (lv_at hl 4 rfl) ?_
  refine lv_iload hx hb dL_law_39 (lv_at hl 0 rfl) ?_
  refine va_sld hx hb hX hbl hbA hS (zx_bn (by decide)) dL_law_41 ?_
  refine lv_topi (fun y9 ey9 => ?_)
  obtain rfl : y9 = 0 := ey9.trans (by decide)
  refine lv_bipush (v := 63) hx hb dL_law_42 (by decide) ?_
  refine lv_iand hx hb dL_law_44 ?_
  refine lv_topi (fun y9 ey9 => ?_)
  obtain rfl : y9 = 0 := by rw [ey9] <;> decide
  refine lv_tableIn (off := 255) (tgt := 300) hx hb dL_law_45 (by decide) (by decide) (by decide) (by decide) ?_
  refine lv_aload_n hx hb dL_law_300 rfl (lv_at hl 3 rfl) ?_
  refine lv_aload_n hx hb dL_law_301 rfl (lv_at hl 4 rfl) ?_
  refine lv_iload hx hb dL_law_302 (lv_at hl 0 rfl) ?_
  refine lv_iconst (v := 1) hx hb dL_law_304 (by decide) ?_
  refine lv_iadd hx hb dL_law_305 ?_
  refine lv_topi (fun y9 ey9 => ?_)
  obtain rfl : y9 = 97 := by rw [ey9] <;> decide
  refine va_sld hx hb hX hbl hbA hS (zx_bn (by decide)) dL_law_306 ?_
  refine lv_topi (fun y9 ey9 => ?_)
  obtain rfl : y9 = 0 := ey9.trans (by decide)
  refine lv_aload_n hx hb dL_law_307 rfl (lv_at hl 4 rfl) ?_
  refine lv_iload hx hb dL_law_308 (lv_at hl 0 rfl) ?_
  refine lv_iconst (v := 2) hx hb dL_law_310 (by decide) ?_
  refine lv_iadd hx hb dL_law_311 ?_
  refine lv_topi (fun y9 ey9 => ?_)
  obtain rfl : y9 = 98 := by rw [ey9] <;> decide
  refine va_sld hx hb hX hbl hbA hS (zx_bn (by decide)) dL_law_312 ?_
  refine lv_topi (fun y9 ey9 => ?_)
  obtain rfl : y9 = 0 := ey9.trans (by decide)
  refine lv_aload_n hx hb dL_law_313 rfl (lv_at hl 1 rfl) ?_
  have hPc := hP.sub (ws' := [(h, .inr (13, [.ref pe, .ref ne, .ref pa, .ref ro, .int 0])), (pe, .inr (9, [.int 16, .ref a1, .ref a2, .ref a3, .ref a4, .ref a5, .ref a6, .ref a7, .ref a8, .ref a9])), (a1, .inl (cy 0, 20, .inl f1)), (a2, .inl (cy 0, 20, .inl f2)), (oa, .inl (cy 3, 1, .inr (.inl og)))]) [0, 1, 2, 3, 10] rfl
  have hDc := hD.sub (ws' := [(h, .inr (13, [.ref pe, .ref ne, .ref pa, .ref ro, .int 0])), (pe, .inr (9, [.int 16, .ref a1, .ref a2, .ref a3, .ref a4, .ref a5, .ref a6, .ref a7, .ref a8, .ref a9])), (a1, .inl (cy 0, 20, .inl f1)), (a2, .inl (cy 0, 20, .inl f2)), (oa, .inl (cy 3, 1, .inr (.inl og)))]) [0, 1, 2, 3, 10] (by decide) rfl
  have hFc := va_free (wc := [(h, .inr (13, [.ref pe, .ref ne, .ref pa, .ref ro, .int 0])), (pe, .inr (9, [.int 16, .ref a1, .ref a2, .ref a3, .ref a4, .ref a5, .ref a6, .ref a7, .ref a8, .ref a9])), (a1, .inl (cy 0, 20, .inl f1)), (a2, .inl (cy 0, 20, .inl f2)), (oa, .inl (cy 3, 1, .inr (.inl og)))]) hD hS hA [0, 1, 2, 3, 10] rfl
  refine vx_calli (vx_runSX (As := [.ref h, .int 0, .int 0, .ref oa]) (rest := []) ⟨hx, hb, hml, hown, hts⟩ (c_L_addPerson_16 l hst D cy ed H.size h pe ne pa ro 0 a1 a2 a3 a4 a5 a6 a7 a8 a9 f1 f2 oa og) (vx_cwSW 4 hts (zx_GS mm_329 mm_330 mm_70 mm_331) rfl rfl rfl (by decide +kernel) ⟨(Nat.le_of_ble_eq_true rfl), (Nat.le_of_ble_eq_true rfl)⟩) ⟨zx_blind, zx_give hPc hK hDc hS hFc hZ hN⟩ rfl rfl hl.1 rfl (lv_room (Nat.le_of_ble_eq_true rfl)) dL_law_314 ⟨(Nat.le_of_ble_eq_true rfl), (Nat.le_of_ble_eq_true rfl)⟩) hS (fun q _ h => hFc q h) hFc (fun q _ h => hFc q h) (fun E9 ce9 q9 _ t H locs ht hvm _ hBX hz1 hk1 hS hce hcv hcl => ?_) (fun r9 u t H locs ht hvm hw hB hz1 hk1 hS => ?_)
  · exact hBX.elim
  ·
    obtain ⟨f3_1497, f4_1498, o2_1499⟩ := u
    obtain ⟨rfl, h_1500⟩ := hw
    obtain ⟨hP, hD⟩ := zx_join (wr := [(ro, .inl (cy 0, 20, .inl f0)), (pa, .inr (4, [.int mc, .ref ed, .int 0])), (m0, .inr (20, [.int 0, .ref mp, .int 0, .ref b1, .ref b2, .ref b3, .ref b4, .ref b5, .ref mq])), (mp, .inr (4, [.int mm, .ref ep, .int 16])), (ep, .inl (cy 2, 22, .inr (.inr (.inr (.inr gp))))), (mq, .inr (4, [.int mn, .ref ed, .int 0]))]) (w1 := [(h, .inr (13, [.ref pe, .ref ne, .ref pa, .ref ro, .int 0])), (pe, .inr (9, [.int 17, .ref a1, .ref a2, .ref a3, .ref a4, .ref a5, .ref a6, .ref a7, .ref a8, .ref a9])), (a1, .inl (cy 0, 20, .inl f3_1497)), (a2, .inl (cy 0, 20, .inl f4_1498)), (oa, .inl (cy 3, 1, .inr (.inl o2_1499)))]) [0, 1, 2, 3, 10] [4, 5, 6, 7, 8, 9] rfl rfl (by decide) (by decide) hP hD hk1 hFc hB ht
    have hP : va_P D vwCl [(ro, .inl (cy 0, 20, .inl f0)), (pa, .inr (4, [.int mc, .ref ed, .int 0])), (m0, .inr (20, [.int 0, .ref mp, .int 0, .ref b1, .ref b2, .ref b3, .ref b4, .ref b5, .ref mq])), (mp, .inr (4, [.int mm, .ref ep, .int 16])), (ep, .inl (cy 2, 22, .inr (.inr (.inr (.inr gp))))), (mq, .inr (4, [.int mn, .ref ed, .int 0])), (h, .inr (13, [.ref pe, .ref ne, .ref pa, .ref ro, .int 0])), (pe, .inr (9, [.int 17, .ref a1, .ref a2, .ref a3, .ref a4, .ref a5, .ref a6, .ref a7, .ref a8, .ref a9])), (a1, .inl (cy 0, 20, .inl f3_1497)), (a2, .inl (cy 0, 20, .inl f4_1498)), (oa, .inl (cy 3, 1, .inr (.inl o2_1499)))] H := hP
    have hD : va_D A [(ro, .inl (cy 0, 20, .inl f0)), (pa, .inr (4, [.int mc, .ref ed, .int 0])), (m0, .inr (20, [.int 0, .ref mp, .int 0, .ref b1, .ref b2, .ref b3, .ref b4, .ref b5, .ref mq])), (mp, .inr (4, [.int mm, .ref ep, .int 16])), (ep, .inl (cy 2, 22, .inr (.inr (.inr (.inr gp))))), (mq, .inr (4, [.int mn, .ref ed, .int 0])), (h, .inr (13, [.ref pe, .ref ne, .ref pa, .ref ro, .int 0])), (pe, .inr (9, [.int 17, .ref a1, .ref a2, .ref a3, .ref a4, .ref a5, .ref a6, .ref a7, .ref a8, .ref a9])), (a1, .inl (cy 0, 20, .inl f3_1497)), (a2, .inl (cy 0, 20, .inl f4_1498)), (oa, .inl (cy 3, 1, .inr (.inl o2_1499)))] := hD
    refine W.widen (k := 91) (n := 1827) (Nat.le_of_ble_eq_true rfl) (Nat.le_of_ble_eq_true rfl) ?_
    refine lv_istore (lv' := [(6, .int 0), (5, .int 96), (3, .ref oa), (2, .ref m0), (1, .ref h), (0, .ref b)]) hx hb dL_law_317 hl (by decide) rfl (fun ls hl => ?_)
    refine lv_aload_n hx hb dL_law_319 rfl (lv_at hl 3 rfl) ?_
    refine lv_aload_n hx hb dL_law_320 rfl (lv_at hl 5 rfl) ?_
    refine lv_iload hx hb dL_law_321 (lv_at hl 1 rfl) ?_
    refine lv_iconst (v := 1) hx hb dL_law_323 (by decide) ?_
    refine lv_iadd hx hb dL_law_324 ?_
    refine lv_topi (fun y9 ey9 => ?_)
    obtain rfl : y9 = 97 := by rw [ey9] <;> decide
    refine va_sld hx hb hX hbl hbA hS (zx_bn (by decide)) dL_law_325 ?_
    refine lv_topi (fun y9 ey9 => ?_)
    obtain rfl : y9 = 0 := ey9.trans (by decide)
    refine lv_aload_n hx hb dL_law_326 rfl (lv_at hl 5 rfl) ?_
    refine lv_iload hx hb dL_law_327 (lv_at hl 1 rfl) ?_
    refine lv_iconst (v := 2) hx hb dL_law_329 (by decide) ?_
    refine lv_iadd hx hb dL_law_330 ?_
    refine lv_topi (fun y9 ey9 => ?_)
    obtain rfl : y9 = 98 := by rw [ey9] <;> decide
    refine va_sld hx hb hX hbl hbA hS (zx_bn (by decide)) dL_law_331 ?_
    refine lv_topi (fun y9 ey9 => ?_)
    obtain rfl : y9 = 0 := ey9.trans (by decide)
    have hPc := hP.sub (ws' := [(m0, .inr (20, [.int 0, .ref mp, .int 0, .ref b1, .ref b2, .ref b3, .ref b4, .ref b5, .ref mq])), (mp, .inr (4, [.int mm, .ref ep, .int 16])), (ep, .inl (cy 2, 22, .inr (.inr (.inr (.inr gp)))))]) [2, 3, 4] rfl
    have hDc := hD.sub (ws' := [(m0, .inr (20, [.int 0, .ref mp, .int 0, .ref b1, .ref b2, .ref b3, .ref b4, .ref b5, .ref mq])), (mp, .inr (4, [.int mm, .ref ep, .int 16])), (ep, .inl (cy 2, 22, .inr (.inr (.inr (.inr gp)))))]) [2, 3, 4] (by decide) rfl
    have hFc := va_free (wc := [(m0, .inr (20, [.int 0, .ref mp, .int 0, .ref b1, .ref b2, .ref b3, .ref b4, .ref b5, .ref mq])), (mp, .inr (4, [.int mm, .ref ep, .int 16])), (ep, .inl (cy 2, 22, .inr (.inr (.inr (.inr gp)))))]) hD hS hA [2, 3, 4] rfl
    refine va_calli (va_runV (As := [.int 0, .int 0]) (rest := []) ⟨hx, hb, hml, hown, hts⟩ (c_X15_addPerson_16 l hst D cy ed H.size m0 mp mq b1 b2 b3 b4 b5 0 0 mm ep gp) (cwV 2 hts (zx_GV mm_1599 mm_1600 mm_1601 mm_78 mm_1602) rfl rfl rfl (by decide +kernel) ⟨(Nat.le_of_ble_eq_true rfl), (Nat.le_of_ble_eq_true rfl)⟩) ⟨zx_blind, va_recv hK hPc (ci := 20) (q0 := 0) rfl rfl, zx_give hPc hK hDc hS hFc hZ hN⟩ rfl rfl hl.1 rfl (lv_room (Nat.le_of_ble_eq_true rfl)) dL_law_332 ⟨(Nat.le_of_ble_eq_true rfl), (Nat.le_of_ble_eq_true rfl)⟩) hS (fun q _ h => hFc q h) hFc (fun r9 u t H1 locs ht hvm hw hB hz1 hk1 hS => ?_)
    obtain ⟨mx_1501, qx_1502, g2_1503, y_1504, fy_1505⟩ := u
    obtain ⟨rfl, h_1506⟩ := hw
    obtain ⟨hP, hD⟩ := zx_join (wr := [(ro, .inl (cy 0, 20, .inl f0)), (pa, .inr (4, [.int mc, .ref ed, .int 0])), (mq, .inr (4, [.int mn, .ref ed, .int 0])), (h, .inr (13, [.ref pe, .ref ne, .ref pa, .ref ro, .int 0])), (pe, .inr (9, [.int 17, .ref a1, .ref a2, .ref a3, .ref a4, .ref a5, .ref a6, .ref a7, .ref a8, .ref a9])), (a1, .inl (cy 0, 20, .inl f3_1497)), (a2, .inl (cy 0, 20, .inl f4_1498)), (oa, .inl (cy 3, 1, .inr (.inl o2_1499)))]) (w1 := [(m0, .inr (20, [.int 0, .ref mp, .int 0, .ref b1, .ref b2, .ref b3, .ref b4, .ref b5, .ref mq])), (mp, .inr (4, [.int mx_1501, .ref qx_1502, .int 17])), (qx_1502, .inl (cy 2, 22, .inr (.inr (.inr (.inr g2_1503))))), (y_1504, .inr (17, fy_1505))]) [2, 3, 4] [0, 1, 5, 6, 7, 8, 9, 10] rfl rfl (by decide) (by decide) hP hD hk1 hFc hB ht
    generalize H1 = H at hP hS ⊢
    have hP : va_P D vwCl [(ro, .inl (cy 0, 20, .inl f0)), (pa, .inr (4, [.int mc, .ref ed, .int 0])), (mq, .inr (4, [.int mn, .ref ed, .int 0])), (h, .inr (13, [.ref pe, .ref ne, .ref pa, .ref ro, .int 0])), (pe, .inr (9, [.int 17, .ref a1, .ref a2, .ref a3, .ref a4, .ref a5, .ref a6, .ref a7, .ref a8, .ref a9])), (a1, .inl (cy 0, 20, .inl f3_1497)), (a2, .inl (cy 0, 20, .inl f4_1498)), (oa, .inl (cy 3, 1, .inr (.inl o2_1499))), (m0, .inr (20, [.int 0, .ref mp, .int 0, .ref b1, .ref b2, .ref b3, .ref b4, .ref b5, .ref mq])), (mp, .inr (4, [.int mx_1501, .ref qx_1502, .int 17])), (qx_1502, .inl (cy 2, 22, .inr (.inr (.inr (.inr g2_1503))))), (y_1504, .inr (17, fy_1505))] H := hP
    have hD : va_D A [(ro, .inl (cy 0, 20, .inl f0)), (pa, .inr (4, [.int mc, .ref ed, .int 0])), (mq, .inr (4, [.int mn, .ref ed, .int 0])), (h, .inr (13, [.ref pe, .ref ne, .ref pa, .ref ro, .int 0])), (pe, .inr (9, [.int 17, .ref a1, .ref a2, .ref a3, .ref a4, .ref a5, .ref a6, .ref a7, .ref a8, .ref a9])), (a1, .inl (cy 0, 20, .inl f3_1497)), (a2, .inl (cy 0, 20, .inl f4_1498)), (oa, .inl (cy 3, 1, .inr (.inl o2_1499))), (m0, .inr (20, [.int 0, .ref mp, .int 0, .ref b1, .ref b2, .ref b3, .ref b4, .ref b5, .ref mq])), (mp, .inr (4, [.int mx_1501, .ref qx_1502, .int 17])), (qx_1502, .inl (cy 2, 22, .inr (.inr (.inr (.inr g2_1503))))), (y_1504, .inr (17, fy_1505))] := hD
    refine W.widen (k := 94) (n := 1857) (Nat.le_of_ble_eq_true rfl) (Nat.le_of_ble_eq_true rfl) ?_
    obtain ⟨hs_1507, hs_1508⟩ := h_1506
    refine lv_istore (lv' := [(7, .int 16), (6, .int 0), (5, .int 96), (3, .ref oa), (2, .ref m0), (1, .ref h), (0, .ref b)]) hx hb dL_law_335 hl (by decide) rfl (fun ls hl => ?_)
    refine lv_goto (tgt := 2542) hx hb dL_law_337 (by decide) ?_
    refine lv_iinc (v := 102) (lv' := [(5, .int 102), (7, .int 16), (6, .int 0), (3, .ref oa), (2, .ref m0), (1, .ref h), (0, .ref b)]) hx hb dL_law_2542 hl (k := 2) rfl (by decide) (by decide) rfl (fun ls hl => ?_)
    refine lv_goto (tgt := 28) hx hb dL_law_2545 (by decide) ?_
    have hP := hP.sub (ws' := [(h, .inr (13, [.ref pe, .ref ne, .ref pa, .ref ro, .int 0])), (pe, .inr (9, [.int 17, .ref a1, .ref a2, .ref a3, .ref a4, .ref a5, .ref a6, .ref a7, .ref a8, .ref a9])), (a1, .inl (cy 0, 20, .inl f3_1497)), (a2, .inl (cy 0, 20, .inl f4_1498)), (ro, .inl (cy 0, 20, .inl f0)), (pa, .inr (4, [.int mc, .ref ed, .int 0])), (m0, .inr (20, [.int 0, .ref mp, .int 0, .ref b1, .ref b2, .ref b3, .ref b4, .ref b5, .ref mq])), (mp, .inr (4, [.int mx_1501, .ref qx_1502, .int 17])), (qx_1502, .inl (cy 2, 22, .inr (.inr (.inr (.inr g2_1503))))), (mq, .inr (4, [.int mn, .ref ed, .int 0])), (oa, .inl (cy 3, 1, .inr (.inl o2_1499)))]) [3, 4, 5, 6, 0, 1, 8, 9, 10, 2, 7] rfl
    have hD := hD.sub (ws' := [(h, .inr (13, [.ref pe, .ref ne, .ref pa, .ref ro, .int 0])), (pe, .inr (9, [.int 17, .ref a1, .ref a2, .ref a3, .ref a4, .ref a5, .ref a6, .ref a7, .ref a8, .ref a9])), (a1, .inl (cy 0, 20, .inl f3_1497)), (a2, .inl (cy 0, 20, .inl f4_1498)), (ro, .inl (cy 0, 20, .inl f0)), (pa, .inr (4, [.int mc, .ref ed, .int 0])), (m0, .inr (20, [.int 0, .ref mp, .int 0, .ref b1, .ref b2, .ref b3, .ref b4, .ref b5, .ref mq])), (mp, .inr (4, [.int mx_1501, .ref qx_1502, .int 17])), (qx_1502, .inl (cy 2, 22, .inr (.inr (.inr (.inr g2_1503))))), (mq, .inr (4, [.int mn, .ref ed, .int 0])), (oa, .inl (cy 3, 1, .inr (.inl o2_1499)))]) [3, 4, 5, 6, 0, 1, 8, 9, 10, 2, 7] (by decide) rfl
    exact hnext _ _ _ ⟨pe, ne, pa, ro, a1, a2, a3, a4, a5, a6, a7, a8, a9, mp, mq, b1, b2, b3, b4, b5, qx_1502, mc, mx_1501, mn, f3_1497, f4_1498, f0, o2_1499, g2_1503, hP, hD⟩ hS (lv_sub hl [0, 3, 4, 5, 6] rfl)
set_option maxHeartbeats 4000000 in
set_option maxRecDepth 100000 in
theorem law_step_17 {p : Program} {l : Launch} {e : Env} {s : State} {m : MethodId} {below : List Frame} {meth : Method} {c : Code} {D : va_G} {cy : Nat → ClassId} {ed b : Nat} {A : Nat → Prop} {Q : State → Prop} (C0 : zx_LW p l s m c D cy ed b A) {h m0 oa : Nat} {H : Heap} {locs : List Loc} {ls : Array Slot} (h0 : zx_S17 D cy ed A h m0 oa H) (hS : va_S A s.heap H locs) (hl : lv_has ls 9 [(5, .int 102), (3, .ref oa), (2, .ref m0), (1, .ref h), (0, .ref b)])
    (hnext : ∀ (H : Heap) (locs : List Loc) (ls : Array Slot), zx_S18 D cy ed A h m0 oa H → va_S A s.heap H locs → lv_has ls 9 [(5, .int 108), (3, .ref oa), (2, .ref m0), (1, .ref h), (0, .ref b)] → W p l e zx_R s m #[Value.ref b] below meth c H locs 97 1887 Q (F0 m 28 ls [])) :
    W p l e zx_R s m #[Value.ref b] below meth c H locs 94 1857 Q (F0 m 28 ls []) := by
  obtain ⟨hx, hb, hml, hst, hown, hts, hX, hbl, hbA, hA, hK, hZ, hN⟩ := C0
  obtain ⟨pe, ne, pa, ro, a1, a2, a3, a4, a5, a6, a7, a8, a9, mp, mq, b1, b2, b3, b4, b5, ep, mc, mm, mn, f1, f2, f0, og, gp, hP, hD⟩ := h0
  refine lv_iload hx hb dL_law_28 (lv_at hl 0 rfl) ?_
  refine lv_aload_n hx hb dL_law_30 rfl (lv_at hl 4 rfl) ?_
  refine va_slen hx hb hX hbl hbA hS dL_law_31 ?_
  refine lv_topi (fun y9 ey9 => ?_)
  obtain rfl : y9 = 3072 := ey9.trans (by decide)
  refine lv_bipush (v := 6) hx hb dL_law_32 (by decide) ?_
  refine lv_isub hx hb dL_law_34 ?_
  refine lv_topi (fun y9 ey9 => ?_)
  obtain rfl : y9 = 3066 := by rw [ey9] <;> decide
  refine lv_icmp_gt (tgt := 2548) hx hb dL_law_35 (by decide) (fun c_1509 => absurd c_1509 (by decide)) (fun _ => ?_)
  refine lv_aload_n hx hb dL_law_38 rfl (lv_at hl 4 rfl) ?_
  refine lv_iload hx hb dL_law_39 (lv_at hl 0 rfl) ?_
  refine va_sld hx hb hX hbl hbA hS (zx_bn (by decide)) dL_law_41 ?_
  refine lv_topi (fun y9 ey9 => ?_)
  obtain rfl : y9 = 0 := ey9.trans (by decide)
  refine lv_bipush (v := 63) hx hb dL_law_42 (by decide) ?_
  refine lv_iand hx hb dL_law_44 ?_
  refine lv_topi (fun y9 ey9 => ?_)
  obtain rfl : y9 = 0 := by rw [ey9] <;> decide
  refine lv_tableIn (off := 255) (tgt := 300) hx hb dL_law_45 (by decide) (by decide) (by decide) (by decide) ?_
  refine lv_aload_n hx hb dL_law_300 rfl (lv_at hl 3 rfl) ?_
  refine lv_aload_n hx hb dL_law_301 rfl (lv_at hl 4 rfl) ?_
  refine lv_iload hx hb dL_law_302 (lv_at hl 0 rfl) ?_
  refine lv_iconst (v := 1) hx hb dL_law_304 (by decide) ?_
  refine lv_iadd hx hb dL_law_305 ?_
  refine lv_topi (fun y9 ey9 => ?_)
  obtain rfl : y9 = 103 := by rw [ey9] <;> decide
  refine va_sld hx hb hX hbl hbA hS (zx_bn (by decide)) dL_law_306 ?_
  refine lv_topi (fun y9 ey9 => ?_)
  obtain rfl : y9 = 0 := ey9.trans (by decide)
  refine lv_aload_n hx hb dL_law_307 rfl (lv_at hl 4 rfl) ?_
  refine lv_iload hx hb dL_law_308 (lv_at hl 0 rfl) ?_
  refine lv_iconst (v := 2) hx hb dL_law_310 (by decide) ?_
  refine lv_iadd hx hb dL_law_311 ?_
  refine lv_topi (fun y9 ey9 => ?_)
  obtain rfl : y9 = 104 := by rw [ey9] <;> decide
  refine va_sld hx hb hX hbl hbA hS (zx_bn (by decide)) dL_law_312 ?_
  refine lv_topi (fun y9 ey9 => ?_)
  obtain rfl : y9 = 0 := ey9.trans (by decide)
  refine lv_aload_n hx hb dL_law_313 rfl (lv_at hl 1 rfl) ?_
  have hPc := hP.sub (ws' := [(h, .inr (13, [.ref pe, .ref ne, .ref pa, .ref ro, .int 0])), (pe, .inr (9, [.int 17, .ref a1, .ref a2, .ref a3, .ref a4, .ref a5, .ref a6, .ref a7, .ref a8, .ref a9])), (a1, .inl (cy 0, 20, .inl f1)), (a2, .inl (cy 0, 20, .inl f2)), (oa, .inl (cy 3, 1, .inr (.inl og)))]) [0, 1, 2, 3, 10] rfl
  have hDc := hD.sub (ws' := [(h, .inr (13, [.ref pe, .ref ne, .ref pa, .ref ro, .int 0])), (pe, .inr (9, [.int 17, .ref a1, .ref a2, .ref a3, .ref a4, .ref a5, .ref a6, .ref a7, .ref a8, .ref a9])), (a1, .inl (cy 0, 20, .inl f1)), (a2, .inl (cy 0, 20, .inl f2)), (oa, .inl (cy 3, 1, .inr (.inl og)))]) [0, 1, 2, 3, 10] (by decide) rfl
  have hFc := va_free (wc := [(h, .inr (13, [.ref pe, .ref ne, .ref pa, .ref ro, .int 0])), (pe, .inr (9, [.int 17, .ref a1, .ref a2, .ref a3, .ref a4, .ref a5, .ref a6, .ref a7, .ref a8, .ref a9])), (a1, .inl (cy 0, 20, .inl f1)), (a2, .inl (cy 0, 20, .inl f2)), (oa, .inl (cy 3, 1, .inr (.inl og)))]) hD hS hA [0, 1, 2, 3, 10] rfl
  refine vx_calli (vx_runSX (As := [.ref h, .int 0, .int 0, .ref oa]) (rest := []) ⟨hx, hb, hml, hown, hts⟩ (c_L_addPerson_17 l hst D cy ed H.size h pe ne pa ro 0 a1 a2 a3 a4 a5 a6 a7 a8 a9 f1 f2 oa og) (vx_cwSW 4 hts (zx_GS mm_329 mm_330 mm_70 mm_331) rfl rfl rfl (by decide +kernel) ⟨(Nat.le_of_ble_eq_true rfl), (Nat.le_of_ble_eq_true rfl)⟩) ⟨zx_blind, zx_give hPc hK hDc hS hFc hZ hN⟩ rfl rfl hl.1 rfl (lv_room (Nat.le_of_ble_eq_true rfl)) dL_law_314 ⟨(Nat.le_of_ble_eq_true rfl), (Nat.le_of_ble_eq_true rfl)⟩) hS (fun q _ h => hFc q h) hFc (fun q _ h => hFc q h) (fun E9 ce9 q9 _ t H locs ht hvm _ hBX hz1 hk1 hS hce hcv hcl => ?_) (fun r9 u t H locs ht hvm hw hB hz1 hk1 hS => ?_)
  · exact hBX.elim
  ·
    obtain ⟨f3_1510, f4_1511, o2_1512⟩ := u
    obtain ⟨rfl, h_1513⟩ := hw
    obtain ⟨hP, hD⟩ := zx_join (wr := [(ro, .inl (cy 0, 20, .inl f0)), (pa, .inr (4, [.int mc, .ref ed, .int 0])), (m0, .inr (20, [.int 0, .ref mp, .int 0, .ref b1, .ref b2, .ref b3, .ref b4, .ref b5, .ref mq])), (mp, .inr (4, [.int mm, .ref ep, .int 17])), (ep, .inl (cy 2, 22, .inr (.inr (.inr (.inr gp))))), (mq, .inr (4, [.int mn, .ref ed, .int 0]))]) (w1 := [(h, .inr (13, [.ref pe, .ref ne, .ref pa, .ref ro, .int 0])), (pe, .inr (9, [.int 18, .ref a1, .ref a2, .ref a3, .ref a4, .ref a5, .ref a6, .ref a7, .ref a8, .ref a9])), (a1, .inl (cy 0, 20, .inl f3_1510)), (a2, .inl (cy 0, 20, .inl f4_1511)), (oa, .inl (cy 3, 1, .inr (.inl o2_1512)))]) [0, 1, 2, 3, 10] [4, 5, 6, 7, 8, 9] rfl rfl (by decide) (by decide) hP hD hk1 hFc hB ht
    have hP : va_P D vwCl [(ro, .inl (cy 0, 20, .inl f0)), (pa, .inr (4, [.int mc, .ref ed, .int 0])), (m0, .inr (20, [.int 0, .ref mp, .int 0, .ref b1, .ref b2, .ref b3, .ref b4, .ref b5, .ref mq])), (mp, .inr (4, [.int mm, .ref ep, .int 17])), (ep, .inl (cy 2, 22, .inr (.inr (.inr (.inr gp))))), (mq, .inr (4, [.int mn, .ref ed, .int 0])), (h, .inr (13, [.ref pe, .ref ne, .ref pa, .ref ro, .int 0])), (pe, .inr (9, [.int 18, .ref a1, .ref a2, .ref a3, .ref a4, .ref a5, .ref a6, .ref a7, .ref a8, .ref a9])), (a1, .inl (cy 0, 20, .inl f3_1510)), (a2, .inl (cy 0, 20, .inl f4_1511)), (oa, .inl (cy 3, 1, .inr (.inl o2_1512)))] H := hP
    have hD : va_D A [(ro, .inl (cy 0, 20, .inl f0)), (pa, .inr (4, [.int mc, .ref ed, .int 0])), (m0, .inr (20, [.int 0, .ref mp, .int 0, .ref b1, .ref b2, .ref b3, .ref b4, .ref b5, .ref mq])), (mp, .inr (4, [.int mm, .ref ep, .int 17])), (ep, .inl (cy 2, 22, .inr (.inr (.inr (.inr gp))))), (mq, .inr (4, [.int mn, .ref ed, .int 0])), (h, .inr (13, [.ref pe, .ref ne, .ref pa, .ref ro, .int 0])), (pe, .inr (9, [.int 18, .ref a1, .ref a2, .ref a3, .ref a4, .ref a5, .ref a6, .ref a7, .ref a8, .ref a9])), (a1, .inl (cy 0, 20, .inl f3_1510)), (a2, .inl (cy 0, 20, .inl f4_1511)), (oa, .inl (cy 3, 1, .inr (.inl o2_1512)))] := hD
    refine W.widen (k := 94) (n := 1857) (Nat.le_of_ble_eq_true rfl) (Nat.le_of_ble_eq_true rfl) ?_
    refine lv_istore (lv' := [(6, .int 0), (5, .int 102), (3, .ref oa), (2, .ref m0), (1, .ref h), (0, .ref b)]) hx hb dL_law_317 hl (by decide) rfl (fun ls hl => ?_)
    refine lv_aload_n hx hb dL_law_319 rfl (lv_at hl 3 rfl) ?_
    refine lv_aload_n hx hb dL_law_320 rfl (lv_at hl 5 rfl) ?_
    refine lv_iload hx hb dL_law_321 (lv_at hl 1 rfl) ?_
    refine lv_iconst (v := 1) hx hb dL_law_323 (by decide) ?_
    refine lv_iadd hx hb dL_law_324 ?_
    refine lv_topi (fun y9 ey9 => ?_)
    obtain rfl : y9 = 103 := by rw [ey9] <;> decide
    refine va_sld hx hb hX hbl hbA hS (zx_bn (by decide)) dL_law_325 ?_
    refine lv_topi (fun y9 ey9 => ?_)
    obtain rfl : y9 = 0 := ey9.trans (by decide)
    refine lv_aload_n hx hb dL_law_326 rfl (lv_at hl 5 rfl) ?_
    refine lv_iload hx hb dL_law_327 (lv_at hl 1 rfl) ?_
    refine lv_iconst (v := 2) hx hb dL_law_329 (by decide) ?_
    refine lv_iadd hx hb dL_law_330 ?_
    refine lv_topi (fun y9 ey9 => ?_)
    obtain rfl : y9 = 104 := by rw [ey9] <;> decide
    refine va_sld hx hb hX hbl hbA hS (zx_bn (by decide)) dL_law_331 ?_
    refine lv_topi (fun y9 ey9 => ?_)
    obtain rfl : y9 = 0 := ey9.trans (by decide)
    have hPc := hP.sub (ws' := [(m0, .inr (20, [.int 0, .ref mp, .int 0, .ref b1, .ref b2, .ref b3, .ref b4, .ref b5, .ref mq])), (mp, .inr (4, [.int mm, .ref ep, .int 17])), (ep, .inl (cy 2, 22, .inr (.inr (.inr (.inr gp)))))]) [2, 3, 4] rfl
    have hDc := hD.sub (ws' := [(m0, .inr (20, [.int 0, .ref mp, .int 0, .ref b1, .ref b2, .ref b3, .ref b4, .ref b5, .ref mq])), (mp, .inr (4, [.int mm, .ref ep, .int 17])), (ep, .inl (cy 2, 22, .inr (.inr (.inr (.inr gp)))))]) [2, 3, 4] (by decide) rfl
    have hFc := va_free (wc := [(m0, .inr (20, [.int 0, .ref mp, .int 0, .ref b1, .ref b2, .ref b3, .ref b4, .ref b5, .ref mq])), (mp, .inr (4, [.int mm, .ref ep, .int 17])), (ep, .inl (cy 2, 22, .inr (.inr (.inr (.inr gp)))))]) hD hS hA [2, 3, 4] rfl
    refine va_calli (va_runV (As := [.int 0, .int 0]) (rest := []) ⟨hx, hb, hml, hown, hts⟩ (c_X15_addPerson_17 l hst D cy ed H.size m0 mp mq b1 b2 b3 b4 b5 0 0 mm ep gp) (cwV 2 hts (zx_GV mm_1599 mm_1600 mm_1601 mm_78 mm_1602) rfl rfl rfl (by decide +kernel) ⟨(Nat.le_of_ble_eq_true rfl), (Nat.le_of_ble_eq_true rfl)⟩) ⟨zx_blind, va_recv hK hPc (ci := 20) (q0 := 0) rfl rfl, zx_give hPc hK hDc hS hFc hZ hN⟩ rfl rfl hl.1 rfl (lv_room (Nat.le_of_ble_eq_true rfl)) dL_law_332 ⟨(Nat.le_of_ble_eq_true rfl), (Nat.le_of_ble_eq_true rfl)⟩) hS (fun q _ h => hFc q h) hFc (fun r9 u t H1 locs ht hvm hw hB hz1 hk1 hS => ?_)
    obtain ⟨mx_1514, qx_1515, g2_1516, y_1517, fy_1518⟩ := u
    obtain ⟨rfl, h_1519⟩ := hw
    obtain ⟨hP, hD⟩ := zx_join (wr := [(ro, .inl (cy 0, 20, .inl f0)), (pa, .inr (4, [.int mc, .ref ed, .int 0])), (mq, .inr (4, [.int mn, .ref ed, .int 0])), (h, .inr (13, [.ref pe, .ref ne, .ref pa, .ref ro, .int 0])), (pe, .inr (9, [.int 18, .ref a1, .ref a2, .ref a3, .ref a4, .ref a5, .ref a6, .ref a7, .ref a8, .ref a9])), (a1, .inl (cy 0, 20, .inl f3_1510)), (a2, .inl (cy 0, 20, .inl f4_1511)), (oa, .inl (cy 3, 1, .inr (.inl o2_1512)))]) (w1 := [(m0, .inr (20, [.int 0, .ref mp, .int 0, .ref b1, .ref b2, .ref b3, .ref b4, .ref b5, .ref mq])), (mp, .inr (4, [.int mx_1514, .ref qx_1515, .int 18])), (qx_1515, .inl (cy 2, 22, .inr (.inr (.inr (.inr g2_1516))))), (y_1517, .inr (17, fy_1518))]) [2, 3, 4] [0, 1, 5, 6, 7, 8, 9, 10] rfl rfl (by decide) (by decide) hP hD hk1 hFc hB ht
    generalize H1 = H at hP hS ⊢
    have hP : va_P D vwCl [(ro, .inl (cy 0, 20, .inl f0)), (pa, .inr (4, [.int mc, .ref ed, .int 0])), (mq, .inr (4, [.int mn, .ref ed, .int 0])), (h, .inr (13, [.ref pe, .ref ne, .ref pa, .ref ro, .int 0])), (pe, .inr (9, [.int 18, .ref a1, .ref a2, .ref a3, .ref a4, .ref a5, .ref a6, .ref a7, .ref a8, .ref a9])), (a1, .inl (cy 0, 20, .inl f3_1510)), (a2, .inl (cy 0, 20, .inl f4_1511)), (oa, .inl (cy 3, 1, .inr (.inl o2_1512))), (m0, .inr (20, [.int 0, .ref mp, .int 0, .ref b1, .ref b2, .ref b3, .ref b4, .ref b5, .ref mq])), (mp, .inr (4, [.int mx_1514, .ref qx_1515, .int 18])), (qx_1515, .inl (cy 2, 22, .inr (.inr (.inr (.inr g2_1516))))), (y_1517, .inr (17, fy_1518))] H := hP
    have hD : va_D A [(ro, .inl (cy 0, 20, .inl f0)), (pa, .inr (4, [.int mc, .ref ed, .int 0])), (mq, .inr (4, [.int mn, .ref ed, .int 0])), (h, .inr (13, [.ref pe, .ref ne, .ref pa, .ref ro, .int 0])), (pe, .inr (9, [.int 18, .ref a1, .ref a2, .ref a3, .ref a4, .ref a5, .ref a6, .ref a7, .ref a8, .ref a9])), (a1, .inl (cy 0, 20, .inl f3_1510)), (a2, .inl (cy 0, 20, .inl f4_1511)), (oa, .inl (cy 3, 1, .inr (.inl o2_1512))), (m0, .inr (20, [.int 0, .ref mp, .int 0, .ref b1, .ref b2, .ref b3, .ref b4, .ref b5, .ref mq])), (mp, .inr (4, [.int mx_1514, .ref qx_1515, .int 18])), (qx_1515, .inl (cy 2, 22, .inr (.inr (.inr (.inr g2_1516))))), (y_1517, .inr (17, fy_1518))] := hD
    refine W.widen (k := 97) (n := 1887) (Nat.le_of_ble_eq_true rfl) (Nat.le_of_ble_eq_true rfl) ?_
    obtain ⟨hs_1520, hs_1521⟩ := h_1519
    refine lv_istore (lv' := [(7, .int 17), (6, .int 0), (5, .int 102), (3, .ref oa), (2, .ref m0), (1, .ref h), (0, .ref b)]) hx hb dL_law_335 hl (by decide) rfl (fun ls hl => ?_)
    refine lv_goto (tgt := 2542) hx hb dL_law_337 (by decide) ?_
    refine lv_iinc (v := 108) (lv' := [(5, .int 108), (7, .int 17), (6, .int 0), (3, .ref oa), (2, .ref m0), (1, .ref h), (0, .ref b)]) hx hb dL_law_2542 hl (k := 2) rfl (by decide) (by decide) rfl (fun ls hl => ?_)
    refine lv_goto (tgt := 28) hx hb dL_law_2545 (by decide) ?_
    have hP := hP.sub (ws' := [(h, .inr (13, [.ref pe, .ref ne, .ref pa, .ref ro, .int 0])), (pe, .inr (9, [.int 18, .ref a1, .ref a2, .ref a3, .ref a4, .ref a5, .ref a6, .ref a7, .ref a8, .ref a9])), (a1, .inl (cy 0, 20, .inl f3_1510)), (a2, .inl (cy 0, 20, .inl f4_1511)), (ro, .inl (cy 0, 20, .inl f0)), (pa, .inr (4, [.int mc, .ref ed, .int 0])), (m0, .inr (20, [.int 0, .ref mp, .int 0, .ref b1, .ref b2, .ref b3, .ref b4, .ref b5, .ref mq])), (mp, .inr (4, [.int mx_1514, .ref qx_1515, .int 18])), (qx_1515, .inl (cy 2, 22, .inr (.inr (.inr (.inr g2_1516))))), (mq, .inr (4, [.int mn, .ref ed, .int 0])), (oa, .inl (cy 3, 1, .inr (.inl o2_1512)))]) [3, 4, 5, 6, 0, 1, 8, 9, 10, 2, 7] rfl
    have hD := hD.sub (ws' := [(h, .inr (13, [.ref pe, .ref ne, .ref pa, .ref ro, .int 0])), (pe, .inr (9, [.int 18, .ref a1, .ref a2, .ref a3, .ref a4, .ref a5, .ref a6, .ref a7, .ref a8, .ref a9])), (a1, .inl (cy 0, 20, .inl f3_1510)), (a2, .inl (cy 0, 20, .inl f4_1511)), (ro, .inl (cy 0, 20, .inl f0)), (pa, .inr (4, [.int mc, .ref ed, .int 0])), (m0, .inr (20, [.int 0, .ref mp, .int 0, .ref b1, .ref b2, .ref b3, .ref b4, .ref b5, .ref mq])), (mp, .inr (4, [.int mx_1514, .ref qx_1515, .int 18])), (qx_1515, .inl (cy 2, 22, .inr (.inr (.inr (.inr g2_1516))))), (mq, .inr (4, [.int mn, .ref ed, .int 0])), (oa, .inl (cy 3, 1, .inr (.inl o2_1512)))]) [3, 4, 5, 6, 0, 1, 8, 9, 10, 2, 7] (by decide) rfl
    exact hnext _ _ _ ⟨pe, ne, pa, ro, a1, a2, a3, a4, a5, a6, a7, a8, a9, mp, mq, b1, b2, b3, b4, b5, qx_1515, mc, mx_1514, mn, f3_1510, f4_1511, f0, o2_1512, g2_1516, hP, hD⟩ hS (lv_sub hl [0, 3, 4, 5, 6] rfl)
set_option maxHeartbeats 4000000 in
set_option maxRecDepth 100000 in
theorem law_step_18 {p : Program} {l : Launch} {e : Env} {s : State} {m : MethodId} {below : List Frame} {meth : Method} {c : Code} {D : va_G} {cy : Nat → ClassId} {ed b : Nat} {A : Nat → Prop} {Q : State → Prop} (C0 : zx_LW p l s m c D cy ed b A) {h m0 oa : Nat} {H : Heap} {locs : List Loc} {ls : Array Slot} (h0 : zx_S18 D cy ed A h m0 oa H) (hS : va_S A s.heap H locs) (hl : lv_has ls 9 [(5, .int 108), (3, .ref oa), (2, .ref m0), (1, .ref h), (0, .ref b)])
    (hnext : ∀ (H : Heap) (locs : List Loc) (ls : Array Slot), zx_S19 D cy ed A h m0 oa H → va_S A s.heap H locs → lv_has ls 9 [(5, .int 114), (3, .ref oa), (2, .ref m0), (1, .ref h), (0, .ref b)] → W p l e zx_R s m #[Value.ref b] below meth c H locs 100 1917 Q (F0 m 28 ls [])) :
    W p l e zx_R s m #[Value.ref b] below meth c H locs 97 1887 Q (F0 m 28 ls []) := by
  obtain ⟨hx, hb, hml, hst, hown, hts, hX, hbl, hbA, hA, hK, hZ, hN⟩ := C0
  obtain ⟨pe, ne, pa, ro, a1, a2, a3, a4, a5, a6, a7, a8, a9, mp, mq, b1, b2, b3, b4, b5, ep, mc, mm, mn, f1, f2, f0, og, gp, hP, hD⟩ := h0
  refine lv_iload hx hb dL_law_28 (lv_at hl 0 rfl) ?_
  refine lv_aload_n hx hb dL_law_30 rfl (lv_at hl 4 rfl) ?_
  refine va_slen hx hb hX hbl hbA hS dL_law_31 ?_
  refine lv_topi (fun y9 ey9 => ?_)
  obtain rfl : y9 = 3072 := ey9.trans (by decide)
  refine lv_bipush (v := 6) hx hb dL_law_32 (by decide) ?_
  refine lv_isub hx hb dL_law_34 ?_
  refine lv_topi (fun y9 ey9 => ?_)
  obtain rfl : y9 = 3066 := by rw [ey9] <;> decide
  refine lv_icmp_gt (tgt := 2548) hx hb dL_law_35 (by decide) (fun c_1522 => absurd c_1522 (by decide)) (fun _ => ?_)
  refine lv_aload_n hx hb dL_law_38 rfl (lv_at hl 4 rfl) ?_
  refine lv_iload hx hb dL_law_39 (lv_at hl 0 rfl) ?_
  refine va_sld hx hb hX hbl hbA hS (zx_bn (by decide)) dL_law_41 ?_
  refine lv_topi (fun y9 ey9 => ?_)
  obtain rfl : y9 = 0 := ey9.trans (by decide)
  refine lv_bipush (v := 63) hx hb dL_law_42 (by decide) ?_
  refine lv_iand hx hb dL_law_44 ?_
  refine lv_topi (fun y9 ey9 => ?_)
  obtain rfl : y9 = 0 := by rw [ey9] <;> decide
  refine lv_tableIn (off := 255) (tgt := 300) hx hb dL_law_45 (by decide) (by decide) (by decide) (by decide) ?_
  refine lv_aload_n hx hb dL_law_300 rfl (lv_at hl 3 rfl) ?_
  refine lv_aload_n hx hb dL_law_301 rfl (lv_at hl 4 rfl) ?_
  refine lv_iload hx hb dL_law_302 (lv_at hl 0 rfl) ?_
  refine lv_iconst (v := 1) hx hb dL_law_304 (by decide) ?_
  refine lv_iadd hx hb dL_law_305 ?_
  refine lv_topi (fun y9 ey9 => ?_)
  obtain rfl : y9 = 109 := by rw [ey9] <;> decide
  refine va_sld hx hb hX hbl hbA hS (zx_bn (by decide)) dL_law_306 ?_
  refine lv_topi (fun y9 ey9 => ?_)
  obtain rfl : y9 = 0 := ey9.trans (by decide)
  refine lv_aload_n hx hb dL_law_307 rfl (lv_at hl 4 rfl) ?_
  refine lv_iload hx hb dL_law_308 (lv_at hl 0 rfl) ?_
  refine lv_iconst (v := 2) hx hb dL_law_310 (by decide) ?_
  refine lv_iadd hx hb dL_law_311 ?_
  refine lv_topi (fun y9 ey9 => ?_)
  obtain rfl : y9 = 110 := by rw [ey9] <;> decide
  refine va_sld hx hb hX hbl hbA hS (zx_bn (by decide)) dL_law_312 ?_
  refine lv_topi (fun y9 ey9 => ?_)
  obtain rfl : y9 = 0 := ey9.trans (by decide)
  refine lv_aload_n hx hb dL_law_313 rfl (lv_at hl 1 rfl) ?_
  have hPc := hP.sub (ws' := [(h, .inr (13, [.ref pe, .ref ne, .ref pa, .ref ro, .int 0])), (pe, .inr (9, [.int 18, .ref a1, .ref a2, .ref a3, .ref a4, .ref a5, .ref a6, .ref a7, .ref a8, .ref a9])), (a1, .inl (cy 0, 20, .inl f1)), (a2, .inl (cy 0, 20, .inl f2)), (oa, .inl (cy 3, 1, .inr (.inl og)))]) [0, 1, 2, 3, 10] rfl
  have hDc := hD.sub (ws' := [(h, .inr (13, [.ref pe, .ref ne, .ref pa, .ref ro, .int 0])), (pe, .inr (9, [.int 18, .ref a1, .ref a2, .ref a3, .ref a4, .ref a5, .ref a6, .ref a7, .ref a8, .ref a9])), (a1, .inl (cy 0, 20, .inl f1)), (a2, .inl (cy 0, 20, .inl f2)), (oa, .inl (cy 3, 1, .inr (.inl og)))]) [0, 1, 2, 3, 10] (by decide) rfl
  have hFc := va_free (wc := [(h, .inr (13, [.ref pe, .ref ne, .ref pa, .ref ro, .int 0])), (pe, .inr (9, [.int 18, .ref a1, .ref a2, .ref a3, .ref a4, .ref a5, .ref a6, .ref a7, .ref a8, .ref a9])), (a1, .inl (cy 0, 20, .inl f1)), (a2, .inl (cy 0, 20, .inl f2)), (oa, .inl (cy 3, 1, .inr (.inl og)))]) hD hS hA [0, 1, 2, 3, 10] rfl
  refine vx_calli (vx_runSX (As := [.ref h, .int 0, .int 0, .ref oa]) (rest := []) ⟨hx, hb, hml, hown, hts⟩ (c_L_addPerson_18 l hst D cy ed H.size h pe ne pa ro 0 a1 a2 a3 a4 a5 a6 a7 a8 a9 f1 f2 oa og) (vx_cwSW 4 hts (zx_GS mm_329 mm_330 mm_70 mm_331) rfl rfl rfl (by decide +kernel) ⟨(Nat.le_of_ble_eq_true rfl), (Nat.le_of_ble_eq_true rfl)⟩) ⟨zx_blind, zx_give hPc hK hDc hS hFc hZ hN⟩ rfl rfl hl.1 rfl (lv_room (Nat.le_of_ble_eq_true rfl)) dL_law_314 ⟨(Nat.le_of_ble_eq_true rfl), (Nat.le_of_ble_eq_true rfl)⟩) hS (fun q _ h => hFc q h) hFc (fun q _ h => hFc q h) (fun E9 ce9 q9 _ t H locs ht hvm _ hBX hz1 hk1 hS hce hcv hcl => ?_) (fun r9 u t H locs ht hvm hw hB hz1 hk1 hS => ?_)
  · exact hBX.elim
  ·
    obtain ⟨f3_1523, f4_1524, o2_1525⟩ := u
    obtain ⟨rfl, h_1526⟩ := hw
    obtain ⟨hP, hD⟩ := zx_join (wr := [(ro, .inl (cy 0, 20, .inl f0)), (pa, .inr (4, [.int mc, .ref ed, .int 0])), (m0, .inr (20, [.int 0, .ref mp, .int 0, .ref b1, .ref b2, .ref b3, .ref b4, .ref b5, .ref mq])), (mp, .inr (4, [.int mm, .ref ep, .int 18])), (ep, .inl (cy 2, 22, .inr (.inr (.inr (.inr gp))))), (mq, .inr (4, [.int mn, .ref ed, .int 0]))]) (w1 := [(h, .inr (13, [.ref pe, .ref ne, .ref pa, .ref ro, .int 0])), (pe, .inr (9, [.int 19, .ref a1, .ref a2, .ref a3, .ref a4, .ref a5, .ref a6, .ref a7, .ref a8, .ref a9])), (a1, .inl (cy 0, 20, .inl f3_1523)), (a2, .inl (cy 0, 20, .inl f4_1524)), (oa, .inl (cy 3, 1, .inr (.inl o2_1525)))]) [0, 1, 2, 3, 10] [4, 5, 6, 7, 8, 9] rfl rfl (by decide) (by decide) hP hD hk1 hFc hB ht
    have hP : va_P D vwCl [(ro, .inl (cy 0, 20, .inl f0)), (pa, .inr (4, [.int mc, .ref ed, .int 0])), (m0, .inr (20, [.int 0, .ref mp, .int 0, .ref b1, .ref b2, .ref b3, .ref b4, .ref b5, .ref mq])), (mp, .inr (4, [.int mm, .ref ep, .int 18])), (ep, .inl (cy 2, 22, .inr (.inr (.inr (.inr gp))))), (mq, .inr (4, [.int mn, .ref ed, .int 0])), (h, .inr (13, [.ref pe, .ref ne, .ref pa, .ref ro, .int 0])), (pe, .inr (9, [.int 19, .ref a1, .ref a2, .ref a3, .ref a4, .ref a5, .ref a6, .ref a7, .ref a8, .ref a9])), (a1, .inl (cy 0, 20, .inl f3_1523)), (a2, .inl (cy 0, 20, .inl f4_1524)), (oa, .inl (cy 3, 1, .inr (.inl o2_1525)))] H := hP
    have hD : va_D A [(ro, .inl (cy 0, 20, .inl f0)), (pa, .inr (4, [.int mc, .ref ed, .int 0])), (m0, .inr (20, [.int 0, .ref mp, .int 0, .ref b1, .ref b2, .ref b3, .ref b4, .ref b5, .ref mq])), (mp, .inr (4, [.int mm, .ref ep, .int 18])), (ep, .inl (cy 2, 22, .inr (.inr (.inr (.inr gp))))), (mq, .inr (4, [.int mn, .ref ed, .int 0])), (h, .inr (13, [.ref pe, .ref ne, .ref pa, .ref ro, .int 0])), (pe, .inr (9, [.int 19, .ref a1, .ref a2, .ref a3, .ref a4, .ref a5, .ref a6, .ref a7, .ref a8, .ref a9])), (a1, .inl (cy 0, 20, .inl f3_1523)), (a2, .inl (cy 0, 20, .inl f4_1524)), (oa, .inl (cy 3, 1, .inr (.inl o2_1525)))] := hD
    refine W.widen (k := 97) (n := 1887) (Nat.le_of_ble_eq_true rfl) (Nat.le_of_ble_eq_true rfl) ?_
    refine lv_istore (lv' := [(6, .int 0), (5, .int 108), (3, .ref oa), (2, .ref m0), (1, .ref h), (0, .ref b)]) hx hb dL_law_317 hl (by decide) rfl (fun ls hl => ?_)
    refine lv_aload_n hx hb dL_law_319 rfl (lv_at hl 3 rfl) ?_
    refine lv_aload_n hx hb dL_law_320 rfl (lv_at hl 5 rfl) ?_
    refine lv_iload hx hb dL_law_321 (lv_at hl 1 rfl) ?_
    refine lv_iconst (v := 1) hx hb dL_law_323 (by decide) ?_
    refine lv_iadd hx hb dL_law_324 ?_
    refine lv_topi (fun y9 ey9 => ?_)
    obtain rfl : y9 = 109 := by rw [ey9] <;> decide
    refine va_sld hx hb hX hbl hbA hS (zx_bn (by decide)) dL_law_325 ?_
    refine lv_topi (fun y9 ey9 => ?_)
    obtain rfl : y9 = 0 := ey9.trans (by decide)
    refine lv_aload_n hx hb dL_law_326 rfl (lv_at hl 5 rfl) ?_
    refine lv_iload hx hb dL_law_327 (lv_at hl 1 rfl) ?_
    refine lv_iconst (v := 2) hx hb dL_law_329 (by decide) ?_
    refine lv_iadd hx hb dL_law_330 ?_
    refine lv_topi (fun y9 ey9 => ?_)
    obtain rfl : y9 = 110 := by rw [ey9] <;> decide
    refine va_sld hx hb hX hbl hbA hS (zx_bn (by decide)) dL_law_331 ?_
    refine lv_topi (fun y9 ey9 => ?_)
    obtain rfl : y9 = 0 := ey9.trans (by decide)
    have hPc := hP.sub (ws' := [(m0, .inr (20, [.int 0, .ref mp, .int 0, .ref b1, .ref b2, .ref b3, .ref b4, .ref b5, .ref mq])), (mp, .inr (4, [.int mm, .ref ep, .int 18])), (ep, .inl (cy 2, 22, .inr (.inr (.inr (.inr gp)))))]) [2, 3, 4] rfl
    have hDc := hD.sub (ws' := [(m0, .inr (20, [.int 0, .ref mp, .int 0, .ref b1, .ref b2, .ref b3, .ref b4, .ref b5, .ref mq])), (mp, .inr (4, [.int mm, .ref ep, .int 18])), (ep, .inl (cy 2, 22, .inr (.inr (.inr (.inr gp)))))]) [2, 3, 4] (by decide) rfl
    have hFc := va_free (wc := [(m0, .inr (20, [.int 0, .ref mp, .int 0, .ref b1, .ref b2, .ref b3, .ref b4, .ref b5, .ref mq])), (mp, .inr (4, [.int mm, .ref ep, .int 18])), (ep, .inl (cy 2, 22, .inr (.inr (.inr (.inr gp)))))]) hD hS hA [2, 3, 4] rfl
    refine va_calli (va_runV (As := [.int 0, .int 0]) (rest := []) ⟨hx, hb, hml, hown, hts⟩ (c_X15_addPerson_18 l hst D cy ed H.size m0 mp mq b1 b2 b3 b4 b5 0 0 mm ep gp) (cwV 2 hts (zx_GV mm_1599 mm_1600 mm_1601 mm_78 mm_1602) rfl rfl rfl (by decide +kernel) ⟨(Nat.le_of_ble_eq_true rfl), (Nat.le_of_ble_eq_true rfl)⟩) ⟨zx_blind, va_recv hK hPc (ci := 20) (q0 := 0) rfl rfl, zx_give hPc hK hDc hS hFc hZ hN⟩ rfl rfl hl.1 rfl (lv_room (Nat.le_of_ble_eq_true rfl)) dL_law_332 ⟨(Nat.le_of_ble_eq_true rfl), (Nat.le_of_ble_eq_true rfl)⟩) hS (fun q _ h => hFc q h) hFc (fun r9 u t H1 locs ht hvm hw hB hz1 hk1 hS => ?_)
    obtain ⟨mx_1527, qx_1528, g2_1529, y_1530, fy_1531⟩ := u
    obtain ⟨rfl, h_1532⟩ := hw
    obtain ⟨hP, hD⟩ := zx_join (wr := [(ro, .inl (cy 0, 20, .inl f0)), (pa, .inr (4, [.int mc, .ref ed, .int 0])), (mq, .inr (4, [.int mn, .ref ed, .int 0])), (h, .inr (13, [.ref pe, .ref ne, .ref pa, .ref ro, .int 0])), (pe, .inr (9, [.int 19, .ref a1, .ref a2, .ref a3, .ref a4, .ref a5, .ref a6, .ref a7, .ref a8, .ref a9])), (a1, .inl (cy 0, 20, .inl f3_1523)), (a2, .inl (cy 0, 20, .inl f4_1524)), (oa, .inl (cy 3, 1, .inr (.inl o2_1525)))]) (w1 := [(m0, .inr (20, [.int 0, .ref mp, .int 0, .ref b1, .ref b2, .ref b3, .ref b4, .ref b5, .ref mq])), (mp, .inr (4, [.int mx_1527, .ref qx_1528, .int 19])), (qx_1528, .inl (cy 2, 22, .inr (.inr (.inr (.inr g2_1529))))), (y_1530, .inr (17, fy_1531))]) [2, 3, 4] [0, 1, 5, 6, 7, 8, 9, 10] rfl rfl (by decide) (by decide) hP hD hk1 hFc hB ht
    generalize H1 = H at hP hS ⊢
    have hP : va_P D vwCl [(ro, .inl (cy 0, 20, .inl f0)), (pa, .inr (4, [.int mc, .ref ed, .int 0])), (mq, .inr (4, [.int mn, .ref ed, .int 0])), (h, .inr (13, [.ref pe, .ref ne, .ref pa, .ref ro, .int 0])), (pe, .inr (9, [.int 19, .ref a1, .ref a2, .ref a3, .ref a4, .ref a5, .ref a6, .ref a7, .ref a8, .ref a9])), (a1, .inl (cy 0, 20, .inl f3_1523)), (a2, .inl (cy 0, 20, .inl f4_1524)), (oa, .inl (cy 3, 1, .inr (.inl o2_1525))), (m0, .inr (20, [.int 0, .ref mp, .int 0, .ref b1, .ref b2, .ref b3, .ref b4, .ref b5, .ref mq])), (mp, .inr (4, [.int mx_1527, .ref qx_1528, .int 19])), (qx_1528, .inl (cy 2, 22, .inr (.inr (.inr (.inr g2_1529))))), (y_1530, .inr (17, fy_1531))] H := hP
    have hD : va_D A [(ro, .inl (cy 0, 20, .inl f0)), (pa, .inr (4, [.int mc, .ref ed, .int 0])), (mq, .inr (4, [.int mn, .ref ed, .int 0])), (h, .inr (13, [.ref pe, .ref ne, .ref pa, .ref ro, .int 0])), (pe, .inr (9, [.int 19, .ref a1, .ref a2, .ref a3, .ref a4, .ref a5, .ref a6, .ref a7, .ref a8, .ref a9])), (a1, .inl (cy 0, 20, .inl f3_1523)), (a2, .inl (cy 0, 20, .inl f4_1524)), (oa, .inl (cy 3, 1, .inr (.inl o2_1525))), (m0, .inr (20, [.int 0, .ref mp, .int 0, .ref b1, .ref b2, .ref b3, .ref b4, .ref b5, .ref mq])), (mp, .inr (4, [.int mx_1527, .ref qx_1528, .int 19])), (qx_1528, .inl (cy 2, 22, .inr (.inr (.inr (.inr g2_1529))))), (y_1530, .inr (17, fy_1531))] := hD
    refine W.widen (k := 100) (n := 1917) (Nat.le_of_ble_eq_true rfl) (Nat.le_of_ble_eq_true rfl) ?_
    obtain ⟨hs_1533, hs_1534⟩ := h_1532
    refine lv_istore (lv' := [(7, .int 18), (6, .int 0), (5, .int 108), (3, .ref oa), (2, .ref m0), (1, .ref h), (0, .ref b)]) hx hb dL_law_335 hl (by decide) rfl (fun ls hl => ?_)
    refine lv_goto (tgt := 2542) hx hb dL_law_337 (by decide) ?_
    refine lv_iinc (v := 114) (lv' := [(5, .int 114), (7, .int 18), (6, .int 0), (3, .ref oa), (2, .ref m0), (1, .ref h), (0, .ref b)]) hx hb dL_law_2542 hl (k := 2) rfl (by decide) (by decide) rfl (fun ls hl => ?_)
    refine lv_goto (tgt := 28) hx hb dL_law_2545 (by decide) ?_
    have hP := hP.sub (ws' := [(h, .inr (13, [.ref pe, .ref ne, .ref pa, .ref ro, .int 0])), (pe, .inr (9, [.int 19, .ref a1, .ref a2, .ref a3, .ref a4, .ref a5, .ref a6, .ref a7, .ref a8, .ref a9])), (a1, .inl (cy 0, 20, .inl f3_1523)), (a2, .inl (cy 0, 20, .inl f4_1524)), (ro, .inl (cy 0, 20, .inl f0)), (pa, .inr (4, [.int mc, .ref ed, .int 0])), (m0, .inr (20, [.int 0, .ref mp, .int 0, .ref b1, .ref b2, .ref b3, .ref b4, .ref b5, .ref mq])), (mp, .inr (4, [.int mx_1527, .ref qx_1528, .int 19])), (qx_1528, .inl (cy 2, 22, .inr (.inr (.inr (.inr g2_1529))))), (mq, .inr (4, [.int mn, .ref ed, .int 0])), (oa, .inl (cy 3, 1, .inr (.inl o2_1525)))]) [3, 4, 5, 6, 0, 1, 8, 9, 10, 2, 7] rfl
    have hD := hD.sub (ws' := [(h, .inr (13, [.ref pe, .ref ne, .ref pa, .ref ro, .int 0])), (pe, .inr (9, [.int 19, .ref a1, .ref a2, .ref a3, .ref a4, .ref a5, .ref a6, .ref a7, .ref a8, .ref a9])), (a1, .inl (cy 0, 20, .inl f3_1523)), (a2, .inl (cy 0, 20, .inl f4_1524)), (ro, .inl (cy 0, 20, .inl f0)), (pa, .inr (4, [.int mc, .ref ed, .int 0])), (m0, .inr (20, [.int 0, .ref mp, .int 0, .ref b1, .ref b2, .ref b3, .ref b4, .ref b5, .ref mq])), (mp, .inr (4, [.int mx_1527, .ref qx_1528, .int 19])), (qx_1528, .inl (cy 2, 22, .inr (.inr (.inr (.inr g2_1529))))), (mq, .inr (4, [.int mn, .ref ed, .int 0])), (oa, .inl (cy 3, 1, .inr (.inl o2_1525)))]) [3, 4, 5, 6, 0, 1, 8, 9, 10, 2, 7] (by decide) rfl
    exact hnext _ _ _ ⟨pe, ne, pa, ro, a1, a2, a3, a4, a5, a6, a7, a8, a9, mp, mq, b1, b2, b3, b4, b5, qx_1528, mc, mx_1527, mn, f3_1523, f4_1524, f0, o2_1525, g2_1529, hP, hD⟩ hS (lv_sub hl [0, 3, 4, 5, 6] rfl)
set_option maxHeartbeats 4000000 in
set_option maxRecDepth 100000 in
theorem law_step_19 {p : Program} {l : Launch} {e : Env} {s : State} {m : MethodId} {below : List Frame} {meth : Method} {c : Code} {D : va_G} {cy : Nat → ClassId} {ed b : Nat} {A : Nat → Prop} {Q : State → Prop} (C0 : zx_LW p l s m c D cy ed b A) {h m0 oa : Nat} {H : Heap} {locs : List Loc} {ls : Array Slot} (h0 : zx_S19 D cy ed A h m0 oa H) (hS : va_S A s.heap H locs) (hl : lv_has ls 9 [(5, .int 114), (3, .ref oa), (2, .ref m0), (1, .ref h), (0, .ref b)])
    (hnext : ∀ (H : Heap) (locs : List Loc) (ls : Array Slot), zx_S20 D cy ed A h m0 oa H → va_S A s.heap H locs → lv_has ls 9 [(5, .int 120), (3, .ref oa), (2, .ref m0), (1, .ref h), (0, .ref b)] → W p l e zx_R s m #[Value.ref b] below meth c H locs 103 1947 Q (F0 m 28 ls [])) :
    W p l e zx_R s m #[Value.ref b] below meth c H locs 100 1917 Q (F0 m 28 ls []) := by
  obtain ⟨hx, hb, hml, hst, hown, hts, hX, hbl, hbA, hA, hK, hZ, hN⟩ := C0
  obtain ⟨pe, ne, pa, ro, a1, a2, a3, a4, a5, a6, a7, a8, a9, mp, mq, b1, b2, b3, b4, b5, ep, mc, mm, mn, f1, f2, f0, og, gp, hP, hD⟩ := h0
  refine lv_iload hx hb dL_law_28 (lv_at hl 0 rfl) ?_
  refine lv_aload_n hx hb dL_law_30 rfl (lv_at hl 4 rfl) ?_
  refine va_slen hx hb hX hbl hbA hS dL_law_31 ?_
  refine lv_topi (fun y9 ey9 => ?_)
  obtain rfl : y9 = 3072 := ey9.trans (by decide)
  refine lv_bipush (v := 6) hx hb dL_law_32 (by decide) ?_
  refine lv_isub hx hb dL_law_34 ?_
  refine lv_topi (fun y9 ey9 => ?_)
  obtain rfl : y9 = 3066 := by rw [ey9] <;> decide
  refine lv_icmp_gt (tgt := 2548) hx hb dL_law_35 (by decide) (fun c_1535 => absurd c_1535 (by decide)) (fun _ => ?_)
  refine lv_aload_n hx hb dL_law_38 rfl (lv_at hl 4 rfl) ?_
  refine lv_iload hx hb dL_law_39 (lv_at hl 0 rfl) ?_
  refine va_sld hx hb hX hbl hbA hS (zx_bn (by decide)) dL_law_41 ?_
  refine lv_topi (fun y9 ey9 => ?_)
  obtain rfl : y9 = 0 := ey9.trans (by decide)
  refine lv_bipush (v := 63) hx hb dL_law_42 (by decide) ?_
  refine lv_iand hx hb dL_law_44 ?_
  refine lv_topi (fun y9 ey9 => ?_)
  obtain rfl : y9 = 0 := by rw [ey9] <;> decide
  refine lv_tableIn (off := 255) (tgt := 300) hx hb dL_law_45 (by decide) (by decide) (by decide) (by decide) ?_
  refine lv_aload_n hx hb dL_law_300 rfl (lv_at hl 3 rfl) ?_
  refine lv_aload_n hx hb dL_law_301 rfl (lv_at hl 4 rfl) ?_
  refine lv_iload hx hb dL_law_302 (lv_at hl 0 rfl) ?_
  refine lv_iconst (v := 1) hx hb dL_law_304 (by decide) ?_
  refine lv_iadd hx hb dL_law_305 ?_
  refine lv_topi (fun y9 ey9 => ?_)
  obtain rfl : y9 = 115 := by rw [ey9] <;> decide
  refine va_sld hx hb hX hbl hbA hS (zx_bn (by decide)) dL_law_306 ?_
  refine lv_topi (fun y9 ey9 => ?_)
  obtain rfl : y9 = 0 := ey9.trans (by decide)
  refine lv_aload_n hx hb dL_law_307 rfl (lv_at hl 4 rfl) ?_
  refine lv_iload hx hb dL_law_308 (lv_at hl 0 rfl) ?_
  refine lv_iconst (v := 2) hx hb dL_law_310 (by decide) ?_
  refine lv_iadd hx hb dL_law_311 ?_
  refine lv_topi (fun y9 ey9 => ?_)
  obtain rfl : y9 = 116 := by rw [ey9] <;> decide
  refine va_sld hx hb hX hbl hbA hS (zx_bn (by decide)) dL_law_312 ?_
  refine lv_topi (fun y9 ey9 => ?_)
  obtain rfl : y9 = 0 := ey9.trans (by decide)
  refine lv_aload_n hx hb dL_law_313 rfl (lv_at hl 1 rfl) ?_
  have hPc := hP.sub (ws' := [(h, .inr (13, [.ref pe, .ref ne, .ref pa, .ref ro, .int 0])), (pe, .inr (9, [.int 19, .ref a1, .ref a2, .ref a3, .ref a4, .ref a5, .ref a6, .ref a7, .ref a8, .ref a9])), (a1, .inl (cy 0, 20, .inl f1)), (a2, .inl (cy 0, 20, .inl f2)), (oa, .inl (cy 3, 1, .inr (.inl og)))]) [0, 1, 2, 3, 10] rfl
  have hDc := hD.sub (ws' := [(h, .inr (13, [.ref pe, .ref ne, .ref pa, .ref ro, .int 0])), (pe, .inr (9, [.int 19, .ref a1, .ref a2, .ref a3, .ref a4, .ref a5, .ref a6, .ref a7, .ref a8, .ref a9])), (a1, .inl (cy 0, 20, .inl f1)), (a2, .inl (cy 0, 20, .inl f2)), (oa, .inl (cy 3, 1, .inr (.inl og)))]) [0, 1, 2, 3, 10] (by decide) rfl
  have hFc := va_free (wc := [(h, .inr (13, [.ref pe, .ref ne, .ref pa, .ref ro, .int 0])), (pe, .inr (9, [.int 19, .ref a1, .ref a2, .ref a3, .ref a4, .ref a5, .ref a6, .ref a7, .ref a8, .ref a9])), (a1, .inl (cy 0, 20, .inl f1)), (a2, .inl (cy 0, 20, .inl f2)), (oa, .inl (cy 3, 1, .inr (.inl og)))]) hD hS hA [0, 1, 2, 3, 10] rfl
  refine vx_calli (vx_runSX (As := [.ref h, .int 0, .int 0, .ref oa]) (rest := []) ⟨hx, hb, hml, hown, hts⟩ (c_L_addPerson_19 l hst D cy ed H.size h pe ne pa ro 0 a1 a2 a3 a4 a5 a6 a7 a8 a9 f1 f2 oa og) (vx_cwSW 4 hts (zx_GS mm_329 mm_330 mm_70 mm_331) rfl rfl rfl (by decide +kernel) ⟨(Nat.le_of_ble_eq_true rfl), (Nat.le_of_ble_eq_true rfl)⟩) ⟨zx_blind, zx_give hPc hK hDc hS hFc hZ hN⟩ rfl rfl hl.1 rfl (lv_room (Nat.le_of_ble_eq_true rfl)) dL_law_314 ⟨(Nat.le_of_ble_eq_true rfl), (Nat.le_of_ble_eq_true rfl)⟩) hS (fun q _ h => hFc q h) hFc (fun q _ h => hFc q h) (fun E9 ce9 q9 _ t H locs ht hvm _ hBX hz1 hk1 hS hce hcv hcl => ?_) (fun r9 u t H locs ht hvm hw hB hz1 hk1 hS => ?_)
  · exact hBX.elim
  ·
    obtain ⟨f3_1536, f4_1537, o2_1538⟩ := u
    obtain ⟨rfl, h_1539⟩ := hw
    obtain ⟨hP, hD⟩ := zx_join (wr := [(ro, .inl (cy 0, 20, .inl f0)), (pa, .inr (4, [.int mc, .ref ed, .int 0])), (m0, .inr (20, [.int 0, .ref mp, .int 0, .ref b1, .ref b2, .ref b3, .ref b4, .ref b5, .ref mq])), (mp, .inr (4, [.int mm, .ref ep, .int 19])), (ep, .inl (cy 2, 22, .inr (.inr (.inr (.inr gp))))), (mq, .inr (4, [.int mn, .ref ed, .int 0]))]) (w1 := [(h, .inr (13, [.ref pe, .ref ne, .ref pa, .ref ro, .int 0])), (pe, .inr (9, [.int 20, .ref a1, .ref a2, .ref a3, .ref a4, .ref a5, .ref a6, .ref a7, .ref a8, .ref a9])), (a1, .inl (cy 0, 20, .inl f3_1536)), (a2, .inl (cy 0, 20, .inl f4_1537)), (oa, .inl (cy 3, 1, .inr (.inl o2_1538)))]) [0, 1, 2, 3, 10] [4, 5, 6, 7, 8, 9] rfl rfl (by decide) (by decide) hP hD hk1 hFc hB ht
    have hP : va_P D vwCl [(ro, .inl (cy 0, 20, .inl f0)), (pa, .inr (4, [.int mc, .ref ed, .int 0])), (m0, .inr (20, [.int 0, .ref mp, .int 0, .ref b1, .ref b2, .ref b3, .ref b4, .ref b5, .ref mq])), (mp, .inr (4, [.int mm, .ref ep, .int 19])), (ep, .inl (cy 2, 22, .inr (.inr (.inr (.inr gp))))), (mq, .inr (4, [.int mn, .ref ed, .int 0])), (h, .inr (13, [.ref pe, .ref ne, .ref pa, .ref ro, .int 0])), (pe, .inr (9, [.int 20, .ref a1, .ref a2, .ref a3, .ref a4, .ref a5, .ref a6, .ref a7, .ref a8, .ref a9])), (a1, .inl (cy 0, 20, .inl f3_1536)), (a2, .inl (cy 0, 20, .inl f4_1537)), (oa, .inl (cy 3, 1, .inr (.inl o2_1538)))] H := hP
    have hD : va_D A [(ro, .inl (cy 0, 20, .inl f0)), (pa, .inr (4, [.int mc, .ref ed, .int 0])), (m0, .inr (20, [.int 0, .ref mp, .int 0, .ref b1, .ref b2, .ref b3, .ref b4, .ref b5, .ref mq])), (mp, .inr (4, [.int mm, .ref ep, .int 19])), (ep, .inl (cy 2, 22, .inr (.inr (.inr (.inr gp))))), (mq, .inr (4, [.int mn, .ref ed, .int 0])), (h, .inr (13, [.ref pe, .ref ne, .ref pa, .ref ro, .int 0])), (pe, .inr (9, [.int 20, .ref a1, .ref a2, .ref a3, .ref a4, .ref a5, .ref a6, .ref a7, .ref a8, .ref a9])), (a1, .inl (cy 0, 20, .inl f3_1536)), (a2, .inl (cy 0, 20, .inl f4_1537)), (oa, .inl (cy 3, 1, .inr (.inl o2_1538)))] := hD
    refine W.widen (k := 100) (n := 1917) (Nat.le_of_ble_eq_true rfl) (Nat.le_of_ble_eq_true rfl) ?_
    refine lv_istore (lv' := [(6, .int 0), (5, .int 114), (3, .ref oa), (2, .ref m0), (1, .ref h), (0, .ref b)]) hx hb dL_law_317 hl (by decide) rfl (fun ls hl => ?_)
    refine lv_aload_n hx hb dL_law_319 rfl (lv_at hl 3 rfl) ?_
    refine lv_aload_n hx hb dL_law_320 rfl (lv_at hl 5 rfl) ?_
    refine lv_iload hx hb dL_law_321 (lv_at hl 1 rfl) ?_
    refine lv_iconst (v := 1) hx hb dL_law_323 (by decide) ?_
    refine lv_iadd hx hb dL_law_324 ?_
    refine lv_topi (fun y9 ey9 => ?_)
    obtain rfl : y9 = 115 := by rw [ey9] <;> decide
    refine va_sld hx hb hX hbl hbA hS (zx_bn (by decide)) dL_law_325 ?_
    refine lv_topi (fun y9 ey9 => ?_)
    obtain rfl : y9 = 0 := ey9.trans (by decide)
    refine lv_aload_n hx hb dL_law_326 rfl (lv_at hl 5 rfl) ?_
    refine lv_iload hx hb dL_law_327 (lv_at hl 1 rfl) ?_
    refine lv_iconst (v := 2) hx hb dL_law_329 (by decide) ?_
    refine lv_iadd hx hb dL_law_330 ?_
    refine lv_topi (fun y9 ey9 => ?_)
    obtain rfl : y9 = 116 := by rw [ey9] <;> decide
    refine va_sld hx hb hX hbl hbA hS (zx_bn (by decide)) dL_law_331 ?_
    refine lv_topi (fun y9 ey9 => ?_)
    obtain rfl : y9 = 0 := ey9.trans (by decide)
    have hPc := hP.sub (ws' := [(m0, .inr (20, [.int 0, .ref mp, .int 0, .ref b1, .ref b2, .ref b3, .ref b4, .ref b5, .ref mq])), (mp, .inr (4, [.int mm, .ref ep, .int 19])), (ep, .inl (cy 2, 22, .inr (.inr (.inr (.inr gp)))))]) [2, 3, 4] rfl
    have hDc := hD.sub (ws' := [(m0, .inr (20, [.int 0, .ref mp, .int 0, .ref b1, .ref b2, .ref b3, .ref b4, .ref b5, .ref mq])), (mp, .inr (4, [.int mm, .ref ep, .int 19])), (ep, .inl (cy 2, 22, .inr (.inr (.inr (.inr gp)))))]) [2, 3, 4] (by decide) rfl
    have hFc := va_free (wc := [(m0, .inr (20, [.int 0, .ref mp, .int 0, .ref b1, .ref b2, .ref b3, .ref b4, .ref b5, .ref mq])), (mp, .inr (4, [.int mm, .ref ep, .int 19])), (ep, .inl (cy 2, 22, .inr (.inr (.inr (.inr gp)))))]) hD hS hA [2, 3, 4] rfl
    refine va_calli (va_runV (As := [.int 0, .int 0]) (rest := []) ⟨hx, hb, hml, hown, hts⟩ (c_X15_addPerson_19 l hst D cy ed H.size m0 mp mq b1 b2 b3 b4 b5 0 0 mm ep gp) (cwV 2 hts (zx_GV mm_1599 mm_1600 mm_1601 mm_78 mm_1602) rfl rfl rfl (by decide +kernel) ⟨(Nat.le_of_ble_eq_true rfl), (Nat.le_of_ble_eq_true rfl)⟩) ⟨zx_blind, va_recv hK hPc (ci := 20) (q0 := 0) rfl rfl, zx_give hPc hK hDc hS hFc hZ hN⟩ rfl rfl hl.1 rfl (lv_room (Nat.le_of_ble_eq_true rfl)) dL_law_332 ⟨(Nat.le_of_ble_eq_true rfl), (Nat.le_of_ble_eq_true rfl)⟩) hS (fun q _ h => hFc q h) hFc (fun r9 u t H1 locs ht hvm hw hB hz1 hk1 hS => ?_)
    obtain ⟨mx_1540, qx_1541, g2_1542, y_1543, fy_1544⟩ := u
    obtain ⟨rfl, h_1545⟩ := hw
    obtain ⟨hP, hD⟩ := zx_join (wr := [(ro, .inl (cy 0, 20, .inl f0)), (pa, .inr (4, [.int mc, .ref ed, .int 0])), (mq, .inr (4, [.int mn, .ref ed, .int 0])), (h, .inr (13, [.ref pe, .ref ne, .ref pa, .ref ro, .int 0])), (pe, .inr (9, [.int 20, .ref a1, .ref a2, .ref a3, .ref a4, .ref a5, .ref a6, .ref a7, .ref a8, .ref a9])), (a1, .inl (cy 0, 20, .inl f3_1536)), (a2, .inl (cy 0, 20, .inl f4_1537)), (oa, .inl (cy 3, 1, .inr (.inl o2_1538)))]) (w1 := [(m0, .inr (20, [.int 0, .ref mp, .int 0, .ref b1, .ref b2, .ref b3, .ref b4, .ref b5, .ref mq])), (mp, .inr (4, [.int mx_1540, .ref qx_1541, .int 20])), (qx_1541, .inl (cy 2, 22, .inr (.inr (.inr (.inr g2_1542))))), (y_1543, .inr (17, fy_1544))]) [2, 3, 4] [0, 1, 5, 6, 7, 8, 9, 10] rfl rfl (by decide) (by decide) hP hD hk1 hFc hB ht
    generalize H1 = H at hP hS ⊢
    have hP : va_P D vwCl [(ro, .inl (cy 0, 20, .inl f0)), (pa, .inr (4, [.int mc, .ref ed, .int 0])), (mq, .inr (4, [.int mn, .ref ed, .int 0])), (h, .inr (13, [.ref pe, .ref ne, .ref pa, .ref ro, .int 0])), (pe, .inr (9, [.int 20, .ref a1, .ref a2, .ref a3, .ref a4, .ref a5, .ref a6, .ref a7, .ref a8, .ref a9])), (a1, .inl (cy 0, 20, .inl f3_1536)), (a2, .inl (cy 0, 20, .inl f4_1537)), (oa, .inl (cy 3, 1, .inr (.inl o2_1538))), (m0, .inr (20, [.int 0, .ref mp, .int 0, .ref b1, .ref b2, .ref b3, .ref b4, .ref b5, .ref mq])), (mp, .inr (4, [.int mx_1540, .ref qx_1541, .int 20])), (qx_1541, .inl (cy 2, 22, .inr (.inr (.inr (.inr g2_1542))))), (y_1543, .inr (17, fy_1544))] H := hP
    have hD : va_D A [(ro, .inl (cy 0, 20, .inl f0)), (pa, .inr (4, [.int mc, .ref ed, .int 0])), (mq, .inr (4, [.int mn, .ref ed, .int 0])), (h, .inr (13, [.ref pe, .ref ne, .ref pa, .ref ro, .int 0])), (pe, .inr (9, [.int 20, .ref a1, .ref a2, .ref a3, .ref a4, .ref a5, .ref a6, .ref a7, .ref a8, .ref a9])), (a1, .inl (cy 0, 20, .inl f3_1536)), (a2, .inl (cy 0, 20, .inl f4_1537)), (oa, .inl (cy 3, 1, .inr (.inl o2_1538))), (m0, .inr (20, [.int 0, .ref mp, .int 0, .ref b1, .ref b2, .ref b3, .ref b4, .ref b5, .ref mq])), (mp, .inr (4, [.int mx_1540, .ref qx_1541, .int 20])), (qx_1541, .inl (cy 2, 22, .inr (.inr (.inr (.inr g2_1542))))), (y_1543, .inr (17, fy_1544))] := hD
    refine W.widen (k := 103) (n := 1947) (Nat.le_of_ble_eq_true rfl) (Nat.le_of_ble_eq_true rfl) ?_
    obtain ⟨hs_1546, hs_1547⟩ := h_1545
    refine lv_istore (lv' := [(7, .int 19), (6, .int 0), (5, .int 114), (3, .ref oa), (2, .ref m0), (1, .ref h), (0, .ref b)]) hx hb dL_law_335 hl (by decide) rfl (fun ls hl => ?_)
    refine lv_goto (tgt := 2542) hx hb dL_law_337 (by decide) ?_
    refine lv_iinc (v := 120) (lv' := [(5, .int 120), (7, .int 19), (6, .int 0), (3, .ref oa), (2, .ref m0), (1, .ref h), (0, .ref b)]) hx hb dL_law_2542 hl (k := 2) rfl (by decide) (by decide) rfl (fun ls hl => ?_)
    refine lv_goto (tgt := 28) hx hb dL_law_2545 (by decide) ?_
    have hP := hP.sub (ws' := [(h, .inr (13, [.ref pe, .ref ne, .ref pa, .ref ro, .int 0])), (pe, .inr (9, [.int 20, .ref a1, .ref a2, .ref a3, .ref a4, .ref a5, .ref a6, .ref a7, .ref a8, .ref a9])), (a1, .inl (cy 0, 20, .inl f3_1536)), (a2, .inl (cy 0, 20, .inl f4_1537)), (ro, .inl (cy 0, 20, .inl f0)), (pa, .inr (4, [.int mc, .ref ed, .int 0])), (m0, .inr (20, [.int 0, .ref mp, .int 0, .ref b1, .ref b2, .ref b3, .ref b4, .ref b5, .ref mq])), (mp, .inr (4, [.int mx_1540, .ref qx_1541, .int 20])), (qx_1541, .inl (cy 2, 22, .inr (.inr (.inr (.inr g2_1542))))), (mq, .inr (4, [.int mn, .ref ed, .int 0])), (oa, .inl (cy 3, 1, .inr (.inl o2_1538)))]) [3, 4, 5, 6, 0, 1, 8, 9, 10, 2, 7] rfl
    have hD := hD.sub (ws' := [(h, .inr (13, [.ref pe, .ref ne, .ref pa, .ref ro, .int 0])), (pe, .inr (9, [.int 20, .ref a1, .ref a2, .ref a3, .ref a4, .ref a5, .ref a6, .ref a7, .ref a8, .ref a9])), (a1, .inl (cy 0, 20, .inl f3_1536)), (a2, .inl (cy 0, 20, .inl f4_1537)), (ro, .inl (cy 0, 20, .inl f0)), (pa, .inr (4, [.int mc, .ref ed, .int 0])), (m0, .inr (20, [.int 0, .ref mp, .int 0, .ref b1, .ref b2, .ref b3, .ref b4, .ref b5, .ref mq])), (mp, .inr (4, [.int mx_1540, .ref qx_1541, .int 20])), (qx_1541, .inl (cy 2, 22, .inr (.inr (.inr (.inr g2_1542))))), (mq, .inr (4, [.int mn, .ref ed, .int 0])), (oa, .inl (cy 3, 1, .inr (.inl o2_1538)))]) [3, 4, 5, 6, 0, 1, 8, 9, 10, 2, 7] (by decide) rfl
    exact hnext _ _ _ ⟨pe, ne, pa, ro, a1, a2, a3, a4, a5, a6, a7, a8, a9, mp, mq, b1, b2, b3, b4, b5, qx_1541, mc, mx_1540, mn, f3_1536, f4_1537, f0, o2_1538, g2_1542, hP, hD⟩ hS (lv_sub hl [0, 3, 4, 5, 6] rfl)
set_option maxHeartbeats 4000000 in
set_option maxRecDepth 100000 in
theorem law_step_20 {p : Program} {l : Launch} {e : Env} {s : State} {m : MethodId} {below : List Frame} {meth : Method} {c : Code} {D : va_G} {cy : Nat → ClassId} {ed b : Nat} {A : Nat → Prop} {Q : State → Prop} (C0 : zx_LW p l s m c D cy ed b A) {h m0 oa : Nat} {H : Heap} {locs : List Loc} {ls : Array Slot} (h0 : zx_S20 D cy ed A h m0 oa H) (hS : va_S A s.heap H locs) (hl : lv_has ls 9 [(5, .int 120), (3, .ref oa), (2, .ref m0), (1, .ref h), (0, .ref b)])
    (hnext : ∀ (H : Heap) (locs : List Loc) (ls : Array Slot), zx_S21 D cy ed A h m0 oa H → va_S A s.heap H locs → lv_has ls 9 [(5, .int 126), (3, .ref oa), (2, .ref m0), (1, .ref h), (0, .ref b)] → W p l e zx_R s m #[Value.ref b] below meth c H locs 128 2207 Q (F0 m 28 ls [])) :
    W p l e zx_R s m #[Value.ref b] below meth c H locs 103 1947 Q (F0 m 28 ls []) := by
  obtain ⟨hx, hb, hml, hst, hown, hts, hX, hbl, hbA, hA, hK, hZ, hN⟩ := C0
  obtain ⟨pe, ne, pa, ro, a1, a2, a3, a4, a5, a6, a7, a8, a9, mp, mq, b1, b2, b3, b4, b5, ep, mc, mm, mn, f1, f2, f0, og, gp, hP, hD⟩ := h0
  refine lv_iload hx hb dL_law_28 (lv_at hl 0 rfl) ?_
  refine lv_aload_n hx hb dL_law_30 rfl (lv_at hl 4 rfl) ?_
  refine va_slen hx hb hX hbl hbA hS dL_law_31 ?_
  refine lv_topi (fun y9 ey9 => ?_)
  obtain rfl : y9 = 3072 := ey9.trans (by decide)
  refine lv_bipush (v := 6) hx hb dL_law_32 (by decide) ?_
  refine lv_isub hx hb dL_law_34 ?_
  refine lv_topi (fun y9 ey9 => ?_)
  obtain rfl : y9 = 3066 := by rw [ey9] <;> decide
  refine lv_icmp_gt (tgt := 2548) hx hb dL_law_35 (by decide) (fun c_1548 => absurd c_1548 (by decide)) (fun _ => ?_)
  refine lv_aload_n hx hb dL_law_38 rfl (lv_at hl 4 rfl) ?_
  refine lv_iload hx hb dL_law_39 (lv_at hl 0 rfl) ?_
  refine va_sld hx hb hX hbl hbA hS (zx_bn (by decide)) dL_law_41 ?_
  refine lv_topi (fun y9 ey9 => ?_)
  obtain rfl : y9 = 7 := ey9.trans (by decide)
  refine lv_bipush (v := 63) hx hb dL_law_42 (by decide) ?_
  refine lv_iand hx hb dL_law_44 ?_
  refine lv_topi (fun y9 ey9 => ?_)
  obtain rfl : y9 = 7 := by rw [ey9] <;> decide
  refine lv_tableIn (off := 535) (tgt := 580) hx hb dL_law_45 (by decide) (by decide) (by decide) (by decide) ?_
  refine lv_aload_n hx hb dL_law_580 rfl (lv_at hl 3 rfl) ?_
  refine lv_aload_n hx hb dL_law_581 rfl (lv_at hl 4 rfl) ?_
  refine lv_iload hx hb dL_law_582 (lv_at hl 0 rfl) ?_
  refine lv_iconst (v := 1) hx hb dL_law_584 (by decide) ?_
  refine lv_iadd hx hb dL_law_585 ?_
  refine lv_topi (fun y9 ey9 => ?_)
  obtain rfl : y9 = 121 := by rw [ey9] <;> decide
  refine va_sld hx hb hX hbl hbA hS (zx_bn (by decide)) dL_law_586 ?_
  refine lv_topi (fun y9 ey9 => ?_)
  obtain rfl : y9 = 0 := ey9.trans (by decide)
  refine lv_aload_n hx hb dL_law_587 rfl (lv_at hl 4 rfl) ?_
  refine lv_iload hx hb dL_law_588 (lv_at hl 0 rfl) ?_
  refine lv_iconst (v := 2) hx hb dL_law_590 (by decide) ?_
  refine lv_iadd hx hb dL_law_591 ?_
  refine lv_topi (fun y9 ey9 => ?_)
  obtain rfl : y9 = 122 := by rw [ey9] <;> decide
  refine va_sld hx hb hX hbl hbA hS (zx_bn (by decide)) dL_law_592 ?_
  refine lv_topi (fun y9 ey9 => ?_)
  obtain rfl : y9 = 0 := ey9.trans (by decide)
  refine lv_aload_n hx hb dL_law_593 rfl (lv_at hl 4 rfl) ?_
  refine lv_iload hx hb dL_law_594 (lv_at hl 0 rfl) ?_
  refine lv_iconst (v := 3) hx hb dL_law_596 (by decide) ?_
  refine lv_iadd hx hb dL_law_597 ?_
  refine lv_topi (fun y9 ey9 => ?_)
  obtain rfl : y9 = 123 := by rw [ey9] <;> decide
  refine va_sld hx hb hX hbl hbA hS (zx_bn (by decide)) dL_law_598 ?_
  refine lv_topi (fun y9 ey9 => ?_)
  obtain rfl : y9 = 0 := ey9.trans (by decide)
  refine lv_aload_n hx hb dL_law_599 rfl (lv_at hl 1 rfl) ?_
  have hPc := hP.sub (ws' := [(h, .inr (13, [.ref pe, .ref ne, .ref pa, .ref ro, .int 0])), (pe, .inr (9, [.int 20, .ref a1, .ref a2, .ref a3, .ref a4, .ref a5, .ref a6, .ref a7, .ref a8, .ref a9])), (pa, .inr (4, [.int mc, .ref ed, .int 0])), (oa, .inl (cy 3, 1, .inr (.inl og)))]) [0, 1, 5, 10] rfl
  have hDc := hD.sub (ws' := [(h, .inr (13, [.ref pe, .ref ne, .ref pa, .ref ro, .int 0])), (pe, .inr (9, [.int 20, .ref a1, .ref a2, .ref a3, .ref a4, .ref a5, .ref a6, .ref a7, .ref a8, .ref a9])), (pa, .inr (4, [.int mc, .ref ed, .int 0])), (oa, .inl (cy 3, 1, .inr (.inl og)))]) [0, 1, 5, 10] (by decide) rfl
  have hFc := va_free (wc := [(h, .inr (13, [.ref pe, .ref ne, .ref pa, .ref ro, .int 0])), (pe, .inr (9, [.int 20, .ref a1, .ref a2, .ref a3, .ref a4, .ref a5, .ref a6, .ref a7, .ref a8, .ref a9])), (pa, .inr (4, [.int mc, .ref ed, .int 0])), (oa, .inl (cy 3, 1, .inr (.inl og)))]) hD hS hA [0, 1, 5, 10] rfl
  refine vx_calli (vx_runSX (As := [.ref h, .int 0, .int 0, .int 0, .ref oa]) (rest := []) ⟨hx, hb, hml, hown, hts⟩ (c_L_begin_0 l hst D cy ed H.size h pe ne pa ro 0 a1 a2 a3 a4 a5 a6 a7 a8 a9 mc oa og) (vx_cwSW 5 hts (zx_GS mm_565 mm_566 mm_70 mm_567) rfl rfl rfl (by decide +kernel) ⟨(Nat.le_of_ble_eq_true rfl), (Nat.le_of_ble_eq_true rfl)⟩) ⟨zx_blind, zx_give hPc hK hDc hS hFc hZ hN⟩ rfl rfl hl.1 rfl (lv_room (Nat.le_of_ble_eq_true rfl)) dL_law_600 ⟨(Nat.le_of_ble_eq_true rfl), (Nat.le_of_ble_eq_true rfl)⟩) hS (fun q _ h => hFc q h) hFc (fun q _ h => hFc q h) (fun E9 ce9 q9 _ t H locs ht hvm _ hBX hz1 hk1 hS hce hcv hcl => ?_) (fun r9 u t H locs ht hvm hw hB hz1 hk1 hS => ?_)
  · exact hBX.elim
  ·
    obtain ⟨mx_1549, qx_1550, g2_1551, y_1552, rl_1553, fy_1554, o2_1555⟩ := u
    obtain ⟨rfl, h_1556⟩ := hw
    obtain ⟨hP, hD⟩ := zx_join (wr := [(a1, .inl (cy 0, 20, .inl f1)), (a2, .inl (cy 0, 20, .inl f2)), (ro, .inl (cy 0, 20, .inl f0)), (m0, .inr (20, [.int 0, .ref mp, .int 0, .ref b1, .ref b2, .ref b3, .ref b4, .ref b5, .ref mq])), (mp, .inr (4, [.int mm, .ref ep, .int 20])), (ep, .inl (cy 2, 22, .inr (.inr (.inr (.inr gp))))), (mq, .inr (4, [.int mn, .ref ed, .int 0]))]) (w1 := [(h, .inr (13, [.ref pe, .ref ne, .ref pa, .ref ro, .int 0])), (pe, .inr (9, [.int 20, .ref a1, .ref a2, .ref a3, .ref a4, .ref a5, .ref a6, .ref a7, .ref a8, .ref a9])), (pa, .inr (4, [.int mx_1549, .ref qx_1550, .int 1])), (qx_1550, .inl (cy 2, 10, .inr (.inr (.inr (.inr g2_1551))))), (y_1552, .inr (8, fy_1554)), (rl_1553, .inr (4, [.int 0, .ref ed, .int 0])), (oa, .inl (cy 3, 1, .inr (.inl o2_1555)))]) [0, 1, 5, 10] [2, 3, 4, 6, 7, 8, 9] rfl rfl (by decide) (by decide) hP hD hk1 hFc hB ht
    have hP : va_P D vwCl [(a1, .inl (cy 0, 20, .inl f1)), (a2, .inl (cy 0, 20, .inl f2)), (ro, .inl (cy 0, 20, .inl f0)), (m0, .inr (20, [.int 0, .ref mp, .int 0, .ref b1, .ref b2, .ref b3, .ref b4, .ref b5, .ref mq])), (mp, .inr (4, [.int mm, .ref ep, .int 20])), (ep, .inl (cy 2, 22, .inr (.inr (.inr (.inr gp))))), (mq, .inr (4, [.int mn, .ref ed, .int 0])), (h, .inr (13, [.ref pe, .ref ne, .ref pa, .ref ro, .int 0])), (pe, .inr (9, [.int 20, .ref a1, .ref a2, .ref a3, .ref a4, .ref a5, .ref a6, .ref a7, .ref a8, .ref a9])), (pa, .inr (4, [.int mx_1549, .ref qx_1550, .int 1])), (qx_1550, .inl (cy 2, 10, .inr (.inr (.inr (.inr g2_1551))))), (y_1552, .inr (8, fy_1554)), (rl_1553, .inr (4, [.int 0, .ref ed, .int 0])), (oa, .inl (cy 3, 1, .inr (.inl o2_1555)))] H := hP
    have hD : va_D A [(a1, .inl (cy 0, 20, .inl f1)), (a2, .inl (cy 0, 20, .inl f2)), (ro, .inl (cy 0, 20, .inl f0)), (m0, .inr (20, [.int 0, .ref mp, .int 0, .ref b1, .ref b2, .ref b3, .ref b4, .ref b5, .ref mq])), (mp, .inr (4, [.int mm, .ref ep, .int 20])), (ep, .inl (cy 2, 22, .inr (.inr (.inr (.inr gp))))), (mq, .inr (4, [.int mn, .ref ed, .int 0])), (h, .inr (13, [.ref pe, .ref ne, .ref pa, .ref ro, .int 0])), (pe, .inr (9, [.int 20, .ref a1, .ref a2, .ref a3, .ref a4, .ref a5, .ref a6, .ref a7, .ref a8, .ref a9])), (pa, .inr (4, [.int mx_1549, .ref qx_1550, .int 1])), (qx_1550, .inl (cy 2, 10, .inr (.inr (.inr (.inr g2_1551))))), (y_1552, .inr (8, fy_1554)), (rl_1553, .inr (4, [.int 0, .ref ed, .int 0])), (oa, .inl (cy 3, 1, .inr (.inl o2_1555)))] := hD
    refine W.widen (k := 118) (n := 2117) (Nat.le_of_ble_eq_true rfl) (Nat.le_of_ble_eq_true rfl) ?_
    obtain ⟨hs_1557, hs_1558, hs_1559⟩ := h_1556
    refine lv_istore (lv' := [(6, .int 0), (5, .int 120), (3, .ref oa), (2, .ref m0), (1, .ref h), (0, .ref b)]) hx hb dL_law_603 hl (by decide) rfl (fun ls hl => ?_)
    refine lv_aload_n hx hb dL_law_605 rfl (lv_at hl 3 rfl) ?_
    refine lv_aload_n hx hb dL_law_606 rfl (lv_at hl 5 rfl) ?_
    refine lv_iload hx hb dL_law_607 (lv_at hl 1 rfl) ?_
    refine lv_iconst (v := 1) hx hb dL_law_609 (by decide) ?_
    refine lv_iadd hx hb dL_law_610 ?_
    refine lv_topi (fun y9 ey9 => ?_)
    obtain rfl : y9 = 121 := by rw [ey9] <;> decide
    refine va_sld hx hb hX hbl hbA hS (zx_bn (by decide)) dL_law_611 ?_
    refine lv_topi (fun y9 ey9 => ?_)
    obtain rfl : y9 = 0 := ey9.trans (by decide)
    refine lv_aload_n hx hb dL_law_612 rfl (lv_at hl 5 rfl) ?_
    refine lv_iload hx hb dL_law_613 (lv_at hl 1 rfl) ?_
    refine lv_iconst (v := 2) hx hb dL_law_615 (by decide) ?_
    refine lv_iadd hx hb dL_law_616 ?_
    refine lv_topi (fun y9 ey9 => ?_)
    obtain rfl : y9 = 122 := by rw [ey9] <;> decide
    refine va_sld hx hb hX hbl hbA hS (zx_bn (by decide)) dL_law_617 ?_
    refine lv_topi (fun y9 ey9 => ?_)
    obtain rfl : y9 = 0 := ey9.trans (by decide)
    refine lv_aload_n hx hb dL_law_618 rfl (lv_at hl 5 rfl) ?_
    refine lv_iload hx hb dL_law_619 (lv_at hl 1 rfl) ?_
    refine lv_iconst (v := 3) hx hb dL_law_621 (by decide) ?_
    refine lv_iadd hx hb dL_law_622 ?_
    refine lv_topi (fun y9 ey9 => ?_)
    obtain rfl : y9 = 123 := by rw [ey9] <;> decide
    refine va_sld hx hb hX hbl hbA hS (zx_bn (by decide)) dL_law_623 ?_
    refine lv_topi (fun y9 ey9 => ?_)
    obtain rfl : y9 = 0 := ey9.trans (by decide)
    have hPc := hP.sub (ws' := [(m0, .inr (20, [.int 0, .ref mp, .int 0, .ref b1, .ref b2, .ref b3, .ref b4, .ref b5, .ref mq])), (mp, .inr (4, [.int mm, .ref ep, .int 20])), (mq, .inr (4, [.int mn, .ref ed, .int 0]))]) [3, 4, 6] rfl
    have hDc := hD.sub (ws' := [(m0, .inr (20, [.int 0, .ref mp, .int 0, .ref b1, .ref b2, .ref b3, .ref b4, .ref b5, .ref mq])), (mp, .inr (4, [.int mm, .ref ep, .int 20])), (mq, .inr (4, [.int mn, .ref ed, .int 0]))]) [3, 4, 6] (by decide) rfl
    have hFc := va_free (wc := [(m0, .inr (20, [.int 0, .ref mp, .int 0, .ref b1, .ref b2, .ref b3, .ref b4, .ref b5, .ref mq])), (mp, .inr (4, [.int mm, .ref ep, .int 20])), (mq, .inr (4, [.int mn, .ref ed, .int 0]))]) hD hS hA [3, 4, 6] rfl
    refine va_calli (va_runV (As := [.int 0, .int 0, .int 0]) (rest := []) ⟨hx, hb, hml, hown, hts⟩ (c_X15_begin_0 l hst D cy ed H.size m0 mp mq b1 b2 b3 b4 b5 0 0 mm ep mn) (cwV 3 hts (zx_GV mm_1779 mm_1780 mm_1781 mm_78 mm_1782) rfl rfl rfl (by decide +kernel) ⟨(Nat.le_of_ble_eq_true rfl), (Nat.le_of_ble_eq_true rfl)⟩) ⟨zx_blind, va_recv hK hPc (ci := 20) (q0 := 0) rfl rfl, zx_give hPc hK hDc hS hFc hZ hN⟩ rfl rfl hl.1 rfl (lv_room (Nat.le_of_ble_eq_true rfl)) dL_law_624 ⟨(Nat.le_of_ble_eq_true rfl), (Nat.le_of_ble_eq_true rfl)⟩) hS (fun q _ h => hFc q h) hFc (fun r9 u t H1 locs ht hvm hw hB hz1 hk1 hS => ?_)
    obtain ⟨mx_1560, qx_1561, g2_1562, y_1563, rl_1564, fy_1565⟩ := u
    obtain ⟨rfl, h_1566⟩ := hw
    obtain ⟨hP, hD⟩ := zx_join (wr := [(a1, .inl (cy 0, 20, .inl f1)), (a2, .inl (cy 0, 20, .inl f2)), (ro, .inl (cy 0, 20, .inl f0)), (ep, .inl (cy 2, 22, .inr (.inr (.inr (.inr gp))))), (h, .inr (13, [.ref pe, .ref ne, .ref pa, .ref ro, .int 0])), (pe, .inr (9, [.int 20, .ref a1, .ref a2, .ref a3, .ref a4, .ref a5, .ref a6, .ref a7, .ref a8, .ref a9])), (pa, .inr (4, [.int mx_1549, .ref qx_1550, .int 1])), (qx_1550, .inl (cy 2, 10, .inr (.inr (.inr (.inr g2_1551))))), (y_1552, .inr (8, fy_1554)), (rl_1553, .inr (4, [.int 0, .ref ed, .int 0])), (oa, .inl (cy 3, 1, .inr (.inl o2_1555)))]) (w1 := [(m0, .inr (20, [.int 0, .ref mp, .int 0, .ref b1, .ref b2, .ref b3, .ref b4, .ref b5, .ref mq])), (mp, .inr (4, [.int mm, .ref ep, .int 20])), (mq, .inr (4, [.int mx_1560, .ref qx_1561, .int 1])), (qx_1561, .inl (cy 2, 10, .inr (.inr (.inr (.inr g2_1562))))), (y_1563, .inr (16, fy_1565)), (rl_1564, .inr (4, [.int 0, .ref ed, .int 0]))]) [3, 4, 6] [0, 1, 2, 5, 7, 8, 9, 10, 11, 12, 13] rfl rfl (by decide) (by decide) hP hD hk1 hFc hB ht
    generalize H1 = H at hP hS ⊢
    have hP : va_P D vwCl [(a1, .inl (cy 0, 20, .inl f1)), (a2, .inl (cy 0, 20, .inl f2)), (ro, .inl (cy 0, 20, .inl f0)), (ep, .inl (cy 2, 22, .inr (.inr (.inr (.inr gp))))), (h, .inr (13, [.ref pe, .ref ne, .ref pa, .ref ro, .int 0])), (pe, .inr (9, [.int 20, .ref a1, .ref a2, .ref a3, .ref a4, .ref a5, .ref a6, .ref a7, .ref a8, .ref a9])), (pa, .inr (4, [.int mx_1549, .ref qx_1550, .int 1])), (qx_1550, .inl (cy 2, 10, .inr (.inr (.inr (.inr g2_1551))))), (y_1552, .inr (8, fy_1554)), (rl_1553, .inr (4, [.int 0, .ref ed, .int 0])), (oa, .inl (cy 3, 1, .inr (.inl o2_1555))), (m0, .inr (20, [.int 0, .ref mp, .int 0, .ref b1, .ref b2, .ref b3, .ref b4, .ref b5, .ref mq])), (mp, .inr (4, [.int mm, .ref ep, .int 20])), (mq, .inr (4, [.int mx_1560, .ref qx_1561, .int 1])), (qx_1561, .inl (cy 2, 10, .inr (.inr (.inr (.inr g2_1562))))), (y_1563, .inr (16, fy_1565)), (rl_1564, .inr (4, [.int 0, .ref ed, .int 0]))] H := hP
    have hD : va_D A [(a1, .inl (cy 0, 20, .inl f1)), (a2, .inl (cy 0, 20, .inl f2)), (ro, .inl (cy 0, 20, .inl f0)), (ep, .inl (cy 2, 22, .inr (.inr (.inr (.inr gp))))), (h, .inr (13, [.ref pe, .ref ne, .ref pa, .ref ro, .int 0])), (pe, .inr (9, [.int 20, .ref a1, .ref a2, .ref a3, .ref a4, .ref a5, .ref a6, .ref a7, .ref a8, .ref a9])), (pa, .inr (4, [.int mx_1549, .ref qx_1550, .int 1])), (qx_1550, .inl (cy 2, 10, .inr (.inr (.inr (.inr g2_1551))))), (y_1552, .inr (8, fy_1554)), (rl_1553, .inr (4, [.int 0, .ref ed, .int 0])), (oa, .inl (cy 3, 1, .inr (.inl o2_1555))), (m0, .inr (20, [.int 0, .ref mp, .int 0, .ref b1, .ref b2, .ref b3, .ref b4, .ref b5, .ref mq])), (mp, .inr (4, [.int mm, .ref ep, .int 20])), (mq, .inr (4, [.int mx_1560, .ref qx_1561, .int 1])), (qx_1561, .inl (cy 2, 10, .inr (.inr (.inr (.inr g2_1562))))), (y_1563, .inr (16, fy_1565)), (rl_1564, .inr (4, [.int 0, .ref ed, .int 0]))] := hD
    refine W.widen (k := 128) (n := 2207) (Nat.le_of_ble_eq_true rfl) (Nat.le_of_ble_eq_true rfl) ?_
    obtain ⟨hs_1567, hs_1568⟩ := h_1566
    refine lv_istore (lv' := [(7, .int 0), (6, .int 0), (5, .int 120), (3, .ref oa), (2, .ref m0), (1, .ref h), (0, .ref b)]) hx hb dL_law_627 hl (by decide) rfl (fun ls hl => ?_)
    refine lv_goto (tgt := 2542) hx hb dL_law_629 (by decide) ?_
    refine lv_iinc (v := 126) (lv' := [(5, .int 126), (7, .int 0), (6, .int 0), (3, .ref oa), (2, .ref m0), (1, .ref h), (0, .ref b)]) hx hb dL_law_2542 hl (k := 2) rfl (by decide) (by decide) rfl (fun ls hl => ?_)
    refine lv_goto (tgt := 28) hx hb dL_law_2545 (by decide) ?_
    have hP := hP.sub (ws' := [(h, .inr (13, [.ref pe, .ref ne, .ref pa, .ref ro, .int 0])), (pe, .inr (9, [.int 20, .ref a1, .ref a2, .ref a3, .ref a4, .ref a5, .ref a6, .ref a7, .ref a8, .ref a9])), (a1, .inl (cy 0, 20, .inl f1)), (a2, .inl (cy 0, 20, .inl f2)), (ro, .inl (cy 0, 20, .inl f0)), (pa, .inr (4, [.int mx_1549, .ref qx_1550, .int 1])), (qx_1550, .inl (cy 2, 10, .inr (.inr (.inr (.inr g2_1551))))), (m0, .inr (20, [.int 0, .ref mp, .int 0, .ref b1, .ref b2, .ref b3, .ref b4, .ref b5, .ref mq])), (mp, .inr (4, [.int mm, .ref ep, .int 20])), (ep, .inl (cy 2, 22, .inr (.inr (.inr (.inr gp))))), (mq, .inr (4, [.int mx_1560, .ref qx_1561, .int 1])), (qx_1561, .inl (cy 2, 10, .inr (.inr (.inr (.inr g2_1562))))), (oa, .inl (cy 3, 1, .inr (.inl o2_1555))), (y_1552, .inr (8, fy_1554)), (rl_1553, .inr (4, [.int 0, .ref ed, .int 0])), (y_1563, .inr (16, fy_1565)), (rl_1564, .inr (4, [.int 0, .ref ed, .int 0]))]) [4, 5, 0, 1, 2, 6, 7, 11, 12, 3, 13, 14, 10, 8, 9, 15, 16] rfl
    have hD := hD.sub (ws' := [(h, .inr (13, [.ref pe, .ref ne, .ref pa, .ref ro, .int 0])), (pe, .inr (9, [.int 20, .ref a1, .ref a2, .ref a3, .ref a4, .ref a5, .ref a6, .ref a7, .ref a8, .ref a9])), (a1, .inl (cy 0, 20, .inl f1)), (a2, .inl (cy 0, 20, .inl f2)), (ro, .inl (cy 0, 20, .inl f0)), (pa, .inr (4, [.int mx_1549, .ref qx_1550, .int 1])), (qx_1550, .inl (cy 2, 10, .inr (.inr (.inr (.inr g2_1551))))), (m0, .inr (20, [.int 0, .ref mp, .int 0, .ref b1, .ref b2, .ref b3, .ref b4, .ref b5, .ref mq])), (mp, .inr (4, [.int mm, .ref ep, .int 20])), (ep, .inl (cy 2, 22, .inr (.inr (.inr (.inr gp))))), (mq, .inr (4, [.int mx_1560, .ref qx_1561, .int 1])), (qx_1561, .inl (cy 2, 10, .inr (.inr (.inr (.inr g2_1562))))), (oa, .inl (cy 3, 1, .inr (.inl o2_1555))), (y_1552, .inr (8, fy_1554)), (rl_1553, .inr (4, [.int 0, .ref ed, .int 0])), (y_1563, .inr (16, fy_1565)), (rl_1564, .inr (4, [.int 0, .ref ed, .int 0]))]) [4, 5, 0, 1, 2, 6, 7, 11, 12, 3, 13, 14, 10, 8, 9, 15, 16] (by decide) rfl
    exact hnext _ _ _ ⟨pe, ne, pa, ro, a1, a2, a3, a4, a5, a6, a7, a8, a9, mp, mq, b1, b2, b3, b4, b5, ep, qx_1550, qx_1561, mx_1549, mm, mx_1560, f1, f2, f0, o2_1555, gp, g2_1551, g2_1562, y_1552, rl_1553, fy_1554, y_1563, rl_1564, fy_1565, hP, hD, hs_1559, hs_1558, hs_1568, hs_1567⟩ hS (lv_sub hl [0, 3, 4, 5, 6] rfl)
set_option maxHeartbeats 4000000 in
set_option maxRecDepth 100000 in
theorem law_step_21 {p : Program} {l : Launch} {e : Env} {s : State} {m : MethodId} {below : List Frame} {meth : Method} {c : Code} {D : va_G} {cy : Nat → ClassId} {ed b : Nat} {A : Nat → Prop} {Q : State → Prop} (C0 : zx_LW p l s m c D cy ed b A) {h m0 oa : Nat} {H : Heap} {locs : List Loc} {ls : Array Slot} (h0 : zx_S21 D cy ed A h m0 oa H) (hS : va_S A s.heap H locs) (hl : lv_has ls 9 [(5, .int 126), (3, .ref oa), (2, .ref m0), (1, .ref h), (0, .ref b)])
    (hnext : ∀ (H : Heap) (locs : List Loc) (ls : Array Slot), zx_S22 D cy ed A h m0 oa H → va_S A s.heap H locs → lv_has ls 9 [(5, .int 132), (3, .ref oa), (2, .ref m0), (1, .ref h), (0, .ref b)] → W p l e zx_R s m #[Value.ref b] below meth c H locs 151 2467 Q (F0 m 28 ls [])) :
    W p l e zx_R s m #[Value.ref b] below meth c H locs 128 2207 Q (F0 m 28 ls []) := by
  obtain ⟨hx, hb, hml, hst, hown, hts, hX, hbl, hbA, hA, hK, hZ, hN⟩ := C0
  obtain ⟨pe, ne, pa, ro, a1, a2, a3, a4, a5, a6, a7, a8, a9, mp, mq, b1, b2, b3, b4, b5, ep, el, eq, mc, mm, mn, f1, f2, f0, og, gp, g, gq, y0, r0, q0, z0, v0, u0, hP, hD, hxe0, hxq0, hme0, hmq0⟩ := h0
  refine lv_iload hx hb dL_law_28 (lv_at hl 0 rfl) ?_
  refine lv_aload_n hx hb dL_law_30 rfl (lv_at hl 4 rfl) ?_
  refine va_slen hx hb hX hbl hbA hS dL_law_31 ?_
  refine lv_topi (fun y9 ey9 => ?_)
  obtain rfl : y9 = 3072 := ey9.trans (by decide)
  refine lv_bipush (v := 6) hx hb dL_law_32 (by decide) ?_
  refine lv_isub hx hb dL_law_34 ?_
  refine lv_topi (fun y9 ey9 => ?_)
  obtain rfl : y9 = 3066 := by rw [ey9] <;> decide
  refine lv_icmp_gt (tgt := 2548) hx hb dL_law_35 (by decide) (fun c_1569 => absurd c_1569 (by decide)) (fun _ => ?_)
  refine lv_aload_n hx hb dL_law_38 rfl (lv_at hl 4 rfl) ?_
  refine lv_iload hx hb dL_law_39 (lv_at hl 0 rfl) ?_
  refine va_sld hx hb hX hbl hbA hS (zx_bn (by decide)) dL_law_41 ?_
  refine lv_topi (fun y9 ey9 => ?_)
  obtain rfl : y9 = 7 := ey9.trans (by decide)
  refine lv_bipush (v := 63) hx hb dL_law_42 (by decide) ?_
  refine lv_iand hx hb dL_law_44 ?_
  refine lv_topi (fun y9 ey9 => ?_)
  obtain rfl : y9 = 7 := by rw [ey9] <;> decide
  refine lv_tableIn (off := 535) (tgt := 580) hx hb dL_law_45 (by decide) (by decide) (by decide) (by decide) ?_
  refine lv_aload_n hx hb dL_law_580 rfl (lv_at hl 3 rfl) ?_
  refine lv_aload_n hx hb dL_law_581 rfl (lv_at hl 4 rfl) ?_
  refine lv_iload hx hb dL_law_582 (lv_at hl 0 rfl) ?_
  refine lv_iconst (v := 1) hx hb dL_law_584 (by decide) ?_
  refine lv_iadd hx hb dL_law_585 ?_
  refine lv_topi (fun y9 ey9 => ?_)
  obtain rfl : y9 = 127 := by rw [ey9] <;> decide
  refine va_sld hx hb hX hbl hbA hS (zx_bn (by decide)) dL_law_586 ?_
  refine lv_topi (fun y9 ey9 => ?_)
  obtain rfl : y9 = 0 := ey9.trans (by decide)
  refine lv_aload_n hx hb dL_law_587 rfl (lv_at hl 4 rfl) ?_
  refine lv_iload hx hb dL_law_588 (lv_at hl 0 rfl) ?_
  refine lv_iconst (v := 2) hx hb dL_law_590 (by decide) ?_
  refine lv_iadd hx hb dL_law_591 ?_
  refine lv_topi (fun y9 ey9 => ?_)
  obtain rfl : y9 = 128 := by rw [ey9] <;> decide
  refine va_sld hx hb hX hbl hbA hS (zx_bn (by decide)) dL_law_592 ?_
  refine lv_topi (fun y9 ey9 => ?_)
  obtain rfl : y9 = 0 := ey9.trans (by decide)
  refine lv_aload_n hx hb dL_law_593 rfl (lv_at hl 4 rfl) ?_
  refine lv_iload hx hb dL_law_594 (lv_at hl 0 rfl) ?_
  refine lv_iconst (v := 3) hx hb dL_law_596 (by decide) ?_
  refine lv_iadd hx hb dL_law_597 ?_
  refine lv_topi (fun y9 ey9 => ?_)
  obtain rfl : y9 = 129 := by rw [ey9] <;> decide
  refine va_sld hx hb hX hbl hbA hS (zx_bn (by decide)) dL_law_598 ?_
  refine lv_topi (fun y9 ey9 => ?_)
  obtain rfl : y9 = 0 := ey9.trans (by decide)
  refine lv_aload_n hx hb dL_law_599 rfl (lv_at hl 1 rfl) ?_
  have hPc := hP.sub (ws' := [(h, .inr (13, [.ref pe, .ref ne, .ref pa, .ref ro, .int 0])), (pe, .inr (9, [.int 20, .ref a1, .ref a2, .ref a3, .ref a4, .ref a5, .ref a6, .ref a7, .ref a8, .ref a9])), (pa, .inr (4, [.int mc, .ref el, .int 1])), (el, .inl (cy 2, 10, .inr (.inr (.inr (.inr g))))), (oa, .inl (cy 3, 1, .inr (.inl og)))]) [0, 1, 5, 6, 12] rfl
  have hDc := hD.sub (ws' := [(h, .inr (13, [.ref pe, .ref ne, .ref pa, .ref ro, .int 0])), (pe, .inr (9, [.int 20, .ref a1, .ref a2, .ref a3, .ref a4, .ref a5, .ref a6, .ref a7, .ref a8, .ref a9])), (pa, .inr (4, [.int mc, .ref el, .int 1])), (el, .inl (cy 2, 10, .inr (.inr (.inr (.inr g))))), (oa, .inl (cy 3, 1, .inr (.inl og)))]) [0, 1, 5, 6, 12] (by decide) rfl
  have hFc := va_free (wc := [(h, .inr (13, [.ref pe, .ref ne, .ref pa, .ref ro, .int 0])), (pe, .inr (9, [.int 20, .ref a1, .ref a2, .ref a3, .ref a4, .ref a5, .ref a6, .ref a7, .ref a8, .ref a9])), (pa, .inr (4, [.int mc, .ref el, .int 1])), (el, .inl (cy 2, 10, .inr (.inr (.inr (.inr g))))), (oa, .inl (cy 3, 1, .inr (.inl og)))]) hD hS hA [0, 1, 5, 6, 12] rfl
  refine vx_calli (vx_runSX (As := [.ref h, .int 0, .int 0, .int 0, .ref oa]) (rest := []) ⟨hx, hb, hml, hown, hts⟩ (c_L_begin_1 l hst D cy ed H.size h pe ne pa ro 0 a1 a2 a3 a4 a5 a6 a7 a8 a9 mc el g oa og) (vx_cwSW 5 hts (zx_GS mm_565 mm_566 mm_70 mm_567) rfl rfl rfl (by decide +kernel) ⟨(Nat.le_of_ble_eq_true rfl), (Nat.le_of_ble_eq_true rfl)⟩) ⟨zx_blind, zx_give hPc hK hDc hS hFc hZ hN⟩ rfl rfl hl.1 rfl (lv_room (Nat.le_of_ble_eq_true rfl)) dL_law_600 ⟨(Nat.le_of_ble_eq_true rfl), (Nat.le_of_ble_eq_true rfl)⟩) hS (fun q _ h => hFc q h) hFc (fun q _ h => hFc q h) (fun E9 ce9 q9 _ t H locs ht hvm _ hBX hz1 hk1 hS hce hcv hcl => ?_) (fun r9 u t H locs ht hvm hw hB hz1 hk1 hS => ?_)
  · exact hBX.elim
  ·
    obtain ⟨mx_1570, qx_1571, g2_1572, y_1573, rl_1574, fy_1575, o2_1576⟩ := u
    obtain ⟨rfl, h_1577⟩ := hw
    obtain ⟨hP, hD⟩ := zx_join (wr := [(a1, .inl (cy 0, 20, .inl f1)), (a2, .inl (cy 0, 20, .inl f2)), (ro, .inl (cy 0, 20, .inl f0)), (m0, .inr (20, [.int 0, .ref mp, .int 0, .ref b1, .ref b2, .ref b3, .ref b4, .ref b5, .ref mq])), (mp, .inr (4, [.int mm, .ref ep, .int 20])), (ep, .inl (cy 2, 22, .inr (.inr (.inr (.inr gp))))), (mq, .inr (4, [.int mn, .ref eq, .int 1])), (eq, .inl (cy 2, 10, .inr (.inr (.inr (.inr gq))))), (y0, .inr (8, q0)), (r0, .inr (4, [.int 0, .ref ed, .int 0])), (z0, .inr (16, u0)), (v0, .inr (4, [.int 0, .ref ed, .int 0]))]) (w1 := [(h, .inr (13, [.ref pe, .ref ne, .ref pa, .ref ro, .int 0])), (pe, .inr (9, [.int 20, .ref a1, .ref a2, .ref a3, .ref a4, .ref a5, .ref a6, .ref a7, .ref a8, .ref a9])), (pa, .inr (4, [.int mx_1570, .ref qx_1571, .int 2])), (qx_1571, .inl (cy 2, 10, .inr (.inr (.inr (.inr g2_1572))))), (y_1573, .inr (8, fy_1575)), (rl_1574, .inr (4, [.int 0, .ref ed, .int 0])), (oa, .inl (cy 3, 1, .inr (.inl o2_1576)))]) [0, 1, 5, 6, 12] [2, 3, 4, 7, 8, 9, 10, 11, 13, 14, 15, 16] rfl rfl (by decide) (by decide) hP hD hk1 hFc hB ht
    have hP : va_P D vwCl [(a1, .inl (cy 0, 20, .inl f1)), (a2, .inl (cy 0, 20, .inl f2)), (ro, .inl (cy 0, 20, .inl f0)), (m0, .inr (20, [.int 0, .ref mp, .int 0, .ref b1, .ref b2, .ref b3, .ref b4, .ref b5, .ref mq])), (mp, .inr (4, [.int mm, .ref ep, .int 20])), (ep, .inl (cy 2, 22, .inr (.inr (.inr (.inr gp))))), (mq, .inr (4, [.int mn, .ref eq, .int 1])), (eq, .inl (cy 2, 10, .inr (.inr (.inr (.inr gq))))), (y0, .inr (8, q0)), (r0, .inr (4, [.int 0, .ref ed, .int 0])), (z0, .inr (16, u0)), (v0, .inr (4, [.int 0, .ref ed, .int 0])), (h, .inr (13, [.ref pe, .ref ne, .ref pa, .ref ro, .int 0])), (pe, .inr (9, [.int 20, .ref a1, .ref a2, .ref a3, .ref a4, .ref a5, .ref a6, .ref a7, .ref a8, .ref a9])), (pa, .inr (4, [.int mx_1570, .ref qx_1571, .int 2])), (qx_1571, .inl (cy 2, 10, .inr (.inr (.inr (.inr g2_1572))))), (y_1573, .inr (8, fy_1575)), (rl_1574, .inr (4, [.int 0, .ref ed, .int 0])), (oa, .inl (cy 3, 1, .inr (.inl o2_1576)))] H := hP
    have hD : va_D A [(a1, .inl (cy 0, 20, .inl f1)), (a2, .inl (cy 0, 20, .inl f2)), (ro, .inl (cy 0, 20, .inl f0)), (m0, .inr (20, [.int 0, .ref mp, .int 0, .ref b1, .ref b2, .ref b3, .ref b4, .ref b5, .ref mq])), (mp, .inr (4, [.int mm, .ref ep, .int 20])), (ep, .inl (cy 2, 22, .inr (.inr (.inr (.inr gp))))), (mq, .inr (4, [.int mn, .ref eq, .int 1])), (eq, .inl (cy 2, 10, .inr (.inr (.inr (.inr gq))))), (y0, .inr (8, q0)), (r0, .inr (4, [.int 0, .ref ed, .int 0])), (z0, .inr (16, u0)), (v0, .inr (4, [.int 0, .ref ed, .int 0])), (h, .inr (13, [.ref pe, .ref ne, .ref pa, .ref ro, .int 0])), (pe, .inr (9, [.int 20, .ref a1, .ref a2, .ref a3, .ref a4, .ref a5, .ref a6, .ref a7, .ref a8, .ref a9])), (pa, .inr (4, [.int mx_1570, .ref qx_1571, .int 2])), (qx_1571, .inl (cy 2, 10, .inr (.inr (.inr (.inr g2_1572))))), (y_1573, .inr (8, fy_1575)), (rl_1574, .inr (4, [.int 0, .ref ed, .int 0])), (oa, .inl (cy 3, 1, .inr (.inl o2_1576)))] := hD
    refine W.widen (k := 142) (n := 2377) (Nat.le_of_ble_eq_true rfl) (Nat.le_of_ble_eq_true rfl) ?_
    obtain ⟨hs_1578, hs_1579, hs_1580, hs_1581⟩ := h_1577
    refine lv_istore (lv' := [(6, .int 0), (5, .int 126), (3, .ref oa), (2, .ref m0), (1, .ref h), (0, .ref b)]) hx hb dL_law_603 hl (by decide) rfl (fun ls hl => ?_)
    refine lv_aload_n hx hb dL_law_605 rfl (lv_at hl 3 rfl) ?_
    refine lv_aload_n hx hb dL_law_606 rfl (lv_at hl 5 rfl) ?_
    refine lv_iload hx hb dL_law_607 (lv_at hl 1 rfl) ?_
    refine lv_iconst (v := 1) hx hb dL_law_609 (by decide) ?_
    refine lv_iadd hx hb dL_law_610 ?_
    refine lv_topi (fun y9 ey9 => ?_)
    obtain rfl : y9 = 127 := by rw [ey9] <;> decide
    refine va_sld hx hb hX hbl hbA hS (zx_bn (by decide)) dL_law_611 ?_
    refine lv_topi (fun y9 ey9 => ?_)
    obtain rfl : y9 = 0 := ey9.trans (by decide)
    refine lv_aload_n hx hb dL_law_612 rfl (lv_at hl 5 rfl) ?_
    refine lv_iload hx hb dL_law_613 (lv_at hl 1 rfl) ?_
    refine lv_iconst (v := 2) hx hb dL_law_615 (by decide) ?_
    refine lv_iadd hx hb dL_law_616 ?_
    refine lv_topi (fun y9 ey9 => ?_)
    obtain rfl : y9 = 128 := by rw [ey9] <;> decide
    refine va_sld hx hb hX hbl hbA hS (zx_bn (by decide)) dL_law_617 ?_
    refine lv_topi (fun y9 ey9 => ?_)
    obtain rfl : y9 = 0 := ey9.trans (by decide)
    refine lv_aload_n hx hb dL_law_618 rfl (lv_at hl 5 rfl) ?_
    refine lv_iload hx hb dL_law_619 (lv_at hl 1 rfl) ?_
    refine lv_iconst (v := 3) hx hb dL_law_621 (by decide) ?_
    refine lv_iadd hx hb dL_law_622 ?_
    refine lv_topi (fun y9 ey9 => ?_)
    obtain rfl : y9 = 129 := by rw [ey9] <;> decide
    refine va_sld hx hb hX hbl hbA hS (zx_bn (by decide)) dL_law_623 ?_
    refine lv_topi (fun y9 ey9 => ?_)
    obtain rfl : y9 = 0 := ey9.trans (by decide)
    have hPc := hP.sub (ws' := [(m0, .inr (20, [.int 0, .ref mp, .int 0, .ref b1, .ref b2, .ref b3, .ref b4, .ref b5, .ref mq])), (mp, .inr (4, [.int mm, .ref ep, .int 20])), (mq, .inr (4, [.int mn, .ref eq, .int 1])), (eq, .inl (cy 2, 10, .inr (.inr (.inr (.inr gq)))))]) [3, 4, 6, 7] rfl
    have hDc := hD.sub (ws' := [(m0, .inr (20, [.int 0, .ref mp, .int 0, .ref b1, .ref b2, .ref b3, .ref b4, .ref b5, .ref mq])), (mp, .inr (4, [.int mm, .ref ep, .int 20])), (mq, .inr (4, [.int mn, .ref eq, .int 1])), (eq, .inl (cy 2, 10, .inr (.inr (.inr (.inr gq)))))]) [3, 4, 6, 7] (by decide) rfl
    have hFc := va_free (wc := [(m0, .inr (20, [.int 0, .ref mp, .int 0, .ref b1, .ref b2, .ref b3, .ref b4, .ref b5, .ref mq])), (mp, .inr (4, [.int mm, .ref ep, .int 20])), (mq, .inr (4, [.int mn, .ref eq, .int 1])), (eq, .inl (cy 2, 10, .inr (.inr (.inr (.inr gq)))))]) hD hS hA [3, 4, 6, 7] rfl
    refine va_calli (va_runV (As := [.int 0, .int 0, .int 0]) (rest := []) ⟨hx, hb, hml, hown, hts⟩ (c_X15_begin_1 l hst D cy ed H.size m0 mp mq b1 b2 b3 b4 b5 0 0 mm ep mn eq gq) (cwV 3 hts (zx_GV mm_1779 mm_1780 mm_1781 mm_78 mm_1782) rfl rfl rfl (by decide +kernel) ⟨(Nat.le_of_ble_eq_true rfl), (Nat.le_of_ble_eq_true rfl)⟩) ⟨zx_blind, va_recv hK hPc (ci := 20) (q0 := 0) rfl rfl, zx_give hPc hK hDc hS hFc hZ hN⟩ rfl rfl hl.1 rfl (lv_room (Nat.le_of_ble_eq_true rfl)) dL_law_624 ⟨(Nat.le_of_ble_eq_true rfl), (Nat.le_of_ble_eq_true rfl)⟩) hS (fun q _ h => hFc q h) hFc (fun r9 u t H1 locs ht hvm hw hB hz1 hk1 hS => ?_)
    obtain ⟨mx_1582, qx_1583, g2_1584, y_1585, rl_1586, fy_1587⟩ := u
    obtain ⟨rfl, h_1588⟩ := hw
    obtain ⟨hP, hD⟩ := zx_join (wr := [(a1, .inl (cy 0, 20, .inl f1)), (a2, .inl (cy 0, 20, .inl f2)), (ro, .inl (cy 0, 20, .inl f0)), (ep, .inl (cy 2, 22, .inr (.inr (.inr (.inr gp))))), (y0, .inr (8, q0)), (r0, .inr (4, [.int 0, .ref ed, .int 0])), (z0, .inr (16, u0)), (v0, .inr (4, [.int 0, .ref ed, .int 0])), (h, .inr (13, [.ref pe, .ref ne, .ref pa, .ref ro, .int 0])), (pe, .inr (9, [.int 20, .ref a1, .ref a2, .ref a3, .ref a4, .ref a5, .ref a6, .ref a7, .ref a8, .ref a9])), (pa, .inr (4, [.int mx_1570, .ref qx_1571, .int 2])), (qx_1571, .inl (cy 2, 10, .inr (.inr (.inr (.inr g2_1572))))), (y_1573, .inr (8, fy_1575)), (rl_1574, .inr (4, [.int 0, .ref ed, .int 0])), (oa, .inl (cy 3, 1, .inr (.inl o2_1576)))]) (w1 := [(m0, .inr (20, [.int 0, .ref mp, .int 0, .ref b1, .ref b2, .ref b3, .ref b4, .ref b5, .ref mq])), (mp, .inr (4, [.int mm, .ref ep, .int 20])), (mq, .inr (4, [.int mx_1582, .ref qx_1583, .int 2])), (qx_1583, .inl (cy 2, 10, .inr (.inr (.inr (.inr g2_1584))))), (y_1585, .inr (16, fy_1587)), (rl_1586, .inr (4, [.int 0, .ref ed, .int 0]))]) [3, 4, 6, 7] [0, 1, 2, 5, 8, 9, 10, 11, 12, 13, 14, 15, 16, 17, 18] rfl rfl (by decide) (by decide) hP hD hk1 hFc hB ht
    generalize H1 = H at hP hS ⊢
    have hP : va_P D vwCl [(a1, .inl (cy 0, 20, .inl f1)), (a2, .inl (cy 0, 20, .inl f2)), (ro, .inl (cy 0, 20, .inl f0)), (ep, .inl (cy 2, 22, .inr (.inr (.inr (.inr gp))))), (y0, .inr (8, q0)), (r0, .inr (4, [.int 0, .ref ed, .int 0])), (z0, .inr (16, u0)), (v0, .inr (4, [.int 0, .ref ed, .int 0])), (h, .inr (13, [.ref pe, .ref ne, .ref pa, .ref ro, .int 0])), (pe, .inr (9, [.int 20, .ref a1, .ref a2, .ref a3, .ref a4, .ref a5, .ref a6, .ref a7, .ref a8, .ref a9])), (pa, .inr (4, [.int mx_1570, .ref qx_1571, .int 2])), (qx_1571, .inl (cy 2, 10, .inr (.inr (.inr (.inr g2_1572))))), (y_1573, .inr (8, fy_1575)), (rl_1574, .inr (4, [.int 0, .ref ed, .int 0])), (oa, .inl (cy 3, 1, .inr (.inl o2_1576))), (m0, .inr (20, [.int 0, .ref mp, .int 0, .ref b1, .ref b2, .ref b3, .ref b4, .ref b5, .ref mq])), (mp, .inr (4, [.int mm, .ref ep, .int 20])), (mq, .inr (4, [.int mx_1582, .ref qx_1583, .int 2])), (qx_1583, .inl (cy 2, 10, .inr (.inr (.inr (.inr g2_1584))))), (y_1585, .inr (16, fy_1587)), (rl_1586, .inr (4, [.int 0, .ref ed, .int 0]))] H := hP
    have hD : va_D A [(a1, .inl (cy 0, 20, .inl f1)), (a2, .inl (cy 0, 20, .inl f2)), (ro, .inl (cy 0, 20, .inl f0)), (ep, .inl (cy 2, 22, .inr (.inr (.inr (.inr gp))))), (y0, .inr (8, q0)), (r0, .inr (4, [.int 0, .ref ed, .int 0])), (z0, .inr (16, u0)), (v0, .inr (4, [.int 0, .ref ed, .int 0])), (h, .inr (13, [.ref pe, .ref ne, .ref pa, .ref ro, .int 0])), (pe, .inr (9, [.int 20, .ref a1, .ref a2, .ref a3, .ref a4, .ref a5, .ref a6, .ref a7, .ref a8, .ref a9])), (pa, .inr (4, [.int mx_1570, .ref qx_1571, .int 2])), (qx_1571, .inl (cy 2, 10, .inr (.inr (.inr (.inr g2_1572))))), (y_1573, .inr (8, fy_1575)), (rl_1574, .inr (4, [.int 0, .ref ed, .int 0])), (oa, .inl (cy 3, 1, .inr (.inl o2_1576))), (m0, .inr (20, [.int 0, .ref mp, .int 0, .ref b1, .ref b2, .ref b3, .ref b4, .ref b5, .ref mq])), (mp, .inr (4, [.int mm, .ref ep, .int 20])), (mq, .inr (4, [.int mx_1582, .ref qx_1583, .int 2])), (qx_1583, .inl (cy 2, 10, .inr (.inr (.inr (.inr g2_1584))))), (y_1585, .inr (16, fy_1587)), (rl_1586, .inr (4, [.int 0, .ref ed, .int 0]))] := hD
    refine W.widen (k := 151) (n := 2467) (Nat.le_of_ble_eq_true rfl) (Nat.le_of_ble_eq_true rfl) ?_
    obtain ⟨hs_1589, hs_1590, hs_1591⟩ := h_1588
    refine lv_istore (lv' := [(7, .int 1), (6, .int 0), (5, .int 126), (3, .ref oa), (2, .ref m0), (1, .ref h), (0, .ref b)]) hx hb dL_law_627 hl (by decide) rfl (fun ls hl => ?_)
    refine lv_goto (tgt := 2542) hx hb dL_law_629 (by decide) ?_
    refine lv_iinc (v := 132) (lv' := [(5, .int 132), (7, .int 1), (6, .int 0), (3, .ref oa), (2, .ref m0), (1, .ref h), (0, .ref b)]) hx hb dL_law_2542 hl (k := 2) rfl (by decide) (by decide) rfl (fun ls hl => ?_)
    refine lv_goto (tgt := 28) hx hb dL_law_2545 (by decide) ?_
    have hP := hP.sub (ws' := [(h, .inr (13, [.ref pe, .ref ne, .ref pa, .ref ro, .int 0])), (pe, .inr (9, [.int 20, .ref a1, .ref a2, .ref a3, .ref a4, .ref a5, .ref a6, .ref a7, .ref a8, .ref a9])), (a1, .inl (cy 0, 20, .inl f1)), (a2, .inl (cy 0, 20, .inl f2)), (ro, .inl (cy 0, 20, .inl f0)), (pa, .inr (4, [.int mx_1570, .ref qx_1571, .int 2])), (qx_1571, .inl (cy 2, 10, .inr (.inr (.inr (.inr g2_1572))))), (m0, .inr (20, [.int 0, .ref mp, .int 0, .ref b1, .ref b2, .ref b3, .ref b4, .ref b5, .ref mq])), (mp, .inr (4, [.int mm, .ref ep, .int 20])), (ep, .inl (cy 2, 22, .inr (.inr (.inr (.inr gp))))), (mq, .inr (4, [.int mx_1582, .ref qx_1583, .int 2])), (qx_1583, .inl (cy 2, 10, .inr (.inr (.inr (.inr g2_1584))))), (oa, .inl (cy 3, 1, .inr (.inl o2_1576))), (y0, .inr (8, q0)), (r0, .inr (4, [.int 0, .ref ed, .int 0])), (y_1573, .inr (8, fy_1575)), (rl_1574, .inr (4, [.int 0, .ref ed, .int 0])), (z0, .inr (16, u0)), (v0, .inr (4, [.int 0, .ref ed, .int 0])), (y_1585, .inr (16, fy_1587)), (rl_1586, .inr (4, [.int 0, .ref ed, .int 0]))]) [8, 9, 0, 1, 2, 10, 11, 15, 16, 3, 17, 18, 14, 4, 5, 12, 13, 6, 7, 19, 20] rfl
    have hD := hD.sub (ws' := [(h, .inr (13, [.ref pe, .ref ne, .ref pa, .ref ro, .int 0])), (pe, .inr (9, [.int 20, .ref a1, .ref a2, .ref a3, .ref a4, .ref a5, .ref a6, .ref a7, .ref a8, .ref a9])), (a1, .inl (cy 0, 20, .inl f1)), (a2, .inl (cy 0, 20, .inl f2)), (ro, .inl (cy 0, 20, .inl f0)), (pa, .inr (4, [.int mx_1570, .ref qx_1571, .int 2])), (qx_1571, .inl (cy 2, 10, .inr (.inr (.inr (.inr g2_1572))))), (m0, .inr (20, [.int 0, .ref mp, .int 0, .ref b1, .ref b2, .ref b3, .ref b4, .ref b5, .ref mq])), (mp, .inr (4, [.int mm, .ref ep, .int 20])), (ep, .inl (cy 2, 22, .inr (.inr (.inr (.inr gp))))), (mq, .inr (4, [.int mx_1582, .ref qx_1583, .int 2])), (qx_1583, .inl (cy 2, 10, .inr (.inr (.inr (.inr g2_1584))))), (oa, .inl (cy 3, 1, .inr (.inl o2_1576))), (y0, .inr (8, q0)), (r0, .inr (4, [.int 0, .ref ed, .int 0])), (y_1573, .inr (8, fy_1575)), (rl_1574, .inr (4, [.int 0, .ref ed, .int 0])), (z0, .inr (16, u0)), (v0, .inr (4, [.int 0, .ref ed, .int 0])), (y_1585, .inr (16, fy_1587)), (rl_1586, .inr (4, [.int 0, .ref ed, .int 0]))]) [8, 9, 0, 1, 2, 10, 11, 15, 16, 3, 17, 18, 14, 4, 5, 12, 13, 6, 7, 19, 20] (by decide) rfl
    exact hnext _ _ _ ⟨pe, ne, pa, ro, a1, a2, a3, a4, a5, a6, a7, a8, a9, mp, mq, b1, b2, b3, b4, b5, ep, qx_1571, qx_1583, mx_1570, mm, mx_1582, f1, f2, f0, o2_1576, gp, g2_1572, g2_1584, y0, y_1573, r0, rl_1574, q0, fy_1575, z0, y_1585, v0, rl_1586, u0, fy_1587, hP, hD, ((hs_1581 0 (by decide)).trans hxe0), hs_1580, hxq0, hs_1579, ((hs_1591 0 (by decide)).trans hme0), hs_1590, hmq0, hs_1589⟩ hS (lv_sub hl [0, 3, 4, 5, 6] rfl)
set_option maxHeartbeats 4000000 in
set_option maxRecDepth 100000 in
theorem law_step_22 {p : Program} {l : Launch} {e : Env} {s : State} {m : MethodId} {below : List Frame} {meth : Method} {c : Code} {D : va_G} {cy : Nat → ClassId} {ed b : Nat} {A : Nat → Prop} {Q : State → Prop} (C0 : zx_LW p l s m c D cy ed b A) {h m0 oa : Nat} {H : Heap} {locs : List Loc} {ls : Array Slot} (h0 : zx_S22 D cy ed A h m0 oa H) (hS : va_S A s.heap H locs) (hl : lv_has ls 9 [(5, .int 132), (3, .ref oa), (2, .ref m0), (1, .ref h), (0, .ref b)])
    (hnext : ∀ (H : Heap) (locs : List Loc) (ls : Array Slot), zx_S23 D cy ed A h m0 oa H → va_S A s.heap H locs → lv_has ls 9 [(5, .int 138), (3, .ref oa), (2, .ref m0), (1, .ref h), (0, .ref b)] → W p l e zx_R s m #[Value.ref b] below meth c H locs 174 2727 Q (F0 m 28 ls [])) :
    W p l e zx_R s m #[Value.ref b] below meth c H locs 151 2467 Q (F0 m 28 ls []) := by
  obtain ⟨hx, hb, hml, hst, hown, hts, hX, hbl, hbA, hA, hK, hZ, hN⟩ := C0
  obtain ⟨pe, ne, pa, ro, a1, a2, a3, a4, a5, a6, a7, a8, a9, mp, mq, b1, b2, b3, b4, b5, ep, el, eq, mc, mm, mn, f1, f2, f0, og, gp, g, gq, y0, y1, r0, r1, q0, q1, z0, z1, v0, v1, u0, u1, hP, hD, hxe0, hxe1, hxq0, hxq1, hme0, hme1, hmq0, hmq1⟩ := h0
  refine lv_iload hx hb dL_law_28 (lv_at hl 0 rfl) ?_
  refine lv_aload_n hx hb dL_law_30 rfl (lv_at hl 4 rfl) ?_
  refine va_slen hx hb hX hbl hbA hS dL_law_31 ?_
  refine lv_topi (fun y9 ey9 => ?_)
  obtain rfl : y9 = 3072 := ey9.trans (by decide)
  refine lv_bipush (v := 6) hx hb dL_law_32 (by decide) ?_
  refine lv_isub hx hb dL_law_34 ?_
  refine lv_topi (fun y9 ey9 => ?_)
  obtain rfl : y9 = 3066 := by rw [ey9] <;> decide
  refine lv_icmp_gt (tgt := 2548) hx hb dL_law_35 (by decide) (fun c_1592 => absurd c_1592 (by decide)) (fun _ => ?_)
  refine lv_aload_n hx hb dL_law_38 rfl (lv_at hl 4 rfl) ?_
  refine lv_iload hx hb dL_law_39 (lv_at hl 0 rfl) ?_
  refine va_sld hx hb hX hbl hbA hS (zx_bn (by decide)) dL_law_41 ?_
  refine lv_topi (fun y9 ey9 => ?_)
  obtain rfl : y9 = 7 := ey9.trans (by decide)
  refine lv_bipush (v := 63) hx hb dL_law_42 (by decide) ?_
  refine lv_iand hx hb dL_law_44 ?_
  refine lv_topi (fun y9 ey9 => ?_)
  obtain rfl : y9 = 7 := by rw [ey9] <;> decide
  refine lv_tableIn (off := 535) (tgt := 580) hx hb dL_law_45 (by decide) (by decide) (by decide) (by decide) ?_
  refine lv_aload_n hx hb dL_law_580 rfl (lv_at hl 3 rfl) ?_
  refine lv_aload_n hx hb dL_law_581 rfl (lv_at hl 4 rfl) ?_
  refine lv_iload hx hb dL_law_582 (lv_at hl 0 rfl) ?_
  refine lv_iconst (v := 1) hx hb dL_law_584 (by decide) ?_
  refine lv_iadd hx hb dL_law_585 ?_
  refine lv_topi (fun y9 ey9 => ?_)
  obtain rfl : y9 = 133 := by rw [ey9] <;> decide
  refine va_sld hx hb hX hbl hbA hS (zx_bn (by decide)) dL_law_586 ?_
  refine lv_topi (fun y9 ey9 => ?_)
  obtain rfl : y9 = 0 := ey9.trans (by decide)
  refine lv_aload_n hx hb dL_law_587 rfl (lv_at hl 4 rfl) ?_
  refine lv_iload hx hb dL_law_588 (lv_at hl 0 rfl) ?_
  refine lv_iconst (v := 2) hx hb dL_law_590 (by decide) ?_
  refine lv_iadd hx hb dL_law_591 ?_
  refine lv_topi (fun y9 ey9 => ?_)
  obtain rfl : y9 = 134 := by rw [ey9] <;> decide
  refine va_sld hx hb hX hbl hbA hS (zx_bn (by decide)) dL_law_592 ?_
  refine lv_topi (fun y9 ey9 => ?_)
  obtain rfl : y9 = 0 := ey9.trans (by decide)
  refine lv_aload_n hx hb dL_law_593 rfl (lv_at hl 4 rfl) ?_
  refine lv_iload hx hb dL_law_594 (lv_at hl 0 rfl) ?_
  refine lv_iconst (v := 3) hx hb dL_law_596 (by decide) ?_
  refine lv_iadd hx hb dL_law_597 ?_
  refine lv_topi (fun y9 ey9 => ?_)
  obtain rfl : y9 = 135 := by rw [ey9] <;> decide
  refine va_sld hx hb hX hbl hbA hS (zx_bn (by decide)) dL_law_598 ?_
  refine lv_topi (fun y9 ey9 => ?_)
  obtain rfl : y9 = 0 := ey9.trans (by decide)
  refine lv_aload_n hx hb dL_law_599 rfl (lv_at hl 1 rfl) ?_
  have hPc := hP.sub (ws' := [(h, .inr (13, [.ref pe, .ref ne, .ref pa, .ref ro, .int 0])), (pe, .inr (9, [.int 20, .ref a1, .ref a2, .ref a3, .ref a4, .ref a5, .ref a6, .ref a7, .ref a8, .ref a9])), (pa, .inr (4, [.int mc, .ref el, .int 2])), (el, .inl (cy 2, 10, .inr (.inr (.inr (.inr g))))), (oa, .inl (cy 3, 1, .inr (.inl og)))]) [0, 1, 5, 6, 12] rfl
  have hDc := hD.sub (ws' := [(h, .inr (13, [.ref pe, .ref ne, .ref pa, .ref ro, .int 0])), (pe, .inr (9, [.int 20, .ref a1, .ref a2, .ref a3, .ref a4, .ref a5, .ref a6, .ref a7, .ref a8, .ref a9])), (pa, .inr (4, [.int mc, .ref el, .int 2])), (el, .inl (cy 2, 10, .inr (.inr (.inr (.inr g))))), (oa, .inl (cy 3, 1, .inr (.inl og)))]) [0, 1, 5, 6, 12] (by decide) rfl
  have hFc := va_free (wc := [(h, .inr (13, [.ref pe, .ref ne, .ref pa, .ref ro, .int 0])), (pe, .inr (9, [.int 20, .ref a1, .ref a2, .ref a3, .ref a4, .ref a5, .ref a6, .ref a7, .ref a8, .ref a9])), (pa, .inr (4, [.int mc, .ref el, .int 2])), (el, .inl (cy 2, 10, .inr (.inr (.inr (.inr g))))), (oa, .inl (cy 3, 1, .inr (.inl og)))]) hD hS hA [0, 1, 5, 6, 12] rfl
  refine vx_calli (vx_runSX (As := [.ref h, .int 0, .int 0, .int 0, .ref oa]) (rest := []) ⟨hx, hb, hml, hown, hts⟩ (c_L_begin_2 l hst D cy ed H.size h pe ne pa ro 0 a1 a2 a3 a4 a5 a6 a7 a8 a9 mc el g oa og) (vx_cwSW 5 hts (zx_GS mm_565 mm_566 mm_70 mm_567) rfl rfl rfl (by decide +kernel) ⟨(Nat.le_of_ble_eq_true rfl), (Nat.le_of_ble_eq_true rfl)⟩) ⟨zx_blind, zx_give hPc hK hDc hS hFc hZ hN⟩ rfl rfl hl.1 rfl (lv_room (Nat.le_of_ble_eq_true rfl)) dL_law_600 ⟨(Nat.le_of_ble_eq_true rfl), (Nat.le_of_ble_eq_true rfl)⟩) hS (fun q _ h => hFc q h) hFc (fun q _ h => hFc q h) (fun E9 ce9 q9 _ t H locs ht hvm _ hBX hz1 hk1 hS hce hcv hcl => ?_) (fun r9 u t H locs ht hvm hw hB hz1 hk1 hS => ?_)
  · exact hBX.elim
  ·
    obtain ⟨mx_1593, qx_1594, g2_1595, y_1596, rl_1597, fy_1598, o2_1599⟩ := u
    obtain ⟨rfl, h_1600⟩ := hw
    obtain ⟨hP, hD⟩ := zx_join (wr := [(a1, .inl (cy 0, 20, .inl f1)), (a2, .inl (cy 0, 20, .inl f2)), (ro, .inl (cy 0, 20, .inl f0)), (m0, .inr (20, [.int 0, .ref mp, .int 0, .ref b1, .ref b2, .ref b3, .ref b4, .ref b5, .ref mq])), (mp, .inr (4, [.int mm, .ref ep, .int 20])), (ep, .inl (cy 2, 22, .inr (.inr (.inr (.inr gp))))), (mq, .inr (4, [.int mn, .ref eq, .int 2])), (eq, .inl (cy 2, 10, .inr (.inr (.inr (.inr gq))))), (y0, .inr (8, q0)), (r0, .inr (4, [.int 0, .ref ed, .int 0])), (y1, .inr (8, q1)), (r1, .inr (4, [.int 0, .ref ed, .int 0])), (z0, .inr (16, u0)), (v0, .inr (4, [.int 0, .ref ed, .int 0])), (z1, .inr (16, u1)), (v1, .inr (4, [.int 0, .ref ed, .int 0]))]) (w1 := [(h, .inr (13, [.ref pe, .ref ne, .ref pa, .ref ro, .int 0])), (pe, .inr (9, [.int 20, .ref a1, .ref a2, .ref a3, .ref a4, .ref a5, .ref a6, .ref a7, .ref a8, .ref a9])), (pa, .inr (4, [.int mx_1593, .ref qx_1594, .int 3])), (qx_1594, .inl (cy 2, 10, .inr (.inr (.inr (.inr g2_1595))))), (y_1596, .inr (8, fy_1598)), (rl_1597, .inr (4, [.int 0, .ref ed, .int 0])), (oa, .inl (cy 3, 1, .inr (.inl o2_1599)))]) [0, 1, 5, 6, 12] [2, 3, 4, 7, 8, 9, 10, 11, 13, 14, 15, 16, 17, 18, 19, 20] rfl rfl (by decide) (by decide) hP hD hk1 hFc hB ht
    have hP : va_P D vwCl [(a1, .inl (cy 0, 20, .inl f1)), (a2, .inl (cy 0, 20, .inl f2)), (ro, .inl (cy 0, 20, .inl f0)), (m0, .inr (20, [.int 0, .ref mp, .int 0, .ref b1, .ref b2, .ref b3, .ref b4, .ref b5, .ref mq])), (mp, .inr (4, [.int mm, .ref ep, .int 20])), (ep, .inl (cy 2, 22, .inr (.inr (.inr (.inr gp))))), (mq, .inr (4, [.int mn, .ref eq, .int 2])), (eq, .inl (cy 2, 10, .inr (.inr (.inr (.inr gq))))), (y0, .inr (8, q0)), (r0, .inr (4, [.int 0, .ref ed, .int 0])), (y1, .inr (8, q1)), (r1, .inr (4, [.int 0, .ref ed, .int 0])), (z0, .inr (16, u0)), (v0, .inr (4, [.int 0, .ref ed, .int 0])), (z1, .inr (16, u1)), (v1, .inr (4, [.int 0, .ref ed, .int 0])), (h, .inr (13, [.ref pe, .ref ne, .ref pa, .ref ro, .int 0])), (pe, .inr (9, [.int 20, .ref a1, .ref a2, .ref a3, .ref a4, .ref a5, .ref a6, .ref a7, .ref a8, .ref a9])), (pa, .inr (4, [.int mx_1593, .ref qx_1594, .int 3])), (qx_1594, .inl (cy 2, 10, .inr (.inr (.inr (.inr g2_1595))))), (y_1596, .inr (8, fy_1598)), (rl_1597, .inr (4, [.int 0, .ref ed, .int 0])), (oa, .inl (cy 3, 1, .inr (.inl o2_1599)))] H := hP
    have hD : va_D A [(a1, .inl (cy 0, 20, .inl f1)), (a2, .inl (cy 0, 20, .inl f2)), (ro, .inl (cy 0, 20, .inl f0)), (m0, .inr (20, [.int 0, .ref mp, .int 0, .ref b1, .ref b2, .ref b3, .ref b4, .ref b5, .ref mq])), (mp, .inr (4, [.int mm, .ref ep, .int 20])), (ep, .inl (cy 2, 22, .inr (.inr (.inr (.inr gp))))), (mq, .inr (4, [.int mn, .ref eq, .int 2])), (eq, .inl (cy 2, 10, .inr (.inr (.inr (.inr gq))))), (y0, .inr (8, q0)), (r0, .inr (4, [.int 0, .ref ed, .int 0])), (y1, .inr (8, q1)), (r1, .inr (4, [.int 0, .ref ed, .int 0])), (z0, .inr (16, u0)), (v0, .inr (4, [.int 0, .ref ed, .int 0])), (z1, .inr (16, u1)), (v1, .inr (4, [.int 0, .ref ed, .int 0])), (h, .inr (13, [.ref pe, .ref ne, .ref pa, .ref ro, .int 0])), (pe, .inr (9, [.int 20, .ref a1, .ref a2, .ref a3, .ref a4, .ref a5, .ref a6, .ref a7, .ref a8, .ref a9])), (pa, .inr (4, [.int mx_1593, .ref qx_1594, .int 3])), (qx_1594, .inl (cy 2, 10, .inr (.inr (.inr (.inr g2_1595))))), (y_1596, .inr (8, fy_1598)), (rl_1597, .inr (4, [.int 0, .ref ed, .int 0])), (oa, .inl (cy 3, 1, .inr (.inl o2_1599)))] := hD
    refine W.widen (k := 165) (n := 2637) (Nat.le_of_ble_eq_true rfl) (Nat.le_of_ble_eq_true rfl) ?_
    obtain ⟨hs_1601, hs_1602, hs_1603, hs_1604⟩ := h_1600
    refine lv_istore (lv' := [(6, .int 0), (5, .int 132), (3, .ref oa), (2, .ref m0), (1, .ref h), (0, .ref b)]) hx hb dL_law_603 hl (by decide) rfl (fun ls hl => ?_)
    refine lv_aload_n hx hb dL_law_605 rfl (lv_at hl 3 rfl) ?_
    refine lv_aload_n hx hb dL_law_606 rfl (lv_at hl 5 rfl) ?_
    refine lv_iload hx hb dL_law_607 (lv_at hl 1 rfl) ?_
    refine lv_iconst (v := 1) hx hb dL_law_609 (by decide) ?_
    refine lv_iadd hx hb dL_law_610 ?_
    refine lv_topi (fun y9 ey9 => ?_)
    obtain rfl : y9 = 133 := by rw [ey9] <;> decide
    refine va_sld hx hb hX hbl hbA hS (zx_bn (by decide)) dL_law_611 ?_
    refine lv_topi (fun y9 ey9 => ?_)
    obtain rfl : y9 = 0 := ey9.trans (by decide)
    refine lv_aload_n hx hb dL_law_612 rfl (lv_at hl 5 rfl) ?_
    refine lv_iload hx hb dL_law_613 (lv_at hl 1 rfl) ?_
    refine lv_iconst (v := 2) hx hb dL_law_615 (by decide) ?_
    refine lv_iadd hx hb dL_law_616 ?_
    refine lv_topi (fun y9 ey9 => ?_)
    obtain rfl : y9 = 134 := by rw [ey9] <;> decide
    refine va_sld hx hb hX hbl hbA hS (zx_bn (by decide)) dL_law_617 ?_
    refine lv_topi (fun y9 ey9 => ?_)
    obtain rfl : y9 = 0 := ey9.trans (by decide)
    refine lv_aload_n hx hb dL_law_618 rfl (lv_at hl 5 rfl) ?_
    refine lv_iload hx hb dL_law_619 (lv_at hl 1 rfl) ?_
    refine lv_iconst (v := 3) hx hb dL_law_621 (by decide) ?_
    refine lv_iadd hx hb dL_law_622 ?_
    refine lv_topi (fun y9 ey9 => ?_)
    obtain rfl : y9 = 135 := by rw [ey9] <;> decide
    refine va_sld hx hb hX hbl hbA hS (zx_bn (by decide)) dL_law_623 ?_
    refine lv_topi (fun y9 ey9 => ?_)
    obtain rfl : y9 = 0 := ey9.trans (by decide)
    have hPc := hP.sub (ws' := [(m0, .inr (20, [.int 0, .ref mp, .int 0, .ref b1, .ref b2, .ref b3, .ref b4, .ref b5, .ref mq])), (mp, .inr (4, [.int mm, .ref ep, .int 20])), (mq, .inr (4, [.int mn, .ref eq, .int 2])), (eq, .inl (cy 2, 10, .inr (.inr (.inr (.inr gq)))))]) [3, 4, 6, 7] rfl
    have hDc := hD.sub (ws' := [(m0, .inr (20, [.int 0, .ref mp, .int 0, .ref b1, .ref b2, .ref b3, .ref b4, .ref b5, .ref mq])), (mp, .inr (4, [.int mm, .ref ep, .int 20])), (mq, .inr (4, [.int mn, .ref eq, .int 2])), (eq, .inl (cy 2, 10, .inr (.inr (.inr (.inr gq)))))]) [3, 4, 6, 7] (by decide) rfl
    have hFc := va_free (wc := [(m0, .inr (20, [.int 0, .ref mp, .int 0, .ref b1, .ref b2, .ref b3, .ref b4, .ref b5, .ref mq])), (mp, .inr (4, [.int mm, .ref ep, .int 20])), (mq, .inr (4, [.int mn, .ref eq, .int 2])), (eq, .inl (cy 2, 10, .inr (.inr (.inr (.inr gq)))))]) hD hS hA [3, 4, 6, 7] rfl
    refine va_calli (va_runV (As := [.int 0, .int 0, .int 0]) (rest := []) ⟨hx, hb, hml, hown, hts⟩ (c_X15_begin_2 l hst D cy ed H.size m0 mp mq b1 b2 b3 b4 b5 0 0 mm ep mn eq gq) (cwV 3 hts (zx_GV mm_1779 mm_1780 mm_1781 mm_78 mm_1782) rfl rfl rfl (by decide +kernel) ⟨(Nat.le_of_ble_eq_true rfl), (Nat.le_of_ble_eq_true rfl)⟩) ⟨zx_blind, va_recv hK hPc (ci := 20) (q0 := 0) rfl rfl, zx_give hPc hK hDc hS hFc hZ hN⟩ rfl rfl hl.1 rfl (lv_room (Nat.le_of_ble_eq_true rfl)) dL_law_624 ⟨(Nat.le_of_ble_eq_true rfl), (Nat.le_of_ble_eq_true rfl)⟩) hS (fun q _ h => hFc q h) hFc (fun r9 u t H1 locs ht hvm hw hB hz1 hk1 hS => ?_)
    obtain ⟨mx_1605, qx_1606, g2_1607, y_1608, rl_1609, fy_1610⟩ := u
    obtain ⟨rfl, h_1611⟩ := hw
    obtain ⟨hP, hD⟩ := zx_join (wr := [(a1, .inl (cy 0, 20, .inl f1)), (a2, .inl (cy 0, 20, .inl f2)), (ro, .inl (cy 0, 20, .inl f0)), (ep, .inl (cy 2, 22, .inr (.inr (.inr (.inr gp))))), (y0, .inr (8, q0)), (r0, .inr (4, [.int 0, .ref ed, .int 0])), (y1, .inr (8, q1)), (r1, .inr (4, [.int 0, .ref ed, .int 0])), (z0, .inr (16, u0)), (v0, .inr (4, [.int 0, .ref ed, .int 0])), (z1, .inr (16, u1)), (v1, .inr (4, [.int 0, .ref ed, .int 0])), (h, .inr (13, [.ref pe, .ref ne, .ref pa, .ref ro, .int 0])), (pe, .inr (9, [.int 20, .ref a1, .ref a2, .ref a3, .ref a4, .ref a5, .ref a6, .ref a7, .ref a8, .ref a9])), (pa, .inr (4, [.int mx_1593, .ref qx_1594, .int 3])), (qx_1594, .inl (cy 2, 10, .inr (.inr (.inr (.inr g2_1595))))), (y_1596, .inr (8, fy_1598)), (rl_1597, .inr (4, [.int 0, .ref ed, .int 0])), (oa, .inl (cy 3, 1, .inr (.inl o2_1599)))]) (w1 := [(m0, .inr (20, [.int 0, .ref mp, .int 0, .ref b1, .ref b2, .ref b3, .ref b4, .ref b5, .ref mq])), (mp, .inr (4, [.int mm, .ref ep, .int 20])), (mq, .inr (4, [.int mx_1605, .ref qx_1606, .int 3])), (qx_1606, .inl (cy 2, 10, .inr (.inr (.inr (.inr g2_1607))))), (y_1608, .inr (16, fy_1610)), (rl_1609, .inr (4, [.int 0, .ref ed, .int 0]))]) [3, 4, 6, 7] [0, 1, 2, 5, 8, 9, 10, 11, 12, 13, 14, 15, 16, 17, 18, 19, 20, 21, 22] rfl rfl (by decide) (by decide) hP hD hk1 hFc hB ht
    generalize H1 = H at hP hS ⊢
    have hP : va_P D vwCl [(a1, .inl (cy 0, 20, .inl f1)), (a2, .inl (cy 0, 20, .inl f2)), (ro, .inl (cy 0, 20, .inl f0)), (ep, .inl (cy 2, 22, .inr (.inr (.inr (.inr gp))))), (y0, .inr (8, q0)), (r0, .inr (4, [.int 0, .ref ed, .int 0])), (y1, .inr (8, q1)), (r1, .inr (4, [.int 0, .ref ed, .int 0])), (z0, .inr (16, u0)), (v0, .inr (4, [.int 0, .ref ed, .int 0])), (z1, .inr (16, u1)), (v1, .inr (4, [.int 0, .ref ed, .int 0])), (h, .inr (13, [.ref pe, .ref ne, .ref pa, .ref ro, .int 0])), (pe, .inr (9, [.int 20, .ref a1, .ref a2, .ref a3, .ref a4, .ref a5, .ref a6, .ref a7, .ref a8, .ref a9])), (pa, .inr (4, [.int mx_1593, .ref qx_1594, .int 3])), (qx_1594, .inl (cy 2, 10, .inr (.inr (.inr (.inr g2_1595))))), (y_1596, .inr (8, fy_1598)), (rl_1597, .inr (4, [.int 0, .ref ed, .int 0])), (oa, .inl (cy 3, 1, .inr (.inl o2_1599))), (m0, .inr (20, [.int 0, .ref mp, .int 0, .ref b1, .ref b2, .ref b3, .ref b4, .ref b5, .ref mq])), (mp, .inr (4, [.int mm, .ref ep, .int 20])), (mq, .inr (4, [.int mx_1605, .ref qx_1606, .int 3])), (qx_1606, .inl (cy 2, 10, .inr (.inr (.inr (.inr g2_1607))))), (y_1608, .inr (16, fy_1610)), (rl_1609, .inr (4, [.int 0, .ref ed, .int 0]))] H := hP
    have hD : va_D A [(a1, .inl (cy 0, 20, .inl f1)), (a2, .inl (cy 0, 20, .inl f2)), (ro, .inl (cy 0, 20, .inl f0)), (ep, .inl (cy 2, 22, .inr (.inr (.inr (.inr gp))))), (y0, .inr (8, q0)), (r0, .inr (4, [.int 0, .ref ed, .int 0])), (y1, .inr (8, q1)), (r1, .inr (4, [.int 0, .ref ed, .int 0])), (z0, .inr (16, u0)), (v0, .inr (4, [.int 0, .ref ed, .int 0])), (z1, .inr (16, u1)), (v1, .inr (4, [.int 0, .ref ed, .int 0])), (h, .inr (13, [.ref pe, .ref ne, .ref pa, .ref ro, .int 0])), (pe, .inr (9, [.int 20, .ref a1, .ref a2, .ref a3, .ref a4, .ref a5, .ref a6, .ref a7, .ref a8, .ref a9])), (pa, .inr (4, [.int mx_1593, .ref qx_1594, .int 3])), (qx_1594, .inl (cy 2, 10, .inr (.inr (.inr (.inr g2_1595))))), (y_1596, .inr (8, fy_1598)), (rl_1597, .inr (4, [.int 0, .ref ed, .int 0])), (oa, .inl (cy 3, 1, .inr (.inl o2_1599))), (m0, .inr (20, [.int 0, .ref mp, .int 0, .ref b1, .ref b2, .ref b3, .ref b4, .ref b5, .ref mq])), (mp, .inr (4, [.int mm, .ref ep, .int 20])), (mq, .inr (4, [.int mx_1605, .ref qx_1606, .int 3])), (qx_1606, .inl (cy 2, 10, .inr (.inr (.inr (.inr g2_1607))))), (y_1608, .inr (16, fy_1610)), (rl_1609, .inr (4, [.int 0, .ref ed, .int 0]))] := hD
    refine W.widen (k := 174) (n := 2727) (Nat.le_of_ble_eq_true rfl) (Nat.le_of_ble_eq_true rfl) ?_
    obtain ⟨hs_1612, hs_1613, hs_1614⟩ := h_1611
    refine lv_istore (lv' := [(7, .int 2), (6, .int 0), (5, .int 132), (3, .ref oa), (2, .ref m0), (1, .ref h), (0, .ref b)]) hx hb dL_law_627 hl (by decide) rfl (fun ls hl => ?_)
    refine lv_goto (tgt := 2542) hx hb dL_law_629 (by decide) ?_
    refine lv_iinc (v := 138) (lv' := [(5, .int 138), (7, .int 2), (6, .int 0), (3, .ref oa), (2, .ref m0), (1, .ref h), (0, .ref b)]) hx hb dL_law_2542 hl (k := 2) rfl (by decide) (by decide) rfl (fun ls hl => ?_)
    refine lv_goto (tgt := 28) hx hb dL_law_2545 (by decide) ?_
    have hP := hP.sub (ws' := [(h, .inr (13, [.ref pe, .ref ne, .ref pa, .ref ro, .int 0])), (pe, .inr (9, [.int 20, .ref a1, .ref a2, .ref a3, .ref a4, .ref a5, .ref a6, .ref a7, .ref a8, .ref a9])), (a1, .inl (cy 0, 20, .inl f1)), (a2, .inl (cy 0, 20, .inl f2)), (ro, .inl (cy 0, 20, .inl f0)), (pa, .inr (4, [.int mx_1593, .ref qx_1594, .int 3])), (qx_1594, .inl (cy 2, 10, .inr (.inr (.inr (.inr g2_1595))))), (m0, .inr (20, [.int 0, .ref mp, .int 0, .ref b1, .ref b2, .ref b3, .ref b4, .ref b5, .ref mq])), (mp, .inr (4, [.int mm, .ref ep, .int 20])), (ep, .inl (cy 2, 22, .inr (.inr (.inr (.inr gp))))), (mq, .inr (4, [.int mx_1605, .ref qx_1606, .int 3])), (qx_1606, .inl (cy 2, 10, .inr (.inr (.inr (.inr g2_1607))))), (oa, .inl (cy 3, 1, .inr (.inl o2_1599))), (y0, .inr (8, q0)), (r0, .inr (4, [.int 0, .ref ed, .int 0])), (y1, .inr (8, q1)), (r1, .inr (4, [.int 0, .ref ed, .int 0])), (y_1596, .inr (8, fy_1598)), (rl_1597, .inr (4, [.int 0, .ref ed, .int 0])), (z0, .inr (16, u0)), (v0, .inr (4, [.int 0, .ref ed, .int 0])), (z1, .inr (16, u1)), (v1, .inr (4, [.int 0, .ref ed, .int 0])), (y_1608, .inr (16, fy_1610)), (rl_1609, .inr (4, [.int 0, .ref ed, .int 0]))]) [12, 13, 0, 1, 2, 14, 15, 19, 20, 3, 21, 22, 18, 4, 5, 6, 7, 16, 17, 8, 9, 10, 11, 23, 24] rfl
    have hD := hD.sub (ws' := [(h, .inr (13, [.ref pe, .ref ne, .ref pa, .ref ro, .int 0])), (pe, .inr (9, [.int 20, .ref a1, .ref a2, .ref a3, .ref a4, .ref a5, .ref a6, .ref a7, .ref a8, .ref a9])), (a1, .inl (cy 0, 20, .inl f1)), (a2, .inl (cy 0, 20, .inl f2)), (ro, .inl (cy 0, 20, .inl f0)), (pa, .inr (4, [.int mx_1593, .ref qx_1594, .int 3])), (qx_1594, .inl (cy 2, 10, .inr (.inr (.inr (.inr g2_1595))))), (m0, .inr (20, [.int 0, .ref mp, .int 0, .ref b1, .ref b2, .ref b3, .ref b4, .ref b5, .ref mq])), (mp, .inr (4, [.int mm, .ref ep, .int 20])), (ep, .inl (cy 2, 22, .inr (.inr (.inr (.inr gp))))), (mq, .inr (4, [.int mx_1605, .ref qx_1606, .int 3])), (qx_1606, .inl (cy 2, 10, .inr (.inr (.inr (.inr g2_1607))))), (oa, .inl (cy 3, 1, .inr (.inl o2_1599))), (y0, .inr (8, q0)), (r0, .inr (4, [.int 0, .ref ed, .int 0])), (y1, .inr (8, q1)), (r1, .inr (4, [.int 0, .ref ed, .int 0])), (y_1596, .inr (8, fy_1598)), (rl_1597, .inr (4, [.int 0, .ref ed, .int 0])), (z0, .inr (16, u0)), (v0, .inr (4, [.int 0, .ref ed, .int 0])), (z1, .inr (16, u1)), (v1, .inr (4, [.int 0, .ref ed, .int 0])), (y_1608, .inr (16, fy_1610)), (rl_1609, .inr (4, [.int 0, .ref ed, .int 0]))]) [12, 13, 0, 1, 2, 14, 15, 19, 20, 3, 21, 22, 18, 4, 5, 6, 7, 16, 17, 8, 9, 10, 11, 23, 24] (by decide) rfl
    exact hnext _ _ _ ⟨pe, ne, pa, ro, a1, a2, a3, a4, a5, a6, a7, a8, a9, mp, mq, b1, b2, b3, b4, b5, ep, qx_1594, qx_1606, mx_1593, mm, mx_1605, f1, f2, f0, o2_1599, gp, g2_1595, g2_1607, y0, y1, y_1596, r0, r1, rl_1597, q0, q1, fy_1598, z0, z1, y_1608, v0, v1, rl_1609, u0, u1, fy_1610, hP, hD, ((hs_1604 0 (by decide)).trans hxe0), ((hs_1604 1 (by decide)).trans hxe1), hs_1603, hxq0, hxq1, hs_1602, ((hs_1614 0 (by decide)).trans hme0), ((hs_1614 1 (by decide)).trans hme1), hs_1613, hmq0, hmq1, hs_1612⟩ hS (lv_sub hl [0, 3, 4, 5, 6] rfl)
set_option maxHeartbeats 4000000 in
set_option maxRecDepth 100000 in
theorem law_step_23 {p : Program} {l : Launch} {e : Env} {s : State} {m : MethodId} {below : List Frame} {meth : Method} {c : Code} {D : va_G} {cy : Nat → ClassId} {ed b : Nat} {A : Nat → Prop} {Q : State → Prop} (C0 : zx_LW p l s m c D cy ed b A) {h m0 oa : Nat} {H : Heap} {locs : List Loc} {ls : Array Slot} (h0 : zx_S23 D cy ed A h m0 oa H) (hS : va_S A s.heap H locs) (hl : lv_has ls 9 [(5, .int 138), (3, .ref oa), (2, .ref m0), (1, .ref h), (0, .ref b)])
    (hnext : ∀ (H : Heap) (locs : List Loc) (ls : Array Slot), zx_S24 D cy ed A h m0 oa H → va_S A s.heap H locs → lv_has ls 9 [(5, .int 144), (3, .ref oa), (2, .ref m0), (1, .ref h), (0, .ref b)] → W p l e zx_R s m #[Value.ref b] below meth c H locs 197 2987 Q (F0 m 28 ls [])) :
    W p l e zx_R s m #[Value.ref b] below meth c H locs 174 2727 Q (F0 m 28 ls []) := by
  obtain ⟨hx, hb, hml, hst, hown, hts, hX, hbl, hbA, hA, hK, hZ, hN⟩ := C0
  obtain ⟨pe, ne, pa, ro, a1, a2, a3, a4, a5, a6, a7, a8, a9, mp, mq, b1, b2, b3, b4, b5, ep, el, eq, mc, mm, mn, f1, f2, f0, og, gp, g, gq, y0, y1, y2, r0, r1, r2, q0, q1, q2, z0, z1, z2, v0, v1, v2, u0, u1, u2, hP, hD, hxe0, hxe1, hxe2, hxq0, hxq1, hxq2, hme0, hme1, hme2, hmq0, hmq1, hmq2⟩ := h0
  refine lv_iload hx hb dL_law_28 (lv_at hl 0 rfl) ?_
  refine lv_aload_n hx hb dL_law_30 rfl (lv_at hl 4 rfl) ?_
  refine va_slen hx hb hX hbl hbA hS dL_law_31 ?_
  refine lv_topi (fun y9 ey9 => ?_)
  obtain rfl : y9 = 3072 := ey9.trans (by decide)
  refine lv_bipush (v := 6) hx hb dL_law_32 (by decide) ?_
  refine lv_isub hx hb dL_law_34 ?_
  refine lv_topi (fun y9 ey9 => ?_)
  obtain rfl : y9 = 3066 := by rw [ey9] <;> decide
  refine lv_icmp_gt (tgt := 2548) hx hb dL_law_35 (by decide) (fun c_1615 => absurd c_1615 (by decide)) (fun _ => ?_)
  refine lv_aload_n hx hb dL_law_38 rfl (lv_at hl 4 rfl) ?_
  refine lv_iload hx hb dL_law_39 (lv_at hl 0 rfl) ?_
  refine va_sld hx hb hX hbl hbA hS (zx_bn (by decide)) dL_law_41 ?_
  refine lv_topi (fun y9 ey9 => ?_)
  obtain rfl : y9 = 7 := ey9.trans (by decide)
  refine lv_bipush (v := 63) hx hb dL_law_42 (by decide) ?_
  refine lv_iand hx hb dL_law_44 ?_
  refine lv_topi (fun y9 ey9 => ?_)
  obtain rfl : y9 = 7 := by rw [ey9] <;> decide
  refine lv_tableIn (off := 535) (tgt := 580) hx hb dL_law_45 (by decide) (by decide) (by decide) (by decide) ?_
  refine lv_aload_n hx hb dL_law_580 rfl (lv_at hl 3 rfl) ?_
  refine lv_aload_n hx hb dL_law_581 rfl (lv_at hl 4 rfl) ?_
  refine lv_iload hx hb dL_law_582 (lv_at hl 0 rfl) ?_
  refine lv_iconst (v := 1) hx hb dL_law_584 (by decide) ?_
  refine lv_iadd hx hb dL_law_585 ?_
  refine lv_topi (fun y9 ey9 => ?_)
  obtain rfl : y9 = 139 := by rw [ey9] <;> decide
  refine va_sld hx hb hX hbl hbA hS (zx_bn (by decide)) dL_law_586 ?_
  refine lv_topi (fun y9 ey9 => ?_)
  obtain rfl : y9 = 0 := ey9.trans (by decide)
  refine lv_aload_n hx hb dL_law_587 rfl (lv_at hl 4 rfl) ?_
  refine lv_iload hx hb dL_law_588 (lv_at hl 0 rfl) ?_
  refine lv_iconst (v := 2) hx hb dL_law_590 (by decide) ?_
  refine lv_iadd hx hb dL_law_591 ?_
  refine lv_topi (fun y9 ey9 => ?_)
  obtain rfl : y9 = 140 := by rw [ey9] <;> decide
  refine va_sld hx hb hX hbl hbA hS (zx_bn (by decide)) dL_law_592 ?_
  refine lv_topi (fun y9 ey9 => ?_)
  obtain rfl : y9 = 0 := ey9.trans (by decide)
  refine lv_aload_n hx hb dL_law_593 rfl (lv_at hl 4 rfl) ?_
  refine lv_iload hx hb dL_law_594 (lv_at hl 0 rfl) ?_
  refine lv_iconst (v := 3) hx hb dL_law_596 (by decide) ?_
  refine lv_iadd hx hb dL_law_597 ?_
  refine lv_topi (fun y9 ey9 => ?_)
  obtain rfl : y9 = 141 := by rw [ey9] <;> decide
  refine va_sld hx hb hX hbl hbA hS (zx_bn (by decide)) dL_law_598 ?_
  refine lv_topi (fun y9 ey9 => ?_)
  obtain rfl : y9 = 0 := ey9.trans (by decide)
  refine lv_aload_n hx hb dL_law_599 rfl (lv_at hl 1 rfl) ?_
  have hPc := hP.sub (ws' := [(h, .inr (13, [.ref pe, .ref ne, .ref pa, .ref ro, .int 0])), (pe, .inr (9, [.int 20, .ref a1, .ref a2, .ref a3, .ref a4, .ref a5, .ref a6, .ref a7, .ref a8, .ref a9])), (pa, .inr (4, [.int mc, .ref el, .int 3])), (el, .inl (cy 2, 10, .inr (.inr (.inr (.inr g))))), (oa, .inl (cy 3, 1, .inr (.inl og)))]) [0, 1, 5, 6, 12] rfl
  have hDc := hD.sub (ws' := [(h, .inr (13, [.ref pe, .ref ne, .ref pa, .ref ro, .int 0])), (pe, .inr (9, [.int 20, .ref a1, .ref a2, .ref a3, .ref a4, .ref a5, .ref a6, .ref a7, .ref a8, .ref a9])), (pa, .inr (4, [.int mc, .ref el, .int 3])), (el, .inl (cy 2, 10, .inr (.inr (.inr (.inr g))))), (oa, .inl (cy 3, 1, .inr (.inl og)))]) [0, 1, 5, 6, 12] (by decide) rfl
  have hFc := va_free (wc := [(h, .inr (13, [.ref pe, .ref ne, .ref pa, .ref ro, .int 0])), (pe, .inr (9, [.int 20, .ref a1, .ref a2, .ref a3, .ref a4, .ref a5, .ref a6, .ref a7, .ref a8, .ref a9])), (pa, .inr (4, [.int mc, .ref el, .int 3])), (el, .inl (cy 2, 10, .inr (.inr (.inr (.inr g))))), (oa, .inl (cy 3, 1, .inr (.inl og)))]) hD hS hA [0, 1, 5, 6, 12] rfl
  refine vx_calli (vx_runSX (As := [.ref h, .int 0, .int 0, .int 0, .ref oa]) (rest := []) ⟨hx, hb, hml, hown, hts⟩ (c_L_begin_3 l hst D cy ed H.size h pe ne pa ro 0 a1 a2 a3 a4 a5 a6 a7 a8 a9 mc el g oa og) (vx_cwSW 5 hts (zx_GS mm_565 mm_566 mm_70 mm_567) rfl rfl rfl (by decide +kernel) ⟨(Nat.le_of_ble_eq_true rfl), (Nat.le_of_ble_eq_true rfl)⟩) ⟨zx_blind, zx_give hPc hK hDc hS hFc hZ hN⟩ rfl rfl hl.1 rfl (lv_room (Nat.le_of_ble_eq_true rfl)) dL_law_600 ⟨(Nat.le_of_ble_eq_true rfl), (Nat.le_of_ble_eq_true rfl)⟩) hS (fun q _ h => hFc q h) hFc (fun q _ h => hFc q h) (fun E9 ce9 q9 _ t H locs ht hvm _ hBX hz1 hk1 hS hce hcv hcl => ?_) (fun r9 u t H locs ht hvm hw hB hz1 hk1 hS => ?_)
  · exact hBX.elim
  ·
    obtain ⟨mx_1616, qx_1617, g2_1618, y_1619, rl_1620, fy_1621, o2_1622⟩ := u
    obtain ⟨rfl, h_1623⟩ := hw
    obtain ⟨hP, hD⟩ := zx_join (wr := [(a1, .inl (cy 0, 20, .inl f1)), (a2, .inl (cy 0, 20, .inl f2)), (ro, .inl (cy 0, 20, .inl f0)), (m0, .inr (20, [.int 0, .ref mp, .int 0, .ref b1, .ref b2, .ref b3, .ref b4, .ref b5, .ref mq])), (mp, .inr (4, [.int mm, .ref ep, .int 20])), (ep, .inl (cy 2, 22, .inr (.inr (.inr (.inr gp))))), (mq, .inr (4, [.int mn, .ref eq, .int 3])), (eq, .inl (cy 2, 10, .inr (.inr (.inr (.inr gq))))), (y0, .inr (8, q0)), (r0, .inr (4, [.int 0, .ref ed, .int 0])), (y1, .inr (8, q1)), (r1, .inr (4, [.int 0, .ref ed, .int 0])), (y2, .inr (8, q2)), (r2, .inr (4, [.int 0, .ref ed, .int 0])), (z0, .inr (16, u0)), (v0, .inr (4, [.int 0, .ref ed, .int 0])), (z1, .inr (16, u1)), (v1, .inr (4, [.int 0, .ref ed, .int 0])), (z2, .inr (16, u2)), (v2, .inr (4, [.int 0, .ref ed, .int 0]))]) (w1 := [(h, .inr (13, [.ref pe, .ref ne, .ref pa, .ref ro, .int 0])), (pe, .inr (9, [.int 20, .ref a1, .ref a2, .ref a3, .ref a4, .ref a5, .ref a6, .ref a7, .ref a8, .ref a9])), (pa, .inr (4, [.int mx_1616, .ref qx_1617, .int 4])), (qx_1617, .inl (cy 2, 10, .inr (.inr (.inr (.inr g2_1618))))), (y_1619, .inr (8, fy_1621)), (rl_1620, .inr (4, [.int 0, .ref ed, .int 0])), (oa, .inl (cy 3, 1, .inr (.inl o2_1622)))]) [0, 1, 5, 6, 12] [2, 3, 4, 7, 8, 9, 10, 11, 13, 14, 15, 16, 17, 18, 19, 20, 21, 22, 23, 24] rfl rfl (by decide) (by decide) hP hD hk1 hFc hB ht
    have hP : va_P D vwCl [(a1, .inl (cy 0, 20, .inl f1)), (a2, .inl (cy 0, 20, .inl f2)), (ro, .inl (cy 0, 20, .inl f0)), (m0, .inr (20, [.int 0, .ref mp, .int 0, .ref b1, .ref b2, .ref b3, .ref b4, .ref b5, .ref mq])), (mp, .inr (4, [.int mm, .ref ep, .int 20])), (ep, .inl (cy 2, 22, .inr (.inr (.inr (.inr gp))))), (mq, .inr (4, [.int mn, .ref eq, .int 3])), (eq, .inl (cy 2, 10, .inr (.inr (.inr (.inr gq))))), (y0, .inr (8, q0)), (r0, .inr (4, [.int 0, .ref ed, .int 0])), (y1, .inr (8, q1)), (r1, .inr (4, [.int 0, .ref ed, .int 0])), (y2, .inr (8, q2)), (r2, .inr (4, [.int 0, .ref ed, .int 0])), (z0, .inr (16, u0)), (v0, .inr (4, [.int 0, .ref ed, .int 0])), (z1, .inr (16, u1)), (v1, .inr (4, [.int 0, .ref ed, .int 0])), (z2, .inr (16, u2)), (v2, .inr (4, [.int 0, .ref ed, .int 0])), (h, .inr (13, [.ref pe, .ref ne, .ref pa, .ref ro, .int 0])), (pe, .inr (9, [.int 20, .ref a1, .ref a2, .ref a3, .ref a4, .ref a5, .ref a6, .ref a7, .ref a8, .ref a9])), (pa, .inr (4, [.int mx_1616, .ref qx_1617, .int 4])), (qx_1617, .inl (cy 2, 10, .inr (.inr (.inr (.inr g2_1618))))), (y_1619, .inr (8, fy_1621)), (rl_1620, .inr (4, [.int 0, .ref ed, .int 0])), (oa, .inl (cy 3, 1, .inr (.inl o2_1622)))] H := hP
    have hD : va_D A [(a1, .inl (cy 0, 20, .inl f1)), (a2, .inl (cy 0, 20, .inl f2)), (ro, .inl (cy 0, 20, .inl f0)), (m0, .inr (20, [.int 0, .ref mp, .int 0, .ref b1, .ref b2, .ref b3, .ref b4, .ref b5, .ref mq])), (mp, .inr (4, [.int mm, .ref ep, .int 20])), (ep, .inl (cy 2, 22, .inr (.inr (.inr (.inr gp))))), (mq, .inr (4, [.int mn, .ref eq, .int 3])), (eq, .inl (cy 2, 10, .inr (.inr (.inr (.inr gq))))), (y0, .inr (8, q0)), (r0, .inr (4, [.int 0, .ref ed, .int 0])), (y1, .inr (8, q1)), (r1, .inr (4, [.int 0, .ref ed, .int 0])), (y2, .inr (8, q2)), (r2, .inr (4, [.int 0, .ref ed, .int 0])), (z0, .inr (16, u0)), (v0, .inr (4, [.int 0, .ref ed, .int 0])), (z1, .inr (16, u1)), (v1, .inr (4, [.int 0, .ref ed, .int 0])), (z2, .inr (16, u2)), (v2, .inr (4, [.int 0, .ref ed, .int 0])), (h, .inr (13, [.ref pe, .ref ne, .ref pa, .ref ro, .int 0])), (pe, .inr (9, [.int 20, .ref a1, .ref a2, .ref a3, .ref a4, .ref a5, .ref a6, .ref a7, .ref a8, .ref a9])), (pa, .inr (4, [.int mx_1616, .ref qx_1617, .int 4])), (qx_1617, .inl (cy 2, 10, .inr (.inr (.inr (.inr g2_1618))))), (y_1619, .inr (8, fy_1621)), (rl_1620, .inr (4, [.int 0, .ref ed, .int 0])), (oa, .inl (cy 3, 1, .inr (.inl o2_1622)))] := hD
    refine W.widen (k := 188) (n := 2897) (Nat.le_of_ble_eq_true rfl) (Nat.le_of_ble_eq_true rfl) ?_
    obtain ⟨hs_1624, hs_1625, hs_1626, hs_1627⟩ := h_1623
    refine lv_istore (lv' := [(6, .int 0), (5, .int 138), (3, .ref oa), (2, .ref m0), (1, .ref h), (0, .ref b)]) hx hb dL_law_603 hl (by decide) rfl (fun ls hl => ?_)
    refine lv_aload_n hx hb dL_law_605 rfl (lv_at hl 3 rfl) ?_
    refine lv_aload_n hx hb dL_law_606 rfl (lv_at hl 5 rfl) ?_
    refine lv_iload hx hb dL_law_607 (lv_at hl 1 rfl) ?_
    refine lv_iconst (v := 1) hx hb dL_law_609 (by decide) ?_
    refine lv_iadd hx hb dL_law_610 ?_
    refine lv_topi (fun y9 ey9 => ?_)
    obtain rfl : y9 = 139 := by rw [ey9] <;> decide
    refine va_sld hx hb hX hbl hbA hS (zx_bn (by decide)) dL_law_611 ?_
    refine lv_topi (fun y9 ey9 => ?_)
    obtain rfl : y9 = 0 := ey9.trans (by decide)
    refine lv_aload_n hx hb dL_law_612 rfl (lv_at hl 5 rfl) ?_
    refine lv_iload hx hb dL_law_613 (lv_at hl 1 rfl) ?_
    refine lv_iconst (v := 2) hx hb dL_law_615 (by decide) ?_
    refine lv_iadd hx hb dL_law_616 ?_
    refine lv_topi (fun y9 ey9 => ?_)
    obtain rfl : y9 = 140 := by rw [ey9] <;> decide
    refine va_sld hx hb hX hbl hbA hS (zx_bn (by decide)) dL_law_617 ?_
    refine lv_topi (fun y9 ey9 => ?_)
    obtain rfl : y9 = 0 := ey9.trans (by decide)
    refine lv_aload_n hx hb dL_law_618 rfl (lv_at hl 5 rfl) ?_
    refine lv_iload hx hb dL_law_619 (lv_at hl 1 rfl) ?_
    refine lv_iconst (v := 3) hx hb dL_law_621 (by decide) ?_
    refine lv_iadd hx hb dL_law_622 ?_
    refine lv_topi (fun y9 ey9 => ?_)
    obtain rfl : y9 = 141 := by rw [ey9] <;> decide
    refine va_sld hx hb hX hbl hbA hS (zx_bn (by decide)) dL_law_623 ?_
    refine lv_topi (fun y9 ey9 => ?_)
    obtain rfl : y9 = 0 := ey9.trans (by decide)
    have hPc := hP.sub (ws' := [(m0, .inr (20, [.int 0, .ref mp, .int 0, .ref b1, .ref b2, .ref b3, .ref b4, .ref b5, .ref mq])), (mp, .inr (4, [.int mm, .ref ep, .int 20])), (mq, .inr (4, [.int mn, .ref eq, .int 3])), (eq, .inl (cy 2, 10, .inr (.inr (.inr (.inr gq)))))]) [3, 4, 6, 7] rfl
    have hDc := hD.sub (ws' := [(m0, .inr (20, [.int 0, .ref mp, .int 0, .ref b1, .ref b2, .ref b3, .ref b4, .ref b5, .ref mq])), (mp, .inr (4, [.int mm, .ref ep, .int 20])), (mq, .inr (4, [.int mn, .ref eq, .int 3])), (eq, .inl (cy 2, 10, .inr (.inr (.inr (.inr gq)))))]) [3, 4, 6, 7] (by decide) rfl
    have hFc := va_free (wc := [(m0, .inr (20, [.int 0, .ref mp, .int 0, .ref b1, .ref b2, .ref b3, .ref b4, .ref b5, .ref mq])), (mp, .inr (4, [.int mm, .ref ep, .int 20])), (mq, .inr (4, [.int mn, .ref eq, .int 3])), (eq, .inl (cy 2, 10, .inr (.inr (.inr (.inr gq)))))]) hD hS hA [3, 4, 6, 7] rfl
    refine va_calli (va_runV (As := [.int 0, .int 0, .int 0]) (rest := []) ⟨hx, hb, hml, hown, hts⟩ (c_X15_begin_3 l hst D cy ed H.size m0 mp mq b1 b2 b3 b4 b5 0 0 mm ep mn eq gq) (cwV 3 hts (zx_GV mm_1779 mm_1780 mm_1781 mm_78 mm_1782) rfl rfl rfl (by decide +kernel) ⟨(Nat.le_of_ble_eq_true rfl), (Nat.le_of_ble_eq_true rfl)⟩) ⟨zx_blind, va_recv hK hPc (ci := 20) (q0 := 0) rfl rfl, zx_give hPc hK hDc hS hFc hZ hN⟩ rfl rfl hl.1 rfl (lv_room (Nat.le_of_ble_eq_true rfl)) dL_law_624 ⟨(Nat.le_of_ble_eq_true rfl), (Nat.le_of_ble_eq_true rfl)⟩) hS (fun q _ h => hFc q h) hFc (fun r9 u t H1 locs ht hvm hw hB hz1 hk1 hS => ?_)
    obtain ⟨mx_1628, qx_1629, g2_1630, y_1631, rl_1632, fy_1633⟩ := u
    obtain ⟨rfl, h_1634⟩ := hw
    obtain ⟨hP, hD⟩ := zx_join (wr := [(a1, .inl (cy 0, 20, .inl f1)), (a2, .inl (cy 0, 20, .inl f2)), (ro, .inl (cy 0, 20, .inl f0)), (ep, .inl (cy 2, 22, .inr (.inr (.inr (.inr gp))))), (y0, .inr (8, q0)), (r0, .inr (4, [.int 0, .ref ed, .int 0])), (y1, .inr (8, q1)), (r1, .inr (4, [.int 0, .ref ed, .int 0])), (y2, .inr (8, q2)), (r2, .inr (4, [.int 0, .ref ed, .int 0])), (z0, .inr (16, u0)), (v0, .inr (4, [.int 0, .ref ed, .int 0])), (z1, .inr (16, u1)), (v1, .inr (4, [.int 0, .ref ed, .int 0])), (z2, .inr (16, u2)), (v2, .inr (4, [.int 0, .ref ed, .int 0])), (h, .inr (13, [.ref pe, .ref ne, .ref pa, .ref ro, .int 0])), (pe, .inr (9, [.int 20, .ref a1, .ref a2, .ref a3, .ref a4, .ref a5, .ref a6, .ref a7, .ref a8, .ref a9])), (pa, .inr (4, [.int mx_1616, .ref qx_1617, .int 4])), (qx_1617, .inl (cy 2, 10, .inr (.inr (.inr (.inr g2_1618))))), (y_1619, .inr (8, fy_1621)), (rl_1620, .inr (4, [.int 0, .ref ed, .int 0])), (oa, .inl (cy 3, 1, .inr (.inl o2_1622)))]) (w1 := [(m0, .inr (20, [.int 0, .ref mp, .int 0, .ref b1, .ref b2, .ref b3, .ref b4, .ref b5, .ref mq])), (mp, .inr (4, [.int mm, .ref ep, .int 20])), (mq, .inr (4, [.int mx_1628, .ref qx_1629, .int 4])), (qx_1629, .inl (cy 2, 10, .inr (.inr (.inr (.inr g2_1630))))), (y_1631, .inr (16, fy_1633)), (rl_1632, .inr (4, [.int 0, .ref ed, .int 0]))]) [3, 4, 6, 7] [0, 1, 2, 5, 8, 9, 10, 11, 12, 13, 14, 15, 16, 17, 18, 19, 20, 21, 22, 23, 24, 25, 26] rfl rfl (by decide) (by decide) hP hD hk1 hFc hB ht
    generalize H1 = H at hP hS ⊢
    have hP : va_P D vwCl [(a1, .inl (cy 0, 20, .inl f1)), (a2, .inl (cy 0, 20, .inl f2)), (ro, .inl (cy 0, 20, .inl f0)), (ep, .inl (cy 2, 22, .inr (.inr (.inr (.inr gp))))), (y0, .inr (8, q0)), (r0, .inr (4, [.int 0, .ref ed, .int 0])), (y1, .inr (8, q1)), (r1, .inr (4, [.int 0, .ref ed, .int 0])), (y2, .inr (8, q2)), (r2, .inr (4, [.int 0, .ref ed, .int 0])), (z0, .inr (16, u0)), (v0, .inr (4, [.int 0, .ref ed, .int 0])), (z1, .inr (16, u1)), (v1, .inr (4, [.int 0, .ref ed, .int 0])), (z2, .inr (16, u2)), (v2, .inr (4, [.int 0, .ref ed, .int 0])), (h, .inr (13, [.ref pe, .ref ne, .ref pa, .ref ro, .int 0])), (pe, .inr (9, [.int 20, .ref a1, .ref a2, .ref a3, .ref a4, .ref a5, .ref a6, .ref a7, .ref a8, .ref a9])), (pa, .inr (4, [.int mx_1616, .ref qx_1617, .int 4])), (qx_1617, .inl (cy 2, 10, .inr (.inr (.inr (.inr g2_1618))))), (y_1619, .inr (8, fy_1621)), (rl_1620, .inr (4, [.int 0, .ref ed, .int 0])), (oa, .inl (cy 3, 1, .inr (.inl o2_1622))), (m0, .inr (20, [.int 0, .ref mp, .int 0, .ref b1, .ref b2, .ref b3, .ref b4, .ref b5, .ref mq])), (mp, .inr (4, [.int mm, .ref ep, .int 20])), (mq, .inr (4, [.int mx_1628, .ref qx_1629, .int 4])), (qx_1629, .inl (cy 2, 10, .inr (.inr (.inr (.inr g2_1630))))), (y_1631, .inr (16, fy_1633)), (rl_1632, .inr (4, [.int 0, .ref ed, .int 0]))] H := hP
    have hD : va_D A [(a1, .inl (cy 0, 20, .inl f1)), (a2, .inl (cy 0, 20, .inl f2)), (ro, .inl (cy 0, 20, .inl f0)), (ep, .inl (cy 2, 22, .inr (.inr (.inr (.inr gp))))), (y0, .inr (8, q0)), (r0, .inr (4, [.int 0, .ref ed, .int 0])), (y1, .inr (8, q1)), (r1, .inr (4, [.int 0, .ref ed, .int 0])), (y2, .inr (8, q2)), (r2, .inr (4, [.int 0, .ref ed, .int 0])), (z0, .inr (16, u0)), (v0, .inr (4, [.int 0, .ref ed, .int 0])), (z1, .inr (16, u1)), (v1, .inr (4, [.int 0, .ref ed, .int 0])), (z2, .inr (16, u2)), (v2, .inr (4, [.int 0, .ref ed, .int 0])), (h, .inr (13, [.ref pe, .ref ne, .ref pa, .ref ro, .int 0])), (pe, .inr (9, [.int 20, .ref a1, .ref a2, .ref a3, .ref a4, .ref a5, .ref a6, .ref a7, .ref a8, .ref a9])), (pa, .inr (4, [.int mx_1616, .ref qx_1617, .int 4])), (qx_1617, .inl (cy 2, 10, .inr (.inr (.inr (.inr g2_1618))))), (y_1619, .inr (8, fy_1621)), (rl_1620, .inr (4, [.int 0, .ref ed, .int 0])), (oa, .inl (cy 3, 1, .inr (.inl o2_1622))), (m0, .inr (20, [.int 0, .ref mp, .int 0, .ref b1, .ref b2, .ref b3, .ref b4, .ref b5, .ref mq])), (mp, .inr (4, [.int mm, .ref ep, .int 20])), (mq, .inr (4, [.int mx_1628, .ref qx_1629, .int 4])), (qx_1629, .inl (cy 2, 10, .inr (.inr (.inr (.inr g2_1630))))), (y_1631, .inr (16, fy_1633)), (rl_1632, .inr (4, [.int 0, .ref ed, .int 0]))] := hD
    refine W.widen (k := 197) (n := 2987) (Nat.le_of_ble_eq_true rfl) (Nat.le_of_ble_eq_true rfl) ?_
    obtain ⟨hs_1635, hs_1636, hs_1637⟩ := h_1634
    refine lv_istore (lv' := [(7, .int 3), (6, .int 0), (5, .int 138), (3, .ref oa), (2, .ref m0), (1, .ref h), (0, .ref b)]) hx hb dL_law_627 hl (by decide) rfl (fun ls hl => ?_)
    refine lv_goto (tgt := 2542) hx hb dL_law_629 (by decide) ?_
    refine lv_iinc (v := 144) (lv' := [(5, .int 144), (7, .int 3), (6, .int 0), (3, .ref oa), (2, .ref m0), (1, .ref h), (0, .ref b)]) hx hb dL_law_2542 hl (k := 2) rfl (by decide) (by decide) rfl (fun ls hl => ?_)
    refine lv_goto (tgt := 28) hx hb dL_law_2545 (by decide) ?_
    have hP := hP.sub (ws' := [(h, .inr (13, [.ref pe, .ref ne, .ref pa, .ref ro, .int 0])), (pe, .inr (9, [.int 20, .ref a1, .ref a2, .ref a3, .ref a4, .ref a5, .ref a6, .ref a7, .ref a8, .ref a9])), (a1, .inl (cy 0, 20, .inl f1)), (a2, .inl (cy 0, 20, .inl f2)), (ro, .inl (cy 0, 20, .inl f0)), (pa, .inr (4, [.int mx_1616, .ref qx_1617, .int 4])), (qx_1617, .inl (cy 2, 10, .inr (.inr (.inr (.inr g2_1618))))), (m0, .inr (20, [.int 0, .ref mp, .int 0, .ref b1, .ref b2, .ref b3, .ref b4, .ref b5, .ref mq])), (mp, .inr (4, [.int mm, .ref ep, .int 20])), (ep, .inl (cy 2, 22, .inr (.inr (.inr (.inr gp))))), (mq, .inr (4, [.int mx_1628, .ref qx_1629, .int 4])), (qx_1629, .inl (cy 2, 10, .inr (.inr (.inr (.inr g2_1630))))), (oa, .inl (cy 3, 1, .inr (.inl o2_1622))), (y0, .inr (8, q0)), (r0, .inr (4, [.int 0, .ref ed, .int 0])), (y1, .inr (8, q1)), (r1, .inr (4, [.int 0, .ref ed, .int 0])), (y2, .inr (8, q2)), (r2, .inr (4, [.int 0, .ref ed, .int 0])), (y_1619, .inr (8, fy_1621)), (rl_1620, .inr (4, [.int 0, .ref ed, .int 0])), (z0, .inr (16, u0)), (v0, .inr (4, [.int 0, .ref ed, .int 0])), (z1, .inr (16, u1)), (v1, .inr (4, [.int 0, .ref ed, .int 0])), (z2, .inr (16, u2)), (v2, .inr (4, [.int 0, .ref ed, .int 0])), (y_1631, .inr (16, fy_1633)), (rl_1632, .inr (4, [.int 0, .ref ed, .int 0]))]) [16, 17, 0, 1, 2, 18, 19, 23, 24, 3, 25, 26, 22, 4, 5, 6, 7, 8, 9, 20, 21, 10, 11, 12, 13, 14, 15, 27, 28] rfl
    have hD := hD.sub (ws' := [(h, .inr (13, [.ref pe, .ref ne, .ref pa, .ref ro, .int 0])), (pe, .inr (9, [.int 20, .ref a1, .ref a2, .ref a3, .ref a4, .ref a5, .ref a6, .ref a7, .ref a8, .ref a9])), (a1, .inl (cy 0, 20, .inl f1)), (a2, .inl (cy 0, 20, .inl f2)), (ro, .inl (cy 0, 20, .inl f0)), (pa, .inr (4, [.int mx_1616, .ref qx_1617, .int 4])), (qx_1617, .inl (cy 2, 10, .inr (.inr (.inr (.inr g2_1618))))), (m0, .inr (20, [.int 0, .ref mp, .int 0, .ref b1, .ref b2, .ref b3, .ref b4, .ref b5, .ref mq])), (mp, .inr (4, [.int mm, .ref ep, .int 20])), (ep, .inl (cy 2, 22, .inr (.inr (.inr (.inr gp))))), (mq, .inr (4, [.int mx_1628, .ref qx_1629, .int 4])), (qx_1629, .inl (cy 2, 10, .inr (.inr (.inr (.inr g2_1630))))), (oa, .inl (cy 3, 1, .inr (.inl o2_1622))), (y0, .inr (8, q0)), (r0, .inr (4, [.int 0, .ref ed, .int 0])), (y1, .inr (8, q1)), (r1, .inr (4, [.int 0, .ref ed, .int 0])), (y2, .inr (8, q2)), (r2, .inr (4, [.int 0, .ref ed, .int 0])), (y_1619, .inr (8, fy_1621)), (rl_1620, .inr (4, [.int 0, .ref ed, .int 0])), (z0, .inr (16, u0)), (v0, .inr (4, [.int 0, .ref ed, .int 0])), (z1, .inr (16, u1)), (v1, .inr (4, [.int 0, .ref ed, .int 0])), (z2, .inr (16, u2)), (v2, .inr (4, [.int 0, .ref ed, .int 0])), (y_1631, .inr (16, fy_1633)), (rl_1632, .inr (4, [.int 0, .ref ed, .int 0]))]) [16, 17, 0, 1, 2, 18, 19, 23, 24, 3, 25, 26, 22, 4, 5, 6, 7, 8, 9, 20, 21, 10, 11, 12, 13, 14, 15, 27, 28] (by decide) rfl
    exact hnext _ _ _ ⟨pe, ne, pa, ro, a1, a2, a3, a4, a5, a6, a7, a8, a9, mp, mq, b1, b2, b3, b4, b5, ep, qx_1617, qx_1629, mx_1616, mm, mx_1628, f1, f2, f0, o2_1622, gp, g2_1618, g2_1630, y0, y1, y2, y_1619, r0, r1, r2, rl_1620, q0, q1, q2, fy_1621, z0, z1, z2, y_1631, v0, v1, v2, rl_1632, u0, u1, u2, fy_1633, hP, hD, ((hs_1627 0 (by decide)).trans hxe0), ((hs_1627 1 (by decide)).trans hxe1), ((hs_1627 2 (by decide)).trans hxe2), hs_1626, hxq0, hxq1, hxq2, hs_1625, ((hs_1637 0 (by decide)).trans hme0), ((hs_1637 1 (by decide)).trans hme1), ((hs_1637 2 (by decide)).trans hme2), hs_1636, hmq0, hmq1, hmq2, hs_1635⟩ hS (lv_sub hl [0, 3, 4, 5, 6] rfl)
set_option maxHeartbeats 4000000 in
set_option maxRecDepth 100000 in
theorem law_step_24 {p : Program} {l : Launch} {e : Env} {s : State} {m : MethodId} {below : List Frame} {meth : Method} {c : Code} {D : va_G} {cy : Nat → ClassId} {ed b : Nat} {A : Nat → Prop} {Q : State → Prop} (C0 : zx_LW p l s m c D cy ed b A) {h m0 oa : Nat} {H : Heap} {locs : List Loc} {ls : Array Slot} (h0 : zx_S24 D cy ed A h m0 oa H) (hS : va_S A s.heap H locs) (hl : lv_has ls 9 [(5, .int 144), (3, .ref oa), (2, .ref m0), (1, .ref h), (0, .ref b)])
    (hnext : ∀ (H : Heap) (locs : List Loc) (ls : Array Slot), zx_S25 D cy ed A h m0 oa H → va_S A s.heap H locs → lv_has ls 9 [(5, .int 150), (3, .ref oa), (2, .ref m0), (1, .ref h), (0, .ref b)] → W p l e zx_R s m #[Value.ref b] below meth c H locs 220 3247 Q (F0 m 28 ls [])) :
    W p l e zx_R s m #[Value.ref b] below meth c H locs 197 2987 Q (F0 m 28 ls []) := by
  obtain ⟨hx, hb, hml, hst, hown, hts, hX, hbl, hbA, hA, hK, hZ, hN⟩ := C0
  obtain ⟨pe, ne, pa, ro, a1, a2, a3, a4, a5, a6, a7, a8, a9, mp, mq, b1, b2, b3, b4, b5, ep, el, eq, mc, mm, mn, f1, f2, f0, og, gp, g, gq, y0, y1, y2, y3, r0, r1, r2, r3, q0, q1, q2, q3, z0, z1, z2, z3, v0, v1, v2, v3, u0, u1, u2, u3, hP, hD, hxe0, hxe1, hxe2, hxe3, hxq0, hxq1, hxq2, hxq3, hme0, hme1, hme2, hme3, hmq0, hmq1, hmq2, hmq3⟩ := h0
  refine lv_iload hx hb dL_law_28 (lv_at hl 0 rfl) ?_
  refine lv_aload_n hx hb dL_law_30 rfl (lv_at hl 4 rfl) ?_
  refine va_slen hx hb hX hbl hbA hS dL_law_31 ?_
  refine lv_topi (fun y9 ey9 => ?_)
  obtain rfl : y9 = 3072 := ey9.trans (by decide)
  refine lv_bipush (v := 6) hx hb dL_law_32 (by decide) ?_
  refine lv_isub hx hb dL_law_34 ?_
  refine lv_topi (fun y9 ey9 => ?_)
  obtain rfl : y9 = 3066 := by rw [ey9] <;> decide
  refine lv_icmp_gt (tgt := 2548) hx hb dL_law_35 (by decide) (fun c_1638 => absurd c_1638 (by decide)) (fun _ => ?_)
  refine lv_aload_n hx hb dL_law_38 rfl (lv_at hl 4 rfl) ?_
  refine lv_iload hx hb dL_law_39 (lv_at hl 0 rfl) ?_
  refine va_sld hx hb hX hbl hbA hS (zx_bn (by decide)) dL_law_41 ?_
  refine lv_topi (fun y9 ey9 => ?_)
  obtain rfl : y9 = 7 := ey9.trans (by decide)
  refine lv_bipush (v := 63) hx hb dL_law_42 (by decide) ?_
  refine lv_iand hx hb dL_law_44 ?_
  refine lv_topi (fun y9 ey9 => ?_)
  obtain rfl : y9 = 7 := by rw [ey9] <;> decide
  refine lv_tableIn (off := 535) (tgt := 580) hx hb dL_law_45 (by decide) (by decide) (by decide) (by decide) ?_
  refine lv_aload_n hx hb dL_law_580 rfl (lv_at hl 3 rfl) ?_
  refine lv_aload_n hx hb dL_law_581 rfl (lv_at hl 4 rfl) ?_
  refine lv_iload hx hb dL_law_582 (lv_at hl 0 rfl) ?_
  refine lv_iconst (v := 1) hx hb dL_law_584 (by decide) ?_
  refine lv_iadd hx hb dL_law_585 ?_
  refine lv_topi (fun y9 ey9 => ?_)
  obtain rfl : y9 = 145 := by rw [ey9] <;> decide
  refine va_sld hx hb hX hbl hbA hS (zx_bn (by decide)) dL_law_586 ?_
  refine lv_topi (fun y9 ey9 => ?_)
  obtain rfl : y9 = 0 := ey9.trans (by decide)
  refine lv_aload_n hx hb dL_law_587 rfl (lv_at hl 4 rfl) ?_
  refine lv_iload hx hb dL_law_588 (lv_at hl 0 rfl) ?_
  refine lv_iconst (v := 2) hx hb dL_law_590 (by decide) ?_
  refine lv_iadd hx hb dL_law_591 ?_
  refine lv_topi (fun y9 ey9 => ?_)
  obtain rfl : y9 = 146 := by rw [ey9] <;> decide
  refine va_sld hx hb hX hbl hbA hS (zx_bn (by decide)) dL_law_592 ?_
  refine lv_topi (fun y9 ey9 => ?_)
  obtain rfl : y9 = 0 := ey9.trans (by decide)
  refine lv_aload_n hx hb dL_law_593 rfl (lv_at hl 4 rfl) ?_
  refine lv_iload hx hb dL_law_594 (lv_at hl 0 rfl) ?_
  refine lv_iconst (v := 3) hx hb dL_law_596 (by decide) ?_
  refine lv_iadd hx hb dL_law_597 ?_
  refine lv_topi (fun y9 ey9 => ?_)
  obtain rfl : y9 = 147 := by rw [ey9] <;> decide
  refine va_sld hx hb hX hbl hbA hS (zx_bn (by decide)) dL_law_598 ?_
  refine lv_topi (fun y9 ey9 => ?_)
  obtain rfl : y9 = 0 := ey9.trans (by decide)
  refine lv_aload_n hx hb dL_law_599 rfl (lv_at hl 1 rfl) ?_
  have hPc := hP.sub (ws' := [(h, .inr (13, [.ref pe, .ref ne, .ref pa, .ref ro, .int 0])), (pe, .inr (9, [.int 20, .ref a1, .ref a2, .ref a3, .ref a4, .ref a5, .ref a6, .ref a7, .ref a8, .ref a9])), (pa, .inr (4, [.int mc, .ref el, .int 4])), (el, .inl (cy 2, 10, .inr (.inr (.inr (.inr g))))), (oa, .inl (cy 3, 1, .inr (.inl og)))]) [0, 1, 5, 6, 12] rfl
  have hDc := hD.sub (ws' := [(h, .inr (13, [.ref pe, .ref ne, .ref pa, .ref ro, .int 0])), (pe, .inr (9, [.int 20, .ref a1, .ref a2, .ref a3, .ref a4, .ref a5, .ref a6, .ref a7, .ref a8, .ref a9])), (pa, .inr (4, [.int mc, .ref el, .int 4])), (el, .inl (cy 2, 10, .inr (.inr (.inr (.inr g))))), (oa, .inl (cy 3, 1, .inr (.inl og)))]) [0, 1, 5, 6, 12] (by decide) rfl
  have hFc := va_free (wc := [(h, .inr (13, [.ref pe, .ref ne, .ref pa, .ref ro, .int 0])), (pe, .inr (9, [.int 20, .ref a1, .ref a2, .ref a3, .ref a4, .ref a5, .ref a6, .ref a7, .ref a8, .ref a9])), (pa, .inr (4, [.int mc, .ref el, .int 4])), (el, .inl (cy 2, 10, .inr (.inr (.inr (.inr g))))), (oa, .inl (cy 3, 1, .inr (.inl og)))]) hD hS hA [0, 1, 5, 6, 12] rfl
  refine vx_calli (vx_runSX (As := [.ref h, .int 0, .int 0, .int 0, .ref oa]) (rest := []) ⟨hx, hb, hml, hown, hts⟩ (c_L_begin_4 l hst D cy ed H.size h pe ne pa ro 0 a1 a2 a3 a4 a5 a6 a7 a8 a9 mc el g oa og) (vx_cwSW 5 hts (zx_GS mm_565 mm_566 mm_70 mm_567) rfl rfl rfl (by decide +kernel) ⟨(Nat.le_of_ble_eq_true rfl), (Nat.le_of_ble_eq_true rfl)⟩) ⟨zx_blind, zx_give hPc hK hDc hS hFc hZ hN⟩ rfl rfl hl.1 rfl (lv_room (Nat.le_of_ble_eq_true rfl)) dL_law_600 ⟨(Nat.le_of_ble_eq_true rfl), (Nat.le_of_ble_eq_true rfl)⟩) hS (fun q _ h => hFc q h) hFc (fun q _ h => hFc q h) (fun E9 ce9 q9 _ t H locs ht hvm _ hBX hz1 hk1 hS hce hcv hcl => ?_) (fun r9 u t H locs ht hvm hw hB hz1 hk1 hS => ?_)
  · exact hBX.elim
  ·
    obtain ⟨mx_1639, qx_1640, g2_1641, y_1642, rl_1643, fy_1644, o2_1645⟩ := u
    obtain ⟨rfl, h_1646⟩ := hw
    obtain ⟨hP, hD⟩ := zx_join (wr := [(a1, .inl (cy 0, 20, .inl f1)), (a2, .inl (cy 0, 20, .inl f2)), (ro, .inl (cy 0, 20, .inl f0)), (m0, .inr (20, [.int 0, .ref mp, .int 0, .ref b1, .ref b2, .ref b3, .ref b4, .ref b5, .ref mq])), (mp, .inr (4, [.int mm, .ref ep, .int 20])), (ep, .inl (cy 2, 22, .inr (.inr (.inr (.inr gp))))), (mq, .inr (4, [.int mn, .ref eq, .int 4])), (eq, .inl (cy 2, 10, .inr (.inr (.inr (.inr gq))))), (y0, .inr (8, q0)), (r0, .inr (4, [.int 0, .ref ed, .int 0])), (y1, .inr (8, q1)), (r1, .inr (4, [.int 0, .ref ed, .int 0])), (y2, .inr (8, q2)), (r2, .inr (4, [.int 0, .ref ed, .int 0])), (y3, .inr (8, q3)), (r3, .inr (4, [.int 0, .ref ed, .int 0])), (z0, .inr (16, u0)), (v0, .inr (4, [.int 0, .ref ed, .int 0])), (z1, .inr (16, u1)), (v1, .inr (4, [.int 0, .ref ed, .int 0])), (z2, .inr (16, u2)), (v2, .inr (4, [.int 0, .ref ed, .int 0])), (z3, .inr (16, u3)), (v3, .inr (4, [.int 0, .ref ed, .int 0]))]) (w1 := [(h, .inr (13, [.ref pe, .ref ne, .ref pa, .ref ro, .int 0])), (pe, .inr (9, [.int 20, .ref a1, .ref a2, .ref a3, .ref a4, .ref a5, .ref a6, .ref a7, .ref a8, .ref a9])), (pa, .inr (4, [.int mx_1639, .ref qx_1640, .int 5])), (qx_1640, .inl (cy 2, 10, .inr (.inr (.inr (.inr g2_1641))))), (y_1642, .inr (8, fy_1644)), (rl_1643, .inr (4, [.int 0, .ref ed, .int 0])), (oa, .inl (cy 3, 1, .inr (.inl o2_1645)))]) [0, 1, 5, 6, 12] [2, 3, 4, 7, 8, 9, 10, 11, 13, 14, 15, 16, 17, 18, 19, 20, 21, 22, 23, 24, 25, 26, 27, 28] rfl rfl (by decide) (by decide) hP hD hk1 hFc hB ht
    have hP : va_P D vwCl [(a1, .inl (cy 0, 20, .inl f1)), (a2, .inl (cy 0, 20, .inl f2)), (ro, .inl (cy 0, 20, .inl f0)), (m0, .inr (20, [.int 0, .ref mp, .int 0, .ref b1, .ref b2, .ref b3, .ref b4, .ref b5, .ref mq])), (mp, .inr (4, [.int mm, .ref ep, .int 20])), (ep, .inl (cy 2, 22, .inr (.inr (.inr (.inr gp))))), (mq, .inr (4, [.int mn, .ref eq, .int 4])), (eq, .inl (cy 2, 10, .inr (.inr (.inr (.inr gq))))), (y0, .inr (8, q0)), (r0, .inr (4, [.int 0, .ref ed, .int 0])), (y1, .inr (8, q1)), (r1, .inr (4, [.int 0, .ref ed, .int 0])), (y2, .inr (8, q2)), (r2, .inr (4, [.int 0, .ref ed, .int 0])), (y3, .inr (8, q3)), (r3, .inr (4, [.int 0, .ref ed, .int 0])), (z0, .inr (16, u0)), (v0, .inr (4, [.int 0, .ref ed, .int 0])), (z1, .inr (16, u1)), (v1, .inr (4, [.int 0, .ref ed, .int 0])), (z2, .inr (16, u2)), (v2, .inr (4, [.int 0, .ref ed, .int 0])), (z3, .inr (16, u3)), (v3, .inr (4, [.int 0, .ref ed, .int 0])), (h, .inr (13, [.ref pe, .ref ne, .ref pa, .ref ro, .int 0])), (pe, .inr (9, [.int 20, .ref a1, .ref a2, .ref a3, .ref a4, .ref a5, .ref a6, .ref a7, .ref a8, .ref a9])), (pa, .inr (4, [.int mx_1639, .ref qx_1640, .int 5])), (qx_1640, .inl (cy 2, 10, .inr (.inr (.inr (.inr g2_1641))))), (y_1642, .inr (8, fy_1644)), (rl_1643, .inr (4, [.int 0, .ref ed, .int 0])), (oa, .inl (cy 3, 1, .inr (.inl o2_1645)))] H := hP
    have hD : va_D A [(a1, .inl (cy 0, 20, .inl f1)), (a2, .inl (cy 0, 20, .inl f2)), (ro, .inl (cy 0, 20, .inl f0)), (m0, .inr (20, [.int 0, .ref mp, .int 0, .ref b1, .ref b2, .ref b3, .ref b4, .ref b5, .ref mq])), (mp, .inr (4, [.int mm, .ref ep, .int 20])), (ep, .inl (cy 2, 22, .inr (.inr (.inr (.inr gp))))), (mq, .inr (4, [.int mn, .ref eq, .int 4])), (eq, .inl (cy 2, 10, .inr (.inr (.inr (.inr gq))))), (y0, .inr (8, q0)), (r0, .inr (4, [.int 0, .ref ed, .int 0])), (y1, .inr (8, q1)), (r1, .inr (4, [.int 0, .ref ed, .int 0])), (y2, .inr (8, q2)), (r2, .inr (4, [.int 0, .ref ed, .int 0])), (y3, .inr (8, q3)), (r3, .inr (4, [.int 0, .ref ed, .int 0])), (z0, .inr (16, u0)), (v0, .inr (4, [.int 0, .ref ed, .int 0])), (z1, .inr (16, u1)), (v1, .inr (4, [.int 0, .ref ed, .int 0])), (z2, .inr (16, u2)), (v2, .inr (4, [.int 0, .ref ed, .int 0])), (z3, .inr (16, u3)), (v3, .inr (4, [.int 0, .ref ed, .int 0])), (h, .inr (13, [.ref pe, .ref ne, .ref pa, .ref ro, .int 0])), (pe, .inr (9, [.int 20, .ref a1, .ref a2, .ref a3, .ref a4, .ref a5, .ref a6, .ref a7, .ref a8, .ref a9])), (pa, .inr (4, [.int mx_1639, .ref qx_1640, .int 5])), (qx_1640, .inl (cy 2, 10, .inr (.inr (.inr (.inr g2_1641))))), (y_1642, .inr (8, fy_1644)), (rl_1643, .inr (4, [.int 0, .ref ed, .int 0])), (oa, .inl (cy 3, 1, .inr (.inl o2_1645)))] := hD
    refine W.widen (k := 211) (n := 3157) (Nat.le_of_ble_eq_true rfl) (Nat.le_of_ble_eq_true rfl) ?_
    obtain ⟨hs_1647, hs_1648, hs_1649, hs_1650⟩ := h_1646
    refine lv_istore (lv' := [(6, .int 0), (5, .int 144), (3, .ref oa), (2, .ref m0), (1, .ref h), (0, .ref b)]) hx hb dL_law_603 hl (by decide) rfl (fun ls hl => ?_)
    refine lv_aload_n hx hb dL_law_605 rfl (lv_at hl 3 rfl) ?_
    refine lv_aload_n hx hb dL_law_606 rfl (lv_at hl 5 rfl) ?_
    refine lv_iload hx hb dL_law_607 (lv_at hl 1 rfl) ?_
    refine lv_iconst (v := 1) hx hb dL_law_609 (by decide) ?_
    refine lv_iadd hx hb dL_law_610 ?_
    refine lv_topi (fun y9 ey9 => ?_)
    obtain rfl : y9 = 145 := by rw [ey9] <;> decide
    refine va_sld hx hb hX hbl hbA hS (zx_bn (by decide)) dL_law_611 ?_
    refine lv_topi (fun y9 ey9 => ?_)
    obtain rfl : y9 = 0 := ey9.trans (by decide)
    refine lv_aload_n hx hb dL_law_612 rfl (lv_at hl 5 rfl) ?_
    refine lv_iload hx hb dL_law_613 (lv_at hl 1 rfl) ?_
    refine lv_iconst (v := 2) hx hb dL_law_615 (by decide) ?_
    refine lv_iadd hx hb dL_law_616 ?_
    refine lv_topi (fun y9 ey9 => ?_)
    obtain rfl : y9 = 146 := by rw [ey9] <;> decide
    refine va_sld hx hb hX hbl hbA hS (zx_bn (by decide)) dL_law_617 ?_
    refine lv_topi (fun y9 ey9 => ?_)
    obtain rfl : y9 = 0 := ey9.trans (by decide)
    refine lv_aload_n hx hb dL_law_618 rfl (lv_at hl 5 rfl) ?_
    refine lv_iload hx hb dL_law_619 (lv_at hl 1 rfl) ?_
    refine lv_iconst (v := 3) hx hb dL_law_621 (by decide) ?_
    refine lv_iadd hx hb dL_law_622 ?_
    refine lv_topi (fun y9 ey9 => ?_)
    obtain rfl : y9 = 147 := by rw [ey9] <;> decide
    refine va_sld hx hb hX hbl hbA hS (zx_bn (by decide)) dL_law_623 ?_
    refine lv_topi (fun y9 ey9 => ?_)
    obtain rfl : y9 = 0 := ey9.trans (by decide)
    have hPc := hP.sub (ws' := [(m0, .inr (20, [.int 0, .ref mp, .int 0, .ref b1, .ref b2, .ref b3, .ref b4, .ref b5, .ref mq])), (mp, .inr (4, [.int mm, .ref ep, .int 20])), (mq, .inr (4, [.int mn, .ref eq, .int 4])), (eq, .inl (cy 2, 10, .inr (.inr (.inr (.inr gq)))))]) [3, 4, 6, 7] rfl
    have hDc := hD.sub (ws' := [(m0, .inr (20, [.int 0, .ref mp, .int 0, .ref b1, .ref b2, .ref b3, .ref b4, .ref b5, .ref mq])), (mp, .inr (4, [.int mm, .ref ep, .int 20])), (mq, .inr (4, [.int mn, .ref eq, .int 4])), (eq, .inl (cy 2, 10, .inr (.inr (.inr (.inr gq)))))]) [3, 4, 6, 7] (by decide) rfl
    have hFc := va_free (wc := [(m0, .inr (20, [.int 0, .ref mp, .int 0, .ref b1, .ref b2, .ref b3, .ref b4, .ref b5, .ref mq])), (mp, .inr (4, [.int mm, .ref ep, .int 20])), (mq, .inr (4, [.int mn, .ref eq, .int 4])), (eq, .inl (cy 2, 10, .inr (.inr (.inr (.inr gq)))))]) hD hS hA [3, 4, 6, 7] rfl
    refine va_calli (va_runV (As := [.int 0, .int 0, .int 0]) (rest := []) ⟨hx, hb, hml, hown, hts⟩ (c_X15_begin_4 l hst D cy ed H.size m0 mp mq b1 b2 b3 b4 b5 0 0 mm ep mn eq gq) (cwV 3 hts (zx_GV mm_1779 mm_1780 mm_1781 mm_78 mm_1782) rfl rfl rfl (by decide +kernel) ⟨(Nat.le_of_ble_eq_true rfl), (Nat.le_of_ble_eq_true rfl)⟩) ⟨zx_blind, va_recv hK hPc (ci := 20) (q0 := 0) rfl rfl, zx_give hPc hK hDc hS hFc hZ hN⟩ rfl rfl hl.1 rfl (lv_room (Nat.le_of_ble_eq_true rfl)) dL_law_624 ⟨(Nat.le_of_ble_eq_true rfl), (Nat.le_of_ble_eq_true rfl)⟩) hS (fun q _ h => hFc q h) hFc (fun r9 u t H1 locs ht hvm hw hB hz1 hk1 hS => ?_)
    obtain ⟨mx_1651, qx_1652, g2_1653, y_1654, rl_1655, fy_1656⟩ := u
    obtain ⟨rfl, h_1657⟩ := hw
    obtain ⟨hP, hD⟩ := zx_join (wr := [(a1, .inl (cy 0, 20, .inl f1)), (a2, .inl (cy 0, 20, .inl f2)), (ro, .inl (cy 0, 20, .inl f0)), (ep, .inl (cy 2, 22, .inr (.inr (.inr (.inr gp))))), (y0, .inr (8, q0)), (r0, .inr (4, [.int 0, .ref ed, .int 0])), (y1, .inr (8, q1)), (r1, .inr (4, [.int 0, .ref ed, .int 0])), (y2, .inr (8, q2)), (r2, .inr (4, [.int 0, .ref ed, .int 0])), (y3, .inr (8, q3)), (r3, .inr (4, [.int 0, .ref ed, .int 0])), (z0, .inr (16, u0)), (v0, .inr (4, [.int 0, .ref ed, .int 0])), (z1, .inr (16, u1)), (v1, .inr (4, [.int 0, .ref ed, .int 0])), (z2, .inr (16, u2)), (v2, .inr (4, [.int 0, .ref ed, .int 0])), (z3, .inr (16, u3)), (v3, .inr (4, [.int 0, .ref ed, .int 0])), (h, .inr (13, [.ref pe, .ref ne, .ref pa, .ref ro, .int 0])), (pe, .inr (9, [.int 20, .ref a1, .ref a2, .ref a3, .ref a4, .ref a5, .ref a6, .ref a7, .ref a8, .ref a9])), (pa, .inr (4, [.int mx_1639, .ref qx_1640, .int 5])), (qx_1640, .inl (cy 2, 10, .inr (.inr (.inr (.inr g2_1641))))), (y_1642, .inr (8, fy_1644)), (rl_1643, .inr (4, [.int 0, .ref ed, .int 0])), (oa, .inl (cy 3, 1, .inr (.inl o2_1645)))]) (w1 := [(m0, .inr (20, [.int 0, .ref mp, .int 0, .ref b1, .ref b2, .ref b3, .ref b4, .ref b5, .ref mq])), (mp, .inr (4, [.int mm, .ref ep, .int 20])), (mq, .inr (4, [.int mx_1651, .ref qx_1652, .int 5])), (qx_1652, .inl (cy 2, 10, .inr (.inr (.inr (.inr g2_1653))))), (y_1654, .inr (16, fy_1656)), (rl_1655, .inr (4, [.int 0, .ref ed, .int 0]))]) [3, 4, 6, 7] [0, 1, 2, 5, 8, 9, 10, 11, 12, 13, 14, 15, 16, 17, 18, 19, 20, 21, 22, 23, 24, 25, 26, 27, 28, 29, 30] rfl rfl (by decide) (by decide) hP hD hk1 hFc hB ht
    generalize H1 = H at hP hS ⊢
    have hP : va_P D vwCl [(a1, .inl (cy 0, 20, .inl f1)), (a2, .inl (cy 0, 20, .inl f2)), (ro, .inl (cy 0, 20, .inl f0)), (ep, .inl (cy 2, 22, .inr (.inr (.inr (.inr gp))))), (y0, .inr (8, q0)), (r0, .inr (4, [.int 0, .ref ed, .int 0])), (y1, .inr (8, q1)), (r1, .inr (4, [.int 0, .ref ed, .int 0])), (y2, .inr (8, q2)), (r2, .inr (4, [.int 0, .ref ed, .int 0])), (y3, .inr (8, q3)), (r3, .inr (4, [.int 0, .ref ed, .int 0])), (z0, .inr (16, u0)), (v0, .inr (4, [.int 0, .ref ed, .int 0])), (z1, .inr (16, u1)), (v1, .inr (4, [.int 0, .ref ed, .int 0])), (z2, .inr (16, u2)), (v2, .inr (4, [.int 0, .ref ed, .int 0])), (z3, .inr (16, u3)), (v3, .inr (4, [.int 0, .ref ed, .int 0])), (h, .inr (13, [.ref pe, .ref ne, .ref pa, .ref ro, .int 0])), (pe, .inr (9, [.int 20, .ref a1, .ref a2, .ref a3, .ref a4, .ref a5, .ref a6, .ref a7, .ref a8, .ref a9])), (pa, .inr (4, [.int mx_1639, .ref qx_1640, .int 5])), (qx_1640, .inl (cy 2, 10, .inr (.inr (.inr (.inr g2_1641))))), (y_1642, .inr (8, fy_1644)), (rl_1643, .inr (4, [.int 0, .ref ed, .int 0])), (oa, .inl (cy 3, 1, .inr (.inl o2_1645))), (m0, .inr (20, [.int 0, .ref mp, .int 0, .ref b1, .ref b2, .ref b3, .ref b4, .ref b5, .ref mq])), (mp, .inr (4, [.int mm, .ref ep, .int 20])), (mq, .inr (4, [.int mx_1651, .ref qx_1652, .int 5])), (qx_1652, .inl (cy 2, 10, .inr (.inr (.inr (.inr g2_1653))))), (y_1654, .inr (16, fy_1656)), (rl_1655, .inr (4, [.int 0, .ref ed, .int 0]))] H := hP
    have hD : va_D A [(a1, .inl (cy 0, 20, .inl f1)), (a2, .inl (cy 0, 20, .inl f2)), (ro, .inl (cy 0, 20, .inl f0)), (ep, .inl (cy 2, 22, .inr (.inr (.inr (.inr gp))))), (y0, .inr (8, q0)), (r0, .inr (4, [.int 0, .ref ed, .int 0])), (y1, .inr (8, q1)), (r1, .inr (4, [.int 0, .ref ed, .int 0])), (y2, .inr (8, q2)), (r2, .inr (4, [.int 0, .ref ed, .int 0])), (y3, .inr (8, q3)), (r3, .inr (4, [.int 0, .ref ed, .int 0])), (z0, .inr (16, u0)), (v0, .inr (4, [.int 0, .ref ed, .int 0])), (z1, .inr (16, u1)), (v1, .inr (4, [.int 0, .ref ed, .int 0])), (z2, .inr (16, u2)), (v2, .inr (4, [.int 0, .ref ed, .int 0])), (z3, .inr (16, u3)), (v3, .inr (4, [.int 0, .ref ed, .int 0])), (h, .inr (13, [.ref pe, .ref ne, .ref pa, .ref ro, .int 0])), (pe, .inr (9, [.int 20, .ref a1, .ref a2, .ref a3, .ref a4, .ref a5, .ref a6, .ref a7, .ref a8, .ref a9])), (pa, .inr (4, [.int mx_1639, .ref qx_1640, .int 5])), (qx_1640, .inl (cy 2, 10, .inr (.inr (.inr (.inr g2_1641))))), (y_1642, .inr (8, fy_1644)), (rl_1643, .inr (4, [.int 0, .ref ed, .int 0])), (oa, .inl (cy 3, 1, .inr (.inl o2_1645))), (m0, .inr (20, [.int 0, .ref mp, .int 0, .ref b1, .ref b2, .ref b3, .ref b4, .ref b5, .ref mq])), (mp, .inr (4, [.int mm, .ref ep, .int 20])), (mq, .inr (4, [.int mx_1651, .ref qx_1652, .int 5])), (qx_1652, .inl (cy 2, 10, .inr (.inr (.inr (.inr g2_1653))))), (y_1654, .inr (16, fy_1656)), (rl_1655, .inr (4, [.int 0, .ref ed, .int 0]))] := hD
    refine W.widen (k := 220) (n := 3247) (Nat.le_of_ble_eq_true rfl) (Nat.le_of_ble_eq_true rfl) ?_
    obtain ⟨hs_1658, hs_1659, hs_1660⟩ := h_1657
    refine lv_istore (lv' := [(7, .int 4), (6, .int 0), (5, .int 144), (3, .ref oa), (2, .ref m0), (1, .ref h), (0, .ref b)]) hx hb dL_law_627 hl (by decide) rfl (fun ls hl => ?_)
    refine lv_goto (tgt := 2542) hx hb dL_law_629 (by decide) ?_
    refine lv_iinc (v := 150) (lv' := [(5, .int 150), (7, .int 4), (6, .int 0), (3, .ref oa), (2, .ref m0), (1, .ref h), (0, .ref b)]) hx hb dL_law_2542 hl (k := 2) rfl (by decide) (by decide) rfl (fun ls hl => ?_)
    refine lv_goto (tgt := 28) hx hb dL_law_2545 (by decide) ?_
    have hP := hP.sub (ws' := [(h, .inr (13, [.ref pe, .ref ne, .ref pa, .ref ro, .int 0])), (pe, .inr (9, [.int 20, .ref a1, .ref a2, .ref a3, .ref a4, .ref a5, .ref a6, .ref a7, .ref a8, .ref a9])), (a1, .inl (cy 0, 20, .inl f1)), (a2, .inl (cy 0, 20, .inl f2)), (ro, .inl (cy 0, 20, .inl f0)), (pa, .inr (4, [.int mx_1639, .ref qx_1640, .int 5])), (qx_1640, .inl (cy 2, 10, .inr (.inr (.inr (.inr g2_1641))))), (m0, .inr (20, [.int 0, .ref mp, .int 0, .ref b1, .ref b2, .ref b3, .ref b4, .ref b5, .ref mq])), (mp, .inr (4, [.int mm, .ref ep, .int 20])), (ep, .inl (cy 2, 22, .inr (.inr (.inr (.inr gp))))), (mq, .inr (4, [.int mx_1651, .ref qx_1652, .int 5])), (qx_1652, .inl (cy 2, 10, .inr (.inr (.inr (.inr g2_1653))))), (oa, .inl (cy 3, 1, .inr (.inl o2_1645))), (y0, .inr (8, q0)), (r0, .inr (4, [.int 0, .ref ed, .int 0])), (y1, .inr (8, q1)), (r1, .inr (4, [.int 0, .ref ed, .int 0])), (y2, .inr (8, q2)), (r2, .inr (4, [.int 0, .ref ed, .int 0])), (y3, .inr (8, q3)), (r3, .inr (4, [.int 0, .ref ed, .int 0])), (y_1642, .inr (8, fy_1644)), (rl_1643, .inr (4, [.int 0, .ref ed, .int 0])), (z0, .inr (16, u0)), (v0, .inr (4, [.int 0, .ref ed, .int 0])), (z1, .inr (16, u1)), (v1, .inr (4, [.int 0, .ref ed, .int 0])), (z2, .inr (16, u2)), (v2, .inr (4, [.int 0, .ref ed, .int 0])), (z3, .inr (16, u3)), (v3, .inr (4, [.int 0, .ref ed, .int 0])), (y_1654, .inr (16, fy_1656)), (rl_1655, .inr (4, [.int 0, .ref ed, .int 0]))]) [20, 21, 0, 1, 2, 22, 23, 27, 28, 3, 29, 30, 26, 4, 5, 6, 7, 8, 9, 10, 11, 24, 25, 12, 13, 14, 15, 16, 17, 18, 19, 31, 32] rfl
    have hD := hD.sub (ws' := [(h, .inr (13, [.ref pe, .ref ne, .ref pa, .ref ro, .int 0])), (pe, .inr (9, [.int 20, .ref a1, .ref a2, .ref a3, .ref a4, .ref a5, .ref a6, .ref a7, .ref a8, .ref a9])), (a1, .inl (cy 0, 20, .inl f1)), (a2, .inl (cy 0, 20, .inl f2)), (ro, .inl (cy 0, 20, .inl f0)), (pa, .inr (4, [.int mx_1639, .ref qx_1640, .int 5])), (qx_1640, .inl (cy 2, 10, .inr (.inr (.inr (.inr g2_1641))))), (m0, .inr (20, [.int 0, .ref mp, .int 0, .ref b1, .ref b2, .ref b3, .ref b4, .ref b5, .ref mq])), (mp, .inr (4, [.int mm, .ref ep, .int 20])), (ep, .inl (cy 2, 22, .inr (.inr (.inr (.inr gp))))), (mq, .inr (4, [.int mx_1651, .ref qx_1652, .int 5])), (qx_1652, .inl (cy 2, 10, .inr (.inr (.inr (.inr g2_1653))))), (oa, .inl (cy 3, 1, .inr (.inl o2_1645))), (y0, .inr (8, q0)), (r0, .inr (4, [.int 0, .ref ed, .int 0])), (y1, .inr (8, q1)), (r1, .inr (4, [.int 0, .ref ed, .int 0])), (y2, .inr (8, q2)), (r2, .inr (4, [.int 0, .ref ed, .int 0])), (y3, .inr (8, q3)), (r3, .inr (4, [.int 0, .ref ed, .int 0])), (y_1642, .inr (8, fy_1644)), (rl_1643, .inr (4, [.int 0, .ref ed, .int 0])), (z0, .inr (16, u0)), (v0, .inr (4, [.int 0, .ref ed, .int 0])), (z1, .inr (16, u1)), (v1, .inr (4, [.int 0, .ref ed, .int 0])), (z2, .inr (16, u2)), (v2, .inr (4, [.int 0, .ref ed, .int 0])), (z3, .inr (16, u3)), (v3, .inr (4, [.int 0, .ref ed, .int 0])), (y_1654, .inr (16, fy_1656)), (rl_1655, .inr (4, [.int 0, .ref ed, .int 0]))]) [20, 21, 0, 1, 2, 22, 23, 27, 28, 3, 29, 30, 26, 4, 5, 6, 7, 8, 9, 10, 11, 24, 25, 12, 13, 14, 15, 16, 17, 18, 19, 31, 32] (by decide) rfl
    exact hnext _ _ _ ⟨pe, ne, pa, ro, a1, a2, a3, a4, a5, a6, a7, a8, a9, mp, mq, b1, b2, b3, b4, b5, ep, qx_1640, qx_1652, mx_1639, mm, mx_1651, f1, f2, f0, o2_1645, gp, g2_1641, g2_1653, y0, y1, y2, y3, y_1642, r0, r1, r2, r3, rl_1643, q0, q1, q2, q3, fy_1644, z0, z1, z2, z3, y_1654, v0, v1, v2, v3, rl_1655, u0, u1, u2, u3, fy_1656, hP, hD, ((hs_1650 0 (by decide)).trans hxe0), ((hs_1650 1 (by decide)).trans hxe1), ((hs_1650 2 (by decide)).trans hxe2), ((hs_1650 3 (by decide)).trans hxe3), hs_1649, hxq0, hxq1, hxq2, hxq3, hs_1648, ((hs_1660 0 (by decide)).trans hme0), ((hs_1660 1 (by decide)).trans hme1), ((hs_1660 2 (by decide)).trans hme2), ((hs_1660 3 (by decide)).trans hme3), hs_1659, hmq0, hmq1, hmq2, hmq3, hs_1658⟩ hS (lv_sub hl [0, 3, 4, 5, 6] rfl)
set_option maxHeartbeats 4000000 in
set_option maxRecDepth 100000 in
theorem law_step_25 {p : Program} {l : Launch} {e : Env} {s : State} {m : MethodId} {below : List Frame} {meth : Method} {c : Code} {D : va_G} {cy : Nat → ClassId} {ed b : Nat} {A : Nat → Prop} {Q : State → Prop} (C0 : zx_LW p l s m c D cy ed b A) {h m0 oa : Nat} {H : Heap} {locs : List Loc} {ls : Array Slot} (h0 : zx_S25 D cy ed A h m0 oa H) (hS : va_S A s.heap H locs) (hl : lv_has ls 9 [(5, .int 150), (3, .ref oa), (2, .ref m0), (1, .ref h), (0, .ref b)])
    (hnext : ∀ (H : Heap) (locs : List Loc) (ls : Array Slot), zx_S26 D cy ed A h m0 oa H → va_S A s.heap H locs → lv_has ls 9 [(5, .int 156), (3, .ref oa), (2, .ref m0), (1, .ref h), (0, .ref b)] → W p l e zx_R s m #[Value.ref b] below meth c H locs 243 3507 Q (F0 m 28 ls [])) :
    W p l e zx_R s m #[Value.ref b] below meth c H locs 220 3247 Q (F0 m 28 ls []) := by
  obtain ⟨hx, hb, hml, hst, hown, hts, hX, hbl, hbA, hA, hK, hZ, hN⟩ := C0
  obtain ⟨pe, ne, pa, ro, a1, a2, a3, a4, a5, a6, a7, a8, a9, mp, mq, b1, b2, b3, b4, b5, ep, el, eq, mc, mm, mn, f1, f2, f0, og, gp, g, gq, y0, y1, y2, y3, y4, r0, r1, r2, r3, r4, q0, q1, q2, q3, q4, z0, z1, z2, z3, z4, v0, v1, v2, v3, v4, u0, u1, u2, u3, u4, hP, hD, hxe0, hxe1, hxe2, hxe3, hxe4, hxq0, hxq1, hxq2, hxq3, hxq4, hme0, hme1, hme2, hme3, hme4, hmq0, hmq1, hmq2, hmq3, hmq4⟩ := h0
  refine lv_iload hx hb dL_law_28 (lv_at hl 0 rfl) ?_
  refine lv_aload_n hx hb dL_law_30 rfl (lv_at hl 4 rfl) ?_
  refine va_slen hx hb hX hbl hbA hS dL_law_31 ?_
  refine lv_topi (fun y9 ey9 => ?_)
  obtain rfl : y9 = 3072 := ey9.trans (by decide)
  refine lv_bipush (v := 6) hx hb dL_law_32 (by decide) ?_
  refine lv_isub hx hb dL_law_34 ?_
  refine lv_topi (fun y9 ey9 => ?_)
  obtain rfl : y9 = 3066 := by rw [ey9] <;> decide
  refine lv_icmp_gt (tgt := 2548) hx hb dL_law_35 (by decide) (fun c_1661 => absurd c_1661 (by decide)) (fun _ => ?_)
  refine lv_aload_n hx hb dL_law_38 rfl (lv_at hl 4 rfl) ?_
  refine lv_iload hx hb dL_law_39 (lv_at hl 0 rfl) ?_
  refine va_sld hx hb hX hbl hbA hS (zx_bn (by decide)) dL_law_41 ?_
  refine lv_topi (fun y9 ey9 => ?_)
  obtain rfl : y9 = 7 := ey9.trans (by decide)
  refine lv_bipush (v := 63) hx hb dL_law_42 (by decide) ?_
  refine lv_iand hx hb dL_law_44 ?_
  refine lv_topi (fun y9 ey9 => ?_)
  obtain rfl : y9 = 7 := by rw [ey9] <;> decide
  refine lv_tableIn (off := 535) (tgt := 580) hx hb dL_law_45 (by decide) (by decide) (by decide) (by decide) ?_
  refine lv_aload_n hx hb dL_law_580 rfl (lv_at hl 3 rfl) ?_
  refine lv_aload_n hx hb dL_law_581 rfl (lv_at hl 4 rfl) ?_
  refine lv_iload hx hb dL_law_582 (lv_at hl 0 rfl) ?_
  refine lv_iconst (v := 1) hx hb dL_law_584 (by decide) ?_
  refine lv_iadd hx hb dL_law_585 ?_
  refine lv_topi (fun y9 ey9 => ?_)
  obtain rfl : y9 = 151 := by rw [ey9] <;> decide
  refine va_sld hx hb hX hbl hbA hS (zx_bn (by decide)) dL_law_586 ?_
  refine lv_topi (fun y9 ey9 => ?_)
  obtain rfl : y9 = 0 := ey9.trans (by decide)
  refine lv_aload_n hx hb dL_law_587 rfl (lv_at hl 4 rfl) ?_
  refine lv_iload hx hb dL_law_588 (lv_at hl 0 rfl) ?_
  refine lv_iconst (v := 2) hx hb dL_law_590 (by decide) ?_
  refine lv_iadd hx hb dL_law_591 ?_
  refine lv_topi (fun y9 ey9 => ?_)
  obtain rfl : y9 = 152 := by rw [ey9] <;> decide
  refine va_sld hx hb hX hbl hbA hS (zx_bn (by decide)) dL_law_592 ?_
  refine lv_topi (fun y9 ey9 => ?_)
  obtain rfl : y9 = 0 := ey9.trans (by decide)
  refine lv_aload_n hx hb dL_law_593 rfl (lv_at hl 4 rfl) ?_
  refine lv_iload hx hb dL_law_594 (lv_at hl 0 rfl) ?_
  refine lv_iconst (v := 3) hx hb dL_law_596 (by decide) ?_
  refine lv_iadd hx hb dL_law_597 ?_
  refine lv_topi (fun y9 ey9 => ?_)
  obtain rfl : y9 = 153 := by rw [ey9] <;> decide
  refine va_sld hx hb hX hbl hbA hS (zx_bn (by decide)) dL_law_598 ?_
  refine lv_topi (fun y9 ey9 => ?_)
  obtain rfl : y9 = 0 := ey9.trans (by decide)
  refine lv_aload_n hx hb dL_law_599 rfl (lv_at hl 1 rfl) ?_
  have hPc := hP.sub (ws' := [(h, .inr (13, [.ref pe, .ref ne, .ref pa, .ref ro, .int 0])), (pe, .inr (9, [.int 20, .ref a1, .ref a2, .ref a3, .ref a4, .ref a5, .ref a6, .ref a7, .ref a8, .ref a9])), (pa, .inr (4, [.int mc, .ref el, .int 5])), (el, .inl (cy 2, 10, .inr (.inr (.inr (.inr g))))), (oa, .inl (cy 3, 1, .inr (.inl og)))]) [0, 1, 5, 6, 12] rfl
  have hDc := hD.sub (ws' := [(h, .inr (13, [.ref pe, .ref ne, .ref pa, .ref ro, .int 0])), (pe, .inr (9, [.int 20, .ref a1, .ref a2, .ref a3, .ref a4, .ref a5, .ref a6, .ref a7, .ref a8, .ref a9])), (pa, .inr (4, [.int mc, .ref el, .int 5])), (el, .inl (cy 2, 10, .inr (.inr (.inr (.inr g))))), (oa, .inl (cy 3, 1, .inr (.inl og)))]) [0, 1, 5, 6, 12] (by decide) rfl
  have hFc := va_free (wc := [(h, .inr (13, [.ref pe, .ref ne, .ref pa, .ref ro, .int 0])), (pe, .inr (9, [.int 20, .ref a1, .ref a2, .ref a3, .ref a4, .ref a5, .ref a6, .ref a7, .ref a8, .ref a9])), (pa, .inr (4, [.int mc, .ref el, .int 5])), (el, .inl (cy 2, 10, .inr (.inr (.inr (.inr g))))), (oa, .inl (cy 3, 1, .inr (.inl og)))]) hD hS hA [0, 1, 5, 6, 12] rfl
  refine vx_calli (vx_runSX (As := [.ref h, .int 0, .int 0, .int 0, .ref oa]) (rest := []) ⟨hx, hb, hml, hown, hts⟩ (c_L_begin_5 l hst D cy ed H.size h pe ne pa ro 0 a1 a2 a3 a4 a5 a6 a7 a8 a9 mc el g oa og) (vx_cwSW 5 hts (zx_GS mm_565 mm_566 mm_70 mm_567) rfl rfl rfl (by decide +kernel) ⟨(Nat.le_of_ble_eq_true rfl), (Nat.le_of_ble_eq_true rfl)⟩) ⟨zx_blind, zx_give hPc hK hDc hS hFc hZ hN⟩ rfl rfl hl.1 rfl (lv_room (Nat.le_of_ble_eq_true rfl)) dL_law_600 ⟨(Nat.le_of_ble_eq_true rfl), (Nat.le_of_ble_eq_true rfl)⟩) hS (fun q _ h => hFc q h) hFc (fun q _ h => hFc q h) (fun E9 ce9 q9 _ t H locs ht hvm _ hBX hz1 hk1 hS hce hcv hcl => ?_) (fun r9 u t H locs ht hvm hw hB hz1 hk1 hS => ?_)
  · exact hBX.elim
  ·
    obtain ⟨mx_1662, qx_1663, g2_1664, y_1665, rl_1666, fy_1667, o2_1668⟩ := u
    obtain ⟨rfl, h_1669⟩ := hw
    obtain ⟨hP, hD⟩ := zx_join (wr := [(a1, .inl (cy 0, 20, .inl f1)), (a2, .inl (cy 0, 20, .inl f2)), (ro, .inl (cy 0, 20, .inl f0)), (m0, .inr (20, [.int 0, .ref mp, .int 0, .ref b1, .ref b2, .ref b3, .ref b4, .ref b5, .ref mq])), (mp, .inr (4, [.int mm, .ref ep, .int 20])), (ep, .inl (cy 2, 22, .inr (.inr (.inr (.inr gp))))), (mq, .inr (4, [.int mn, .ref eq, .int 5])), (eq, .inl (cy 2, 10, .inr (.inr (.inr (.inr gq))))), (y0, .inr (8, q0)), (r0, .inr (4, [.int 0, .ref ed, .int 0])), (y1, .inr (8, q1)), (r1, .inr (4, [.int 0, .ref ed, .int 0])), (y2, .inr (8, q2)), (r2, .inr (4, [.int 0, .ref ed, .int 0])), (y3, .inr (8, q3)), (r3, .inr (4, [.int 0, .ref ed, .int 0])), (y4, .inr (8, q4)), (r4, .inr (4, [.int 0, .ref ed, .int 0])), (z0, .inr (16, u0)), (v0, .inr (4, [.int 0, .ref ed, .int 0])), (z1, .inr (16, u1)), (v1, .inr (4, [.int 0, .ref ed, .int 0])), (z2, .inr (16, u2)), (v2, .inr (4, [.int 0, .ref ed, .int 0])), (z3, .inr (16, u3)), (v3, .inr (4, [.int 0, .ref ed, .int 0])), (z4, .inr (16, u4)), (v4, .inr (4, [.int 0, .ref ed, .int 0]))]) (w1 := [(h, .inr (13, [.ref pe, .ref ne, .ref pa, .ref ro, .int 0])), (pe, .inr (9, [.int 20, .ref a1, .ref a2, .ref a3, .ref a4, .ref a5, .ref a6, .ref a7, .ref a8, .ref a9])), (pa, .inr (4, [.int mx_1662, .ref qx_1663, .int 6])), (qx_1663, .inl (cy 2, 10, .inr (.inr (.inr (.inr g2_1664))))), (y_1665, .inr (8, fy_1667)), (rl_1666, .inr (4, [.int 0, .ref ed, .int 0])), (oa, .inl (cy 3, 1, .inr (.inl o2_1668)))]) [0, 1, 5, 6, 12] [2, 3, 4, 7, 8, 9, 10, 11, 13, 14, 15, 16, 17, 18, 19, 20, 21, 22, 23, 24, 25, 26, 27, 28, 29, 30, 31, 32] rfl rfl (by decide) (by decide) hP hD hk1 hFc hB ht
    have hP : va_P D vwCl [(a1, .inl (cy 0, 20, .inl f1)), (a2, .inl (cy 0, 20, .inl f2)), (ro, .inl (cy 0, 20, .inl f0)), (m0, .inr (20, [.int 0, .ref mp, .int 0, .ref b1, .ref b2, .ref b3, .ref b4, .ref b5, .ref mq])), (mp, .inr (4, [.int mm, .ref ep, .int 20])), (ep, .inl (cy 2, 22, .inr (.inr (.inr (.inr gp))))), (mq, .inr (4, [.int mn, .ref eq, .int 5])), (eq, .inl (cy 2, 10, .inr (.inr (.inr (.inr gq))))), (y0, .inr (8, q0)), (r0, .inr (4, [.int 0, .ref ed, .int 0])), (y1, .inr (8, q1)), (r1, .inr (4, [.int 0, .ref ed, .int 0])), (y2, .inr (8, q2)), (r2, .inr (4, [.int 0, .ref ed, .int 0])), (y3, .inr (8, q3)), (r3, .inr (4, [.int 0, .ref ed, .int 0])), (y4, .inr (8, q4)), (r4, .inr (4, [.int 0, .ref ed, .int 0])), (z0, .inr (16, u0)), (v0, .inr (4, [.int 0, .ref ed, .int 0])), (z1, .inr (16, u1)), (v1, .inr (4, [.int 0, .ref ed, .int 0])), (z2, .inr (16, u2)), (v2, .inr (4, [.int 0, .ref ed, .int 0])), (z3, .inr (16, u3)), (v3, .inr (4, [.int 0, .ref ed, .int 0])), (z4, .inr (16, u4)), (v4, .inr (4, [.int 0, .ref ed, .int 0])), (h, .inr (13, [.ref pe, .ref ne, .ref pa, .ref ro, .int 0])), (pe, .inr (9, [.int 20, .ref a1, .ref a2, .ref a3, .ref a4, .ref a5, .ref a6, .ref a7, .ref a8, .ref a9])), (pa, .inr (4, [.int mx_1662, .ref qx_1663, .int 6])), (qx_1663, .inl (cy 2, 10, .inr (.inr (.inr (.inr g2_1664))))), (y_1665, .inr (8, fy_1667)), (rl_1666, .inr (4, [.int 0, .ref ed, .int 0])), (oa, .inl (cy 3, 1, .inr (.inl o2_1668)))] H := hP
    have hD : va_D A [(a1, .inl (cy 0, 20, .inl f1)), (a2, .inl (cy 0, 20, .inl f2)), (ro, .inl (cy 0, 20, .inl f0)), (m0, .inr (20, [.int 0, .ref mp, .int 0, .ref b1, .ref b2, .ref b3, .ref b4, .ref b5, .ref mq])), (mp, .inr (4, [.int mm, .ref ep, .int 20])), (ep, .inl (cy 2, 22, .inr (.inr (.inr (.inr gp))))), (mq, .inr (4, [.int mn, .ref eq, .int 5])), (eq, .inl (cy 2, 10, .inr (.inr (.inr (.inr gq))))), (y0, .inr (8, q0)), (r0, .inr (4, [.int 0, .ref ed, .int 0])), (y1, .inr (8, q1)), (r1, .inr (4, [.int 0, .ref ed, .int 0])), (y2, .inr (8, q2)), (r2, .inr (4, [.int 0, .ref ed, .int 0])), (y3, .inr (8, q3)), (r3, .inr (4, [.int 0, .ref ed, .int 0])), (y4, .inr (8, q4)), (r4, .inr (4, [.int 0, .ref ed, .int 0])), (z0, .inr (16, u0)), (v0, .inr (4, [.int 0, .ref ed, .int 0])), (z1, .inr (16, u1)), (v1, .inr (4, [.int 0, .ref ed, .int 0])), (z2, .inr (16, u2)), (v2, .inr (4, [.int 0, .ref ed, .int 0])), (z3, .inr (16, u3)), (v3, .inr (4, [.int 0, .ref ed, .int 0])), (z4, .inr (16, u4)), (v4, .inr (4, [.int 0, .ref ed, .int 0])), (h, .inr (13, [.ref pe, .ref ne, .ref pa, .ref ro, .int 0])), (pe, .inr (9, [.int 20, .ref a1, .ref a2, .ref a3, .ref a4, .ref a5, .ref a6, .ref a7, .ref a8, .ref a9])), (pa, .inr (4, [.int mx_1662, .ref qx_1663, .int 6])), (qx_1663, .inl (cy 2, 10, .inr (.inr (.inr (.inr g2_1664))))), (y_1665, .inr (8, fy_1667)), (rl_1666, .inr (4, [.int 0, .ref ed, .int 0])), (oa, .inl (cy 3, 1, .inr (.inl o2_1668)))] := hD
    refine W.widen (k := 234) (n := 3417) (Nat.le_of_ble_eq_true rfl) (Nat.le_of_ble_eq_true rfl) ?_
    obtain ⟨hs_1670, hs_1671, hs_1672, hs_1673⟩ := h_1669
    refine lv_istore (lv' := [(6, .int 0), (5, .int 150), (3, .ref oa), (2, .ref m0), (1, .ref h), (0, .ref b)]) hx hb dL_law_603 hl (by decide) rfl (fun ls hl => ?_)
    refine lv_aload_n hx hb dL_law_605 rfl (lv_at hl 3 rfl) ?_
    refine lv_aload_n hx hb dL_law_606 rfl (lv_at hl 5 rfl) ?_
    refine lv_iload hx hb dL_law_607 (lv_at hl 1 rfl) ?_
    refine lv_iconst (v := 1) hx hb dL_law_609 (by decide) ?_
    refine lv_iadd hx hb dL_law_610 ?_
    refine lv_topi (fun y9 ey9 => ?_)
    obtain rfl : y9 = 151 := by rw [ey9] <;> decide
    refine va_sld hx hb hX hbl hbA hS (zx_bn (by decide)) dL_law_611 ?_
    refine lv_topi (fun y9 ey9 => ?_)
    obtain rfl : y9 = 0 := ey9.trans (by decide)
    refine lv_aload_n hx hb dL_law_612 rfl (lv_at hl 5 rfl) ?_
    refine lv_iload hx hb dL_law_613 (lv_at hl 1 rfl) ?_
    refine lv_iconst (v := 2) hx hb dL_law_615 (by decide) ?_
    refine lv_iadd hx hb dL_law_616 ?_
    refine lv_topi (fun y9 ey9 => ?_)
    obtain rfl : y9 = 152 := by rw [ey9] <;> decide
    refine va_sld hx hb hX hbl hbA hS (zx_bn (by decide)) dL_law_617 ?_
    refine lv_topi (fun y9 ey9 => ?_)
    obtain rfl : y9 = 0 := ey9.trans (by decide)
    refine lv_aload_n hx hb dL_law_618 rfl (lv_at hl 5 rfl) ?_
    refine lv_iload hx hb dL_law_619 (lv_at hl 1 rfl) ?_
    refine lv_iconst (v := 3) hx hb dL_law_621 (by decide) ?_
    refine lv_iadd hx hb dL_law_622 ?_
    refine lv_topi (fun y9 ey9 => ?_)
    obtain rfl : y9 = 153 := by rw [ey9] <;> decide
    refine va_sld hx hb hX hbl hbA hS (zx_bn (by decide)) dL_law_623 ?_
    refine lv_topi (fun y9 ey9 => ?_)
    obtain rfl : y9 = 0 := ey9.trans (by decide)
    have hPc := hP.sub (ws' := [(m0, .inr (20, [.int 0, .ref mp, .int 0, .ref b1, .ref b2, .ref b3, .ref b4, .ref b5, .ref mq])), (mp, .inr (4, [.int mm, .ref ep, .int 20])), (mq, .inr (4, [.int mn, .ref eq, .int 5])), (eq, .inl (cy 2, 10, .inr (.inr (.inr (.inr gq)))))]) [3, 4, 6, 7] rfl
    have hDc := hD.sub (ws' := [(m0, .inr (20, [.int 0, .ref mp, .int 0, .ref b1, .ref b2, .ref b3, .ref b4, .ref b5, .ref mq])), (mp, .inr (4, [.int mm, .ref ep, .int 20])), (mq, .inr (4, [.int mn, .ref eq, .int 5])), (eq, .inl (cy 2, 10, .inr (.inr (.inr (.inr gq)))))]) [3, 4, 6, 7] (by decide) rfl
    have hFc := va_free (wc := [(m0, .inr (20, [.int 0, .ref mp, .int 0, .ref b1, .ref b2, .ref b3, .ref b4, .ref b5, .ref mq])), (mp, .inr (4, [.int mm, .ref ep, .int 20])), (mq, .inr (4, [.int mn, .ref eq, .int 5])), (eq, .inl (cy 2, 10, .inr (.inr (.inr (.inr gq)))))]) hD hS hA [3, 4, 6, 7] rfl
    refine va_calli (va_runV (As := [.int 0, .int 0, .int 0]) (rest := []) ⟨hx, hb, hml, hown, hts⟩ (c_X15_begin_5 l hst D cy ed H.size m0 mp mq b1 b2 b3 b4 b5 0 0 mm ep mn eq gq) (cwV 3 hts (zx_GV mm_1779 mm_1780 mm_1781 mm_78 mm_1782) rfl rfl rfl (by decide +kernel) ⟨(Nat.le_of_ble_eq_true rfl), (Nat.le_of_ble_eq_true rfl)⟩) ⟨zx_blind, va_recv hK hPc (ci := 20) (q0 := 0) rfl rfl, zx_give hPc hK hDc hS hFc hZ hN⟩ rfl rfl hl.1 rfl (lv_room (Nat.le_of_ble_eq_true rfl)) dL_law_624 ⟨(Nat.le_of_ble_eq_true rfl), (Nat.le_of_ble_eq_true rfl)⟩) hS (fun q _ h => hFc q h) hFc (fun r9 u t H1 locs ht hvm hw hB hz1 hk1 hS => ?_)
    obtain ⟨mx_1674, qx_1675, g2_1676, y_1677, rl_1678, fy_1679⟩ := u
    obtain ⟨rfl, h_1680⟩ := hw
    obtain ⟨hP, hD⟩ := zx_join (wr := [(a1, .inl (cy 0, 20, .inl f1)), (a2, .inl (cy 0, 20, .inl f2)), (ro, .inl (cy 0, 20, .inl f0)), (ep, .inl (cy 2, 22, .inr (.inr (.inr (.inr gp))))), (y0, .inr (8, q0)), (r0, .inr (4, [.int 0, .ref ed, .int 0])), (y1, .inr (8, q1)), (r1, .inr (4, [.int 0, .ref ed, .int 0])), (y2, .inr (8, q2)), (r2, .inr (4, [.int 0, .ref ed, .int 0])), (y3, .inr (8, q3)), (r3, .inr (4, [.int 0, .ref ed, .int 0])), (y4, .inr (8, q4)), (r4, .inr (4, [.int 0, .ref ed, .int 0])), (z0, .inr (16, u0)), (v0, .inr (4, [.int 0, .ref ed, .int 0])), (z1, .inr (16, u1)), (v1, .inr (4, [.int 0, .ref ed, .int 0])), (z2, .inr (16, u2)), (v2, .inr (4, [.int 0, .ref ed, .int 0])), (z3, .inr (16, u3)), (v3, .inr (4, [.int 0, .ref ed, .int 0])), (z4, .inr (16, u4)), (v4, .inr (4, [.int 0, .ref ed, .int 0])), (h, .inr (13, [.ref pe, .ref ne, .ref pa, .ref ro, .int 0])), (pe, .inr (9, [.int 20, .ref a1, .ref a2, .ref a3, .ref a4, .ref a5, .ref a6, .ref a7, .ref a8, .ref a9])), (pa, .inr (4, [.int mx_1662, .ref qx_1663, .int 6])), (qx_1663, .inl (cy 2, 10, .inr (.inr (.inr (.inr g2_1664))))), (y_1665, .inr (8, fy_1667)), (rl_1666, .inr (4, [.int 0, .ref ed, .int 0])), (oa, .inl (cy 3, 1, .inr (.inl o2_1668)))]) (w1 := [(m0, .inr (20, [.int 0, .ref mp, .int 0, .ref b1, .ref b2, .ref b3, .ref b4, .ref b5, .ref mq])), (mp, .inr (4, [.int mm, .ref ep, .int 20])), (mq, .inr (4, [.int mx_1674, .ref qx_1675, .int 6])), (qx_1675, .inl (cy 2, 10, .inr (.inr (.inr (.inr g2_1676))))), (y_1677, .inr (16, fy_1679)), (rl_1678, .inr (4, [.int 0, .ref ed, .int 0]))]) [3, 4, 6, 7] [0, 1, 2, 5, 8, 9, 10, 11, 12, 13, 14, 15, 16, 17, 18, 19, 20, 21, 22, 23, 24, 25, 26, 27, 28, 29, 30, 31, 32, 33, 34] rfl rfl (by decide) (by decide) hP hD hk1 hFc hB ht
    generalize H1 = H at hP hS ⊢
    have hP : va_P D vwCl [(a1, .inl (cy 0, 20, .inl f1)), (a2, .inl (cy 0, 20, .inl f2)), (ro, .inl (cy 0, 20, .inl f0)), (ep, .inl (cy 2, 22, .inr (.inr (.inr (.inr gp))))), (y0, .inr (8, q0)), (r0, .inr (4, [.int 0, .ref ed, .int 0])), (y1, .inr (8, q1)), (r1, .inr (4, [.int 0, .ref ed, .int 0])), (y2, .inr (8, q2)), (r2, .inr (4, [.int 0, .ref ed, .int 0])), (y3, .inr (8, q3)), (r3, .inr (4, [.int 0, .ref ed, .int 0])), (y4, .inr (8, q4)), (r4, .inr (4, [.int 0, .ref ed, .int 0])), (z0, .inr (16, u0)), (v0, .inr (4, [.int 0, .ref ed, .int 0])), (z1, .inr (16, u1)), (v1, .inr (4, [.int 0, .ref ed, .int 0])), (z2, .inr (16, u2)), (v2, .inr (4, [.int 0, .ref ed, .int 0])), (z3, .inr (16, u3)), (v3, .inr (4, [.int 0, .ref ed, .int 0])), (z4, .inr (16, u4)), (v4, .inr (4, [.int 0, .ref ed, .int 0])), (h, .inr (13, [.ref pe, .ref ne, .ref pa, .ref ro, .int 0])), (pe, .inr (9, [.int 20, .ref a1, .ref a2, .ref a3, .ref a4, .ref a5, .ref a6, .ref a7, .ref a8, .ref a9])), (pa, .inr (4, [.int mx_1662, .ref qx_1663, .int 6])), (qx_1663, .inl (cy 2, 10, .inr (.inr (.inr (.inr g2_1664))))), (y_1665, .inr (8, fy_1667)), (rl_1666, .inr (4, [.int 0, .ref ed, .int 0])), (oa, .inl (cy 3, 1, .inr (.inl o2_1668))), (m0, .inr (20, [.int 0, .ref mp, .int 0, .ref b1, .ref b2, .ref b3, .ref b4, .ref b5, .ref mq])), (mp, .inr (4, [.int mm, .ref ep, .int 20])), (mq, .inr (4, [.int mx_1674, .ref qx_1675, .int 6])), (qx_1675, .inl (cy 2, 10, .inr (.inr (.inr (.inr g2_1676))))), (y_1677, .inr (16, fy_1679)), (rl_1678, .inr (4, [.int 0, .ref ed, .int 0]))] H := hP
    have hD : va_D A [(a1, .inl (cy 0, 20, .inl f1)), (a2, .inl (cy 0, 20, .inl f2)), (ro, .inl (cy 0, 20, .inl f0)), (ep, .inl (cy 2, 22, .inr (.inr (.inr (.inr gp))))), (y0, .inr (8, q0)), (r0, .inr (4, [.int 0, .ref ed, .int 0])), (y1, .inr (8, q1)), (r1, .inr (4, [.int 0, .ref ed, .int 0])), (y2, .inr (8, q2)), (r2, .inr (4, [.int 0, .ref ed, .int 0])), (y3, .inr (8, q3)), (r3, .inr (4, [.int 0, .ref ed, .int 0])), (y4, .inr (8, q4)), (r4, .inr (4, [.int 0, .ref ed, .int 0])), (z0, .inr (16, u0)), (v0, .inr (4, [.int 0, .ref ed, .int 0])), (z1, .inr (16, u1)), (v1, .inr (4, [.int 0, .ref ed, .int 0])), (z2, .inr (16, u2)), (v2, .inr (4, [.int 0, .ref ed, .int 0])), (z3, .inr (16, u3)), (v3, .inr (4, [.int 0, .ref ed, .int 0])), (z4, .inr (16, u4)), (v4, .inr (4, [.int 0, .ref ed, .int 0])), (h, .inr (13, [.ref pe, .ref ne, .ref pa, .ref ro, .int 0])), (pe, .inr (9, [.int 20, .ref a1, .ref a2, .ref a3, .ref a4, .ref a5, .ref a6, .ref a7, .ref a8, .ref a9])), (pa, .inr (4, [.int mx_1662, .ref qx_1663, .int 6])), (qx_1663, .inl (cy 2, 10, .inr (.inr (.inr (.inr g2_1664))))), (y_1665, .inr (8, fy_1667)), (rl_1666, .inr (4, [.int 0, .ref ed, .int 0])), (oa, .inl (cy 3, 1, .inr (.inl o2_1668))), (m0, .inr (20, [.int 0, .ref mp, .int 0, .ref b1, .ref b2, .ref b3, .ref b4, .ref b5, .ref mq])), (mp, .inr (4, [.int mm, .ref ep, .int 20])), (mq, .inr (4, [.int mx_1674, .ref qx_1675, .int 6])), (qx_1675, .inl (cy 2, 10, .inr (.inr (.inr (.inr g2_1676))))), (y_1677, .inr (16, fy_1679)), (rl_1678, .inr (4, [.int 0, .ref ed, .int 0]))] := hD
    refine W.widen (k := 243) (n := 3507) (Nat.le_of_ble_eq_true rfl) (Nat.le_of_ble_eq_true rfl) ?_
    obtain ⟨hs_1681, hs_1682, hs_1683⟩ := h_1680
    refine lv_istore (lv' := [(7, .int 5), (6, .int 0), (5, .int 150), (3, .ref oa), (2, .ref m0), (1, .ref h), (0, .ref b)]) hx hb dL_law_627 hl (by decide) rfl (fun ls hl => ?_)
    refine lv_goto (tgt := 2542) hx hb dL_law_629 (by decide) ?_
    refine lv_iinc (v := 156) (lv' := [(5, .int 156), (7, .int 5), (6, .int 0), (3, .ref oa), (2, .ref m0), (1, .ref h), (0, .ref b)]) hx hb dL_law_2542 hl (k := 2) rfl (by decide) (by decide) rfl (fun ls hl => ?_)
    refine lv_goto (tgt := 28) hx hb dL_law_2545 (by decide) ?_
    have hP := hP.sub (ws' := [(h, .inr (13, [.ref pe, .ref ne, .ref pa, .ref ro, .int 0])), (pe, .inr (9, [.int 20, .ref a1, .ref a2, .ref a3, .ref a4, .ref a5, .ref a6, .ref a7, .ref a8, .ref a9])), (a1, .inl (cy 0, 20, .inl f1)), (a2, .inl (cy 0, 20, .inl f2)), (ro, .inl (cy 0, 20, .inl f0)), (pa, .inr (4, [.int mx_1662, .ref qx_1663, .int 6])), (qx_1663, .inl (cy 2, 10, .inr (.inr (.inr (.inr g2_1664))))), (m0, .inr (20, [.int 0, .ref mp, .int 0, .ref b1, .ref b2, .ref b3, .ref b4, .ref b5, .ref mq])), (mp, .inr (4, [.int mm, .ref ep, .int 20])), (ep, .inl (cy 2, 22, .inr (.inr (.inr (.inr gp))))), (mq, .inr (4, [.int mx_1674, .ref qx_1675, .int 6])), (qx_1675, .inl (cy 2, 10, .inr (.inr (.inr (.inr g2_1676))))), (oa, .inl (cy 3, 1, .inr (.inl o2_1668))), (y0, .inr (8, q0)), (r0, .inr (4, [.int 0, .ref ed, .int 0])), (y1, .inr (8, q1)), (r1, .inr (4, [.int 0, .ref ed, .int 0])), (y2, .inr (8, q2)), (r2, .inr (4, [.int 0, .ref ed, .int 0])), (y3, .inr (8, q3)), (r3, .inr (4, [.int 0, .ref ed, .int 0])), (y4, .inr (8, q4)), (r4, .inr (4, [.int 0, .ref ed, .int 0])), (y_1665, .inr (8, fy_1667)), (rl_1666, .inr (4, [.int 0, .ref ed, .int 0])), (z0, .inr (16, u0)), (v0, .inr (4, [.int 0, .ref ed, .int 0])), (z1, .inr (16, u1)), (v1, .inr (4, [.int 0, .ref ed, .int 0])), (z2, .inr (16, u2)), (v2, .inr (4, [.int 0, .ref ed, .int 0])), (z3, .inr (16, u3)), (v3, .inr (4, [.int 0, .ref ed, .int 0])), (z4, .inr (16, u4)), (v4, .inr (4, [.int 0, .ref ed, .int 0])), (y_1677, .inr (16, fy_1679)), (rl_1678, .inr (4, [.int 0, .ref ed, .int 0]))]) [24, 25, 0, 1, 2, 26, 27, 31, 32, 3, 33, 34, 30, 4, 5, 6, 7, 8, 9, 10, 11, 12, 13, 28, 29, 14, 15, 16, 17, 18, 19, 20, 21, 22, 23, 35, 36] rfl
    have hD := hD.sub (ws' := [(h, .inr (13, [.ref pe, .ref ne, .ref pa, .ref ro, .int 0])), (pe, .inr (9, [.int 20, .ref a1, .ref a2, .ref a3, .ref a4, .ref a5, .ref a6, .ref a7, .ref a8, .ref a9])), (a1, .inl (cy 0, 20, .inl f1)), (a2, .inl (cy 0, 20, .inl f2)), (ro, .inl (cy 0, 20, .inl f0)), (pa, .inr (4, [.int mx_1662, .ref qx_1663, .int 6])), (qx_1663, .inl (cy 2, 10, .inr (.inr (.inr (.inr g2_1664))))), (m0, .inr (20, [.int 0, .ref mp, .int 0, .ref b1, .ref b2, .ref b3, .ref b4, .ref b5, .ref mq])), (mp, .inr (4, [.int mm, .ref ep, .int 20])), (ep, .inl (cy 2, 22, .inr (.inr (.inr (.inr gp))))), (mq, .inr (4, [.int mx_1674, .ref qx_1675, .int 6])), (qx_1675, .inl (cy 2, 10, .inr (.inr (.inr (.inr g2_1676))))), (oa, .inl (cy 3, 1, .inr (.inl o2_1668))), (y0, .inr (8, q0)), (r0, .inr (4, [.int 0, .ref ed, .int 0])), (y1, .inr (8, q1)), (r1, .inr (4, [.int 0, .ref ed, .int 0])), (y2, .inr (8, q2)), (r2, .inr (4, [.int 0, .ref ed, .int 0])), (y3, .inr (8, q3)), (r3, .inr (4, [.int 0, .ref ed, .int 0])), (y4, .inr (8, q4)), (r4, .inr (4, [.int 0, .ref ed, .int 0])), (y_1665, .inr (8, fy_1667)), (rl_1666, .inr (4, [.int 0, .ref ed, .int 0])), (z0, .inr (16, u0)), (v0, .inr (4, [.int 0, .ref ed, .int 0])), (z1, .inr (16, u1)), (v1, .inr (4, [.int 0, .ref ed, .int 0])), (z2, .inr (16, u2)), (v2, .inr (4, [.int 0, .ref ed, .int 0])), (z3, .inr (16, u3)), (v3, .inr (4, [.int 0, .ref ed, .int 0])), (z4, .inr (16, u4)), (v4, .inr (4, [.int 0, .ref ed, .int 0])), (y_1677, .inr (16, fy_1679)), (rl_1678, .inr (4, [.int 0, .ref ed, .int 0]))]) [24, 25, 0, 1, 2, 26, 27, 31, 32, 3, 33, 34, 30, 4, 5, 6, 7, 8, 9, 10, 11, 12, 13, 28, 29, 14, 15, 16, 17, 18, 19, 20, 21, 22, 23, 35, 36] (by decide) rfl
    exact hnext _ _ _ ⟨pe, ne, pa, ro, a1, a2, a3, a4, a5, a6, a7, a8, a9, mp, mq, b1, b2, b3, b4, b5, ep, qx_1663, qx_1675, mx_1662, mm, mx_1674, f1, f2, f0, o2_1668, gp, g2_1664, g2_1676, y0, y1, y2, y3, y4, y_1665, r0, r1, r2, r3, r4, rl_1666, q0, q1, q2, q3, q4, fy_1667, z0, z1, z2, z3, z4, y_1677, v0, v1, v2, v3, v4, rl_1678, u0, u1, u2, u3, u4, fy_1679, hP, hD, ((hs_1673 0 (by decide)).trans hxe0), ((hs_1673 1 (by decide)).trans hxe1), ((hs_1673 2 (by decide)).trans hxe2), ((hs_1673 3 (by decide)).trans hxe3), ((hs_1673 4 (by decide)).trans hxe4), hs_1672, hxq0, hxq1, hxq2, hxq3, hxq4, hs_1671, ((hs_1683 0 (by decide)).trans hme0), ((hs_1683 1 (by decide)).trans hme1), ((hs_1683 2 (by decide)).trans hme2), ((hs_1683 3 (by decide)).trans hme3), ((hs_1683 4 (by decide)).trans hme4), hs_1682, hmq0, hmq1, hmq2, hmq3, hmq4, hs_1681⟩ hS (lv_sub hl [0, 3, 4, 5, 6] rfl)
set_option maxHeartbeats 4000000 in
set_option maxRecDepth 100000 in
theorem law_rings {p : Program} {l : Launch} {e : Env} {s : State} {m : MethodId} {below : List Frame} {meth : Method} {c : Code} {D : va_G} {cy : Nat → ClassId} {ed b : Nat} {A : Nat → Prop} {Q : State → Prop} (C0 : zx_LW p l s m c D cy ed b A) {h m0 oa i n0 cells slots : Nat} (hi : i + 6 ≤ 3072) (h55 : zx_bad i = 55) (hc : cells + 1330 ≤ 2000000) (hs : slots + 5320 ≤ 20000000) {H : Heap} {locs : List Loc} {ls : Array Slot} (h0 : zx_S26 D cy ed A h m0 oa H) (hgr : n0 + 0 ≤ H.size) (hS : va_S A s.heap H locs) (hl : lv_has ls 9 [(5, .int (nI i)), (3, .ref oa), (2, .ref m0), (1, .ref h), (0, .ref b)])
    (hnext : ∀ (H : Heap) (locs : List Loc) (ls : Array Slot), zx_S26 D cy ed A h m0 oa H → n0 + 1330 ≤ H.size → va_S A s.heap H locs → lv_has ls 9 [(5, .int (nI (i + 6))), (3, .ref oa), (2, .ref m0), (1, .ref h), (0, .ref b)] → W p l e zx_R s m #[Value.ref b] below meth c H locs (cells + 1330) (slots + 5320) Q (F0 m 28 ls [])) :
    W p l e zx_R s m #[Value.ref b] below meth c H locs cells slots Q (F0 m 28 ls []) := by
  obtain ⟨hx, hb, hml, hst, hown, hts, hX, hbl, hbA, hA, hK, hZ, hN⟩ := C0
  have hgt : ¬ (3066 : Int32) < nI i := by rw [show (3066 : Int32) = nI 3066 from by decide]; exact nI_nlt (by omega) (by decide)
  obtain ⟨pe, ne, pa, ro, a1, a2, a3, a4, a5, a6, a7, a8, a9, mp, mq, b1, b2, b3, b4, b5, ep, el, eq, mc, mm, mn, f1, f2, f0, og, gp, g, gq, y0, y1, y2, y3, y4, y5, r0, r1, r2, r3, r4, r5, q0, q1, q2, q3, q4, q5, z0, z1, z2, z3, z4, z5, v0, v1, v2, v3, v4, v5, u0, u1, u2, u3, u4, u5, hP, hD, hxe0, hxe1, hxe2, hxe3, hxe4, hxe5, hxq0, hxq1, hxq2, hxq3, hxq4, hxq5, hme0, hme1, hme2, hme3, hme4, hme5, hmq0, hmq1, hmq2, hmq3, hmq4, hmq5⟩ := h0
  refine lv_iload hx hb dL_law_28 (lv_at hl 0 rfl) ?_
  refine lv_aload_n hx hb dL_law_30 rfl (lv_at hl 4 rfl) ?_
  refine va_slen hx hb hX hbl hbA hS dL_law_31 ?_
  refine lv_topi (fun y9 ey9 => ?_)
  obtain rfl : y9 = 3072 := ey9.trans (by decide)
  refine lv_bipush (v := 6) hx hb dL_law_32 (by decide) ?_
  refine lv_isub hx hb dL_law_34 ?_
  refine lv_topi (fun y9 ey9 => ?_)
  obtain rfl : y9 = 3066 := by rw [ey9] <;> decide
  refine lv_icmp_gt (tgt := 2548) hx hb dL_law_35 (by decide) (fun c_1684 => absurd c_1684 hgt) (fun _ => ?_)
  refine lv_aload_n hx hb dL_law_38 rfl (lv_at hl 4 rfl) ?_
  refine lv_iload hx hb dL_law_39 (lv_at hl 0 rfl) ?_
  refine va_sld hx hb hX hbl hbA hS (vp_in_nI (N := 3072) (by omega) (by decide)) dL_law_41 ?_
  refine lv_topi (fun y9 ey9 => ?_)
  obtain rfl : y9 = 55 := ey9.trans (by rw [nI_clamp (by omega)]; exact h55)
  refine lv_bipush (v := 63) hx hb dL_law_42 (by decide) ?_
  refine lv_iand hx hb dL_law_44 ?_
  refine lv_topi (fun y9 ey9 => ?_)
  obtain rfl : y9 = 55 := by rw [ey9] <;> decide
  refine lv_tableIn (off := 2424) (tgt := 2469) hx hb dL_law_45 (by decide) (by decide) (by decide) (by decide) ?_
  refine lv_aload_n hx hb dL_law_2469 rfl (lv_at hl 3 rfl) ?_
  have hPc := hP.sub (ws' := [(h, .inr (13, [.ref pe, .ref ne, .ref pa, .ref ro, .int 0])), (pe, .inr (9, [.int 20, .ref a1, .ref a2, .ref a3, .ref a4, .ref a5, .ref a6, .ref a7, .ref a8, .ref a9])), (ro, .inl (cy 0, 20, .inl f0)), (pa, .inr (4, [.int mc, .ref el, .int 6])), (el, .inl (cy 2, 10, .inr (.inr (.inr (.inr g))))), (y0, .inr (8, q0)), (r0, .inr (4, [.int 0, .ref ed, .int 0])), (y1, .inr (8, q1)), (r1, .inr (4, [.int 0, .ref ed, .int 0])), (y2, .inr (8, q2)), (r2, .inr (4, [.int 0, .ref ed, .int 0])), (y3, .inr (8, q3)), (r3, .inr (4, [.int 0, .ref ed, .int 0])), (y4, .inr (8, q4)), (r4, .inr (4, [.int 0, .ref ed, .int 0])), (y5, .inr (8, q5)), (r5, .inr (4, [.int 0, .ref ed, .int 0]))]) [0, 1, 4, 5, 6, 13, 14, 15, 16, 17, 18, 19, 20, 21, 22, 23, 24] rfl
  have hDc := hD.sub (ws' := [(h, .inr (13, [.ref pe, .ref ne, .ref pa, .ref ro, .int 0])), (pe, .inr (9, [.int 20, .ref a1, .ref a2, .ref a3, .ref a4, .ref a5, .ref a6, .ref a7, .ref a8, .ref a9])), (ro, .inl (cy 0, 20, .inl f0)), (pa, .inr (4, [.int mc, .ref el, .int 6])), (el, .inl (cy 2, 10, .inr (.inr (.inr (.inr g))))), (y0, .inr (8, q0)), (r0, .inr (4, [.int 0, .ref ed, .int 0])), (y1, .inr (8, q1)), (r1, .inr (4, [.int 0, .ref ed, .int 0])), (y2, .inr (8, q2)), (r2, .inr (4, [.int 0, .ref ed, .int 0])), (y3, .inr (8, q3)), (r3, .inr (4, [.int 0, .ref ed, .int 0])), (y4, .inr (8, q4)), (r4, .inr (4, [.int 0, .ref ed, .int 0])), (y5, .inr (8, q5)), (r5, .inr (4, [.int 0, .ref ed, .int 0]))]) [0, 1, 4, 5, 6, 13, 14, 15, 16, 17, 18, 19, 20, 21, 22, 23, 24] (by decide) rfl
  have hFc := va_free (wc := [(h, .inr (13, [.ref pe, .ref ne, .ref pa, .ref ro, .int 0])), (pe, .inr (9, [.int 20, .ref a1, .ref a2, .ref a3, .ref a4, .ref a5, .ref a6, .ref a7, .ref a8, .ref a9])), (ro, .inl (cy 0, 20, .inl f0)), (pa, .inr (4, [.int mc, .ref el, .int 6])), (el, .inl (cy 2, 10, .inr (.inr (.inr (.inr g))))), (y0, .inr (8, q0)), (r0, .inr (4, [.int 0, .ref ed, .int 0])), (y1, .inr (8, q1)), (r1, .inr (4, [.int 0, .ref ed, .int 0])), (y2, .inr (8, q2)), (r2, .inr (4, [.int 0, .ref ed, .int 0])), (y3, .inr (8, q3)), (r3, .inr (4, [.int 0, .ref ed, .int 0])), (y4, .inr (8, q4)), (r4, .inr (4, [.int 0, .ref ed, .int 0])), (y5, .inr (8, q5)), (r5, .inr (4, [.int 0, .ref ed, .int 0]))]) hD hS hA [0, 1, 4, 5, 6, 13, 14, 15, 16, 17, 18, 19, 20, 21, 22, 23, 24] rfl
  refine va_calli (va_runV (As := []) (rest := []) ⟨hx, hb, hml, hown, hts⟩ (c_X8_rings l hst D cy ed H.size h pe ne pa ro 0 a1 a2 a3 a4 a5 a6 a7 a8 a9 mc el g y0 y1 y2 y3 y4 y5 r0 r1 r2 r3 r4 r5 q0 q1 q2 q3 q4 q5 f0 hxe0 hxe1 hxe2 hxe3 hxe4 hxe5 hxq0 hxq1 hxq2 hxq3 hxq4 hxq5) (cwV 0 hts (zx_GV mm_244 mm_245 mm_246 mm_71 mm_247) rfl rfl rfl (by decide +kernel) ⟨(Nat.le_of_ble_eq_true rfl), (Nat.le_of_ble_eq_true rfl)⟩) ⟨zx_blind, va_recv hK hPc (ci := 13) (q0 := 0) rfl rfl, zx_give hPc hK hDc hS hFc hZ hN⟩ rfl rfl hl.1 rfl (lv_room (Nat.le_of_ble_eq_true rfl)) dL_law_2470 ⟨(by show _ ≤ 2000000; omega), (by show _ ≤ 20000000; omega)⟩) hS (fun q _ h => hFc q h) hFc (fun r9 u t H1 locs ht hvm hw hB hz1 hk1 hS => ?_)
  obtain ⟨f3_1685, rfl⟩ : ∃ z9, z9 = u := ⟨_, rfl⟩
  obtain rfl : r9 = 0 := hw
  have hgr := Nat.le_trans hgr hz1
  obtain ⟨hP, hD⟩ := zx_join (wr := [(a1, .inl (cy 0, 20, .inl f1)), (a2, .inl (cy 0, 20, .inl f2)), (m0, .inr (20, [.int 0, .ref mp, .int 0, .ref b1, .ref b2, .ref b3, .ref b4, .ref b5, .ref mq])), (mp, .inr (4, [.int mm, .ref ep, .int 20])), (ep, .inl (cy 2, 22, .inr (.inr (.inr (.inr gp))))), (mq, .inr (4, [.int mn, .ref eq, .int 6])), (eq, .inl (cy 2, 10, .inr (.inr (.inr (.inr gq))))), (oa, .inl (cy 3, 1, .inr (.inl og))), (z0, .inr (16, u0)), (v0, .inr (4, [.int 0, .ref ed, .int 0])), (z1, .inr (16, u1)), (v1, .inr (4, [.int 0, .ref ed, .int 0])), (z2, .inr (16, u2)), (v2, .inr (4, [.int 0, .ref ed, .int 0])), (z3, .inr (16, u3)), (v3, .inr (4, [.int 0, .ref ed, .int 0])), (z4, .inr (16, u4)), (v4, .inr (4, [.int 0, .ref ed, .int 0])), (z5, .inr (16, u5)), (v5, .inr (4, [.int 0, .ref ed, .int 0]))]) (w1 := [(h, .inr (13, [.ref pe, .ref ne, .ref pa, .ref ro, .int 0])), (pe, .inr (9, [.int 20, .ref a1, .ref a2, .ref a3, .ref a4, .ref a5, .ref a6, .ref a7, .ref a8, .ref a9])), (ro, .inl (cy 0, 20, .inl f3_1685)), (pa, .inr (4, [.int mc, .ref el, .int 6])), (el, .inl (cy 2, 10, .inr (.inr (.inr (.inr g))))), (y0, .inr (8, q0)), (r0, .inr (4, [.int 0, .ref ed, .int 0])), (y1, .inr (8, q1)), (r1, .inr (4, [.int 0, .ref ed, .int 0])), (y2, .inr (8, q2)), (r2, .inr (4, [.int 0, .ref ed, .int 0])), (y3, .inr (8, q3)), (r3, .inr (4, [.int 0, .ref ed, .int 0])), (y4, .inr (8, q4)), (r4, .inr (4, [.int 0, .ref ed, .int 0])), (y5, .inr (8, q5)), (r5, .inr (4, [.int 0, .ref ed, .int 0]))]) [0, 1, 4, 5, 6, 13, 14, 15, 16, 17, 18, 19, 20, 21, 22, 23, 24] [2, 3, 7, 8, 9, 10, 11, 12, 25, 26, 27, 28, 29, 30, 31, 32, 33, 34, 35, 36] rfl rfl (by decide) (by decide) hP hD hk1 hFc hB ht
  generalize H1 = H at hP hS hgr ⊢
  have hP : va_P D vwCl [(a1, .inl (cy 0, 20, .inl f1)), (a2, .inl (cy 0, 20, .inl f2)), (m0, .inr (20, [.int 0, .ref mp, .int 0, .ref b1, .ref b2, .ref b3, .ref b4, .ref b5, .ref mq])), (mp, .inr (4, [.int mm, .ref ep, .int 20])), (ep, .inl (cy 2, 22, .inr (.inr (.inr (.inr gp))))), (mq, .inr (4, [.int mn, .ref eq, .int 6])), (eq, .inl (cy 2, 10, .inr (.inr (.inr (.inr gq))))), (oa, .inl (cy 3, 1, .inr (.inl og))), (z0, .inr (16, u0)), (v0, .inr (4, [.int 0, .ref ed, .int 0])), (z1, .inr (16, u1)), (v1, .inr (4, [.int 0, .ref ed, .int 0])), (z2, .inr (16, u2)), (v2, .inr (4, [.int 0, .ref ed, .int 0])), (z3, .inr (16, u3)), (v3, .inr (4, [.int 0, .ref ed, .int 0])), (z4, .inr (16, u4)), (v4, .inr (4, [.int 0, .ref ed, .int 0])), (z5, .inr (16, u5)), (v5, .inr (4, [.int 0, .ref ed, .int 0])), (h, .inr (13, [.ref pe, .ref ne, .ref pa, .ref ro, .int 0])), (pe, .inr (9, [.int 20, .ref a1, .ref a2, .ref a3, .ref a4, .ref a5, .ref a6, .ref a7, .ref a8, .ref a9])), (ro, .inl (cy 0, 20, .inl f3_1685)), (pa, .inr (4, [.int mc, .ref el, .int 6])), (el, .inl (cy 2, 10, .inr (.inr (.inr (.inr g))))), (y0, .inr (8, q0)), (r0, .inr (4, [.int 0, .ref ed, .int 0])), (y1, .inr (8, q1)), (r1, .inr (4, [.int 0, .ref ed, .int 0])), (y2, .inr (8, q2)), (r2, .inr (4, [.int 0, .ref ed, .int 0])), (y3, .inr (8, q3)), (r3, .inr (4, [.int 0, .ref ed, .int 0])), (y4, .inr (8, q4)), (r4, .inr (4, [.int 0, .ref ed, .int 0])), (y5, .inr (8, q5)), (r5, .inr (4, [.int 0, .ref ed, .int 0]))] H := hP
  have hD : va_D A [(a1, .inl (cy 0, 20, .inl f1)), (a2, .inl (cy 0, 20, .inl f2)), (m0, .inr (20, [.int 0, .ref mp, .int 0, .ref b1, .ref b2, .ref b3, .ref b4, .ref b5, .ref mq])), (mp, .inr (4, [.int mm, .ref ep, .int 20])), (ep, .inl (cy 2, 22, .inr (.inr (.inr (.inr gp))))), (mq, .inr (4, [.int mn, .ref eq, .int 6])), (eq, .inl (cy 2, 10, .inr (.inr (.inr (.inr gq))))), (oa, .inl (cy 3, 1, .inr (.inl og))), (z0, .inr (16, u0)), (v0, .inr (4, [.int 0, .ref ed, .int 0])), (z1, .inr (16, u1)), (v1, .inr (4, [.int 0, .ref ed, .int 0])), (z2, .inr (16, u2)), (v2, .inr (4, [.int 0, .ref ed, .int 0])), (z3, .inr (16, u3)), (v3, .inr (4, [.int 0, .ref ed, .int 0])), (z4, .inr (16, u4)), (v4, .inr (4, [.int 0, .ref ed, .int 0])), (z5, .inr (16, u5)), (v5, .inr (4, [.int 0, .ref ed, .int 0])), (h, .inr (13, [.ref pe, .ref ne, .ref pa, .ref ro, .int 0])), (pe, .inr (9, [.int 20, .ref a1, .ref a2, .ref a3, .ref a4, .ref a5, .ref a6, .ref a7, .ref a8, .ref a9])), (ro, .inl (cy 0, 20, .inl f3_1685)), (pa, .inr (4, [.int mc, .ref el, .int 6])), (el, .inl (cy 2, 10, .inr (.inr (.inr (.inr g))))), (y0, .inr (8, q0)), (r0, .inr (4, [.int 0, .ref ed, .int 0])), (y1, .inr (8, q1)), (r1, .inr (4, [.int 0, .ref ed, .int 0])), (y2, .inr (8, q2)), (r2, .inr (4, [.int 0, .ref ed, .int 0])), (y3, .inr (8, q3)), (r3, .inr (4, [.int 0, .ref ed, .int 0])), (y4, .inr (8, q4)), (r4, .inr (4, [.int 0, .ref ed, .int 0])), (y5, .inr (8, q5)), (r5, .inr (4, [.int 0, .ref ed, .int 0]))] := hD
  refine W.widen (k := cells) (n := slots) (Nat.le_refl _) (Nat.le_refl _) ?_
  refine lv_aload_n hx hb dL_law_2473 rfl (lv_at hl 2 rfl) ?_
  have hPc := hP.sub (ws' := [(m0, .inr (20, [.int 0, .ref mp, .int 0, .ref b1, .ref b2, .ref b3, .ref b4, .ref b5, .ref mq])), (mp, .inr (4, [.int mm, .ref ep, .int 20])), (mq, .inr (4, [.int mn, .ref eq, .int 6])), (eq, .inl (cy 2, 10, .inr (.inr (.inr (.inr gq))))), (z0, .inr (16, u0)), (v0, .inr (4, [.int 0, .ref ed, .int 0])), (z1, .inr (16, u1)), (v1, .inr (4, [.int 0, .ref ed, .int 0])), (z2, .inr (16, u2)), (v2, .inr (4, [.int 0, .ref ed, .int 0])), (z3, .inr (16, u3)), (v3, .inr (4, [.int 0, .ref ed, .int 0])), (z4, .inr (16, u4)), (v4, .inr (4, [.int 0, .ref ed, .int 0])), (z5, .inr (16, u5)), (v5, .inr (4, [.int 0, .ref ed, .int 0]))]) [2, 3, 5, 6, 8, 9, 10, 11, 12, 13, 14, 15, 16, 17, 18, 19] rfl
  have hDc := hD.sub (ws' := [(m0, .inr (20, [.int 0, .ref mp, .int 0, .ref b1, .ref b2, .ref b3, .ref b4, .ref b5, .ref mq])), (mp, .inr (4, [.int mm, .ref ep, .int 20])), (mq, .inr (4, [.int mn, .ref eq, .int 6])), (eq, .inl (cy 2, 10, .inr (.inr (.inr (.inr gq))))), (z0, .inr (16, u0)), (v0, .inr (4, [.int 0, .ref ed, .int 0])), (z1, .inr (16, u1)), (v1, .inr (4, [.int 0, .ref ed, .int 0])), (z2, .inr (16, u2)), (v2, .inr (4, [.int 0, .ref ed, .int 0])), (z3, .inr (16, u3)), (v3, .inr (4, [.int 0, .ref ed, .int 0])), (z4, .inr (16, u4)), (v4, .inr (4, [.int 0, .ref ed, .int 0])), (z5, .inr (16, u5)), (v5, .inr (4, [.int 0, .ref ed, .int 0]))]) [2, 3, 5, 6, 8, 9, 10, 11, 12, 13, 14, 15, 16, 17, 18, 19] (by decide) rfl
  have hFc := va_free (wc := [(m0, .inr (20, [.int 0, .ref mp, .int 0, .ref b1, .ref b2, .ref b3, .ref b4, .ref b5, .ref mq])), (mp, .inr (4, [.int mm, .ref ep, .int 20])), (mq, .inr (4, [.int mn, .ref eq, .int 6])), (eq, .inl (cy 2, 10, .inr (.inr (.inr (.inr gq))))), (z0, .inr (16, u0)), (v0, .inr (4, [.int 0, .ref ed, .int 0])), (z1, .inr (16, u1)), (v1, .inr (4, [.int 0, .ref ed, .int 0])), (z2, .inr (16, u2)), (v2, .inr (4, [.int 0, .ref ed, .int 0])), (z3, .inr (16, u3)), (v3, .inr (4, [.int 0, .ref ed, .int 0])), (z4, .inr (16, u4)), (v4, .inr (4, [.int 0, .ref ed, .int 0])), (z5, .inr (16, u5)), (v5, .inr (4, [.int 0, .ref ed, .int 0]))]) hD hS hA [2, 3, 5, 6, 8, 9, 10, 11, 12, 13, 14, 15, 16, 17, 18, 19] rfl
  refine va_calli (va_runV (As := []) (rest := [.int 0]) ⟨hx, hb, hml, hown, hts⟩ (c_X15_rings l hst D cy ed H.size m0 mp mq b1 b2 b3 b4 b5 0 0 mm ep mn eq gq z0 z1 z2 z3 z4 z5 v0 v1 v2 v3 v4 v5 u0 u1 u2 u3 u4 u5 hme0 hme1 hme2 hme3 hme4 hme5 hmq0 hmq1 hmq2 hmq3 hmq4 hmq5) (cwV 0 hts (zx_GV mm_2421 mm_2422 mm_2423 mm_78 mm_2424) rfl rfl rfl (by decide +kernel) ⟨(Nat.le_of_ble_eq_true rfl), (Nat.le_of_ble_eq_true rfl)⟩) ⟨zx_blind, va_recv hK hPc (ci := 20) (q0 := 0) rfl rfl, zx_give hPc hK hDc hS hFc hZ hN⟩ rfl rfl hl.1 rfl (lv_room (Nat.le_of_ble_eq_true rfl)) dL_law_2474 ⟨(by show _ ≤ 2000000; omega), (by show _ ≤ 20000000; omega)⟩) hS (fun q _ h => hFc q h) hFc (fun r9 u t H1 locs ht hvm hw hB hz1 hk1 hS => ?_)
  obtain rfl : r9 = 0 := hw
  obtain ⟨hB, hgz⟩ := hB
  rw [ht] at hgz
  have hgr := zx_gadd hgr hgz
  obtain ⟨hP, hD⟩ := zx_join (wr := [(a1, .inl (cy 0, 20, .inl f1)), (a2, .inl (cy 0, 20, .inl f2)), (ep, .inl (cy 2, 22, .inr (.inr (.inr (.inr gp))))), (oa, .inl (cy 3, 1, .inr (.inl og))), (h, .inr (13, [.ref pe, .ref ne, .ref pa, .ref ro, .int 0])), (pe, .inr (9, [.int 20, .ref a1, .ref a2, .ref a3, .ref a4, .ref a5, .ref a6, .ref a7, .ref a8, .ref a9])), (ro, .inl (cy 0, 20, .inl f3_1685)), (pa, .inr (4, [.int mc, .ref el, .int 6])), (el, .inl (cy 2, 10, .inr (.inr (.inr (.inr g))))), (y0, .inr (8, q0)), (r0, .inr (4, [.int 0, .ref ed, .int 0])), (y1, .inr (8, q1)), (r1, .inr (4, [.int 0, .ref ed, .int 0])), (y2, .inr (8, q2)), (r2, .inr (4, [.int 0, .ref ed, .int 0])), (y3, .inr (8, q3)), (r3, .inr (4, [.int 0, .ref ed, .int 0])), (y4, .inr (8, q4)), (r4, .inr (4, [.int 0, .ref ed, .int 0])), (y5, .inr (8, q5)), (r5, .inr (4, [.int 0, .ref ed, .int 0]))]) (w1 := [(m0, .inr (20, [.int 0, .ref mp, .int 0, .ref b1, .ref b2, .ref b3, .ref b4, .ref b5, .ref mq])), (mp, .inr (4, [.int mm, .ref ep, .int 20])), (mq, .inr (4, [.int mn, .ref eq, .int 6])), (eq, .inl (cy 2, 10, .inr (.inr (.inr (.inr gq))))), (z0, .inr (16, u0)), (v0, .inr (4, [.int 0, .ref ed, .int 0])), (z1, .inr (16, u1)), (v1, .inr (4, [.int 0, .ref ed, .int 0])), (z2, .inr (16, u2)), (v2, .inr (4, [.int 0, .ref ed, .int 0])), (z3, .inr (16, u3)), (v3, .inr (4, [.int 0, .ref ed, .int 0])), (z4, .inr (16, u4)), (v4, .inr (4, [.int 0, .ref ed, .int 0])), (z5, .inr (16, u5)), (v5, .inr (4, [.int 0, .ref ed, .int 0]))]) [2, 3, 5, 6, 8, 9, 10, 11, 12, 13, 14, 15, 16, 17, 18, 19] [0, 1, 4, 7, 20, 21, 22, 23, 24, 25, 26, 27, 28, 29, 30, 31, 32, 33, 34, 35, 36] rfl rfl (by decide) (by decide) hP hD hk1 hFc hB ht
  generalize H1 = H at hP hS hgr ⊢
  have hP : va_P D vwCl [(a1, .inl (cy 0, 20, .inl f1)), (a2, .inl (cy 0, 20, .inl f2)), (ep, .inl (cy 2, 22, .inr (.inr (.inr (.inr gp))))), (oa, .inl (cy 3, 1, .inr (.inl og))), (h, .inr (13, [.ref pe, .ref ne, .ref pa, .ref ro, .int 0])), (pe, .inr (9, [.int 20, .ref a1, .ref a2, .ref a3, .ref a4, .ref a5, .ref a6, .ref a7, .ref a8, .ref a9])), (ro, .inl (cy 0, 20, .inl f3_1685)), (pa, .inr (4, [.int mc, .ref el, .int 6])), (el, .inl (cy 2, 10, .inr (.inr (.inr (.inr g))))), (y0, .inr (8, q0)), (r0, .inr (4, [.int 0, .ref ed, .int 0])), (y1, .inr (8, q1)), (r1, .inr (4, [.int 0, .ref ed, .int 0])), (y2, .inr (8, q2)), (r2, .inr (4, [.int 0, .ref ed, .int 0])), (y3, .inr (8, q3)), (r3, .inr (4, [.int 0, .ref ed, .int 0])), (y4, .inr (8, q4)), (r4, .inr (4, [.int 0, .ref ed, .int 0])), (y5, .inr (8, q5)), (r5, .inr (4, [.int 0, .ref ed, .int 0])), (m0, .inr (20, [.int 0, .ref mp, .int 0, .ref b1, .ref b2, .ref b3, .ref b4, .ref b5, .ref mq])), (mp, .inr (4, [.int mm, .ref ep, .int 20])), (mq, .inr (4, [.int mn, .ref eq, .int 6])), (eq, .inl (cy 2, 10, .inr (.inr (.inr (.inr gq))))), (z0, .inr (16, u0)), (v0, .inr (4, [.int 0, .ref ed, .int 0])), (z1, .inr (16, u1)), (v1, .inr (4, [.int 0, .ref ed, .int 0])), (z2, .inr (16, u2)), (v2, .inr (4, [.int 0, .ref ed, .int 0])), (z3, .inr (16, u3)), (v3, .inr (4, [.int 0, .ref ed, .int 0])), (z4, .inr (16, u4)), (v4, .inr (4, [.int 0, .ref ed, .int 0])), (z5, .inr (16, u5)), (v5, .inr (4, [.int 0, .ref ed, .int 0]))] H := hP
  have hD : va_D A [(a1, .inl (cy 0, 20, .inl f1)), (a2, .inl (cy 0, 20, .inl f2)), (ep, .inl (cy 2, 22, .inr (.inr (.inr (.inr gp))))), (oa, .inl (cy 3, 1, .inr (.inl og))), (h, .inr (13, [.ref pe, .ref ne, .ref pa, .ref ro, .int 0])), (pe, .inr (9, [.int 20, .ref a1, .ref a2, .ref a3, .ref a4, .ref a5, .ref a6, .ref a7, .ref a8, .ref a9])), (ro, .inl (cy 0, 20, .inl f3_1685)), (pa, .inr (4, [.int mc, .ref el, .int 6])), (el, .inl (cy 2, 10, .inr (.inr (.inr (.inr g))))), (y0, .inr (8, q0)), (r0, .inr (4, [.int 0, .ref ed, .int 0])), (y1, .inr (8, q1)), (r1, .inr (4, [.int 0, .ref ed, .int 0])), (y2, .inr (8, q2)), (r2, .inr (4, [.int 0, .ref ed, .int 0])), (y3, .inr (8, q3)), (r3, .inr (4, [.int 0, .ref ed, .int 0])), (y4, .inr (8, q4)), (r4, .inr (4, [.int 0, .ref ed, .int 0])), (y5, .inr (8, q5)), (r5, .inr (4, [.int 0, .ref ed, .int 0])), (m0, .inr (20, [.int 0, .ref mp, .int 0, .ref b1, .ref b2, .ref b3, .ref b4, .ref b5, .ref mq])), (mp, .inr (4, [.int mm, .ref ep, .int 20])), (mq, .inr (4, [.int mn, .ref eq, .int 6])), (eq, .inl (cy 2, 10, .inr (.inr (.inr (.inr gq))))), (z0, .inr (16, u0)), (v0, .inr (4, [.int 0, .ref ed, .int 0])), (z1, .inr (16, u1)), (v1, .inr (4, [.int 0, .ref ed, .int 0])), (z2, .inr (16, u2)), (v2, .inr (4, [.int 0, .ref ed, .int 0])), (z3, .inr (16, u3)), (v3, .inr (4, [.int 0, .ref ed, .int 0])), (z4, .inr (16, u4)), (v4, .inr (4, [.int 0, .ref ed, .int 0])), (z5, .inr (16, u5)), (v5, .inr (4, [.int 0, .ref ed, .int 0]))] := hD
  refine W.widen (k := (cells + 1330)) (n := (slots + 5320)) (Nat.le_refl _) (Nat.le_refl _) ?_
  refine lv_icmp_eq (tgt := 2542) hx hb dL_law_2477 (by decide) (fun _ => ?_) (fun c_1686 => absurd (by decide) c_1686)
  refine lv_iinc (v := nI (i + 6)) (lv' := [(5, .int (nI (i + 6))), (3, .ref oa), (2, .ref m0), (1, .ref h), (0, .ref b)]) hx hb dL_law_2542 hl (k := 0) rfl (zx_nI6 _) (by decide) rfl (fun ls hl => ?_)
  refine lv_goto (tgt := 28) hx hb dL_law_2545 (by decide) ?_
  have hP := hP.sub (ws' := [(h, .inr (13, [.ref pe, .ref ne, .ref pa, .ref ro, .int 0])), (pe, .inr (9, [.int 20, .ref a1, .ref a2, .ref a3, .ref a4, .ref a5, .ref a6, .ref a7, .ref a8, .ref a9])), (a1, .inl (cy 0, 20, .inl f1)), (a2, .inl (cy 0, 20, .inl f2)), (ro, .inl (cy 0, 20, .inl f3_1685)), (pa, .inr (4, [.int mc, .ref el, .int 6])), (el, .inl (cy 2, 10, .inr (.inr (.inr (.inr g))))), (m0, .inr (20, [.int 0, .ref mp, .int 0, .ref b1, .ref b2, .ref b3, .ref b4, .ref b5, .ref mq])), (mp, .inr (4, [.int mm, .ref ep, .int 20])), (ep, .inl (cy 2, 22, .inr (.inr (.inr (.inr gp))))), (mq, .inr (4, [.int mn, .ref eq, .int 6])), (eq, .inl (cy 2, 10, .inr (.inr (.inr (.inr gq))))), (oa, .inl (cy 3, 1, .inr (.inl og))), (y0, .inr (8, q0)), (r0, .inr (4, [.int 0, .ref ed, .int 0])), (y1, .inr (8, q1)), (r1, .inr (4, [.int 0, .ref ed, .int 0])), (y2, .inr (8, q2)), (r2, .inr (4, [.int 0, .ref ed, .int 0])), (y3, .inr (8, q3)), (r3, .inr (4, [.int 0, .ref ed, .int 0])), (y4, .inr (8, q4)), (r4, .inr (4, [.int 0, .ref ed, .int 0])), (y5, .inr (8, q5)), (r5, .inr (4, [.int 0, .ref ed, .int 0])), (z0, .inr (16, u0)), (v0, .inr (4, [.int 0, .ref ed, .int 0])), (z1, .inr (16, u1)), (v1, .inr (4, [.int 0, .ref ed, .int 0])), (z2, .inr (16, u2)), (v2, .inr (4, [.int 0, .ref ed, .int 0])), (z3, .inr (16, u3)), (v3, .inr (4, [.int 0, .ref ed, .int 0])), (z4, .inr (16, u4)), (v4, .inr (4, [.int 0, .ref ed, .int 0])), (z5, .inr (16, u5)), (v5, .inr (4, [.int 0, .ref ed, .int 0]))]) [4, 5, 0, 1, 6, 7, 8, 21, 22, 2, 23, 24, 3, 9, 10, 11, 12, 13, 14, 15, 16, 17, 18, 19, 20, 25, 26, 27, 28, 29, 30, 31, 32, 33, 34, 35, 36] rfl
  have hD := hD.sub (ws' := [(h, .inr (13, [.ref pe, .ref ne, .ref pa, .ref ro, .int 0])), (pe, .inr (9, [.int 20, .ref a1, .ref a2, .ref a3, .ref a4, .ref a5, .ref a6, .ref a7, .ref a8, .ref a9])), (a1, .inl (cy 0, 20, .inl f1)), (a2, .inl (cy 0, 20, .inl f2)), (ro, .inl (cy 0, 20, .inl f3_1685)), (pa, .inr (4, [.int mc, .ref el, .int 6])), (el, .inl (cy 2, 10, .inr (.inr (.inr (.inr g))))), (m0, .inr (20, [.int 0, .ref mp, .int 0, .ref b1, .ref b2, .ref b3, .ref b4, .ref b5, .ref mq])), (mp, .inr (4, [.int mm, .ref ep, .int 20])), (ep, .inl (cy 2, 22, .inr (.inr (.inr (.inr gp))))), (mq, .inr (4, [.int mn, .ref eq, .int 6])), (eq, .inl (cy 2, 10, .inr (.inr (.inr (.inr gq))))), (oa, .inl (cy 3, 1, .inr (.inl og))), (y0, .inr (8, q0)), (r0, .inr (4, [.int 0, .ref ed, .int 0])), (y1, .inr (8, q1)), (r1, .inr (4, [.int 0, .ref ed, .int 0])), (y2, .inr (8, q2)), (r2, .inr (4, [.int 0, .ref ed, .int 0])), (y3, .inr (8, q3)), (r3, .inr (4, [.int 0, .ref ed, .int 0])), (y4, .inr (8, q4)), (r4, .inr (4, [.int 0, .ref ed, .int 0])), (y5, .inr (8, q5)), (r5, .inr (4, [.int 0, .ref ed, .int 0])), (z0, .inr (16, u0)), (v0, .inr (4, [.int 0, .ref ed, .int 0])), (z1, .inr (16, u1)), (v1, .inr (4, [.int 0, .ref ed, .int 0])), (z2, .inr (16, u2)), (v2, .inr (4, [.int 0, .ref ed, .int 0])), (z3, .inr (16, u3)), (v3, .inr (4, [.int 0, .ref ed, .int 0])), (z4, .inr (16, u4)), (v4, .inr (4, [.int 0, .ref ed, .int 0])), (z5, .inr (16, u5)), (v5, .inr (4, [.int 0, .ref ed, .int 0]))]) [4, 5, 0, 1, 6, 7, 8, 21, 22, 2, 23, 24, 3, 9, 10, 11, 12, 13, 14, 15, 16, 17, 18, 19, 20, 25, 26, 27, 28, 29, 30, 31, 32, 33, 34, 35, 36] (by decide) rfl
  exact hnext _ _ _ ⟨pe, ne, pa, ro, a1, a2, a3, a4, a5, a6, a7, a8, a9, mp, mq, b1, b2, b3, b4, b5, ep, el, eq, mc, mm, mn, f1, f2, f3_1685, og, gp, g, gq, y0, y1, y2, y3, y4, y5, r0, r1, r2, r3, r4, r5, q0, q1, q2, q3, q4, q5, z0, z1, z2, z3, z4, z5, v0, v1, v2, v3, v4, v5, u0, u1, u2, u3, u4, u5, hP, hD, hxe0, hxe1, hxe2, hxe3, hxe4, hxe5, hxq0, hxq1, hxq2, hxq3, hxq4, hxq5, hme0, hme1, hme2, hme3, hme4, hme5, hmq0, hmq1, hmq2, hmq3, hmq4, hmq5⟩ (by omega) hS (lv_sub hl [0, 1, 2, 3, 4] rfl)

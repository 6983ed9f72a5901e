theorem dL_law_0 : decode cL_law 0 = .ok (.new 8, 3) := by decide +kernel
theorem dL_law_3 : decode cL_law 3 = .ok (.dup, 1) := by decide +kernel
theorem dL_law_4 : decode cL_law 4 = .ok (.invokespecial 208, 3) := by decide +kernel
theorem dL_law_7 : decode cL_law 7 = .ok (.astore_n 1, 1) := by decide +kernel
theorem dL_law_8 : decode cL_law 8 = .ok (.new 209, 3) := by decide +kernel
theorem dL_law_11 : decode cL_law 11 = .ok (.dup, 1) := by decide +kernel
theorem dL_law_12 : decode cL_law 12 = .ok (.invokespecial 211, 3) := by decide +kernel
theorem dL_law_15 : decode cL_law 15 = .ok (.astore_n 2, 1) := by decide +kernel
theorem dL_law_16 : decode cL_law 16 = .ok (.iconst 1, 1) := by decide +kernel
theorem dL_law_17 : decode cL_law 17 = .ok (.newarray .long, 2) := by decide +kernel
theorem dL_law_19 : decode cL_law 19 = .ok (.astore_n 3, 1) := by decide +kernel
theorem dL_law_20 : decode cL_law 20 = .ok (.iconst 1, 1) := by decide +kernel
theorem dL_law_21 : decode cL_law 21 = .ok (.newarray .double, 2) := by decide +kernel
theorem dL_law_23 : decode cL_law 23 = .ok (.astore 4, 2) := by decide +kernel
theorem dL_law_25 : decode cL_law 25 = .ok (.iconst 0, 1) := by decide +kernel
theorem dL_law_26 : decode cL_law 26 = .ok (.istore 5, 2) := by decide +kernel
theorem dL_law_28 : decode cL_law 28 = .ok (.iload 5, 2) := by decide +kernel
theorem dL_law_30 : decode cL_law 30 = .ok (.aload_n 0, 1) := by decide +kernel
theorem dL_law_31 : decode cL_law 31 = .ok (.arraylength, 1) := by decide +kernel
theorem dL_law_32 : decode cL_law 32 = .ok (.bipush 6, 2) := by decide +kernel
theorem dL_law_34 : decode cL_law 34 = .ok (.isub, 1) := by decide +kernel
theorem dL_law_35 : decode cL_law 35 = .ok (.if_icmp .gt 4228, 3) := by decide +kernel
theorem dL_law_4263 : decode cL_law 4263 = .ok (.iconst 1, 1) := by decide +kernel
theorem dL_law_4264 : decode cL_law 4264 = .ok (.ireturn, 1) := by decide +kernel
theorem dL_law_4257 : decode cL_law 4257 = .ok (.iinc 5 6, 3) := by decide +kernel
theorem dL_law_4260 : decode cL_law 4260 = .ok (.goto (-4232), 3) := by decide +kernel
theorem dL_law_38 : decode cL_law 38 = .ok (.aload_n 0, 1) := by decide +kernel
theorem dL_law_39 : decode cL_law 39 = .ok (.iload 5, 2) := by decide +kernel
theorem dL_law_41 : decode cL_law 41 = .ok (.iaload, 1) := by decide +kernel
theorem dL_law_42 : decode cL_law 42 = .ok (.bipush 63, 2) := by decide +kernel
theorem dL_law_44 : decode cL_law 44 = .ok (.iand, 1) := by decide +kernel
theorem dL_law_45 : decode cL_law 45 = .ok (.tableswitch 4212 0 59 #[255, 323, 398, 473, 541, 609, 684, 752, 832, 900, 968, 1043, 1111, 1167, 1223, 1279, 1347, 1415, 1511, 1631, 1699, 1779, 1835, 1891, 1947, 2015, 2071, 2127, 2195, 2251, 2319, 2375, 2438, 2520, 2588, 2651, 2719, 2799, 2867, 2973, 3048, 3104, 3172, 3228, 3324, 3411, 3479, 3547, 3603, 3659, 3749, 3805, 3861, 3917, 3985, 4041, 4054, 4068, 4134, 4199], 255) := by decide +kernel
theorem mm_113 : (.classLink RL 8 RX8 : Cond) ∈ zx_G := zx_wi 113 (by decide +kernel) (by decide +kernel)
theorem mm_115 : (.methodLink RL 208 yX8_init : Cond) ∈ zx_G := zx_wi 115 (by decide +kernel) (by decide +kernel)
theorem mm_116 : (.instanceMethod yX8_init : Cond) ∈ zx_G := zx_wi 116 (by decide +kernel) (by decide +kernel)
theorem mm_117 : (.code yX8_init cX8_init 1 none : Cond) ∈ zx_G := zx_wi 117 (by decide +kernel) (by decide +kernel)
theorem mm_1563 : (.classLink RL 209 RX15 : Cond) ∈ zx_G := zx_wi 1563 (by decide +kernel) (by decide +kernel)
theorem mm_1565 : (.methodLink RL 211 yX15_init : Cond) ∈ zx_G := zx_wi 1565 (by decide +kernel) (by decide +kernel)
theorem mm_1566 : (.instanceMethod yX15_init : Cond) ∈ zx_G := zx_wi 1566 (by decide +kernel) (by decide +kernel)
theorem mm_1567 : (.code yX15_init cX15_init 2 none : Cond) ∈ zx_G := zx_wi 1567 (by decide +kernel) (by decide +kernel)
theorem mm_2454 : (.arrayClass .long : Cond) ∈ zx_G := zx_wi 2454 (by decide +kernel) (by decide +kernel)
theorem mm_2455 : (.arrayClass .double : Cond) ∈ zx_G := zx_wi 2455 (by decide +kernel) (by decide +kernel)
/-! THE CLAIM OUT OF ONE WALK OF THE LAW'S BODY. Your part is whole_start (and what it stands on); all else here is the same for every law, but numbers. -/
def R_law : String := "RefereehallLaw"
def lw_P (b : Addr) (xs : List Int32) (args : Array Value) (s : State) : Prop := args = #[.ref b] ∧ s.IntsAt b xs ∧ xs.length ≤ 6 ∧ (Jvm.Cond.and given_1 narrow_1).before args s = true
/-- what a walk over the start with the record d0 says of its end, said of the start itself -/
theorem lw_closed {s t : State} {o : Outcome} {d0 : Drawn} {L : List Loc} {k n : Nat} (hd0 : s.drawn.sameBut d0 lw_cs) (hv : ∃ v, o = .returned v) (hW : (s.setDrawn d0).WarmedH t.vm) (hs : (s.setDrawn d0).sameButNew ({ t with vm := s.vm } : State) L k n) : State.butDraws s t lw_cs (fun t1 => Framed s o t1 L k n) := by
  have h2 : t.drawn = d0 := congrArg State.drawn hs.1
  refine ⟨⟨hv, hW, State.sameButNew.setDrawn hs s.drawn⟩, ?_, by decide⟩
  rw [h2]
  exact hd0
def lw_Q (_ : Array Value) (s : State) (o : Outcome) (t : State) : Prop := o = .returned (some (.int 1)) ∧ State.butDraws s t lw_cs (fun t1 => Framed s o t1 [] 600006 7302008)
def lw_Z (below : List Frame) (a : Array Value) (s : State) : State → Prop := fun t => ∃ o, t.status = .running ∧ Ended t below o ∧ lw_Q a s o t
/-- the law's own end, with 1 on the stack, nothing written that was there before, its room as the claim has it; d0: the record of draws at this point (at the entry s.drawn: begin with 'refine W.base ?_' and 'have hd0 := Drawn.sameBut.refl s.drawn lw_cs') -/
theorem lw_ret {p : Program} {l : Launch} {e : Env} {s : State} {m : MethodId} {below : List Frame} {meth : Method} {c : Code} {b : Nat} {d0 : Drawn} (hd0 : s.drawn.sameBut d0 lw_cs) (hx : p.tables.exec = Jvm.exec) (hb : c.code = code) (hr : meth.sig.returnType = ret) (hlocks : meth.locks = false) {pc : Nat} {H : Heap} {ls : Array Slot} (hdg : decode code pc = .ok (.ireturn, 1)) : W p l e room_1 (s.setDrawn d0) m #[Value.ref b] below meth c H [] 600006 7302008 (lw_Z below #[Value.ref b] s) (F0 m pc ls [.int 1]) := by
  intro T hT X
  obtain ⟨fs, hret, hrun, hended, hW, hframe⟩ := X.leave (v := some (.int 1)) (hlocks := hlocks) (fun h => by rw [hr] at h; cases h)
  have hmeth' : T.vm.method? m = some meth := X.method'
  refine ⟨T.setFrames fs, ?_, .returned (some (.int 1)), hrun, hended, rfl, lw_closed hd0 ⟨_, rfl⟩ hW hframe⟩
  jvm_step X.here [X.here.top, hx, hb, hdg, hmeth', hr, ret, narrow_b1]
  (try refine ⟨rfl, ?_⟩); (try refine ⟨rfl, ?_⟩)
  first | (intro acts; rw [hret _ acts rfl rfl rfl]) | rw [hret _ _ rfl rfl rfl]
  exact Steps.refl _
/-- what holds at the law's entry: the machine, the code, the tables' words (any of lw_tbl by 'hts w (by decide +kernel)'), the script of L ints xs at the cell b, what the Statement gives of the start (any of its parts by flat_of_before) -/
def lw_At (p : Program) (s : State) (m : MethodId) (meth : Method) (c : Code) (b L : Nat) (xs : Nat → Int32) : Prop :=
  p.tables.exec = Jvm.exec ∧ c.code = code ∧ meth.sig.returnType = ret ∧ c.maxLocals = 9 ∧ s.vm.findClass R_law = some m.cls ∧ (∀ w ∈ lw_tbl, w.before #[Value.ref b] s = true) ∧ va_X b L xs s s.heap ∧ b < s.heap.size ∧ meth.locks = false ∧ (Jvm.Cond.and given_1 narrow_1).before #[Value.ref b] s = true
set_option maxHeartbeats 8000000 in
set_option maxRecDepth 100000 in
theorem whole_start {p : Program} {e : Env} {s : State} {m : MethodId} {below : List Frame} {meth : Method} {c : Code} (l : Launch) (hflags : l.flags = flags0) {b L : Nat} {xs : Nat → Int32} (hL : L ≤ 6) (C0 : lw_At p s m meth c b L xs) : W p l e room_1 s m #[Value.ref b] below meth c s.heap [] 0 0 (lw_Z below #[Value.ref b] s) (entryFrame m ([Value.ref b] : List Value).toArray 9) := by
  obtain ⟨hx, hb, hr, hml, hown0, hts0, hX, hbl, hlocks, hgv⟩ := id C0
  have hown : s.vm.findClass RL = some m.cls := hown0
  have hst : l.stackTraces = false := by unfold Launch.stackTraces; rw [hflags]; decide +kernel
  have hts : ∀ w ∈ Cond.initialized RX8 :: zx_G, w.before #[Value.ref b] s = true := fun w h => (List.mem_cons.mp h).elim (fun e => by rw [e]; exact hts0 _ (List.mem_filter.mp mm_71).1) (fun h => hts0 w (List.mem_filter.mp h).1)
  obtain ⟨D, cy, ed, hK, hZ, hN⟩ := zx_begin hts0 hgv
  obtain ⟨A, hAe⟩ : ∃ A : Nat → Prop, A = fun q : Nat => s.heap.size ≤ q := ⟨_, rfl⟩
  rw [← hAe] at hZ
  have hA : ∀ q : Nat, s.heap.size ≤ q → A q := fun q h => by rw [hAe]; exact h
  have hbA : ¬ A b := by rw [hAe]; exact Nat.not_le.mpr hbl
  have hS : va_S A s.heap s.heap [] := va_S.rf
  have hP : va_P D vwCl [] s.heap := zx_P0
  have hD : va_D A [] := zx_D0
  have hl := lv_entry ([.ref b]) (n := 9) (Nat.le_of_ble_eq_true rfl)
  rw [lg_entry_eq]
  generalize (lg_sl ([.ref b]) ++ List.replicate (9 - (lg_sl ([.ref b])).length) Slot.unset).toArray = ls at hl ⊢
  have hl : lv_has ls 9 [(0, .ref b)] := hl
  refine va_new (ci := 13) (fs := [.null, .null, .null, .null, .int 0]) (C := RX8) (T := TX8) (N := 5) hx hb hts (fun w h => zx_Gc (uz_X8 w h)) tyX8 tyX8_ok hown (hts (.classLink RL 8 RX8) (zx_Gc mm_113)) (hts (.instantiable RX8 5) (zx_Gc mm_114)) (hts (.initialized RX8) (zx_Gc mm_71)) hK hP hD hS hA rfl (fun j hj => by rcases (show j = 0 ∨ j = 1 ∨ j = 2 ∨ j = 3 ∨ j = 4 by omega) with rfl | rfl | rfl | rfl | rfl <;> rfl) (Nat.le_of_ble_eq_true rfl) (Nat.le_of_ble_eq_true rfl) dL_law_0 (fun q_828 H hP hD hS => ?_)
  have hP : va_P D vwCl [(q_828, .inr (13, [.null, .null, .null, .null, .int 0]))] H := hP
  have hD : va_D A [(q_828, .inr (13, [.null, .null, .null, .null, .int 0]))] := hD
  refine W.widen (k := 1) (n := 5) (Nat.le_of_ble_eq_true rfl) (Nat.le_of_ble_eq_true rfl) ?_
  refine lv_dup hx hb dL_law_3 rfl ?_
  have hPc := hP.sub (ws' := [(q_828, .inr (13, [.null, .null, .null, .null, .int 0]))]) [0] rfl
  have hDc := hD.sub (ws' := [(q_828, .inr (13, [.null, .null, .null, .null, .int 0]))]) [0] (by decide) rfl
  have hFc := va_free (wc := [(q_828, .inr (13, [.null, .null, .null, .null, .int 0]))]) hD hS hA [0] rfl
  refine va_callv (va_runI (As := []) (rest := [.ref q_828]) ⟨hx, hb, hml, hown, hts⟩ (c_X8_init l hst D cy ed H.size q_828 0) (cwI 0 hts (zx_GI mm_117) rfl rfl rfl (hts (.initialized RX8) (zx_Gc mm_71)) (hts (.methodLink RL 208 yX8_init) (zx_Gc mm_115)) (hts (.instanceMethod yX8_init) (zx_Gc mm_116)) rfl (by decide +kernel) ⟨(Nat.le_of_ble_eq_true rfl), (Nat.le_of_ble_eq_true rfl)⟩) ⟨zx_blind, zx_give hPc hK hDc hS hFc hZ hN⟩ rfl rfl hl.1 rfl (lv_room (Nat.le_of_ble_eq_true rfl)) dL_law_4 ⟨(Nat.le_of_ble_eq_true rfl), (Nat.le_of_ble_eq_true rfl)⟩) hS (fun q _ h => hFc q h) hFc (fun u t H1 locs ht hvm hw hB hz1 hk1 hS => ?_)
  obtain ⟨pe_829, ne_830, pa_831, ro_832, a1_833, a2_834, a3_835, a4_836, a5_837, a6_838, a7_839, a8_840, a9_841, n1_842, n2_843, n3_844, n4_845, n5_846, f2_847, f3_848, f4_849, f5_850⟩ := u
  have h_851 := hw
  obtain ⟨hP, hD⟩ := zx_join (wr := []) (w1 := [(q_828, .inr (13, [.ref pe_829, .ref ne_830, .ref pa_831, .ref ro_832, .int 0])), (pe_829, .inr (9, [.int 0, .ref a1_833, .ref a2_834, .ref a3_835, .ref a4_836, .ref a5_837, .ref a6_838, .ref a7_839, .ref a8_840, .ref a9_841])), (a1_833, .inl (cy 0, 20, .inl (fun _ => 0))), (a2_834, .inl (cy 0, 20, .inl (fun _ => 0))), (ne_830, .inr (6, [.ref n1_842, .ref n2_843, .ref n3_844, .ref n4_845, .ref n5_846])), (n1_842, .inl (cy 0, 8, .inl (fun _ => 0))), (n2_843, .inl (cy 0, 8, .inl f2_847)), (n3_844, .inl (cy 0, 8, .inl f3_848)), (n4_845, .inl (cy 0, 8, .inl f4_849)), (n5_846, .inl (cy 1, 8, .inl f5_850)), (pa_831, .inr (4, [.int 0, .ref ed, .int 0])), (ro_832, .inl (cy 0, 20, .inl (fun _ => 0)))]) [0] [] rfl rfl (by decide) (by decide) hP hD hk1 hFc hB ht
  generalize H1 = H at hP hS ⊢
  have hP : va_P D vwCl [(q_828, .inr (13, [.ref pe_829, .ref ne_830, .ref pa_831, .ref ro_832, .int 0])), (pe_829, .inr (9, [.int 0, .ref a1_833, .ref a2_834, .ref a3_835, .ref a4_836, .ref a5_837, .ref a6_838, .ref a7_839, .ref a8_840, .ref a9_841])), (a1_833, .inl (cy 0, 20, .inl (fun _ => 0))), (a2_834, .inl (cy 0, 20, .inl (fun _ => 0))), (ne_830, .inr (6, [.ref n1_842, .ref n2_843, .ref n3_844, .ref n4_845, .ref n5_846])), (n1_842, .inl (cy 0, 8, .inl (fun _ => 0))), (n2_843, .inl (cy 0, 8, .inl f2_847)), (n3_844, .inl (cy 0, 8, .inl f3_848)), (n4_845, .inl (cy 0, 8, .inl f4_849)), (n5_846, .inl (cy 1, 8, .inl f5_850)), (pa_831, .inr (4, [.int 0, .ref ed, .int 0])), (ro_832, .inl (cy 0, 20, .inl (fun _ => 0)))] H := hP
  have hD : va_D A [(q_828, .inr (13, [.ref pe_829, .ref ne_830, .ref pa_831, .ref ro_832, .int 0])), (pe_829, .inr (9, [.int 0, .ref a1_833, .ref a2_834, .ref a3_835, .ref a4_836, .ref a5_837, .ref a6_838, .ref a7_839, .ref a8_840, .ref a9_841])), (a1_833, .inl (cy 0, 20, .inl (fun _ => 0))), (a2_834, .inl (cy 0, 20, .inl (fun _ => 0))), (ne_830, .inr (6, [.ref n1_842, .ref n2_843, .ref n3_844, .ref n4_845, .ref n5_846])), (n1_842, .inl (cy 0, 8, .inl (fun _ => 0))), (n2_843, .inl (cy 0, 8, .inl f2_847)), (n3_844, .inl (cy 0, 8, .inl f3_848)), (n4_845, .inl (cy 0, 8, .inl f4_849)), (n5_846, .inl (cy 1, 8, .inl f5_850)), (pa_831, .inr (4, [.int 0, .ref ed, .int 0])), (ro_832, .inl (cy 0, 20, .inl (fun _ => 0)))] := hD
  refine W.widen (k := 19) (n := 823) (Nat.le_of_ble_eq_true rfl) (Nat.le_of_ble_eq_true rfl) ?_
  refine lv_astore_n (lv' := [(1, .ref q_828), (0, .ref b)]) hx hb dL_law_7 rfl hl (by decide) rfl (fun ls hl => ?_)
  refine va_new (ci := 20) (fs := [.int 0, .null, .int 0, .null, .null, .null, .null, .null, .null]) (C := RX15) (T := TX15) (N := 9) hx hb hts (fun w h => zx_Gc (uz_X15 w h)) tyX15 tyX15_ok hown (hts (.classLink RL 209 RX15) (zx_Gc mm_1563)) (hts (.instantiable RX15 9) (zx_Gc mm_1564)) (hts (.initialized RX15) (zx_Gc mm_78)) hK hP hD hS hA rfl (fun j hj => by rcases (show j = 0 ∨ j = 1 ∨ j = 2 ∨ j = 3 ∨ j = 4 ∨ j = 5 ∨ j = 6 ∨ j = 7 ∨ j = 8 by omega) with rfl | rfl | rfl | rfl | rfl | rfl | rfl | rfl | rfl <;> rfl) (Nat.le_of_ble_eq_true rfl) (Nat.le_of_ble_eq_true rfl) dL_law_8 (fun q_852 H hP hD hS => ?_)
  have hP : va_P D vwCl [(q_828, .inr (13, [.ref pe_829, .ref ne_830, .ref pa_831, .ref ro_832, .int 0])), (pe_829, .inr (9, [.int 0, .ref a1_833, .ref a2_834, .ref a3_835, .ref a4_836, .ref a5_837, .ref a6_838, .ref a7_839, .ref a8_840, .ref a9_841])), (a1_833, .inl (cy 0, 20, .inl (fun _ => 0))), (a2_834, .inl (cy 0, 20, .inl (fun _ => 0))), (ne_830, .inr (6, [.ref n1_842, .ref n2_843, .ref n3_844, .ref n4_845, .ref n5_846])), (n1_842, .inl (cy 0, 8, .inl (fun _ => 0))), (n2_843, .inl (cy 0, 8, .inl f2_847)), (n3_844, .inl (cy 0, 8, .inl f3_848)), (n4_845, .inl (cy 0, 8, .inl f4_849)), (n5_846, .inl (cy 1, 8, .inl f5_850)), (pa_831, .inr (4, [.int 0, .ref ed, .int 0])), (ro_832, .inl (cy 0, 20, .inl (fun _ => 0))), (q_852, .inr (20, [.int 0, .null, .int 0, .null, .null, .null, .null, .null, .null]))] H := hP
  have hD : va_D A [(q_828, .inr (13, [.ref pe_829, .ref ne_830, .ref pa_831, .ref ro_832, .int 0])), (pe_829, .inr (9, [.int 0, .ref a1_833, .ref a2_834, .ref a3_835, .ref a4_836, .ref a5_837, .ref a6_838, .ref a7_839, .ref a8_840, .ref a9_841])), (a1_833, .inl (cy 0, 20, .inl (fun _ => 0))), (a2_834, .inl (cy 0, 20, .inl (fun _ => 0))), (ne_830, .inr (6, [.ref n1_842, .ref n2_843, .ref n3_844, .ref n4_845, .ref n5_846])), (n1_842, .inl (cy 0, 8, .inl (fun _ => 0))), (n2_843, .inl (cy 0, 8, .inl f2_847)), (n3_844, .inl (cy 0, 8, .inl f3_848)), (n4_845, .inl (cy 0, 8, .inl f4_849)), (n5_846, .inl (cy 1, 8, .inl f5_850)), (pa_831, .inr (4, [.int 0, .ref ed, .int 0])), (ro_832, .inl (cy 0, 20, .inl (fun _ => 0))), (q_852, .inr (20, [.int 0, .null, .int 0, .null, .null, .null, .null, .null, .null]))] := hD
  refine W.widen (k := 20) (n := 832) (Nat.le_of_ble_eq_true rfl) (Nat.le_of_ble_eq_true rfl) ?_
  refine lv_dup hx hb dL_law_11 rfl ?_
  have hPc := hP.sub (ws' := [(q_852, .inr (20, [.int 0, .null, .int 0, .null, .null, .null, .null, .null, .null]))]) [12] rfl
  have hDc := hD.sub (ws' := [(q_852, .inr (20, [.int 0, .null, .int 0, .null, .null, .null, .null, .null, .null]))]) [12] (by decide) rfl
  have hFc := va_free (wc := [(q_852, .inr (20, [.int 0, .null, .int 0, .null, .null, .null, .null, .null, .null]))]) hD hS hA [12] rfl
  refine va_callv (va_runI (As := []) (rest := [.ref q_852]) ⟨hx, hb, hml, hown, hts⟩ (c_X15_init l hst D cy ed H.size q_852 0 0) (cwI 0 hts (zx_GI mm_1567) rfl rfl rfl (hts (.initialized RX15) (zx_Gc mm_78)) (hts (.methodLink RL 211 yX15_init) (zx_Gc mm_1565)) (hts (.instanceMethod yX15_init) (zx_Gc mm_1566)) rfl (by decide +kernel) ⟨(Nat.le_of_ble_eq_true rfl), (Nat.le_of_ble_eq_true rfl)⟩) ⟨zx_blind, zx_give hPc hK hDc hS hFc hZ hN⟩ rfl rfl hl.1 rfl (lv_room (Nat.le_of_ble_eq_true rfl)) dL_law_12 ⟨(Nat.le_of_ble_eq_true rfl), (Nat.le_of_ble_eq_true rfl)⟩) hS (fun q _ h => hFc q h) hFc (fun u t H1 locs ht hvm hw hB hz1 hk1 hS => ?_)
  obtain ⟨mp_853, b1_854, b2_855, b3_856, b4_857, b5_858, mq_859, g2_860, g3_861, g4_862, g5_863⟩ := u
  have h_864 := hw
  obtain ⟨hP, hD⟩ := zx_join (wr := [(q_828, .inr (13, [.ref pe_829, .ref ne_830, .ref pa_831, .ref ro_832, .int 0])), (pe_829, .inr (9, [.int 0, .ref a1_833, .ref a2_834, .ref a3_835, .ref a4_836, .ref a5_837, .ref a6_838, .ref a7_839, .ref a8_840, .ref a9_841])), (a1_833, .inl (cy 0, 20, .inl (fun _ => 0))), (a2_834, .inl (cy 0, 20, .inl (fun _ => 0))), (ne_830, .inr (6, [.ref n1_842, .ref n2_843, .ref n3_844, .ref n4_845, .ref n5_846])), (n1_842, .inl (cy 0, 8, .inl (fun _ => 0))), (n2_843, .inl (cy 0, 8, .inl f2_847)), (n3_844, .inl (cy 0, 8, .inl f3_848)), (n4_845, .inl (cy 0, 8, .inl f4_849)), (n5_846, .inl (cy 1, 8, .inl f5_850)), (pa_831, .inr (4, [.int 0, .ref ed, .int 0])), (ro_832, .inl (cy 0, 20, .inl (fun _ => 0)))]) (w1 := [(q_852, .inr (20, [.int 0, .ref mp_853, .int 0, .ref b1_854, .ref b2_855, .ref b3_856, .ref b4_857, .ref b5_858, .ref mq_859])), (b1_854, .inl (cy 0, 8, .inl (fun _ => 0))), (b2_855, .inl (cy 0, 8, .inl g2_860)), (b3_856, .inl (cy 0, 8, .inl g3_861)), (b4_857, .inl (cy 0, 8, .inl g4_862)), (b5_858, .inl (cy 1, 8, .inl g5_863)), (mp_853, .inr (4, [.int 0, .ref ed, .int 0])), (mq_859, .inr (4, [.int 0, .ref ed, .int 0]))]) [12] [0, 1, 2, 3, 4, 5, 6, 7, 8, 9, 10, 11] rfl rfl (by decide) (by decide) hP hD hk1 hFc hB ht
  generalize H1 = H at hP hS ⊢
  have hP : va_P D vwCl [(q_828, .inr (13, [.ref pe_829, .ref ne_830, .ref pa_831, .ref ro_832, .int 0])), (pe_829, .inr (9, [.int 0, .ref a1_833, .ref a2_834, .ref a3_835, .ref a4_836, .ref a5_837, .ref a6_838, .ref a7_839, .ref a8_840, .ref a9_841])), (a1_833, .inl (cy 0, 20, .inl (fun _ => 0))), (a2_834, .inl (cy 0, 20, .inl (fun _ => 0))), (ne_830, .inr (6, [.ref n1_842, .ref n2_843, .ref n3_844, .ref n4_845, .ref n5_846])), (n1_842, .inl (cy 0, 8, .inl (fun _ => 0))), (n2_843, .inl (cy 0, 8, .inl f2_847)), (n3_844, .inl (cy 0, 8, .inl f3_848)), (n4_845, .inl (cy 0, 8, .inl f4_849)), (n5_846, .inl (cy 1, 8, .inl f5_850)), (pa_831, .inr (4, [.int 0, .ref ed, .int 0])), (ro_832, .inl (cy 0, 20, .inl (fun _ => 0))), (q_852, .inr (20, [.int 0, .ref mp_853, .int 0, .ref b1_854, .ref b2_855, .ref b3_856, .ref b4_857, .ref b5_858, .ref mq_859])), (b1_854, .inl (cy 0, 8, .inl (fun _ => 0))), (b2_855, .inl (cy 0, 8, .inl g2_860)), (b3_856, .inl (cy 0, 8, .inl g3_861)), (b4_857, .inl (cy 0, 8, .inl g4_862)), (b5_858, .inl (cy 1, 8, .inl g5_863)), (mp_853, .inr (4, [.int 0, .ref ed, .int 0])), (mq_859, .inr (4, [.int 0, .ref ed, .int 0]))] H := hP
  have hD : va_D A [(q_828, .inr (13, [.ref pe_829, .ref ne_830, .ref pa_831, .ref ro_832, .int 0])), (pe_829, .inr (9, [.int 0, .ref a1_833, .ref a2_834, .ref a3_835, .ref a4_836, .ref a5_837, .ref a6_838, .ref a7_839, .ref a8_840, .ref a9_841])), (a1_833, .inl (cy 0, 20, .inl (fun _ => 0))), (a2_834, .inl (cy 0, 20, .inl (fun _ => 0))), (ne_830, .inr (6, [.ref n1_842, .ref n2_843, .ref n3_844, .ref n4_845, .ref n5_846])), (n1_842, .inl (cy 0, 8, .inl (fun _ => 0))), (n2_843, .inl (cy 0, 8, .inl f2_847)), (n3_844, .inl (cy 0, 8, .inl f3_848)), (n4_845, .inl (cy 0, 8, .inl f4_849)), (n5_846, .inl (cy 1, 8, .inl f5_850)), (pa_831, .inr (4, [.int 0, .ref ed, .int 0])), (ro_832, .inl (cy 0, 20, .inl (fun _ => 0))), (q_852, .inr (20, [.int 0, .ref mp_853, .int 0, .ref b1_854, .ref b2_855, .ref b3_856, .ref b4_857, .ref b5_858, .ref mq_859])), (b1_854, .inl (cy 0, 8, .inl (fun _ => 0))), (b2_855, .inl (cy 0, 8, .inl g2_860)), (b3_856, .inl (cy 0, 8, .inl g3_861)), (b4_857, .inl (cy 0, 8, .inl g4_862)), (b5_858, .inl (cy 1, 8, .inl g5_863)), (mp_853, .inr (4, [.int 0, .ref ed, .int 0])), (mq_859, .inr (4, [.int 0, .ref ed, .int 0]))] := hD
  refine W.widen (k := 27) (n := 878) (Nat.le_of_ble_eq_true rfl) (Nat.le_of_ble_eq_true rfl) ?_
  refine lv_astore_n (lv' := [(2, .ref q_852), (1, .ref q_828), (0, .ref b)]) hx hb dL_law_15 rfl hl (by decide) rfl (fun ls hl => ?_)
  refine lv_iconst (v := 1) hx hb dL_law_16 (by decide) ?_
  refine va_newa (atype := .long) (a0 := (1, .inr (.inl (fun _ => 0)))) (N' := 1) hx hb (hts (.arrayClass .long) (zx_Gc mm_2454)) rfl hK hP hD hS hA (fun _ => rfl) (by decide) (by decide) (Nat.le_of_ble_eq_true rfl) (Nat.le_of_ble_eq_true rfl) (Nat.le_of_ble_eq_true rfl) dL_law_17 (fun q_865 cA9 H hK9 hP hD hS => ?_)
  obtain rfl := zx_same (c0 := cy 3) 3 rfl hK9
  have hP : va_P D vwCl [(q_828, .inr (13, [.ref pe_829, .ref ne_830, .ref pa_831, .ref ro_832, .int 0])), (pe_829, .inr (9, [.int 0, .ref a1_833, .ref a2_834, .ref a3_835, .ref a4_836, .ref a5_837, .ref a6_838, .ref a7_839, .ref a8_840, .ref a9_841])), (a1_833, .inl (cy 0, 20, .inl (fun _ => 0))), (a2_834, .inl (cy 0, 20, .inl (fun _ => 0))), (ne_830, .inr (6, [.ref n1_842, .ref n2_843, .ref n3_844, .ref n4_845, .ref n5_846])), (n1_842, .inl (cy 0, 8, .inl (fun _ => 0))), (n2_843, .inl (cy 0, 8, .inl f2_847)), (n3_844, .inl (cy 0, 8, .inl f3_848)), (n4_845, .inl (cy 0, 8, .inl f4_849)), (n5_846, .inl (cy 1, 8, .inl f5_850)), (pa_831, .inr (4, [.int 0, .ref ed, .int 0])), (ro_832, .inl (cy 0, 20, .inl (fun _ => 0))), (q_852, .inr (20, [.int 0, .ref mp_853, .int 0, .ref b1_854, .ref b2_855, .ref b3_856, .ref b4_857, .ref b5_858, .ref mq_859])), (b1_854, .inl (cy 0, 8, .inl (fun _ => 0))), (b2_855, .inl (cy 0, 8, .inl g2_860)), (b3_856, .inl (cy 0, 8, .inl g3_861)), (b4_857, .inl (cy 0, 8, .inl g4_862)), (b5_858, .inl (cy 1, 8, .inl g5_863)), (mp_853, .inr (4, [.int 0, .ref ed, .int 0])), (mq_859, .inr (4, [.int 0, .ref ed, .int 0])), (q_865, .inl (cy 3, 1, .inr (.inl (fun _ => 0))))] H := hP
  have hD : va_D A [(q_828, .inr (13, [.ref pe_829, .ref ne_830, .ref pa_831, .ref ro_832, .int 0])), (pe_829, .inr (9, [.int 0, .ref a1_833, .ref a2_834, .ref a3_835, .ref a4_836, .ref a5_837, .ref a6_838, .ref a7_839, .ref a8_840, .ref a9_841])), (a1_833, .inl (cy 0, 20, .inl (fun _ => 0))), (a2_834, .inl (cy 0, 20, .inl (fun _ => 0))), (ne_830, .inr (6, [.ref n1_842, .ref n2_843, .ref n3_844, .ref n4_845, .ref n5_846])), (n1_842, .inl (cy 0, 8, .inl (fun _ => 0))), (n2_843, .inl (cy 0, 8, .inl f2_847)), (n3_844, .inl (cy 0, 8, .inl f3_848)), (n4_845, .inl (cy 0, 8, .inl f4_849)), (n5_846, .inl (cy 1, 8, .inl f5_850)), (pa_831, .inr (4, [.int 0, .ref ed, .int 0])), (ro_832, .inl (cy 0, 20, .inl (fun _ => 0))), (q_852, .inr (20, [.int 0, .ref mp_853, .int 0, .ref b1_854, .ref b2_855, .ref b3_856, .ref b4_857, .ref b5_858, .ref mq_859])), (b1_854, .inl (cy 0, 8, .inl (fun _ => 0))), (b2_855, .inl (cy 0, 8, .inl g2_860)), (b3_856, .inl (cy 0, 8, .inl g3_861)), (b4_857, .inl (cy 0, 8, .inl g4_862)), (b5_858, .inl (cy 1, 8, .inl g5_863)), (mp_853, .inr (4, [.int 0, .ref ed, .int 0])), (mq_859, .inr (4, [.int 0, .ref ed, .int 0])), (q_865, .inl (cy 3, 1, .inr (.inl (fun _ => 0))))] := hD
  refine W.widen (k := 28) (n := 879) (Nat.le_of_ble_eq_true rfl) (Nat.le_of_ble_eq_true rfl) ?_
  refine lv_astore_n (lv' := [(3, .ref q_865), (2, .ref q_852), (1, .ref q_828), (0, .ref b)]) hx hb dL_law_19 rfl hl (by decide) rfl (fun ls hl => ?_)
  refine lv_iconst (v := 1) hx hb dL_law_20 (by decide) ?_
  refine va_newa (atype := .double) (a0 := (1, .inr (.inr (.inr (.inl (fun _ => 0)))))) (N' := 1) hx hb (hts (.arrayClass .double) (zx_Gc mm_2455)) rfl hK hP hD hS hA (fun _ => rfl) (by decide) (by decide) (Nat.le_of_ble_eq_true rfl) (Nat.le_of_ble_eq_true rfl) (Nat.le_of_ble_eq_true rfl) dL_law_21 (fun q_866 cA9 H hK9 hP hD hS => ?_)
  obtain rfl := zx_same (c0 := cy 4) 4 rfl hK9
  have hP : va_P D vwCl [(q_828, .inr (13, [.ref pe_829, .ref ne_830, .ref pa_831, .ref ro_832, .int 0])), (pe_829, .inr (9, [.int 0, .ref a1_833, .ref a2_834, .ref a3_835, .ref a4_836, .ref a5_837, .ref a6_838, .ref a7_839, .ref a8_840, .ref a9_841])), (a1_833, .inl (cy 0, 20, .inl (fun _ => 0))), (a2_834, .inl (cy 0, 20, .inl (fun _ => 0))), (ne_830, .inr (6, [.ref n1_842, .ref n2_843, .ref n3_844, .ref n4_845, .ref n5_846])), (n1_842, .inl (cy 0, 8, .inl (fun _ => 0))), (n2_843, .inl (cy 0, 8, .inl f2_847)), (n3_844, .inl (cy 0, 8, .inl f3_848)), (n4_845, .inl (cy 0, 8, .inl f4_849)), (n5_846, .inl (cy 1, 8, .inl f5_850)), (pa_831, .inr (4, [.int 0, .ref ed, .int 0])), (ro_832, .inl (cy 0, 20, .inl (fun _ => 0))), (q_852, .inr (20, [.int 0, .ref mp_853, .int 0, .ref b1_854, .ref b2_855, .ref b3_856, .ref b4_857, .ref b5_858, .ref mq_859])), (b1_854, .inl (cy 0, 8, .inl (fun _ => 0))), (b2_855, .inl (cy 0, 8, .inl g2_860)), (b3_856, .inl (cy 0, 8, .inl g3_861)), (b4_857, .inl (cy 0, 8, .inl g4_862)), (b5_858, .inl (cy 1, 8, .inl g5_863)), (mp_853, .inr (4, [.int 0, .ref ed, .int 0])), (mq_859, .inr (4, [.int 0, .ref ed, .int 0])), (q_865, .inl (cy 3, 1, .inr (.inl (fun _ => 0)))), (q_866, .inl (cy 4, 1, .inr (.inr (.inr (.inl (fun _ => 0))))))] H := hP
  have hD : va_D A [(q_828, .inr (13, [.ref pe_829, .ref ne_830, .ref pa_831, .ref ro_832, .int 0])), (pe_829, .inr (9, [.int 0, .ref a1_833, .ref a2_834, .ref a3_835, .ref a4_836, .ref a5_837, .ref a6_838, .ref a7_839, .ref a8_840, .ref a9_841])), (a1_833, .inl (cy 0, 20, .inl (fun _ => 0))), (a2_834, .inl (cy 0, 20, .inl (fun _ => 0))), (ne_830, .inr (6, [.ref n1_842, .ref n2_843, .ref n3_844, .ref n4_845, .ref n5_846])), (n1_842, .inl (cy 0, 8, .inl (fun _ => 0))), (n2_843, .inl (cy 0, 8, .inl f2_847)), (n3_844, .inl (cy 0, 8, .inl f3_848)), (n4_845, .inl (cy 0, 8, .inl f4_849)), (n5_846, .inl (cy 1, 8, .inl f5_850)), (pa_831, .inr (4, [.int 0, .ref ed, .int 0])), (ro_832, .inl (cy 0, 20, .inl (fun _ => 0))), (q_852, .inr (20, [.int 0, .ref mp_853, .int 0, .ref b1_854, .ref b2_855, .ref b3_856, .ref b4_857, .ref b5_858, .ref mq_859])), (b1_854, .inl (cy 0, 8, .inl (fun _ => 0))), (b2_855, .inl (cy 0, 8, .inl g2_860)), (b3_856, .inl (cy 0, 8, .inl g3_861)), (b4_857, .inl (cy 0, 8, .inl g4_862)), (b5_858, .inl (cy 1, 8, .inl g5_863)), (mp_853, .inr (4, [.int 0, .ref ed, .int 0])), (mq_859, .inr (4, [.int 0, .ref ed, .int 0])), (q_865, .inl (cy 3, 1, .inr (.inl (fun _ => 0)))), (q_866, .inl (cy 4, 1, .inr (.inr (.inr (.inl (fun _ => 0))))))] := hD
  refine W.widen (k := 29) (n := 880) (Nat.le_of_ble_eq_true rfl) (Nat.le_of_ble_eq_true rfl) ?_
  refine lv_astore (lv' := [(4, .ref q_866), (3, .ref q_865), (2, .ref q_852), (1, .ref q_828), (0, .ref b)]) hx hb dL_law_23 hl (by decide) rfl (fun ls hl => ?_)
  refine lv_iconst (v := 0) hx hb dL_law_25 (by decide) ?_
  refine lv_istore (lv' := [(5, .int 0), (4, .ref q_866), (3, .ref q_865), (2, .ref q_852), (1, .ref q_828), (0, .ref b)]) hx hb dL_law_26 hl (by decide) rfl (fun ls hl => ?_)
  rcases Nat.lt_or_ge L 6 with hlt | hge
  ·
    rcases (show L = 0 ∨ L = 1 ∨ L = 2 ∨ L = 3 ∨ L = 4 ∨ L = 5 by omega) with rfl | rfl | rfl | rfl | rfl | rfl
    ·
      refine lv_iload hx hb dL_law_28 (lv_at hl 0 rfl) ?_
      refine lv_aload_n hx hb dL_law_30 rfl (lv_at hl 5 rfl) ?_
      refine va_slen hx hb hX hbl hbA hS dL_law_31 ?_
      refine lv_bipush (v := 6) hx hb dL_law_32 (by decide) ?_
      refine lv_isub hx hb dL_law_34 ?_
      refine lv_topi (fun y9 ey9 => ?_)
      obtain rfl : y9 = (-6) := ey9.trans (by decide)
      refine lv_icmp_gt (tgt := 4263) hx hb dL_law_35 (by decide) (fun _ => ?_) (fun q9 => absurd (by decide) q9)
      refine lv_iconst (v := 1) hx hb dL_law_4263 (by decide) ?_
      refine va_forget (fun q hq => by have h9 := hS.2.2 q hq; rw [hAe] at h9; exact h9) ?_
      refine W.widen (k := 600006) (n := 7302008) (Nat.le_of_ble_eq_true rfl) (Nat.le_of_ble_eq_true rfl) ?_
      exact lw_ret (d0 := s.drawn) (Drawn.sameBut.refl s.drawn lw_cs) hx hb hr hlocks dL_law_4264
    ·
      refine lv_iload hx hb dL_law_28 (lv_at hl 0 rfl) ?_
      refine lv_aload_n hx hb dL_law_30 rfl (lv_at hl 5 rfl) ?_
      refine va_slen hx hb hX hbl hbA hS dL_law_31 ?_
      refine lv_bipush (v := 6) hx hb dL_law_32 (by decide) ?_
      refine lv_isub hx hb dL_law_34 ?_
      refine lv_topi (fun y9 ey9 => ?_)
      obtain rfl : y9 = (-5) := ey9.trans (by decide)
      refine lv_icmp_gt (tgt := 4263) hx hb dL_law_35 (by decide) (fun _ => ?_) (fun q9 => absurd (by decide) q9)
      refine lv_iconst (v := 1) hx hb dL_law_4263 (by decide) ?_
      refine va_forget (fun q hq => by have h9 := hS.2.2 q hq; rw [hAe] at h9; exact h9) ?_
      refine W.widen (k := 600006) (n := 7302008) (Nat.le_of_ble_eq_true rfl) (Nat.le_of_ble_eq_true rfl) ?_
      exact lw_ret (d0 := s.drawn) (Drawn.sameBut.refl s.drawn lw_cs) hx hb hr hlocks dL_law_4264
    ·
      refine lv_iload hx hb dL_law_28 (lv_at hl 0 rfl) ?_
      refine lv_aload_n hx hb dL_law_30 rfl (lv_at hl 5 rfl) ?_
      refine va_slen hx hb hX hbl hbA hS dL_law_31 ?_
      refine lv_bipush (v := 6) hx hb dL_law_32 (by decide) ?_
      refine lv_isub hx hb dL_law_34 ?_
      refine lv_topi (fun y9 ey9 => ?_)
      obtain rfl : y9 = (-4) := ey9.trans (by decide)
      refine lv_icmp_gt (tgt := 4263) hx hb dL_law_35 (by decide) (fun _ => ?_) (fun q9 => absurd (by decide) q9)
      refine lv_iconst (v := 1) hx hb dL_law_4263 (by decide) ?_
      refine va_forget (fun q hq => by have h9 := hS.2.2 q hq; rw [hAe] at h9; exact h9) ?_
      refine W.widen (k := 600006) (n := 7302008) (Nat.le_of_ble_eq_true rfl) (Nat.le_of_ble_eq_true rfl) ?_
      exact lw_ret (d0 := s.drawn) (Drawn.sameBut.refl s.drawn lw_cs) hx hb hr hlocks dL_law_4264
    ·
      refine lv_iload hx hb dL_law_28 (lv_at hl 0 rfl) ?_
      refine lv_aload_n hx hb dL_law_30 rfl (lv_at hl 5 rfl) ?_
      refine va_slen hx hb hX hbl hbA hS dL_law_31 ?_
      refine lv_bipush (v := 6) hx hb dL_law_32 (by decide) ?_
      refine lv_isub hx hb dL_law_34 ?_
      refine lv_topi (fun y9 ey9 => ?_)
      obtain rfl : y9 = (-3) := ey9.trans (by decide)
      refine lv_icmp_gt (tgt := 4263) hx hb dL_law_35 (by decide) (fun _ => ?_) (fun q9 => absurd (by decide) q9)
      refine lv_iconst (v := 1) hx hb dL_law_4263 (by decide) ?_
      refine va_forget (fun q hq => by have h9 := hS.2.2 q hq; rw [hAe] at h9; exact h9) ?_
      refine W.widen (k := 600006) (n := 7302008) (Nat.le_of_ble_eq_true rfl) (Nat.le_of_ble_eq_true rfl) ?_
      exact lw_ret (d0 := s.drawn) (Drawn.sameBut.refl s.drawn lw_cs) hx hb hr hlocks dL_law_4264
    ·
      refine lv_iload hx hb dL_law_28 (lv_at hl 0 rfl) ?_
      refine lv_aload_n hx hb dL_law_30 rfl (lv_at hl 5 rfl) ?_
      refine va_slen hx hb hX hbl hbA hS dL_law_31 ?_
      refine lv_bipush (v := 6) hx hb dL_law_32 (by decide) ?_
      refine lv_isub hx hb dL_law_34 ?_
      refine lv_topi (fun y9 ey9 => ?_)
      obtain rfl : y9 = (-2) := ey9.trans (by decide)
      refine lv_icmp_gt (tgt := 4263) hx hb dL_law_35 (by decide) (fun _ => ?_) (fun q9 => absurd (by decide) q9)
      refine lv_iconst (v := 1) hx hb dL_law_4263 (by decide) ?_
      refine va_forget (fun q hq => by have h9 := hS.2.2 q hq; rw [hAe] at h9; exact h9) ?_
      refine W.widen (k := 600006) (n := 7302008) (Nat.le_of_ble_eq_true rfl) (Nat.le_of_ble_eq_true rfl) ?_
      exact lw_ret (d0 := s.drawn) (Drawn.sameBut.refl s.drawn lw_cs) hx hb hr hlocks dL_law_4264
    ·
      refine lv_iload hx hb dL_law_28 (lv_at hl 0 rfl) ?_
      refine lv_aload_n hx hb dL_law_30 rfl (lv_at hl 5 rfl) ?_
      refine va_slen hx hb hX hbl hbA hS dL_law_31 ?_
      refine lv_bipush (v := 6) hx hb dL_law_32 (by decide) ?_
      refine lv_isub hx hb dL_law_34 ?_
      refine lv_topi (fun y9 ey9 => ?_)
      obtain rfl : y9 = (-1) := ey9.trans (by decide)
      refine lv_icmp_gt (tgt := 4263) hx hb dL_law_35 (by decide) (fun _ => ?_) (fun q9 => absurd (by decide) q9)
      refine lv_iconst (v := 1) hx hb dL_law_4263 (by decide) ?_
      refine va_forget (fun q hq => by have h9 := hS.2.2 q hq; rw [hAe] at h9; exact h9) ?_
      refine W.widen (k := 600006) (n := 7302008) (Nat.le_of_ble_eq_true rfl) (Nat.le_of_ble_eq_true rfl) ?_
      exact lw_ret (d0 := s.drawn) (Drawn.sameBut.refl s.drawn lw_cs) hx hb hr hlocks dL_law_4264
  ·
    obtain rfl : L = 6 := by omega
    have hend : ∀ (H : Heap) (locs : List Loc) (ls : Array Slot), va_S A s.heap H locs → lv_has ls 9 [(0, .ref b), (5, .int 0)] → W p l e room_1 s m #[Value.ref b] below meth c H locs 60 1200 (lw_Z below #[Value.ref b] s) (F0 m 4257 ls []) := by
      intro H locs ls hS hl
      refine lv_iinc (v := 6) (lv' := [(5, .int 6), (0, .ref b)]) hx hb dL_law_4257 hl (k := 1) rfl (by decide) (by decide) rfl (fun ls hl => ?_)
      refine lv_goto (tgt := 28) hx hb dL_law_4260 (by decide) ?_
      refine lv_iload hx hb dL_law_28 (lv_at hl 0 rfl) ?_
      refine lv_aload_n hx hb dL_law_30 rfl (lv_at hl 1 rfl) ?_
      refine va_slen hx hb hX hbl hbA hS dL_law_31 ?_
      refine lv_bipush (v := 6) hx hb dL_law_32 (by decide) ?_
      refine lv_isub hx hb dL_law_34 ?_
      refine lv_topi (fun y9 ey9 => ?_)
      obtain rfl : y9 = 0 := ey9.trans (by decide)
      refine lv_icmp_gt (tgt := 4263) hx hb dL_law_35 (by decide) (fun _ => ?_) (fun q9 => absurd (by decide) q9)
      refine lv_iconst (v := 1) hx hb dL_law_4263 (by decide) ?_
      refine va_forget (fun q hq => by have h9 := hS.2.2 q hq; rw [hAe] at h9; exact h9) ?_
      refine W.widen (k := 600006) (n := 7302008) (Nat.le_of_ble_eq_true rfl) (Nat.le_of_ble_eq_true rfl) ?_
      exact lw_ret (d0 := s.drawn) (Drawn.sameBut.refl s.drawn lw_cs) hx hb hr hlocks dL_law_4264
    refine lv_iload hx hb dL_law_28 (lv_at hl 0 rfl) ?_
    refine lv_aload_n hx hb dL_law_30 rfl (lv_at hl 5 rfl) ?_
    refine va_slen hx hb hX hbl hbA hS dL_law_31 ?_
    refine lv_bipush (v := 6) hx hb dL_law_32 (by decide) ?_
    refine lv_isub hx hb dL_law_34 ?_
    refine lv_topi (fun y9 ey9 => ?_)
    obtain rfl : y9 = 0 := ey9.trans (by decide)
    refine lv_icmp_gt (tgt := 4263) hx hb dL_law_35 (by decide) (fun q9 => absurd q9 (by decide)) (fun _ => ?_)
    refine lv_aload_n hx hb dL_law_38 rfl (lv_at hl 5 rfl) ?_
    refine lv_iload hx hb dL_law_39 (lv_at hl 0 rfl) ?_
    refine va_sld hx hb hX hbl hbA hS (zx_bn (by decide)) dL_law_41 ?_
    refine lv_bipush (v := 63) hx hb dL_law_42 (by decide) ?_
    refine lv_iand hx hb dL_law_44 ?_
    obtain ⟨n9, hn9, e9⟩ := zx_and63 (xs (0 : Int32).toNatClampNeg)
    refine lv_topi (fun y9 ey9 => ?_)
    obtain rfl : y9 = Int32.ofNat n9 := ey9.trans e9
    have C1 : zx_LW p l s m c D cy ed b xs A := ⟨hx, hb, hml, hst, hown, hts, hX, hbl, hbA, hA, hK, hZ, hN⟩
    have hl := lv_sub (l' := [(5, .int 0), (4, .ref q_866), (3, .ref q_865), (2, .ref q_852), (1, .ref q_828), (0, .ref b)]) hl [0, 1, 2, 3, 4, 5] rfl
    rcases (show n9 = 0 ∨ n9 = 1 ∨ n9 = 2 ∨ n9 = 3 ∨ n9 = 4 ∨ n9 = 5 ∨ n9 = 6 ∨ n9 = 7 ∨ n9 = 8 ∨ n9 = 9 ∨ n9 = 10 ∨ n9 = 11 ∨ n9 = 12 ∨ n9 = 13 ∨ n9 = 14 ∨ n9 = 15 ∨ n9 = 16 ∨ n9 = 17 ∨ n9 = 18 ∨ n9 = 19 ∨ n9 = 20 ∨ n9 = 21 ∨ n9 = 22 ∨ n9 = 23 ∨ n9 = 24 ∨ n9 = 25 ∨ n9 = 26 ∨ n9 = 27 ∨ n9 = 28 ∨ n9 = 29 ∨ n9 = 30 ∨ n9 = 31 ∨ n9 = 32 ∨ n9 = 33 ∨ n9 = 34 ∨ n9 = 35 ∨ n9 = 36 ∨ n9 = 37 ∨ n9 = 38 ∨ n9 = 39 ∨ n9 = 40 ∨ n9 = 41 ∨ n9 = 42 ∨ n9 = 43 ∨ n9 = 44 ∨ n9 = 45 ∨ n9 = 46 ∨ n9 = 47 ∨ n9 = 48 ∨ n9 = 49 ∨ n9 = 50 ∨ n9 = 51 ∨ n9 = 52 ∨ n9 = 53 ∨ n9 = 54 ∨ n9 = 55 ∨ n9 = 56 ∨ n9 = 57 ∨ n9 = 58 ∨ n9 = 59 ∨ n9 = 60 ∨ n9 = 61 ∨ n9 = 62 ∨ n9 = 63 by omega) with rfl | rfl | rfl | rfl | rfl | rfl | rfl | rfl | rfl | rfl | rfl | rfl | rfl | rfl | rfl | rfl | rfl | rfl | rfl | rfl | rfl | rfl | rfl | rfl | rfl | rfl | rfl | rfl | rfl | rfl | rfl | rfl | rfl | rfl | rfl | rfl | rfl | rfl | rfl | rfl | rfl | rfl | rfl | rfl | rfl | rfl | rfl | rfl | rfl | rfl | rfl | rfl | rfl | rfl | rfl | rfl | rfl | rfl | rfl | rfl | rfl | rfl | rfl | rfl
    · refine lv_tableIn (off := 255) (tgt := 300) hx hb dL_law_45 (by decide) (by decide) (by decide) (by decide) ?_
      exact law_case_0 C1 h_851 h_864 hP hD hS hl hend
    · refine lv_tableIn (off := 323) (tgt := 368) hx hb dL_law_45 (by decide) (by decide) (by decide) (by decide) ?_
      exact law_case_1 C1 h_851 h_864 hP hD hS hl hend
    · refine lv_tableIn (off := 398) (tgt := 443) hx hb dL_law_45 (by decide) (by decide) (by decide) (by decide) ?_
      exact law_case_2 C1 h_851 h_864 hP hD hS hl hend
    · refine lv_tableIn (off := 473) (tgt := 518) hx hb dL_law_45 (by decide) (by decide) (by decide) (by decide) ?_
      exact law_case_3 C1 h_851 h_864 hP hD hS hl hend
    · refine lv_tableIn (off := 541) (tgt := 586) hx hb dL_law_45 (by decide) (by decide) (by decide) (by decide) ?_
      exact law_case_4 C1 h_851 h_864 hP hD hS hl hend
    · refine lv_tableIn (off := 609) (tgt := 654) hx hb dL_law_45 (by decide) (by decide) (by decide) (by decide) ?_
      exact law_case_5 C1 h_851 h_864 hP hD hS hl hend
    · refine lv_tableIn (off := 684) (tgt := 729) hx hb dL_law_45 (by decide) (by decide) (by decide) (by decide) ?_
      exact law_case_6 C1 h_851 h_864 hP hD hS hl hend
    · refine lv_tableIn (off := 752) (tgt := 797) hx hb dL_law_45 (by decide) (by decide) (by decide) (by decide) ?_
      exact law_case_7 C1 h_851 h_864 hP hD hS hl hend
    · refine lv_tableIn (off := 832) (tgt := 877) hx hb dL_law_45 (by decide) (by decide) (by decide) (by decide) ?_
      exact law_case_8 C1 h_851 h_864 hP hD hS hl hend
    · refine lv_tableIn (off := 900) (tgt := 945) hx hb dL_law_45 (by decide) (by decide) (by decide) (by decide) ?_
      exact law_case_9 C1 h_851 h_864 hP hD hS hl hend
    · refine lv_tableIn (off := 968) (tgt := 1013) hx hb dL_law_45 (by decide) (by decide) (by decide) (by decide) ?_
      exact law_case_10 C1 h_851 h_864 hP hD hS hl hend
    · refine lv_tableIn (off := 1043) (tgt := 1088) hx hb dL_law_45 (by decide) (by decide) (by decide) (by decide) ?_
      exact law_case_11 C1 h_851 h_864 hP hD hS hl hend
    · refine lv_tableIn (off := 1111) (tgt := 1156) hx hb dL_law_45 (by decide) (by decide) (by decide) (by decide) ?_
      exact law_case_12 C1 h_851 h_864 hP hD hS hl hend
    · refine lv_tableIn (off := 1167) (tgt := 1212) hx hb dL_law_45 (by decide) (by decide) (by decide) (by decide) ?_
      exact law_case_13 C1 h_851 h_864 hP hD hS hl hend
    · refine lv_tableIn (off := 1223) (tgt := 1268) hx hb dL_law_45 (by decide) (by decide) (by decide) (by decide) ?_
      exact law_case_14 C1 h_851 h_864 hP hD hS hl hend
    · refine lv_tableIn (off := 1279) (tgt := 1324) hx hb dL_law_45 (by decide) (by decide) (by decide) (by decide) ?_
      exact law_case_15 C1 h_851 h_864 hP hD hS hl hend
    · refine lv_tableIn (off := 1347) (tgt := 1392) hx hb dL_law_45 (by decide) (by decide) (by decide) (by decide) ?_
      exact law_case_16 C1 h_851 h_864 hP hD hS hl hend
    · refine lv_tableIn (off := 1415) (tgt := 1460) hx hb dL_law_45 (by decide) (by decide) (by decide) (by decide) ?_
      exact law_case_17 C1 h_851 h_864 hP hD hS hl hend
    · refine lv_tableIn (off := 1511) (tgt := 1556) hx hb dL_law_45 (by decide) (by decide) (by decide) (by decide) ?_
      exact law_case_18 C1 h_851 h_864 hP hD hS hl hend
    · refine lv_tableIn (off := 1631) (tgt := 1676) hx hb dL_law_45 (by decide) (by decide) (by decide) (by decide) ?_
      exact law_case_19 C1 h_851 h_864 hP hD hS hl hend
    · refine lv_tableIn (off := 1699) (tgt := 1744) hx hb dL_law_45 (by decide) (by decide) (by decide) (by decide) ?_
      exact law_case_20 C1 h_851 h_864 hP hD hS hl hend
    · refine lv_tableIn (off := 1779) (tgt := 1824) hx hb dL_law_45 (by decide) (by decide) (by decide) (by decide) ?_
      exact law_case_21 C1 h_851 h_864 hP hD hS hl hend
    · refine lv_tableIn (off := 1835) (tgt := 1880) hx hb dL_law_45 (by decide) (by decide) (by decide) (by decide) ?_
      exact law_case_22 C1 h_851 h_864 hP hD hS hl hend
    · refine lv_tableIn (off := 1891) (tgt := 1936) hx hb dL_law_45 (by decide) (by decide) (by decide) (by decide) ?_
      exact law_case_23 C1 h_851 h_864 hP hD hS hl hend
    · refine lv_tableIn (off := 1947) (tgt := 1992) hx hb dL_law_45 (by decide) (by decide) (by decide) (by decide) ?_
      exact law_case_24 C1 h_851 h_864 hP hD hS hl hend
    · refine lv_tableIn (off := 2015) (tgt := 2060) hx hb dL_law_45 (by decide) (by decide) (by decide) (by decide) ?_
      exact law_case_25 C1 h_851 h_864 hP hD hS hl hend
    · refine lv_tableIn (off := 2071) (tgt := 2116) hx hb dL_law_45 (by decide) (by decide) (by decide) (by decide) ?_
      exact law_case_26 C1 h_851 h_864 hP hD hS hl hend
    · refine lv_tableIn (off := 2127) (tgt := 2172) hx hb dL_law_45 (by decide) (by decide) (by decide) (by decide) ?_
      exact law_case_27 C1 h_851 h_864 hP hD hS hl hend
    · refine lv_tableIn (off := 2195) (tgt := 2240) hx hb dL_law_45 (by decide) (by decide) (by decide) (by decide) ?_
      exact law_case_28 C1 h_851 h_864 hP hD hS hl hend
    · refine lv_tableIn (off := 2251) (tgt := 2296) hx hb dL_law_45 (by decide) (by decide) (by decide) (by decide) ?_
      exact law_case_29 C1 h_851 h_864 hP hD hS hl hend
    · refine lv_tableIn (off := 2319) (tgt := 2364) hx hb dL_law_45 (by decide) (by decide) (by decide) (by decide) ?_
      exact law_case_30 C1 h_851 h_864 hP hD hS hl hend
    · refine lv_tableIn (off := 2375) (tgt := 2420) hx hb dL_law_45 (by decide) (by decide) (by decide) (by decide) ?_
      exact law_case_31 C1 h_851 h_864 hP hD hS hl hend
    · refine lv_tableIn (off := 2438) (tgt := 2483) hx hb dL_law_45 (by decide) (by decide) (by decide) (by decide) ?_
      exact law_case_32 C1 h_851 h_864 hP hD hS hl hend
    · refine lv_tableIn (off := 2520) (tgt := 2565) hx hb dL_law_45 (by decide) (by decide) (by decide) (by decide) ?_
      exact law_case_33 C1 h_851 h_864 hP hD hS hl hend
    · refine lv_tableIn (off := 2588) (tgt := 2633) hx hb dL_law_45 (by decide) (by decide) (by decide) (by decide) ?_
      exact law_case_34 C1 h_851 h_864 hP hD hS hl hend
    · refine lv_tableIn (off := 2651) (tgt := 2696) hx hb dL_law_45 (by decide) (by decide) (by decide) (by decide) ?_
      exact law_case_35 C1 h_851 h_864 hP hD hS hl hend
    · refine lv_tableIn (off := 2719) (tgt := 2764) hx hb dL_law_45 (by decide) (by decide) (by decide) (by decide) ?_
      exact law_case_36 C1 h_851 h_864 hP hD hS hl hend
    · refine lv_tableIn (off := 2799) (tgt := 2844) hx hb dL_law_45 (by decide) (by decide) (by decide) (by decide) ?_
      exact law_case_37 C1 h_851 h_864 hP hD hS hl hend
    · refine lv_tableIn (off := 2867) (tgt := 2912) hx hb dL_law_45 (by decide) (by decide) (by decide) (by decide) ?_
      exact law_case_38 C1 h_851 h_864 hP hD hS hl hend
    · refine lv_tableIn (off := 2973) (tgt := 3018) hx hb dL_law_45 (by decide) (by decide) (by decide) (by decide) ?_
      exact law_case_39 C1 h_851 h_864 hP hD hS hl hend
    · refine lv_tableIn (off := 3048) (tgt := 3093) hx hb dL_law_45 (by decide) (by decide) (by decide) (by decide) ?_
      exact law_case_40 C1 h_851 h_864 hP hD hS hl hend
    · refine lv_tableIn (off := 3104) (tgt := 3149) hx hb dL_law_45 (by decide) (by decide) (by decide) (by decide) ?_
      exact law_case_41 C1 h_851 h_864 hP hD hS hl hend
    · refine lv_tableIn (off := 3172) (tgt := 3217) hx hb dL_law_45 (by decide) (by decide) (by decide) (by decide) ?_
      exact law_case_42 C1 h_851 h_864 hP hD hS hl hend
    · refine lv_tableIn (off := 3228) (tgt := 3273) hx hb dL_law_45 (by decide) (by decide) (by decide) (by decide) ?_
      exact law_case_43 C1 h_851 h_864 hP hD hS hl hend
    · refine lv_tableIn (off := 3324) (tgt := 3369) hx hb dL_law_45 (by decide) (by decide) (by decide) (by decide) ?_
      exact law_case_44 C1 h_851 h_864 hP hD hS hl hend
    · refine lv_tableIn (off := 3411) (tgt := 3456) hx hb dL_law_45 (by decide) (by decide) (by decide) (by decide) ?_
      exact law_case_45 C1 h_851 h_864 hP hD hS hl hend
    · refine lv_tableIn (off := 3479) (tgt := 3524) hx hb dL_law_45 (by decide) (by decide) (by decide) (by decide) ?_
      exact law_case_46 C1 h_851 h_864 hP hD hS hl hend
    · refine lv_tableIn (off := 3547) (tgt := 3592) hx hb dL_law_45 (by decide) (by decide) (by decide) (by decide) ?_
      exact law_case_47 C1 h_851 h_864 hP hD hS hl hend
    · refine lv_tableIn (off := 3603) (tgt := 3648) hx hb dL_law_45 (by decide) (by decide) (by decide) (by decide) ?_
      exact law_case_48 C1 h_851 h_864 hP hD hS hl hend
    · refine lv_tableIn (off := 3659) (tgt := 3704) hx hb dL_law_45 (by decide) (by decide) (by decide) (by decide) ?_
      exact law_case_49 C1 h_851 h_864 hP hD hS hl hend
    · refine lv_tableIn (off := 3749) (tgt := 3794) hx hb dL_law_45 (by decide) (by decide) (by decide) (by decide) ?_
      exact law_case_50 C1 h_851 h_864 hP hD hS hl hend
    · refine lv_tableIn (off := 3805) (tgt := 3850) hx hb dL_law_45 (by decide) (by decide) (by decide) (by decide) ?_
      exact law_case_51 C1 h_851 h_864 hP hD hS hl hend
    · refine lv_tableIn (off := 3861) (tgt := 3906) hx hb dL_law_45 (by decide) (by decide) (by decide) (by decide) ?_
      exact law_case_52 C1 h_851 h_864 hP hD hS hl hend
    · refine lv_tableIn (off := 3917) (tgt := 3962) hx hb dL_law_45 (by decide) (by decide) (by decide) (by decide) ?_
      exact law_case_53 C1 h_851 h_864 hP hD hS hl hend
    · refine lv_tableIn (off := 3985) (tgt := 4030) hx hb dL_law_45 (by decide) (by decide) (by decide) (by decide) ?_
      exact law_case_54 C1 h_851 h_864 hP hD hS hl hend
    · refine lv_tableIn (off := 4041) (tgt := 4086) hx hb dL_law_45 (by decide) (by decide) (by decide) (by decide) ?_
      exact law_case_55 C1 h_851 h_864 hP hD hS hl hend
    · refine lv_tableIn (off := 4054) (tgt := 4099) hx hb dL_law_45 (by decide) (by decide) (by decide) (by decide) ?_
      exact law_case_56 C1 h_851 h_864 hP hD hS hl hend
    · refine lv_tableIn (off := 4068) (tgt := 4113) hx hb dL_law_45 (by decide) (by decide) (by decide) (by decide) ?_
      exact law_case_57 C1 h_851 h_864 hP hD hS hl hend
    · refine lv_tableIn (off := 4134) (tgt := 4179) hx hb dL_law_45 (by decide) (by decide) (by decide) (by decide) ?_
      exact law_case_58 C1 h_851 h_864 hP hD hS hl hend
    · refine lv_tableIn (off := 4199) (tgt := 4244) hx hb dL_law_45 (by decide) (by decide) (by decide) (by decide) ?_
      exact law_case_59 C1 h_851 h_864 hP hD hS hl hend
    · refine lv_tableOut (tgt := 4257) hx hb dL_law_45 (Or.inr (by decide)) (by decide) ?_
      refine W.widen (k := 60) (n := 1200) (Nat.le_of_ble_eq_true rfl) (Nat.le_of_ble_eq_true rfl) ?_
      exact hend _ _ _ hS (lv_sub hl [5, 0] rfl)
    · refine lv_tableOut (tgt := 4257) hx hb dL_law_45 (Or.inr (by decide)) (by decide) ?_
      refine W.widen (k := 60) (n := 1200) (Nat.le_of_ble_eq_true rfl) (Nat.le_of_ble_eq_true rfl) ?_
      exact hend _ _ _ hS (lv_sub hl [5, 0] rfl)
    · refine lv_tableOut (tgt := 4257) hx hb dL_law_45 (Or.inr (by decide)) (by decide) ?_
      refine W.widen (k := 60) (n := 1200) (Nat.le_of_ble_eq_true rfl) (Nat.le_of_ble_eq_true rfl) ?_
      exact hend _ _ _ hS (lv_sub hl [5, 0] rfl)
    · refine lv_tableOut (tgt := 4257) hx hb dL_law_45 (Or.inr (by decide)) (by decide) ?_
      refine W.widen (k := 60) (n := 1200) (Nat.le_of_ble_eq_true rfl) (Nat.le_of_ble_eq_true rfl) ?_
      exact hend _ _ _ hS (lv_sub hl [5, 0] rfl)


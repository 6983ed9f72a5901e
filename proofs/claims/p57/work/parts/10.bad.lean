theorem dL_law_0 : decode cL_law 0 = .ok (.new 8, 3) := by decide +kernel
theorem dL_law_3 : decode cL_law 3 = .ok (.dup, 1) := by decide +kernel
theorem dL_law_4 : decode cL_law 4 = .ok (.invokespecial 208, 3) := by decide +kernel
theorem dL_law_7 : decode cL_law 7 = .ok (.astore_n 1, 1) := by decide +kernel
theorem dL_law_8 : decode cL_law 8 = .ok (.new 209, 3) := by decide +kernel
theorem dL_law_11 : decode cL_law 11 = .ok (.dup, 1) := by decide +kernel
theorem dL_law_12 : decode cL_law 12 = .ok (.invokespecial 211, 3) := by decide +kernel
theorem dL_law_15 : decode cL_law 15 = .ok (.astore_n 2, 1) := by decide +kernel
theorem dL_law_16 : decode cL_law 16 = .ok (.iconst 1, 1) := by decide +kernel
theorem dL_law_17 : decode cL_law 17 = .ok (.newarray .long, 2) := by decide +kernel
theorem dL_law_19 : decode cL_law 19 = .ok (.astore_n 3, 1) := by decide +kernel
theorem dL_law_20 : decode cL_law 20 = .ok (.iconst 1, 1) := by decide +kernel
theorem dL_law_21 : decode cL_law 21 = .ok (.newarray .double, 2) := by decide +kernel
theorem dL_law_23 : decode cL_law 23 = .ok (.astore 4, 2) := by decide +kernel
theorem dL_law_25 : decode cL_law 25 = .ok (.iconst 0, 1) := by decide +kernel
theorem dL_law_26 : decode cL_law 26 = .ok (.istore 5, 2) := by decide +kernel
theorem dL_law_2548 : decode cL_law 2548 = .ok (.iconst 1, 1) := by decide +kernel
theorem dL_law_2549 : decode cL_law 2549 = .ok (.ireturn, 1) := by decide +kernel
abbrev wzL_law : List Cond := .code yL_law cL_law 9 (some .boolean) :: zx_G
theorem mm_113 : (.classLink RL 8 RX8 : Cond) ∈ zx_G := zx_wi 113 (by decide +kernel) (by decide +kernel)
theorem mm_114 : (.instantiable RX8 5 : Cond) ∈ zx_G := zx_wi 114 (by decide +kernel) (by decide +kernel)
theorem mm_115 : (.methodLink RL 208 yX8_init : Cond) ∈ zx_G := zx_wi 115 (by decide +kernel) (by decide +kernel)
theorem mm_116 : (.instanceMethod yX8_init : Cond) ∈ zx_G := zx_wi 116 (by decide +kernel) (by decide +kernel)
theorem mm_117 : (.code yX8_init cX8_init 1 none : Cond) ∈ zx_G := zx_wi 117 (by decide +kernel) (by decide +kernel)
theorem mm_1563 : (.classLink RL 209 RX15 : Cond) ∈ zx_G := zx_wi 1563 (by decide +kernel) (by decide +kernel)
theorem mm_1564 : (.instantiable RX15 9 : Cond) ∈ zx_G := zx_wi 1564 (by decide +kernel) (by decide +kernel)
theorem mm_1565 : (.methodLink RL 211 yX15_init : Cond) ∈ zx_G := zx_wi 1565 (by decide +kernel) (by decide +kernel)
theorem mm_1566 : (.instanceMethod yX15_init : Cond) ∈ zx_G := zx_wi 1566 (by decide +kernel) (by decide +kernel)
theorem mm_1567 : (.code yX15_init cX15_init 2 none : Cond) ∈ zx_G := zx_wi 1567 (by decide +kernel) (by decide +kernel)
theorem mm_2450 : (.arrayClass .long : Cond) ∈ zx_G := zx_wi 2450 (by decide +kernel) (by decide +kernel)
theorem mm_2451 : (.arrayClass .double : Cond) ∈ zx_G := zx_wi 2451 (by decide +kernel) (by decide +kernel)
theorem zx_bad55 {t : Nat} (h : 26 ≤ t) : zx_bad (6 * t) = 55 := by
  unfold zx_bad
  rw [if_pos (by omega), if_neg (by omega), if_neg (by omega)]
theorem law_loop {p : Program} {l : Launch} {e : Env} {s : State} {m : MethodId} {below : List Frame} {meth : Method} {c : Code} {D : va_G} {cy : Nat → ClassId} {ed b : Nat} {A : Nat → Prop} {Q : State → Prop} (C0 : zx_LW p l s m c D cy ed b A) {h m0 oa : Nat}
    (hend : ∀ (H : Heap) (locs : List Loc) (ls : Array Slot), s.heap.size + 646380 ≤ H.size → va_S A s.heap H locs → lv_has ls 9 [(5, .int (nI 3072)), (3, .ref oa), (2, .ref m0), (1, .ref h), (0, .ref b)] → W p l e zx_R s m #[Value.ref b] below meth c H locs (243 + 1330 * (486 - 0)) (3507 + 5320 * (486 - 0)) Q (F0 m 28 ls [])) :
    ∀ (j : Nat), j ≤ 486 → ∀ (H : Heap) (locs : List Loc) (ls : Array Slot), zx_S26 D cy ed A h m0 oa H → s.heap.size + 1330 * (486 - j) ≤ H.size → va_S A s.heap H locs → lv_has ls 9 [(5, .int (nI (3072 - 6 * j))), (3, .ref oa), (2, .ref m0), (1, .ref h), (0, .ref b)] → W p l e zx_R s m #[Value.ref b] below meth c H locs (243 + 1330 * (486 - j)) (3507 + 5320 * (486 - j)) Q (F0 m 28 ls []) := by
  intro j
  induction j with
  | zero =>
    intro hj H locs ls h0 hgr hS hl
    exact hend H locs ls (by omega) hS hl
  | succ j ih =>
    intro hj H locs ls h0 hgr hS hl
    refine law_rings (i := 3072 - 6 * (j + 1)) (n0 := s.heap.size + 1330 * (486 - (j + 1))) C0 (by omega) (by rw [show 3072 - 6 * (j + 1) = 6 * (512 - (j + 1)) by omega]; exact zx_bad55 (by omega)) (by omega) (by omega) h0 (by omega) hS hl (fun H locs ls h1 hg1 hS hl => ?_)
    refine W.widen (k := 243 + 1330 * (486 - j)) (n := 3507 + 5320 * (486 - j)) (by omega) (by omega) ?_
    exact ih (by omega) H locs ls h1 (by omega) hS (by rw [show 3072 - 6 * j = 3072 - 6 * (j + 1) + 6 by omega]; exact hl)

set_option maxHeartbeats 8000000 in
set_option maxRecDepth 100000 in
/-- what holds at the start that breaks the claim -/
def zx_Bad (b : Nat) : Array Value → State → Prop := fun v U => v = #[Value.ref b] ∧ b < U.heap.size ∧ va_X b 3072 zx_bad U U.heap ∧ ∃ (D : va_G) (cy : Nat → ClassId) (ed : Nat), va_K D vwCl (zx_T cy) U ∧ zx_St ed (fun q : Nat => U.heap.size ≤ q) U U.heap ∧ zx_Nn (cy 6) U
set_option maxHeartbeats 8000000 in
set_option maxRecDepth 100000 in
/-- the law on the script of 512 calls: it comes to its end, and has made 646380 cells and more -/
theorem bad_met (l : Launch) (hst : l.stackTraces = false) (b : Nat) : Met l yL_law wzL_law zx_R (zx_Bad b) (fun _ st o t => st.heap.size + 646380 ≤ t.heap.size) 2000000 20000000 (fun _ => True) := by
  refine Met.ofW (cc := cL_law) (maxL := 9) (ret := ret) (by decide) rfl ?_
  intro p e s m args below meth c s₁ B hml hv
  obtain ⟨rfl, hbl, hX, D, cy, ed, hK, hZ, hN⟩ := hv
  have hx := B.exec
  have hb := B.bytes
  have hr := B.returns
  have hts := atoms_spec (ws := wzL_law) B.pre
  have hown : s.vm.findClass RL = some m.cls := findClass_of_methodNamed B.named
  have hlocks := B.notSynchronized
  have hts2 : ∀ w ∈ Cond.initialized RX8 :: zx_G, w.before #[Value.ref b] s = true := fun w h => (List.mem_cons.mp h).elim (fun e => by rw [e]; exact hts _ (zx_Gc mm_71)) (fun h => hts w (zx_Gc h))
  show W p l e zx_R s m #[Value.ref b] below meth c s.heap [] 0 0 _ _
  obtain ⟨A, hAe⟩ : ∃ A : Nat → Prop, A = fun q : Nat => s.heap.size ≤ q := ⟨_, rfl⟩
  rw [← hAe] at hZ
  have hA : ∀ q : Nat, s.heap.size ≤ q → A q := fun q h => by rw [hAe]; exact h
  have hbA : ¬ A b := by rw [hAe]; exact Nat.not_le.mpr hbl
  have hS : va_S A s.heap s.heap [] := va_S.rf
  have hP : va_P D vwCl [] s.heap := zx_P0
  have hD : va_D A [] := zx_D0
  have hl := lv_entry ([.ref b]) (n := 9) (Nat.le_of_ble_eq_true rfl)
  rw [lg_entry_eq]
  generalize (lg_sl ([.ref b]) ++ List.replicate (9 - (lg_sl ([.ref b])).length) Slot.unset).toArray = ls at hl ⊢
  have hl : lv_has ls 9 [(0, .ref b)] := hl
  refine va_new (ci := 13) (fs := [.null, .null, .null, .null, .int 0]) (C := RX8) (T := TX8) (N := 5) hx hb hts (fun w h => zx_Gc (uz_X8 w h)) tyX8 tyX8_ok hown (hts (.classLink RL 8 RX8) (zx_Gc mm_113)) (hts (.instantiable RX8 5) (zx_Gc mm_114)) (hts (.initialized RX8) (zx_Gc mm_71)) hK hP hD hS hA rfl (fun j hj => by rcases (show j = 0 ∨ j = 1 ∨ j = 2 ∨ j = 3 ∨ j = 4 by omega) with rfl | rfl | rfl | rfl | rfl <;> rfl) (Nat.le_of_ble_eq_true rfl) (Nat.le_of_ble_eq_true rfl) dL_law_0 (fun q_1687 H hP hD hS => ?_)
  have hP : va_P D vwCl [(q_1687, .inr (13, [.null, .null, .null, .null, .int 0]))] H := hP
  have hD : va_D A [(q_1687, .inr (13, [.null, .null, .null, .null, .int 0]))] := hD
  refine W.widen (k := 1) (n := 5) (Nat.le_of_ble_eq_true rfl) (Nat.le_of_ble_eq_true rfl) ?_
  refine lv_dup hx hb dL_law_3 rfl ?_
  have hPc := hP.sub (ws' := [(q_1687, .inr (13, [.null, .null, .null, .null, .int 0]))]) [0] rfl
  have hDc := hD.sub (ws' := [(q_1687, .inr (13, [.null, .null, .null, .null, .int 0]))]) [0] (by decide) rfl
  have hFc := va_free (wc := [(q_1687, .inr (13, [.null, .null, .null, .null, .int 0]))]) hD hS hA [0] rfl
  refine va_callv (va_runI (As := []) (rest := [.ref q_1687]) ⟨hx, hb, hml, hown, hts⟩ (c_X8_init l hst D cy ed H.size q_1687 0) (cwI 0 hts (zx_GI mm_117) rfl rfl rfl (hts (.initialized RX8) (zx_Gc mm_71)) (hts (.methodLink RL 208 yX8_init) (zx_Gc mm_115)) (hts (.instanceMethod yX8_init) (zx_Gc mm_116)) rfl (by decide +kernel) ⟨(Nat.le_of_ble_eq_true rfl), (Nat.le_of_ble_eq_true rfl)⟩) ⟨zx_blind, zx_give hPc hK hDc hS hFc hZ hN⟩ rfl rfl hl.1 rfl (lv_room (Nat.le_of_ble_eq_true rfl)) dL_law_4 ⟨(Nat.le_of_ble_eq_true rfl), (Nat.le_of_ble_eq_true rfl)⟩) hS (fun q _ h => hFc q h) hFc (fun u t H1 locs ht hvm hw hB hz1 hk1 hS => ?_)
  obtain ⟨pe_1688, ne_1689, pa_1690, ro_1691, a1_1692, a2_1693, a3_1694, a4_1695, a5_1696, a6_1697, a7_1698, a8_1699, a9_1700, n1_1701, n2_1702, n3_1703, n4_1704, n5_1705, f2_1706, f3_1707, f4_1708, f5_1709⟩ := u
  have h_1710 := hw
  obtain ⟨hP, hD⟩ := zx_join (wr := []) (w1 := [(q_1687, .inr (13, [.ref pe_1688, .ref ne_1689, .ref pa_1690, .ref ro_1691, .int 0])), (pe_1688, .inr (9, [.int 0, .ref a1_1692, .ref a2_1693, .ref a3_1694, .ref a4_1695, .ref a5_1696, .ref a6_1697, .ref a7_1698, .ref a8_1699, .ref a9_1700])), (a1_1692, .inl (cy 0, 20, .inl (fun _ => 0))), (a2_1693, .inl (cy 0, 20, .inl (fun _ => 0))), (ne_1689, .inr (6, [.ref n1_1701, .ref n2_1702, .ref n3_1703, .ref n4_1704, .ref n5_1705])), (n1_1701, .inl (cy 0, 8, .inl (fun _ => 0))), (n2_1702, .inl (cy 0, 8, .inl f2_1706)), (n3_1703, .inl (cy 0, 8, .inl f3_1707)), (n4_1704, .inl (cy 0, 8, .inl f4_1708)), (n5_1705, .inl (cy 1, 8, .inl f5_1709)), (pa_1690, .inr (4, [.int 0, .ref ed, .int 0])), (ro_1691, .inl (cy 0, 20, .inl (fun _ => 0)))]) [0] [] rfl rfl (by decide) (by decide) hP hD hk1 hFc hB ht
  generalize H1 = H at hP hS ⊢
  have hP : va_P D vwCl [(q_1687, .inr (13, [.ref pe_1688, .ref ne_1689, .ref pa_1690, .ref ro_1691, .int 0])), (pe_1688, .inr (9, [.int 0, .ref a1_1692, .ref a2_1693, .ref a3_1694, .ref a4_1695, .ref a5_1696, .ref a6_1697, .ref a7_1698, .ref a8_1699, .ref a9_1700])), (a1_1692, .inl (cy 0, 20, .inl (fun _ => 0))), (a2_1693, .inl (cy 0, 20, .inl (fun _ => 0))), (ne_1689, .inr (6, [.ref n1_1701, .ref n2_1702, .ref n3_1703, .ref n4_1704, .ref n5_1705])), (n1_1701, .inl (cy 0, 8, .inl (fun _ => 0))), (n2_1702, .inl (cy 0, 8, .inl f2_1706)), (n3_1703, .inl (cy 0, 8, .inl f3_1707)), (n4_1704, .inl (cy 0, 8, .inl f4_1708)), (n5_1705, .inl (cy 1, 8, .inl f5_1709)), (pa_1690, .inr (4, [.int 0, .ref ed, .int 0])), (ro_1691, .inl (cy 0, 20, .inl (fun _ => 0)))] H := hP
  have hD : va_D A [(q_1687, .inr (13, [.ref pe_1688, .ref ne_1689, .ref pa_1690, .ref ro_1691, .int 0])), (pe_1688, .inr (9, [.int 0, .ref a1_1692, .ref a2_1693, .ref a3_1694, .ref a4_1695, .ref a5_1696, .ref a6_1697, .ref a7_1698, .ref a8_1699, .ref a9_1700])), (a1_1692, .inl (cy 0, 20, .inl (fun _ => 0))), (a2_1693, .inl (cy 0, 20, .inl (fun _ => 0))), (ne_1689, .inr (6, [.ref n1_1701, .ref n2_1702, .ref n3_1703, .ref n4_1704, .ref n5_1705])), (n1_1701, .inl (cy 0, 8, .inl (fun _ => 0))), (n2_1702, .inl (cy 0, 8, .inl f2_1706)), (n3_1703, .inl (cy 0, 8, .inl f3_1707)), (n4_1704, .inl (cy 0, 8, .inl f4_1708)), (n5_1705, .inl (cy 1, 8, .inl f5_1709)), (pa_1690, .inr (4, [.int 0, .ref ed, .int 0])), (ro_1691, .inl (cy 0, 20, .inl (fun _ => 0)))] := hD
  refine W.widen (k := 19) (n := 823) (Nat.le_of_ble_eq_true rfl) (Nat.le_of_ble_eq_true rfl) ?_
  refine lv_astore_n (lv' := [(1, .ref q_1687), (0, .ref b)]) hx hb dL_law_7 rfl hl (by decide) rfl (fun ls hl => ?_)
  refine va_new (ci := 20) (fs := [.int 0, .null, .int 0, .null, .null, .null, .null, .null, .null]) (C := RX15) (T := TX15) (N := 9) hx hb hts (fun w h => zx_Gc (uz_X15 w h)) tyX15 tyX15_ok hown (hts (.classLink RL 209 RX15) (zx_Gc mm_1563)) (hts (.instantiable RX15 9) (zx_Gc mm_1564)) (hts (.initialized RX15) (zx_Gc mm_78)) hK hP hD hS hA rfl (fun j hj => by rcases (show j = 0 ∨ j = 1 ∨ j = 2 ∨ j = 3 ∨ j = 4 ∨ j = 5 ∨ j = 6 ∨ j = 7 ∨ j = 8 by omega) with rfl | rfl | rfl | rfl | rfl | rfl | rfl | rfl | rfl <;> rfl) (Nat.le_of_ble_eq_true rfl) (Nat.le_of_ble_eq_true rfl) dL_law_8 (fun q_1711 H hP hD hS => ?_)
  have hP : va_P D vwCl [(q_1687, .inr (13, [.ref pe_1688, .ref ne_1689, .ref pa_1690, .ref ro_1691, .int 0])), (pe_1688, .inr (9, [.int 0, .ref a1_1692, .ref a2_1693, .ref a3_1694, .ref a4_1695, .ref a5_1696, .ref a6_1697, .ref a7_1698, .ref a8_1699, .ref a9_1700])), (a1_1692, .inl (cy 0, 20, .inl (fun _ => 0))), (a2_1693, .inl (cy 0, 20, .inl (fun _ => 0))), (ne_1689, .inr (6, [.ref n1_1701, .ref n2_1702, .ref n3_1703, .ref n4_1704, .ref n5_1705])), (n1_1701, .inl (cy 0, 8, .inl (fun _ => 0))), (n2_1702, .inl (cy 0, 8, .inl f2_1706)), (n3_1703, .inl (cy 0, 8, .inl f3_1707)), (n4_1704, .inl (cy 0, 8, .inl f4_1708)), (n5_1705, .inl (cy 1, 8, .inl f5_1709)), (pa_1690, .inr (4, [.int 0, .ref ed, .int 0])), (ro_1691, .inl (cy 0, 20, .inl (fun _ => 0))), (q_1711, .inr (20, [.int 0, .null, .int 0, .null, .null, .null, .null, .null, .null]))] H := hP
  have hD : va_D A [(q_1687, .inr (13, [.ref pe_1688, .ref ne_1689, .ref pa_1690, .ref ro_1691, .int 0])), (pe_1688, .inr (9, [.int 0, .ref a1_1692, .ref a2_1693, .ref a3_1694, .ref a4_1695, .ref a5_1696, .ref a6_1697, .ref a7_1698, .ref a8_1699, .ref a9_1700])), (a1_1692, .inl (cy 0, 20, .inl (fun _ => 0))), (a2_1693, .inl (cy 0, 20, .inl (fun _ => 0))), (ne_1689, .inr (6, [.ref n1_1701, .ref n2_1702, .ref n3_1703, .ref n4_1704, .ref n5_1705])), (n1_1701, .inl (cy 0, 8, .inl (fun _ => 0))), (n2_1702, .inl (cy 0, 8, .inl f2_1706)), (n3_1703, .inl (cy 0, 8, .inl f3_1707)), (n4_1704, .inl (cy 0, 8, .inl f4_1708)), (n5_1705, .inl (cy 1, 8, .inl f5_1709)), (pa_1690, .inr (4, [.int 0, .ref ed, .int 0])), (ro_1691, .inl (cy 0, 20, .inl (fun _ => 0))), (q_1711, .inr (20, [.int 0, .null, .int 0, .null, .null, .null, .null, .null, .null]))] := hD
  refine W.widen (k := 20) (n := 832) (Nat.le_of_ble_eq_true rfl) (Nat.le_of_ble_eq_true rfl) ?_
  refine lv_dup hx hb dL_law_11 rfl ?_
  have hPc := hP.sub (ws' := [(q_1711, .inr (20, [.int 0, .null, .int 0, .null, .null, .null, .null, .null, .null]))]) [12] rfl
  have hDc := hD.sub (ws' := [(q_1711, .inr (20, [.int 0, .null, .int 0, .null, .null, .null, .null, .null, .null]))]) [12] (by decide) rfl
  have hFc := va_free (wc := [(q_1711, .inr (20, [.int 0, .null, .int 0, .null, .null, .null, .null, .null, .null]))]) hD hS hA [12] rfl
  refine va_callv (va_runI (As := []) (rest := [.ref q_1711]) ⟨hx, hb, hml, hown, hts⟩ (c_X15_init l hst D cy ed H.size q_1711 0 0) (cwI 0 hts (zx_GI mm_1567) rfl rfl rfl (hts (.initialized RX15) (zx_Gc mm_78)) (hts (.methodLink RL 211 yX15_init) (zx_Gc mm_1565)) (hts (.instanceMethod yX15_init) (zx_Gc mm_1566)) rfl (by decide +kernel) ⟨(Nat.le_of_ble_eq_true rfl), (Nat.le_of_ble_eq_true rfl)⟩) ⟨zx_blind, zx_give hPc hK hDc hS hFc hZ hN⟩ rfl rfl hl.1 rfl (lv_room (Nat.le_of_ble_eq_true rfl)) dL_law_12 ⟨(Nat.le_of_ble_eq_true rfl), (Nat.le_of_ble_eq_true rfl)⟩) hS (fun q _ h => hFc q h) hFc (fun u t H1 locs ht hvm hw hB hz1 hk1 hS => ?_)
  obtain ⟨mp_1712, b1_1713, b2_1714, b3_1715, b4_1716, b5_1717, mq_1718, g2_1719, g3_1720, g4_1721, g5_1722⟩ := u
  have h_1723 := hw
  obtain ⟨hP, hD⟩ := zx_join (wr := [(q_1687, .inr (13, [.ref pe_1688, .ref ne_1689, .ref pa_1690, .ref ro_1691, .int 0])), (pe_1688, .inr (9, [.int 0, .ref a1_1692, .ref a2_1693, .ref a3_1694, .ref a4_1695, .ref a5_1696, .ref a6_1697, .ref a7_1698, .ref a8_1699, .ref a9_1700])), (a1_1692, .inl (cy 0, 20, .inl (fun _ => 0))), (a2_1693, .inl (cy 0, 20, .inl (fun _ => 0))), (ne_1689, .inr (6, [.ref n1_1701, .ref n2_1702, .ref n3_1703, .ref n4_1704, .ref n5_1705])), (n1_1701, .inl (cy 0, 8, .inl (fun _ => 0))), (n2_1702, .inl (cy 0, 8, .inl f2_1706)), (n3_1703, .inl (cy 0, 8, .inl f3_1707)), (n4_1704, .inl (cy 0, 8, .inl f4_1708)), (n5_1705, .inl (cy 1, 8, .inl f5_1709)), (pa_1690, .inr (4, [.int 0, .ref ed, .int 0])), (ro_1691, .inl (cy 0, 20, .inl (fun _ => 0)))]) (w1 := [(q_1711, .inr (20, [.int 0, .ref mp_1712, .int 0, .ref b1_1713, .ref b2_1714, .ref b3_1715, .ref b4_1716, .ref b5_1717, .ref mq_1718])), (b1_1713, .inl (cy 0, 8, .inl (fun _ => 0))), (b2_1714, .inl (cy 0, 8, .inl g2_1719)), (b3_1715, .inl (cy 0, 8, .inl g3_1720)), (b4_1716, .inl (cy 0, 8, .inl g4_1721)), (b5_1717, .inl (cy 1, 8, .inl g5_1722)), (mp_1712, .inr (4, [.int 0, .ref ed, .int 0])), (mq_1718, .inr (4, [.int 0, .ref ed, .int 0]))]) [12] [0, 1, 2, 3, 4, 5, 6, 7, 8, 9, 10, 11] rfl rfl (by decide) (by decide) hP hD hk1 hFc hB ht
  generalize H1 = H at hP hS ⊢
  have hP : va_P D vwCl [(q_1687, .inr (13, [.ref pe_1688, .ref ne_1689, .ref pa_1690, .ref ro_1691, .int 0])), (pe_1688, .inr (9, [.int 0, .ref a1_1692, .ref a2_1693, .ref a3_1694, .ref a4_1695, .ref a5_1696, .ref a6_1697, .ref a7_1698, .ref a8_1699, .ref a9_1700])), (a1_1692, .inl (cy 0, 20, .inl (fun _ => 0))), (a2_1693, .inl (cy 0, 20, .inl (fun _ => 0))), (ne_1689, .inr (6, [.ref n1_1701, .ref n2_1702, .ref n3_1703, .ref n4_1704, .ref n5_1705])), (n1_1701, .inl (cy 0, 8, .inl (fun _ => 0))), (n2_1702, .inl (cy 0, 8, .inl f2_1706)), (n3_1703, .inl (cy 0, 8, .inl f3_1707)), (n4_1704, .inl (cy 0, 8, .inl f4_1708)), (n5_1705, .inl (cy 1, 8, .inl f5_1709)), (pa_1690, .inr (4, [.int 0, .ref ed, .int 0])), (ro_1691, .inl (cy 0, 20, .inl (fun _ => 0))), (q_1711, .inr (20, [.int 0, .ref mp_1712, .int 0, .ref b1_1713, .ref b2_1714, .ref b3_1715, .ref b4_1716, .ref b5_1717, .ref mq_1718])), (b1_1713, .inl (cy 0, 8, .inl (fun _ => 0))), (b2_1714, .inl (cy 0, 8, .inl g2_1719)), (b3_1715, .inl (cy 0, 8, .inl g3_1720)), (b4_1716, .inl (cy 0, 8, .inl g4_1721)), (b5_1717, .inl (cy 1, 8, .inl g5_1722)), (mp_1712, .inr (4, [.int 0, .ref ed, .int 0])), (mq_1718, .inr (4, [.int 0, .ref ed, .int 0]))] H := hP
  have hD : va_D A [(q_1687, .inr (13, [.ref pe_1688, .ref ne_1689, .ref pa_1690, .ref ro_1691, .int 0])), (pe_1688, .inr (9, [.int 0, .ref a1_1692, .ref a2_1693, .ref a3_1694, .ref a4_1695, .ref a5_1696, .ref a6_1697, .ref a7_1698, .ref a8_1699, .ref a9_1700])), (a1_1692, .inl (cy 0, 20, .inl (fun _ => 0))), (a2_1693, .inl (cy 0, 20, .inl (fun _ => 0))), (ne_1689, .inr (6, [.ref n1_1701, .ref n2_1702, .ref n3_1703, .ref n4_1704, .ref n5_1705])), (n1_1701, .inl (cy 0, 8, .inl (fun _ => 0))), (n2_1702, .inl (cy 0, 8, .inl f2_1706)), (n3_1703, .inl (cy 0, 8, .inl f3_1707)), (n4_1704, .inl (cy 0, 8, .inl f4_1708)), (n5_1705, .inl (cy 1, 8, .inl f5_1709)), (pa_1690, .inr (4, [.int 0, .ref ed, .int 0])), (ro_1691, .inl (cy 0, 20, .inl (fun _ => 0))), (q_1711, .inr (20, [.int 0, .ref mp_1712, .int 0, .ref b1_1713, .ref b2_1714, .ref b3_1715, .ref b4_1716, .ref b5_1717, .ref mq_1718])), (b1_1713, .inl (cy 0, 8, .inl (fun _ => 0))), (b2_1714, .inl (cy 0, 8, .inl g2_1719)), (b3_1715, .inl (cy 0, 8, .inl g3_1720)), (b4_1716, .inl (cy 0, 8, .inl g4_1721)), (b5_1717, .inl (cy 1, 8, .inl g5_1722)), (mp_1712, .inr (4, [.int 0, .ref ed, .int 0])), (mq_1718, .inr (4, [.int 0, .ref ed, .int 0]))] := hD
  refine W.widen (k := 27) (n := 878) (Nat.le_of_ble_eq_true rfl) (Nat.le_of_ble_eq_true rfl) ?_
  refine lv_astore_n (lv' := [(2, .ref q_1711), (1, .ref q_1687), (0, .ref b)]) hx hb dL_law_15 rfl hl (by decide) rfl (fun ls hl => ?_)
  refine lv_iconst (v := 1) hx hb dL_law_16 (by decide) ?_
  refine va_newa (atype := .long) (a0 := (1, .inr (.inl (fun _ => 0)))) (N' := 1) hx hb (hts (.arrayClass .long) (zx_Gc mm_2450)) rfl hK hP hD hS hA (fun _ => rfl) (by decide) (by decide) (Nat.le_of_ble_eq_true rfl) (Nat.le_of_ble_eq_true rfl) (Nat.le_of_ble_eq_true rfl) dL_law_17 (fun q_1724 cA9 H hK9 hP hD hS => ?_)
  obtain rfl := zx_same (c0 := cy 3) 3 rfl hK9
  have hP : va_P D vwCl [(q_1687, .inr (13, [.ref pe_1688, .ref ne_1689, .ref pa_1690, .ref ro_1691, .int 0])), (pe_1688, .inr (9, [.int 0, .ref a1_1692, .ref a2_1693, .ref a3_1694, .ref a4_1695, .ref a5_1696, .ref a6_1697, .ref a7_1698, .ref a8_1699, .ref a9_1700])), (a1_1692, .inl (cy 0, 20, .inl (fun _ => 0))), (a2_1693, .inl (cy 0, 20, .inl (fun _ => 0))), (ne_1689, .inr (6, [.ref n1_1701, .ref n2_1702, .ref n3_1703, .ref n4_1704, .ref n5_1705])), (n1_1701, .inl (cy 0, 8, .inl (fun _ => 0))), (n2_1702, .inl (cy 0, 8, .inl f2_1706)), (n3_1703, .inl (cy 0, 8, .inl f3_1707)), (n4_1704, .inl (cy 0, 8, .inl f4_1708)), (n5_1705, .inl (cy 1, 8, .inl f5_1709)), (pa_1690, .inr (4, [.int 0, .ref ed, .int 0])), (ro_1691, .inl (cy 0, 20, .inl (fun _ => 0))), (q_1711, .inr (20, [.int 0, .ref mp_1712, .int 0, .ref b1_1713, .ref b2_1714, .ref b3_1715, .ref b4_1716, .ref b5_1717, .ref mq_1718])), (b1_1713, .inl (cy 0, 8, .inl (fun _ => 0))), (b2_1714, .inl (cy 0, 8, .inl g2_1719)), (b3_1715, .inl (cy 0, 8, .inl g3_1720)), (b4_1716, .inl (cy 0, 8, .inl g4_1721)), (b5_1717, .inl (cy 1, 8, .inl g5_1722)), (mp_1712, .inr (4, [.int 0, .ref ed, .int 0])), (mq_1718, .inr (4, [.int 0, .ref ed, .int 0])), (q_1724, .inl (cy 3, 1, .inr (.inl (fun _ => 0))))] H := hP
  have hD : va_D A [(q_1687, .inr (13, [.ref pe_1688, .ref ne_1689, .ref pa_1690, .ref ro_1691, .int 0])), (pe_1688, .inr (9, [.int 0, .ref a1_1692, .ref a2_1693, .ref a3_1694, .ref a4_1695, .ref a5_1696, .ref a6_1697, .ref a7_1698, .ref a8_1699, .ref a9_1700])), (a1_1692, .inl (cy 0, 20, .inl (fun _ => 0))), (a2_1693, .inl (cy 0, 20, .inl (fun _ => 0))), (ne_1689, .inr (6, [.ref n1_1701, .ref n2_1702, .ref n3_1703, .ref n4_1704, .ref n5_1705])), (n1_1701, .inl (cy 0, 8, .inl (fun _ => 0))), (n2_1702, .inl (cy 0, 8, .inl f2_1706)), (n3_1703, .inl (cy 0, 8, .inl f3_1707)), (n4_1704, .inl (cy 0, 8, .inl f4_1708)), (n5_1705, .inl (cy 1, 8, .inl f5_1709)), (pa_1690, .inr (4, [.int 0, .ref ed, .int 0])), (ro_1691, .inl (cy 0, 20, .inl (fun _ => 0))), (q_1711, .inr (20, [.int 0, .ref mp_1712, .int 0, .ref b1_1713, .ref b2_1714, .ref b3_1715, .ref b4_1716, .ref b5_1717, .ref mq_1718])), (b1_1713, .inl (cy 0, 8, .inl (fun _ => 0))), (b2_1714, .inl (cy 0, 8, .inl g2_1719)), (b3_1715, .inl (cy 0, 8, .inl g3_1720)), (b4_1716, .inl (cy 0, 8, .inl g4_1721)), (b5_1717, .inl (cy 1, 8, .inl g5_1722)), (mp_1712, .inr (4, [.int 0, .ref ed, .int 0])), (mq_1718, .inr (4, [.int 0, .ref ed, .int 0])), (q_1724, .inl (cy 3, 1, .inr (.inl (fun _ => 0))))] := hD
  refine W.widen (k := 28) (n := 879) (Nat.le_of_ble_eq_true rfl) (Nat.le_of_ble_eq_true rfl) ?_
  refine lv_astore_n (lv' := [(3, .ref q_1724), (2, .ref q_1711), (1, .ref q_1687), (0, .ref b)]) hx hb dL_law_19 rfl hl (by decide) rfl (fun ls hl => ?_)
  refine lv_iconst (v := 1) hx hb dL_law_20 (by decide) ?_
  refine va_newa (atype := .double) (a0 := (1, .inr (.inr (.inr (.inl (fun _ => 0)))))) (N' := 1) hx hb (hts (.arrayClass .double) (zx_Gc mm_2451)) rfl hK hP hD hS hA (fun _ => rfl) (by decide) (by decide) (Nat.le_of_ble_eq_true rfl) (Nat.le_of_ble_eq_true rfl) (Nat.le_of_ble_eq_true rfl) dL_law_21 (fun q_1725 cA9 H hK9 hP hD hS => ?_)
  obtain rfl := zx_same (c0 := cy 4) 4 rfl hK9
  have hP : va_P D vwCl [(q_1687, .inr (13, [.ref pe_1688, .ref ne_1689, .ref pa_1690, .ref ro_1691, .int 0])), (pe_1688, .inr (9, [.int 0, .ref a1_1692, .ref a2_1693, .ref a3_1694, .ref a4_1695, .ref a5_1696, .ref a6_1697, .ref a7_1698, .ref a8_1699, .ref a9_1700])), (a1_1692, .inl (cy 0, 20, .inl (fun _ => 0))), (a2_1693, .inl (cy 0, 20, .inl (fun _ => 0))), (ne_1689, .inr (6, [.ref n1_1701, .ref n2_1702, .ref n3_1703, .ref n4_1704, .ref n5_1705])), (n1_1701, .inl (cy 0, 8, .inl (fun _ => 0))), (n2_1702, .inl (cy 0, 8, .inl f2_1706)), (n3_1703, .inl (cy 0, 8, .inl f3_1707)), (n4_1704, .inl (cy 0, 8, .inl f4_1708)), (n5_1705, .inl (cy 1, 8, .inl f5_1709)), (pa_1690, .inr (4, [.int 0, .ref ed, .int 0])), (ro_1691, .inl (cy 0, 20, .inl (fun _ => 0))), (q_1711, .inr (20, [.int 0, .ref mp_1712, .int 0, .ref b1_1713, .ref b2_1714, .ref b3_1715, .ref b4_1716, .ref b5_1717, .ref mq_1718])), (b1_1713, .inl (cy 0, 8, .inl (fun _ => 0))), (b2_1714, .inl (cy 0, 8, .inl g2_1719)), (b3_1715, .inl (cy 0, 8, .inl g3_1720)), (b4_1716, .inl (cy 0, 8, .inl g4_1721)), (b5_1717, .inl (cy 1, 8, .inl g5_1722)), (mp_1712, .inr (4, [.int 0, .ref ed, .int 0])), (mq_1718, .inr (4, [.int 0, .ref ed, .int 0])), (q_1724, .inl (cy 3, 1, .inr (.inl (fun _ => 0)))), (q_1725, .inl (cy 4, 1, .inr (.inr (.inr (.inl (fun _ => 0))))))] H := hP
  have hD : va_D A [(q_1687, .inr (13, [.ref pe_1688, .ref ne_1689, .ref pa_1690, .ref ro_1691, .int 0])), (pe_1688, .inr (9, [.int 0, .ref a1_1692, .ref a2_1693, .ref a3_1694, .ref a4_1695, .ref a5_1696, .ref a6_1697, .ref a7_1698, .ref a8_1699, .ref a9_1700])), (a1_1692, .inl (cy 0, 20, .inl (fun _ => 0))), (a2_1693, .inl (cy 0, 20, .inl (fun _ => 0))), (ne_1689, .inr (6, [.ref n1_1701, .ref n2_1702, .ref n3_1703, .ref n4_1704, .ref n5_1705])), (n1_1701, .inl (cy 0, 8, .inl (fun _ => 0))), (n2_1702, .inl (cy 0, 8, .inl f2_1706)), (n3_1703, .inl (cy 0, 8, .inl f3_1707)), (n4_1704, .inl (cy 0, 8, .inl f4_1708)), (n5_1705, .inl (cy 1, 8, .inl f5_1709)), (pa_1690, .inr (4, [.int 0, .ref ed, .int 0])), (ro_1691, .inl (cy 0, 20, .inl (fun _ => 0))), (q_1711, .inr (20, [.int 0, .ref mp_1712, .int 0, .ref b1_1713, .ref b2_1714, .ref b3_1715, .ref b4_1716, .ref b5_1717, .ref mq_1718])), (b1_1713, .inl (cy 0, 8, .inl (fun _ => 0))), (b2_1714, .inl (cy 0, 8, .inl g2_1719)), (b3_1715, .inl (cy 0, 8, .inl g3_1720)), (b4_1716, .inl (cy 0, 8, .inl g4_1721)), (b5_1717, .inl (cy 1, 8, .inl g5_1722)), (mp_1712, .inr (4, [.int 0, .ref ed, .int 0])), (mq_1718, .inr (4, [.int 0, .ref ed, .int 0])), (q_1724, .inl (cy 3, 1, .inr (.inl (fun _ => 0)))), (q_1725, .inl (cy 4, 1, .inr (.inr (.inr (.inl (fun _ => 0))))))] := hD
  refine W.widen (k := 29) (n := 880) (Nat.le_of_ble_eq_true rfl) (Nat.le_of_ble_eq_true rfl) ?_
  refine lv_astore (lv' := [(4, .ref q_1725), (3, .ref q_1724), (2, .ref q_1711), (1, .ref q_1687), (0, .ref b)]) hx hb dL_law_23 hl (by decide) rfl (fun ls hl => ?_)
  refine lv_iconst (v := 0) hx hb dL_law_25 (by decide) ?_
  refine lv_istore (lv' := [(5, .int 0), (4, .ref q_1725), (3, .ref q_1724), (2, .ref q_1711), (1, .ref q_1687), (0, .ref b)]) hx hb dL_law_26 hl (by decide) rfl (fun ls hl => ?_)
  refine W.widen (k := 40) (n := 1300) (Nat.le_of_ble_eq_true rfl) (Nat.le_of_ble_eq_true rfl) ?_
  have C1 : zx_LW p l s m c D cy ed b A := ⟨hx, hb, hml, hst, hown, hts2, hX, hbl, hbA, hA, hK, hZ, hN⟩
  have hend : ∀ (H : Heap) (locs : List Loc) (ls : Array Slot), s.heap.size + 646380 ≤ H.size → va_S A s.heap H locs → lv_has ls 9 [(5, .int (nI 3072)), (3, .ref q_1724), (2, .ref q_1711), (1, .ref q_1687), (0, .ref b)] → W p l e zx_R s m #[Value.ref b] below meth c H locs (243 + 1330 * (486 - 0)) (3507 + 5320 * (486 - 0)) (MQ below (fun _ st o t => st.heap.size + 646380 ≤ t.heap.size) #[Value.ref b] s 2000000 20000000 (fun _ => True)) (F0 m 28 ls []) := by
    intro H locs ls hgr hS hl
    refine lv_iload hx hb dL_law_28 (lv_at hl 0 rfl) ?_
    refine lv_aload_n hx hb dL_law_30 rfl (lv_at hl 4 rfl) ?_
    refine va_slen hx hb hX hbl hbA hS dL_law_31 ?_
    refine lv_bipush (v := 6) hx hb dL_law_32 (by decide) ?_
    refine lv_isub hx hb dL_law_34 ?_
    refine lv_topi (fun y9 ey9 => ?_)
    obtain rfl : y9 = 3066 := ey9.trans (by decide)
    refine lv_icmp_gt (tgt := 2548) hx hb dL_law_35 (by decide) (fun _ => ?_) (fun q9 => absurd (by decide) q9)
    refine lv_iconst (v := 1) hx hb dL_law_2548 (by decide) ?_
    refine W.widen (k := 2000000) (n := 20000000) (by omega) (by omega) ?_
    exact W.zret (v := 1) hx hb hr rfl (fun t ht hW => by show _ ≤ t.heap.size; rw [ht]; exact hgr) (fun _ _ => trivial) dL_law_2549
  have hP := hP.sub (ws' := [(q_1687, .inr (13, [.ref pe_1688, .ref ne_1689, .ref pa_1690, .ref ro_1691, .int 0])), (pe_1688, .inr (9, [.int 0, .ref a1_1692, .ref a2_1693, .ref a3_1694, .ref a4_1695, .ref a5_1696, .ref a6_1697, .ref a7_1698, .ref a8_1699, .ref a9_1700])), (a1_1692, .inl (cy 0, 20, .inl (fun _ => 0))), (a2_1693, .inl (cy 0, 20, .inl (fun _ => 0))), (ro_1691, .inl (cy 0, 20, .inl (fun _ => 0))), (pa_1690, .inr (4, [.int 0, .ref ed, .int 0])), (q_1711, .inr (20, [.int 0, .ref mp_1712, .int 0, .ref b1_1713, .ref b2_1714, .ref b3_1715, .ref b4_1716, .ref b5_1717, .ref mq_1718])), (mp_1712, .inr (4, [.int 0, .ref ed, .int 0])), (mq_1718, .inr (4, [.int 0, .ref ed, .int 0])), (q_1724, .inl (cy 3, 1, .inr (.inl (fun _ => 0))))]) [0, 1, 2, 3, 11, 10, 12, 18, 19, 20] rfl
  have hD := hD.sub (ws' := [(q_1687, .inr (13, [.ref pe_1688, .ref ne_1689, .ref pa_1690, .ref ro_1691, .int 0])), (pe_1688, .inr (9, [.int 0, .ref a1_1692, .ref a2_1693, .ref a3_1694, .ref a4_1695, .ref a5_1696, .ref a6_1697, .ref a7_1698, .ref a8_1699, .ref a9_1700])), (a1_1692, .inl (cy 0, 20, .inl (fun _ => 0))), (a2_1693, .inl (cy 0, 20, .inl (fun _ => 0))), (ro_1691, .inl (cy 0, 20, .inl (fun _ => 0))), (pa_1690, .inr (4, [.int 0, .ref ed, .int 0])), (q_1711, .inr (20, [.int 0, .ref mp_1712, .int 0, .ref b1_1713, .ref b2_1714, .ref b3_1715, .ref b4_1716, .ref b5_1717, .ref mq_1718])), (mp_1712, .inr (4, [.int 0, .ref ed, .int 0])), (mq_1718, .inr (4, [.int 0, .ref ed, .int 0])), (q_1724, .inl (cy 3, 1, .inr (.inl (fun _ => 0))))]) [0, 1, 2, 3, 11, 10, 12, 18, 19, 20] (by decide) rfl
  have hl := lv_sub (l' := [(5, .int 0), (3, .ref q_1724), (2, .ref q_1711), (1, .ref q_1687), (0, .ref b)]) hl [0, 2, 3, 4, 5] rfl
  have h0 : zx_S0 D cy ed A q_1687 q_1711 q_1724 H := ⟨pe_1688, ne_1689, pa_1690, ro_1691, a1_1692, a2_1693, a3_1694, a4_1695, a5_1696, a6_1697, a7_1698, a8_1699, a9_1700, mp_1712, mq_1718, b1_1713, b2_1714, b3_1715, b4_1716, b5_1717, 0, 0, 0, (fun _ => 0), (fun _ => 0), (fun _ => 0), (fun _ => 0), hP, hD⟩
  clear hP hD
  refine law_step_0 C1 h0 hS hl (fun H locs ls h0 hS hl => ?_)
  refine law_step_1 C1 h0 hS hl (fun H locs ls h0 hS hl => ?_)
  refine law_step_2 C1 h0 hS hl (fun H locs ls h0 hS hl => ?_)
  refine law_step_3 C1 h0 hS hl (fun H locs ls h0 hS hl => ?_)
  refine law_step_4 C1 h0 hS hl (fun H locs ls h0 hS hl => ?_)
  refine law_step_5 C1 h0 hS hl (fun H locs ls h0 hS hl => ?_)
  refine law_step_6 C1 h0 hS hl (fun H locs ls h0 hS hl => ?_)
  refine law_step_7 C1 h0 hS hl (fun H locs ls h0 hS hl => ?_)
  refine law_step_8 C1 h0 hS hl (fun H locs ls h0 hS hl => ?_)
  refine law_step_9 C1 h0 hS hl (fun H locs ls h0 hS hl => ?_)
  refine law_step_10 C1 h0 hS hl (fun H locs ls h0 hS hl => ?_)
  refine law_step_11 C1 h0 hS hl (fun H locs ls h0 hS hl => ?_)
  refine law_step_12 C1 h0 hS hl (fun H locs ls h0 hS hl => ?_)
  refine law_step_13 C1 h0 hS hl (fun H locs ls h0 hS hl => ?_)
  refine law_step_14 C1 h0 hS hl (fun H locs ls h0 hS hl => ?_)
  refine law_step_15 C1 h0 hS hl (fun H locs ls h0 hS hl => ?_)
  refine law_step_16 C1 h0 hS hl (fun H locs ls h0 hS hl => ?_)
  refine law_step_17 C1 h0 hS hl (fun H locs ls h0 hS hl => ?_)
  refine law_step_18 C1 h0 hS hl (fun H locs ls h0 hS hl => ?_)
  refine law_step_19 C1 h0 hS hl (fun H locs ls h0 hS hl => ?_)
  refine law_step_20 C1 h0 hS hl (fun H locs ls h0 hS hl => ?_)
  refine law_step_21 C1 h0 hS hl (fun H locs ls h0 hS hl => ?_)
  refine law_step_22 C1 h0 hS hl (fun H locs ls h0 hS hl => ?_)
  refine law_step_23 C1 h0 hS hl (fun H locs ls h0 hS hl => ?_)
  refine law_step_24 C1 h0 hS hl (fun H locs ls h0 hS hl => ?_)
  refine law_step_25 C1 h0 hS hl (fun H locs ls h0 hS hl => ?_)
  exact law_loop C1 hend 486 (Nat.le_refl _) H locs ls h0 (by have h9 := hS.1; omega) hS hl


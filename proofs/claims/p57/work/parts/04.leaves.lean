theorem dX8_isWithin_0 : decode cX8_isWithin 0 = .ok (.iload_n 0, 1) := by decide +kernel
theorem dX8_isWithin_1 : decode cX8_isWithin 1 = .ok (.iload_n 1, 1) := by decide +kernel
theorem dX8_isWithin_2 : decode cX8_isWithin 2 = .ok (.if_icmp .lt 12, 3) := by decide +kernel
theorem dX8_isWithin_14 : decode cX8_isWithin 14 = .ok (.iconst 0, 1) := by decide +kernel
theorem dX8_isWithin_15 : decode cX8_isWithin 15 = .ok (.ireturn, 1) := by decide +kernel
theorem dX8_isWithin_5 : decode cX8_isWithin 5 = .ok (.iload_n 0, 1) := by decide +kernel
theorem dX8_isWithin_6 : decode cX8_isWithin 6 = .ok (.iload_n 2, 1) := by decide +kernel
theorem dX8_isWithin_7 : decode cX8_isWithin 7 = .ok (.if_icmp .gt 7, 3) := by decide +kernel
theorem dX8_isWithin_10 : decode cX8_isWithin 10 = .ok (.iconst 1, 1) := by decide +kernel
theorem dX8_isWithin_11 : decode cX8_isWithin 11 = .ok (.goto 4, 3) := by decide +kernel
theorem dX15_in_0 : decode cX15_in 0 = .ok (.iload_n 0, 1) := by decide +kernel
theorem dX15_in_1 : decode cX15_in 1 = .ok (.iload_n 1, 1) := by decide +kernel
theorem dX15_in_2 : decode cX15_in 2 = .ok (.if_icmp .lt 12, 3) := by decide +kernel
theorem dX15_in_14 : decode cX15_in 14 = .ok (.iconst 0, 1) := by decide +kernel
theorem dX15_in_15 : decode cX15_in 15 = .ok (.ireturn, 1) := by decide +kernel
theorem dX15_in_5 : decode cX15_in 5 = .ok (.iload_n 0, 1) := by decide +kernel
theorem dX15_in_6 : decode cX15_in 6 = .ok (.iload_n 2, 1) := by decide +kernel
theorem dX15_in_7 : decode cX15_in 7 = .ok (.if_icmp .gt 7, 3) := by decide +kernel
theorem dX15_in_10 : decode cX15_in 10 = .ok (.iconst 1, 1) := by decide +kernel
theorem dX15_in_11 : decode cX15_in 11 = .ok (.goto 4, 3) := by decide +kernel
theorem dX8_needField_0 : decode cX8_needField 0 = .ok (.iload_n 0, 1) := by decide +kernel
theorem dX8_needField_1 : decode cX8_needField 1 = .ok (.ifCond .lt 9, 3) := by decide +kernel
theorem dX8_needField_10 : decode cX8_needField 10 = .ok (.new 43, 3) := by decide +kernel
theorem dX8_needField_13 : decode cX8_needField 13 = .ok (.dup, 1) := by decide +kernel
theorem dX8_needField_14 : decode cX8_needField 14 = .ok (.invokespecial 45, 3) := by decide +kernel
theorem dX8_needField_17 : decode cX8_needField 17 = .ok (.athrow, 1) := by decide +kernel
theorem dX8_needField_4 : decode cX8_needField 4 = .ok (.iload_n 0, 1) := by decide +kernel
theorem dX8_needField_5 : decode cX8_needField 5 = .ok (.bipush 8, 2) := by decide +kernel
theorem dX8_needField_7 : decode cX8_needField 7 = .ok (.if_icmp .lt 11, 3) := by decide +kernel
theorem dX8_needField_18 : decode cX8_needField 18 = .ok (.return_, 1) := by decide +kernel
theorem dX8_holds_0 : decode cX8_holds 0 = .ok (.iload_n 1, 1) := by decide +kernel
theorem dX8_holds_1 : decode cX8_holds 1 = .ok (.ifCond .lt 21, 3) := by decide +kernel
theorem dX8_holds_22 : decode cX8_holds 22 = .ok (.iconst 0, 1) := by decide +kernel
theorem dX8_holds_23 : decode cX8_holds 23 = .ok (.ireturn, 1) := by decide +kernel
theorem dX8_holds_4 : decode cX8_holds 4 = .ok (.iload_n 1, 1) := by decide +kernel
theorem dX8_holds_5 : decode cX8_holds 5 = .ok (.bipush 32, 2) := by decide +kernel
theorem dX8_holds_7 : decode cX8_holds 7 = .ok (.if_icmp .ge 15, 3) := by decide +kernel
theorem dX8_holds_10 : decode cX8_holds 10 = .ok (.iload_n 0, 1) := by decide +kernel
theorem dX8_holds_11 : decode cX8_holds 11 = .ok (.iload_n 1, 1) := by decide +kernel
theorem dX8_holds_12 : decode cX8_holds 12 = .ok (.ishr, 1) := by decide +kernel
theorem dX8_holds_13 : decode cX8_holds 13 = .ok (.iconst 1, 1) := by decide +kernel
theorem dX8_holds_14 : decode cX8_holds 14 = .ok (.iand, 1) := by decide +kernel
theorem dX8_holds_15 : decode cX8_holds 15 = .ok (.ifCond .eq 7, 3) := by decide +kernel
theorem dX8_holds_18 : decode cX8_holds 18 = .ok (.iconst 1, 1) := by decide +kernel
theorem dX8_holds_19 : decode cX8_holds 19 = .ok (.goto 4, 3) := by decide +kernel
theorem dX15_has_0 : decode cX15_has 0 = .ok (.iload_n 0, 1) := by decide +kernel
theorem dX15_has_1 : decode cX15_has 1 = .ok (.iload_n 1, 1) := by decide +kernel
theorem dX15_has_2 : decode cX15_has 2 = .ok (.ishr, 1) := by decide +kernel
theorem dX15_has_3 : decode cX15_has 3 = .ok (.iconst 1, 1) := by decide +kernel
theorem dX15_has_4 : decode cX15_has 4 = .ok (.iand, 1) := by decide +kernel
theorem dX15_has_5 : decode cX15_has 5 = .ok (.iconst 1, 1) := by decide +kernel
theorem dX15_has_6 : decode cX15_has 6 = .ok (.if_icmp .ne 7, 3) := by decide +kernel
theorem dX15_has_13 : decode cX15_has 13 = .ok (.iconst 0, 1) := by decide +kernel
theorem dX15_has_14 : decode cX15_has 14 = .ok (.ireturn, 1) := by decide +kernel
theorem dX15_has_9 : decode cX15_has 9 = .ok (.iconst 1, 1) := by decide +kernel
theorem dX15_has_10 : decode cX15_has 10 = .ok (.goto 4, 3) := by decide +kernel
theorem dJx4a65c_size_8abf5_0 : decode cJx4a65c_size_8abf5 0 = .ok (.aload_n 0, 1) := by decide +kernel
theorem dJx4a65c_size_8abf5_1 : decode cJx4a65c_size_8abf5 1 = .ok (.getfield 48, 3) := by decide +kernel
theorem dJx4a65c_size_8abf5_4 : decode cJx4a65c_size_8abf5 4 = .ok (.ireturn, 1) := by decide +kernel
theorem dJx4a65c_isEmpty_aae02_0 : decode cJx4a65c_isEmpty_aae02 0 = .ok (.aload_n 0, 1) := by decide +kernel
theorem dJx4a65c_isEmpty_aae02_1 : decode cJx4a65c_isEmpty_aae02 1 = .ok (.getfield 48, 3) := by decide +kernel
theorem dJx4a65c_isEmpty_aae02_4 : decode cJx4a65c_isEmpty_aae02 4 = .ok (.ifCond .ne 7, 3) := by decide +kernel
theorem dJx4a65c_isEmpty_aae02_7 : decode cJx4a65c_isEmpty_aae02 7 = .ok (.iconst 1, 1) := by decide +kernel
theorem dJx4a65c_isEmpty_aae02_8 : decode cJx4a65c_isEmpty_aae02 8 = .ok (.goto 4, 3) := by decide +kernel
theorem dJx4a65c_isEmpty_aae02_12 : decode cJx4a65c_isEmpty_aae02 12 = .ok (.ireturn, 1) := by decide +kernel
abbrev wzJx4a65c_isEmpty_aae02 : List Cond := .code yJx4a65c_isEmpty_aae02 cJx4a65c_isEmpty_aae02 1 (some .boolean) :: zx_G
abbrev wzJx4a65c_size_8abf5 : List Cond := .code yJx4a65c_size_8abf5 cJx4a65c_size_8abf5 1 (some .int) :: zx_G
abbrev wzX15_has : List Cond := .code yX15_has cX15_has 2 (some .boolean) :: zx_G
abbrev wzX15_in : List Cond := .code yX15_in cX15_in 3 (some .boolean) :: zx_G
abbrev wzX8_holds : List Cond := .code yX8_holds cX8_holds 2 (some .boolean) :: zx_G
abbrev wzX8_isWithin : List Cond := .code yX8_isWithin cX8_isWithin 3 (some .boolean) :: zx_G
abbrev wzX8_needField : List Cond := .code yX8_needField cX8_needField 1 none :: zx_G
theorem mm_82 : (.initialized "java/lang/IllegalArgumentException" : Cond) ∈ zx_G := zx_wi 82 (by decide +kernel) (by decide +kernel)
theorem mm_216 : (.fieldLink RJx4a65c 48 "java/util/ArrayList" "size" "I" : Cond) ∈ zx_G := zx_wi 216 (by decide +kernel) (by decide +kernel)
theorem mm_342 : (.classLink RX8 43 "java/lang/IllegalArgumentException" : Cond) ∈ zx_G := zx_wi 342 (by decide +kernel) (by decide +kernel)
theorem uz_Jx4a65c : ∀ w ∈ u_ws RJx4a65c TJx4a65c 3, w ∈ zx_G := zx_us [225, 221, 223] (by decide +kernel)
theorem tw_RX8_45 : ∀ w ∈ (vx_at0 RX8 45 "java/lang/IllegalArgumentException" ["java/lang/RuntimeException", "java/lang/Exception"]).filter goodWord, w ∈ zx_G := zx_thw (by decide +kernel)
theorem tv_RX8_45 : ((vx_at0 RX8 45 "java/lang/IllegalArgumentException" ["java/lang/RuntimeException", "java/lang/Exception"]).filter (fun w => !goodWord w)).all (fun w => zx_soft w && decide (w ∈ lw_tbl)) = true := by decide +kernel
set_option maxHeartbeats 4000000 in
set_option maxRecDepth 100000 in
theorem c_X8_isWithin (l : Launch) (hst : l.stackTraces = false) (D : va_G) (cy : Nat → ClassId) (ed sz : Nat) (p0 : Int32) (p1 : Int32) (p2 : Int32) : Met l yX8_isWithin wzX8_isWithin ({ frames := 0, cells := 0, slots := 0, locals := 0 }) (zx_Pc D cy ed sz [.int p0, .int p1, .int p2] []) (va_Qi (fun (r9 : Int32) (u9 : Unit) => r9 = (zx_in p0 p1 p2)) (fun (u9 : Unit) (t9 : State) => zx_At D cy (va_A [] sz) [] t9) (va_A [] sz)) 0 0 (va_A [] sz) := by
  refine Met.ofW (cc := cX8_isWithin) (maxL := 3) (ret := (some .boolean)) (by decide) rfl ?_
  intro p e s m args below meth c s₁ B hml hv
  obtain ⟨rfl, hsz, hP, hK, hD0, hZ, hN⟩ := hv
  have hx := B.exec
  have hb := B.bytes
  have hr := B.returns
  have hts := atoms_spec (ws := wzX8_isWithin) B.pre
  have hown : s.vm.findClass RX8 = some m.cls := findClass_of_methodNamed B.named
  have hlocks := B.notSynchronized
  subst hsz
  have hD := hD0.self (sz := s.heap.size)
  generalize hAe : va_A [] s.heap.size = A at hD hZ ⊢
  have hA : ∀ q : Nat, s.heap.size ≤ q → A q := fun q h => by rw [← hAe]; exact Or.inr h
  have hS : va_S A s.heap s.heap [] := va_S.rf
  have hP : va_P D vwCl [] s.heap := hP
  have hl := lv_entry ([.int p0, .int p1, .int p2]) (n := 3) (Nat.le_of_ble_eq_true rfl)
  rw [lg_entry_eq]
  generalize (lg_sl ([.int p0, .int p1, .int p2]) ++ List.replicate (3 - (lg_sl ([.int p0, .int p1, .int p2])).length) Slot.unset).toArray = ls at hl ⊢
  have hl : lv_has ls 3 [(0, .int p0), (1, .int p1), (2, .int p2)] := hl
  refine lv_iload_n hx hb dX8_isWithin_0 rfl (lv_at hl 0 rfl) ?_
  refine lv_iload_n hx hb dX8_isWithin_1 rfl (lv_at hl 1 rfl) ?_
  refine lv_icmp_lt (tgt := 14) hx hb dX8_isWithin_2 (by decide) (fun c_1 => ?_) (fun c_1 => ?_)
  ·
    refine lv_iconst (v := 0) hx hb dX8_isWithin_14 (by decide) ?_
    have hP9 := hP.sub (ws' := []) [] rfl
    have hD9 := hD.sub (ws' := []) [] (by decide) rfl
    exact W.zret (v := 0) hx hb hr rfl (fun t ht hW => ⟨⟨0, (), rfl, zx_in_lt c_1, zx_fin hP9 hD9 hK ht hW⟩, hS.F ht⟩) hS.2.2 dX8_isWithin_15
  ·
    refine lv_iload_n hx hb dX8_isWithin_5 rfl (lv_at hl 0 rfl) ?_
    refine lv_iload_n hx hb dX8_isWithin_6 rfl (lv_at hl 2 rfl) ?_
    refine lv_icmp_gt (tgt := 14) hx hb dX8_isWithin_7 (by decide) (fun c_2 => ?_) (fun c_2 => ?_)
    ·
      refine lv_iconst (v := 0) hx hb dX8_isWithin_14 (by decide) ?_
      have hP9 := hP.sub (ws' := []) [] rfl
      have hD9 := hD.sub (ws' := []) [] (by decide) rfl
      exact W.zret (v := 0) hx hb hr rfl (fun t ht hW => ⟨⟨0, (), rfl, zx_in_gt' c_2, zx_fin hP9 hD9 hK ht hW⟩, hS.F ht⟩) hS.2.2 dX8_isWithin_15
    ·
      refine lv_iconst (v := 1) hx hb dX8_isWithin_10 (by decide) ?_
      refine lv_goto (tgt := 15) hx hb dX8_isWithin_11 (by decide) ?_
      have hP9 := hP.sub (ws' := []) [] rfl
      have hD9 := hD.sub (ws' := []) [] (by decide) rfl
      exact W.zret (v := 1) hx hb hr rfl (fun t ht hW => ⟨⟨1, (), rfl, zx_in_yes c_1 c_2, zx_fin hP9 hD9 hK ht hW⟩, hS.F ht⟩) hS.2.2 dX8_isWithin_15
set_option maxHeartbeats 4000000 in
set_option maxRecDepth 100000 in
theorem c_X15_in (l : Launch) (hst : l.stackTraces = false) (D : va_G) (cy : Nat → ClassId) (ed sz : Nat) (p0 : Int32) (p1 : Int32) (p2 : Int32) : Met l yX15_in wzX15_in ({ frames := 0, cells := 0, slots := 0, locals := 0 }) (zx_Pc D cy ed sz [.int p0, .int p1, .int p2] []) (va_Qi (fun (r9 : Int32) (u9 : Unit) => r9 = (zx_in p0 p1 p2)) (fun (u9 : Unit) (t9 : State) => zx_At D cy (va_A [] sz) [] t9) (va_A [] sz)) 0 0 (va_A [] sz) := by
  refine Met.ofW (cc := cX15_in) (maxL := 3) (ret := (some .boolean)) (by decide) rfl ?_
  intro p e s m args below meth c s₁ B hml hv
  obtain ⟨rfl, hsz, hP, hK, hD0, hZ, hN⟩ := hv
  have hx := B.exec
  have hb := B.bytes
  have hr := B.returns
  have hts := atoms_spec (ws := wzX15_in) B.pre
  have hown : s.vm.findClass RX15 = some m.cls := findClass_of_methodNamed B.named
  have hlocks := B.notSynchronized
  subst hsz
  have hD := hD0.self (sz := s.heap.size)
  generalize hAe : va_A [] s.heap.size = A at hD hZ ⊢
  have hA : ∀ q : Nat, s.heap.size ≤ q → A q := fun q h => by rw [← hAe]; exact Or.inr h
  have hS : va_S A s.heap s.heap [] := va_S.rf
  have hP : va_P D vwCl [] s.heap := hP
  have hl := lv_entry ([.int p0, .int p1, .int p2]) (n := 3) (Nat.le_of_ble_eq_true rfl)
  rw [lg_entry_eq]
  generalize (lg_sl ([.int p0, .int p1, .int p2]) ++ List.replicate (3 - (lg_sl ([.int p0, .int p1, .int p2])).length) Slot.unset).toArray = ls at hl ⊢
  have hl : lv_has ls 3 [(0, .int p0), (1, .int p1), (2, .int p2)] := hl
  refine lv_iload_n hx hb dX15_in_0 rfl (lv_at hl 0 rfl) ?_
  refine lv_iload_n hx hb dX15_in_1 rfl (lv_at hl 1 rfl) ?_
  refine lv_icmp_lt (tgt := 14) hx hb dX15_in_2 (by decide) (fun c_3 => ?_) (fun c_3 => ?_)
  ·
    refine lv_iconst (v := 0) hx hb dX15_in_14 (by decide) ?_
    have hP9 := hP.sub (ws' := []) [] rfl
    have hD9 := hD.sub (ws' := []) [] (by decide) rfl
    exact W.zret (v := 0) hx hb hr rfl (fun t ht hW => ⟨⟨0, (), rfl, zx_in_lt c_3, zx_fin hP9 hD9 hK ht hW⟩, hS.F ht⟩) hS.2.2 dX15_in_15
  ·
    refine lv_iload_n hx hb dX15_in_5 rfl (lv_at hl 0 rfl) ?_
    refine lv_iload_n hx hb dX15_in_6 rfl (lv_at hl 2 rfl) ?_
    refine lv_icmp_gt (tgt := 14) hx hb dX15_in_7 (by decide) (fun c_4 => ?_) (fun c_4 => ?_)
    ·
      refine lv_iconst (v := 0) hx hb dX15_in_14 (by decide) ?_
      have hP9 := hP.sub (ws' := []) [] rfl
      have hD9 := hD.sub (ws' := []) [] (by decide) rfl
      exact W.zret (v := 0) hx hb hr rfl (fun t ht hW => ⟨⟨0, (), rfl, zx_in_gt' c_4, zx_fin hP9 hD9 hK ht hW⟩, hS.F ht⟩) hS.2.2 dX15_in_15
    ·
      refine lv_iconst (v := 1) hx hb dX15_in_10 (by decide) ?_
      refine lv_goto (tgt := 15) hx hb dX15_in_11 (by decide) ?_
      have hP9 := hP.sub (ws' := []) [] rfl
      have hD9 := hD.sub (ws' := []) [] (by decide) rfl
      exact W.zret (v := 1) hx hb hr rfl (fun t ht hW => ⟨⟨1, (), rfl, zx_in_yes c_3 c_4, zx_fin hP9 hD9 hK ht hW⟩, hS.F ht⟩) hS.2.2 dX15_in_15
set_option maxHeartbeats 4000000 in
set_option maxRecDepth 100000 in
theorem c_X8_needField (l : Launch) (hst : l.stackTraces = false) (D : va_G) (cy : Nat → ClassId) (ed sz : Nat) (p0 : Int32) : vx_Met l yX8_needField wzX8_needField ({ frames := 6, cells := 1, slots := 6, locals := 81 }) (zx_Pc D cy ed sz [.int p0] []) (va_Qv (fun (u9 : Unit) => zx_in p0 0 7 = 1) (fun (u9 : Unit) (t9 : State) => zx_At D cy (va_A [] sz) [] t9) (va_A [] sz)) (zx_X (fun E9 => (E9 = "java/lang/IllegalArgumentException" ∧ zx_in p0 0 7 = 0)) (va_A [] sz)) 1 6 (va_A [] sz) := by
  refine vx_ofW (cc := cX8_needField) (maxL := 1) (ret := none) (by decide) rfl ?_
  intro p e s m args below meth c s₁ B hml htb hv
  obtain ⟨rfl, hsz, hP, hK, hD0, hZ, hN⟩ := hv
  have hx := B.exec
  have hb := B.bytes
  have hr := B.returns
  have hts := atoms_spec (ws := wzX8_needField) B.pre
  have hown : s.vm.findClass RX8 = some m.cls := findClass_of_methodNamed B.named
  have hlocks := B.notSynchronized
  subst hsz
  have hD := hD0.self (sz := s.heap.size)
  generalize hAe : va_A [] s.heap.size = A at hD hZ ⊢
  have hA : ∀ q : Nat, s.heap.size ≤ q → A q := fun q h => by rw [← hAe]; exact Or.inr h
  have hS : va_S A s.heap s.heap [] := va_S.rf
  have hP : va_P D vwCl [] s.heap := hP
  have hl := lv_entry ([.int p0]) (n := 1) (Nat.le_of_ble_eq_true rfl)
  rw [lg_entry_eq]
  generalize (lg_sl ([.int p0]) ++ List.replicate (1 - (lg_sl ([.int p0])).length) Slot.unset).toArray = ls at hl ⊢
  have hl : lv_has ls 1 [(0, .int p0)] := hl
  refine lv_iload_n hx hb dX8_needField_0 rfl (lv_at hl 0 rfl) ?_
  refine lv_if_lt (tgt := 10) hx hb dX8_needField_1 (by decide) (fun c_5 => ?_) (fun c_5 => ?_)
  ·
    have hat9 : ∀ w ∈ (vx_at0 RX8 45 "java/lang/IllegalArgumentException" ["java/lang/RuntimeException", "java/lang/Exception"]).filter goodWord, w ∈ wzX8_needField := fun w h => zx_Gc (tw_RX8_45 w h)
    exact vx_throw0 (names := ["java/lang/RuntimeException", "java/lang/Exception"]) hx hb hst hown (by decide +kernel) (by decide +kernel) (hts (.classLink RX8 43 "java/lang/IllegalArgumentException") (zx_Gc mm_342)) (hts (.initialized "java/lang/IllegalArgumentException") (zx_Gc mm_82)) (vx_hat (B := (vx_at0 RX8 45 "java/lang/IllegalArgumentException" ["java/lang/RuntimeException", "java/lang/Exception"]).filter (fun w => !goodWord w)) (fun w9 h9 => hts w9 (hat9 w9 h9)) (fun _ h9 => h9) (zx_softs tv_RX8_45 hN)) (by decide +kernel) hZ.1 hZ.2.1 hS (hl.1.trans hml.symm) dX8_needField_10 dX8_needField_13 dX8_needField_14 dX8_needField_17 (fun x9 h9 => absurd h9 (htb x9)) (Nat.le_of_ble_eq_true rfl) (Nat.le_of_ble_eq_true rfl) (Nat.le_of_ble_eq_true rfl) (Nat.le_of_ble_eq_true rfl) hlocks (zx_thr (P := (fun E9 => (E9 = "java/lang/IllegalArgumentException" ∧ zx_in p0 0 7 = 0))) hS (⟨rfl, zx_f1 c_5⟩)) hS.2.2 (Nat.le_of_ble_eq_true rfl) (Nat.le_of_ble_eq_true rfl)
  ·
    refine lv_iload_n hx hb dX8_needField_4 rfl (lv_at hl 0 rfl) ?_
    refine lv_bipush (v := 8) hx hb dX8_needField_5 (by decide) ?_
    refine lv_icmp_lt (tgt := 18) hx hb dX8_needField_7 (by decide) (fun c_6 => ?_) (fun c_6 => ?_)
    ·
      have hP9 := hP.sub (ws' := []) [] rfl
      have hD9 := hD.sub (ws' := []) [] (by decide) rfl
      refine W.widen (k := 1) (n := 6) (Nat.le_of_ble_eq_true rfl) (Nat.le_of_ble_eq_true rfl) ?_
      refine vx_ret ?_
      exact W.vret hx hb hr (fun t ht hW => ⟨⟨(), rfl, zx_f3 c_5 c_6, zx_fin hP9 hD9 hK ht hW⟩, hS.F ht⟩) hS.2.2 dX8_needField_18
    ·
      have hat9 : ∀ w ∈ (vx_at0 RX8 45 "java/lang/IllegalArgumentException" ["java/lang/RuntimeException", "java/lang/Exception"]).filter goodWord, w ∈ wzX8_needField := fun w h => zx_Gc (tw_RX8_45 w h)
      exact vx_throw0 (names := ["java/lang/RuntimeException", "java/lang/Exception"]) hx hb hst hown (by decide +kernel) (by decide +kernel) (hts (.classLink RX8 43 "java/lang/IllegalArgumentException") (zx_Gc mm_342)) (hts (.initialized "java/lang/IllegalArgumentException") (zx_Gc mm_82)) (vx_hat (B := (vx_at0 RX8 45 "java/lang/IllegalArgumentException" ["java/lang/RuntimeException", "java/lang/Exception"]).filter (fun w => !goodWord w)) (fun w9 h9 => hts w9 (hat9 w9 h9)) (fun _ h9 => h9) (zx_softs tv_RX8_45 hN)) (by decide +kernel) hZ.1 hZ.2.1 hS (hl.1.trans hml.symm) dX8_needField_10 dX8_needField_13 dX8_needField_14 dX8_needField_17 (fun x9 h9 => absurd h9 (htb x9)) (Nat.le_of_ble_eq_true rfl) (Nat.le_of_ble_eq_true rfl) (Nat.le_of_ble_eq_true rfl) (Nat.le_of_ble_eq_true rfl) hlocks (zx_thr (P := (fun E9 => (E9 = "java/lang/IllegalArgumentException" ∧ zx_in p0 0 7 = 0))) hS (⟨rfl, zx_f2 c_6⟩)) hS.2.2 (Nat.le_of_ble_eq_true rfl) (Nat.le_of_ble_eq_true rfl)
set_option maxHeartbeats 4000000 in
set_option maxRecDepth 100000 in
theorem c_X8_holds (l : Launch) (hst : l.stackTraces = false) (D : va_G) (cy : Nat → ClassId) (ed sz : Nat) (p0 : Int32) (p1 : Int32) : Met l yX8_holds wzX8_holds ({ frames := 0, cells := 0, slots := 0, locals := 0 }) (zx_Pc D cy ed sz [.int p0, .int p1] []) (va_Qi (fun (r9 : Int32) (u9 : Unit) => r9 = (zx_holds p0 p1)) (fun (u9 : Unit) (t9 : State) => zx_At D cy (va_A [] sz) [] t9) (va_A [] sz)) 0 0 (va_A [] sz) := by
  refine Met.ofW (cc := cX8_holds) (maxL := 2) (ret := (some .boolean)) (by decide) rfl ?_
  intro p e s m args below meth c s₁ B hml hv
  obtain ⟨rfl, hsz, hP, hK, hD0, hZ, hN⟩ := hv
  have hx := B.exec
  have hb := B.bytes
  have hr := B.returns
  have hts := atoms_spec (ws := wzX8_holds) B.pre
  have hown : s.vm.findClass RX8 = some m.cls := findClass_of_methodNamed B.named
  have hlocks := B.notSynchronized
  subst hsz
  have hD := hD0.self (sz := s.heap.size)
  generalize hAe : va_A [] s.heap.size = A at hD hZ ⊢
  have hA : ∀ q : Nat, s.heap.size ≤ q → A q := fun q h => by rw [← hAe]; exact Or.inr h
  have hS : va_S A s.heap s.heap [] := va_S.rf
  have hP : va_P D vwCl [] s.heap := hP
  have hl := lv_entry ([.int p0, .int p1]) (n := 2) (Nat.le_of_ble_eq_true rfl)
  rw [lg_entry_eq]
  generalize (lg_sl ([.int p0, .int p1]) ++ List.replicate (2 - (lg_sl ([.int p0, .int p1])).length) Slot.unset).toArray = ls at hl ⊢
  have hl : lv_has ls 2 [(0, .int p0), (1, .int p1)] := hl
  refine lv_iload_n hx hb dX8_holds_0 rfl (lv_at hl 1 rfl) ?_
  refine lv_if_lt (tgt := 22) hx hb dX8_holds_1 (by decide) (fun c_7 => ?_) (fun c_7 => ?_)
  ·
    refine lv_iconst (v := 0) hx hb dX8_holds_22 (by decide) ?_
    have hP9 := hP.sub (ws' := []) [] rfl
    have hD9 := hD.sub (ws' := []) [] (by decide) rfl
    exact W.zret (v := 0) hx hb hr rfl (fun t ht hW => ⟨⟨0, (), rfl, zx_holds_1 c_7, zx_fin hP9 hD9 hK ht hW⟩, hS.F ht⟩) hS.2.2 dX8_holds_23
  ·
    refine lv_iload_n hx hb dX8_holds_4 rfl (lv_at hl 1 rfl) ?_
    refine lv_bipush (v := 32) hx hb dX8_holds_5 (by decide) ?_
    refine lv_icmp_ge (tgt := 22) hx hb dX8_holds_7 (by decide) (fun c_8 => ?_) (fun c_8 => ?_)
    ·
      refine lv_iconst (v := 0) hx hb dX8_holds_22 (by decide) ?_
      have hP9 := hP.sub (ws' := []) [] rfl
      have hD9 := hD.sub (ws' := []) [] (by decide) rfl
      exact W.zret (v := 0) hx hb hr rfl (fun t ht hW => ⟨⟨0, (), rfl, zx_holds_2 c_7 c_8, zx_fin hP9 hD9 hK ht hW⟩, hS.F ht⟩) hS.2.2 dX8_holds_23
    ·
      refine lv_iload_n hx hb dX8_holds_10 rfl (lv_at hl 0 rfl) ?_
      refine lv_iload_n hx hb dX8_holds_11 rfl (lv_at hl 1 rfl) ?_
      refine lv_ishr hx hb dX8_holds_12 ?_
      refine lv_iconst (v := 1) hx hb dX8_holds_13 (by decide) ?_
      refine lv_iand hx hb dX8_holds_14 ?_
      refine lv_if_eq (tgt := 22) hx hb dX8_holds_15 (by decide) (fun c_9 => ?_) (fun c_9 => ?_)
      ·
        refine lv_iconst (v := 0) hx hb dX8_holds_22 (by decide) ?_
        have hP9 := hP.sub (ws' := []) [] rfl
        have hD9 := hD.sub (ws' := []) [] (by decide) rfl
        exact W.zret (v := 0) hx hb hr rfl (fun t ht hW => ⟨⟨0, (), rfl, zx_holds_3 c_7 c_8 c_9, zx_fin hP9 hD9 hK ht hW⟩, hS.F ht⟩) hS.2.2 dX8_holds_23
      ·
        refine lv_iconst (v := 1) hx hb dX8_holds_18 (by decide) ?_
        refine lv_goto (tgt := 23) hx hb dX8_holds_19 (by decide) ?_
        have hP9 := hP.sub (ws' := []) [] rfl
        have hD9 := hD.sub (ws' := []) [] (by decide) rfl
        exact W.zret (v := 1) hx hb hr rfl (fun t ht hW => ⟨⟨1, (), rfl, zx_holds_4 c_7 c_8 c_9, zx_fin hP9 hD9 hK ht hW⟩, hS.F ht⟩) hS.2.2 dX8_holds_23
set_option maxHeartbeats 4000000 in
set_option maxRecDepth 100000 in
theorem c_X15_has (l : Launch) (hst : l.stackTraces = false) (D : va_G) (cy : Nat → ClassId) (ed sz : Nat) (p0 : Int32) (p1 : Int32) : Met l yX15_has wzX15_has ({ frames := 0, cells := 0, slots := 0, locals := 0 }) (zx_Pc D cy ed sz [.int p0, .int p1] []) (va_Qi (fun (r9 : Int32) (u9 : Unit) => r9 = (zx_has p0 p1)) (fun (u9 : Unit) (t9 : State) => zx_At D cy (va_A [] sz) [] t9) (va_A [] sz)) 0 0 (va_A [] sz) := by
  refine Met.ofW (cc := cX15_has) (maxL := 2) (ret := (some .boolean)) (by decide) rfl ?_
  intro p e s m args below meth c s₁ B hml hv
  obtain ⟨rfl, hsz, hP, hK, hD0, hZ, hN⟩ := hv
  have hx := B.exec
  have hb := B.bytes
  have hr := B.returns
  have hts := atoms_spec (ws := wzX15_has) B.pre
  have hown : s.vm.findClass RX15 = some m.cls := findClass_of_methodNamed B.named
  have hlocks := B.notSynchronized
  subst hsz
  have hD := hD0.self (sz := s.heap.size)
  generalize hAe : va_A [] s.heap.size = A at hD hZ ⊢
  have hA : ∀ q : Nat, s.heap.size ≤ q → A q := fun q h => by rw [← hAe]; exact Or.inr h
  have hS : va_S A s.heap s.heap [] := va_S.rf
  have hP : va_P D vwCl [] s.heap := hP
  have hl := lv_entry ([.int p0, .int p1]) (n := 2) (Nat.le_of_ble_eq_true rfl)
  rw [lg_entry_eq]
  generalize (lg_sl ([.int p0, .int p1]) ++ List.replicate (2 - (lg_sl ([.int p0, .int p1])).length) Slot.unset).toArray = ls at hl ⊢
  have hl : lv_has ls 2 [(0, .int p0), (1, .int p1)] := hl
  refine lv_iload_n hx hb dX15_has_0 rfl (lv_at hl 0 rfl) ?_
  refine lv_iload_n hx hb dX15_has_1 rfl (lv_at hl 1 rfl) ?_
  refine lv_ishr hx hb dX15_has_2 ?_
  refine lv_iconst (v := 1) hx hb dX15_has_3 (by decide) ?_
  refine lv_iand hx hb dX15_has_4 ?_
  refine lv_iconst (v := 1) hx hb dX15_has_5 (by decide) ?_
  refine lv_icmp_ne (tgt := 13) hx hb dX15_has_6 (by decide) (fun c_10 => ?_) (fun c_10 => ?_)
  ·
    refine lv_iconst (v := 0) hx hb dX15_has_13 (by decide) ?_
    have hP9 := hP.sub (ws' := []) [] rfl
    have hD9 := hD.sub (ws' := []) [] (by decide) rfl
    exact W.zret (v := 0) hx hb hr rfl (fun t ht hW => ⟨⟨0, (), rfl, (if_neg c_10).symm, zx_fin hP9 hD9 hK ht hW⟩, hS.F ht⟩) hS.2.2 dX15_has_14
  ·
    refine lv_iconst (v := 1) hx hb dX15_has_9 (by decide) ?_
    refine lv_goto (tgt := 14) hx hb dX15_has_10 (by decide) ?_
    have hP9 := hP.sub (ws' := []) [] rfl
    have hD9 := hD.sub (ws' := []) [] (by decide) rfl
    exact W.zret (v := 1) hx hb hr rfl (fun t ht hW => ⟨⟨1, (), rfl, (if_pos c_10).symm, zx_fin hP9 hD9 hK ht hW⟩, hS.F ht⟩) hS.2.2 dX15_has_14
set_option maxHeartbeats 4000000 in
set_option maxRecDepth 100000 in
theorem c_AL_size (l : Launch) (hst : l.stackTraces = false) (D : va_G) (cy : Nat → ClassId) (ed sz : Nat) (pa : Nat) (el : Nat) (mc : Int32) (n : Int32) : Met l yJx4a65c_size_8abf5 wzJx4a65c_size_8abf5 ({ frames := 0, cells := 0, slots := 0, locals := 0 }) (zx_Pc D cy ed sz [.ref pa] [(pa, .inr (4, [.int mc, .ref el, .int n]))]) (va_Qi (fun (r9 : Int32) (u9 : Unit) => r9 = n) (fun (u9 : Unit) (t9 : State) => zx_At D cy (va_A [(pa, .inr (4, [.int mc, .ref el, .int n]))] sz) [(pa, .inr (4, [.int mc, .ref el, .int n]))] t9) (va_A [(pa, .inr (4, [.int mc, .ref el, .int n]))] sz)) 0 0 (va_A [(pa, .inr (4, [.int mc, .ref el, .int n]))] sz) := by
  refine Met.ofW (cc := cJx4a65c_size_8abf5) (maxL := 1) (ret := (some .int)) (by decide) rfl ?_
  intro p e s m args below meth c s₁ B hml hv
  obtain ⟨rfl, hsz, hP, hK, hD0, hZ, hN⟩ := hv
  have hx := B.exec
  have hb := B.bytes
  have hr := B.returns
  have hts := atoms_spec (ws := wzJx4a65c_size_8abf5) B.pre
  have hown : s.vm.findClass RJx4a65c = some m.cls := findClass_of_methodNamed B.named
  have hlocks := B.notSynchronized
  subst hsz
  have hD := hD0.self (sz := s.heap.size)
  generalize hAe : va_A [(pa, .inr (4, [.int mc, .ref el, .int n]))] s.heap.size = A at hD hZ ⊢
  have hA : ∀ q : Nat, s.heap.size ≤ q → A q := fun q h => by rw [← hAe]; exact Or.inr h
  have hS : va_S A s.heap s.heap [] := va_S.rf
  have hP : va_P D vwCl [(pa, .inr (4, [.int mc, .ref el, .int n]))] s.heap := hP
  have hl := lv_entry ([.ref pa]) (n := 1) (Nat.le_of_ble_eq_true rfl)
  rw [lg_entry_eq]
  generalize (lg_sl ([.ref pa]) ++ List.replicate (1 - (lg_sl ([.ref pa])).length) Slot.unset).toArray = ls at hl ⊢
  have hl : lv_has ls 1 [(0, .ref pa)] := hl
  refine lv_aload_n hx hb dJx4a65c_size_8abf5_0 rfl (lv_at hl 0 rfl) ?_
  refine va_get (D := D) (ci := 4) (v := .int n) (C := RJx4a65c) (T := TJx4a65c) (N := 3) hx hb hts (fun w h => zx_Gc (uz_Jx4a65c w h)) hown hK hP 0 rfl rfl 2 (by decide) (hts (.fieldLink RJx4a65c 48 "java/util/ArrayList" "size" "I") (zx_Gc mm_216)) (fun _ h9 => h9) rfl dJx4a65c_size_8abf5_1 ?_
  have hP9 := hP.sub (ws' := [(pa, .inr (4, [.int mc, .ref el, .int n]))]) [0] rfl
  have hD9 := hD.sub (ws' := [(pa, .inr (4, [.int mc, .ref el, .int n]))]) [0] (by decide) rfl
  exact W.iret (v := n) hx hb hr (fun t ht hW => ⟨⟨n, (), rfl, rfl, zx_fin hP9 hD9 hK ht hW⟩, hS.F ht⟩) hS.2.2 dJx4a65c_size_8abf5_4
set_option maxHeartbeats 4000000 in
set_option maxRecDepth 100000 in
theorem c_AL_isEmpty0 (l : Launch) (hst : l.stackTraces = false) (D : va_G) (cy : Nat → ClassId) (ed sz : Nat) (pa : Nat) (el : Nat) (mc : Int32) : Met l yJx4a65c_isEmpty_aae02 wzJx4a65c_isEmpty_aae02 ({ frames := 0, cells := 0, slots := 0, locals := 0 }) (zx_Pc D cy ed sz [.ref pa] [(pa, .inr (4, [.int mc, .ref el, .int 0]))]) (va_Qi (fun (r9 : Int32) (u9 : Unit) => r9 = 1) (fun (u9 : Unit) (t9 : State) => zx_At D cy (va_A [(pa, .inr (4, [.int mc, .ref el, .int 0]))] sz) [(pa, .inr (4, [.int mc, .ref el, .int 0]))] t9) (va_A [(pa, .inr (4, [.int mc, .ref el, .int 0]))] sz)) 0 0 (va_A [(pa, .inr (4, [.int mc, .ref el, .int 0]))] sz) := by
  refine Met.ofW (cc := cJx4a65c_isEmpty_aae02) (maxL := 1) (ret := (some .boolean)) (by decide) rfl ?_
  intro p e s m args below meth c s₁ B hml hv
  obtain ⟨rfl, hsz, hP, hK, hD0, hZ, hN⟩ := hv
  have hx := B.exec
  have hb := B.bytes
  have hr := B.returns
  have hts := atoms_spec (ws := wzJx4a65c_isEmpty_aae02) B.pre
  have hown : s.vm.findClass RJx4a65c = some m.cls := findClass_of_methodNamed B.named
  have hlocks := B.notSynchronized
  subst hsz
  have hD := hD0.self (sz := s.heap.size)
  generalize hAe : va_A [(pa, .inr (4, [.int mc, .ref el, .int 0]))] s.heap.size = A at hD hZ ⊢
  have hA : ∀ q : Nat, s.heap.size ≤ q → A q := fun q h => by rw [← hAe]; exact Or.inr h
  have hS : va_S A s.heap s.heap [] := va_S.rf
  have hP : va_P D vwCl [(pa, .inr (4, [.int mc, .ref el, .int 0]))] s.heap := hP
  have hl := lv_entry ([.ref pa]) (n := 1) (Nat.le_of_ble_eq_true rfl)
  rw [lg_entry_eq]
  generalize (lg_sl ([.ref pa]) ++ List.replicate (1 - (lg_sl ([.ref pa])).length) Slot.unset).toArray = ls at hl ⊢
  have hl : lv_has ls 1 [(0, .ref pa)] := hl
  refine lv_aload_n hx hb dJx4a65c_isEmpty_aae02_0 rfl (lv_at hl 0 rfl) ?_
  refine va_get (D := D) (ci := 4) (v := .int 0) (C := RJx4a65c) (T := TJx4a65c) (N := 3) hx hb hts (fun w h => zx_Gc (uz_Jx4a65c w h)) hown hK hP 0 rfl rfl 2 (by decide) (hts (.fieldLink RJx4a65c 48 "java/util/ArrayList" "size" "I") (zx_Gc mm_216)) (fun _ h9 => h9) rfl dJx4a65c_isEmpty_aae02_1 ?_
  refine lv_if_ne (tgt := 11) hx hb dJx4a65c_isEmpty_aae02_4 (by decide) (fun c_11 => absurd c_11 (by decide)) (fun _ => ?_)
  refine lv_iconst (v := 1) hx hb dJx4a65c_isEmpty_aae02_7 (by decide) ?_
  refine lv_goto (tgt := 12) hx hb dJx4a65c_isEmpty_aae02_8 (by decide) ?_
  have hP9 := hP.sub (ws' := [(pa, .inr (4, [.int mc, .ref el, .int 0]))]) [0] rfl
  have hD9 := hD.sub (ws' := [(pa, .inr (4, [.int mc, .ref el, .int 0]))]) [0] (by decide) rfl
  exact W.zret (v := 1) hx hb hr rfl (fun t ht hW => ⟨⟨1, (), rfl, rfl, zx_fin hP9 hD9 hK ht hW⟩, hS.F ht⟩) hS.2.2 dJx4a65c_isEmpty_aae02_12

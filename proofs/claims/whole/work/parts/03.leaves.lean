theorem dX8_isWithin_0 : decode cX8_isWithin 0 = .ok (.iload_n 0, 1) := by decide +kernel
theorem dX8_isWithin_1 : decode cX8_isWithin 1 = .ok (.iload_n 1, 1) := by decide +kernel
theorem dX8_isWithin_2 : decode cX8_isWithin 2 = .ok (.if_icmp .lt 12, 3) := by decide +kernel
theorem dX8_isWithin_14 : decode cX8_isWithin 14 = .ok (.iconst 0, 1) := by decide +kernel
theorem dX8_isWithin_15 : decode cX8_isWithin 15 = .ok (.ireturn, 1) := by decide +kernel
theorem dX8_isWithin_5 : decode cX8_isWithin 5 = .ok (.iload_n 0, 1) := by decide +kernel
theorem dX8_isWithin_6 : decode cX8_isWithin 6 = .ok (.iload_n 2, 1) := by decide +kernel
theorem dX8_isWithin_7 : decode cX8_isWithin 7 = .ok (.if_icmp .gt 7, 3) := by decide +kernel
theorem dX8_isWithin_10 : decode cX8_isWithin 10 = .ok (.iconst 1, 1) := by decide +kernel
theorem dX8_isWithin_11 : decode cX8_isWithin 11 = .ok (.goto 4, 3) := by decide +kernel
theorem dX15_in_0 : decode cX15_in 0 = .ok (.iload_n 0, 1) := by decide +kernel
theorem dX15_in_1 : decode cX15_in 1 = .ok (.iload_n 1, 1) := by decide +kernel
theorem dX15_in_2 : decode cX15_in 2 = .ok (.if_icmp .lt 12, 3) := by decide +kernel
theorem dX15_in_14 : decode cX15_in 14 = .ok (.iconst 0, 1) := by decide +kernel
theorem dX15_in_15 : decode cX15_in 15 = .ok (.ireturn, 1) := by decide +kernel
theorem dX15_in_5 : decode cX15_in 5 = .ok (.iload_n 0, 1) := by decide +kernel
theorem dX15_in_6 : decode cX15_in 6 = .ok (.iload_n 2, 1) := by decide +kernel
theorem dX15_in_7 : decode cX15_in 7 = .ok (.if_icmp .gt 7, 3) := by decide +kernel
theorem dX15_in_10 : decode cX15_in 10 = .ok (.iconst 1, 1) := by decide +kernel
theorem dX15_in_11 : decode cX15_in 11 = .ok (.goto 4, 3) := by decide +kernel
theorem dJx4a65c_size_8abf5_0 : decode cJx4a65c_size_8abf5 0 = .ok (.aload_n 0, 1) := by decide +kernel
theorem dJx4a65c_size_8abf5_1 : decode cJx4a65c_size_8abf5 1 = .ok (.getfield 48, 3) := by decide +kernel
theorem dJx4a65c_size_8abf5_4 : decode cJx4a65c_size_8abf5 4 = .ok (.ireturn, 1) := by decide +kernel
theorem dJx4a65c_isEmpty_aae02_0 : decode cJx4a65c_isEmpty_aae02 0 = .ok (.aload_n 0, 1) := by decide +kernel
theorem dJx4a65c_isEmpty_aae02_1 : decode cJx4a65c_isEmpty_aae02 1 = .ok (.getfield 48, 3) := by decide +kernel
theorem dJx4a65c_isEmpty_aae02_4 : decode cJx4a65c_isEmpty_aae02 4 = .ok (.ifCond .ne 7, 3) := by decide +kernel
theorem dJx4a65c_isEmpty_aae02_7 : decode cJx4a65c_isEmpty_aae02 7 = .ok (.iconst 1, 1) := by decide +kernel
theorem dJx4a65c_isEmpty_aae02_8 : decode cJx4a65c_isEmpty_aae02 8 = .ok (.goto 4, 3) := by decide +kernel
theorem dJx4a65c_isEmpty_aae02_12 : decode cJx4a65c_isEmpty_aae02 12 = .ok (.ireturn, 1) := by decide +kernel
theorem dX8_needPerson_0 : decode cX8_needPerson 0 = .ok (.iload_n 1, 1) := by decide +kernel
theorem dX8_needPerson_1 : decode cX8_needPerson 1 = .ok (.ifCond .lt 14, 3) := by decide +kernel
theorem dX8_needPerson_15 : decode cX8_needPerson 15 = .ok (.new 408, 3) := by decide +kernel
theorem dX8_needPerson_18 : decode cX8_needPerson 18 = .ok (.dup, 1) := by decide +kernel
theorem dX8_needPerson_19 : decode cX8_needPerson 19 = .ok (.invokespecial 410, 3) := by decide +kernel
theorem dX8_needPerson_22 : decode cX8_needPerson 22 = .ok (.athrow, 1) := by decide +kernel
theorem dX8_needPerson_4 : decode cX8_needPerson 4 = .ok (.iload_n 1, 1) := by decide +kernel
theorem dX8_needPerson_5 : decode cX8_needPerson 5 = .ok (.aload_n 0, 1) := by decide +kernel
theorem dX8_needPerson_6 : decode cX8_needPerson 6 = .ok (.getfield 10, 3) := by decide +kernel
theorem dX8_needPerson_9 : decode cX8_needPerson 9 = .ok (.getfield 46, 3) := by decide +kernel
theorem dX8_needPerson_12 : decode cX8_needPerson 12 = .ok (.if_icmp .lt 11, 3) := by decide +kernel
theorem dX8_needPaper_0 : decode cX8_needPaper 0 = .ok (.iload_n 1, 1) := by decide +kernel
theorem dX8_needPaper_1 : decode cX8_needPaper 1 = .ok (.ifCond .lt 14, 3) := by decide +kernel
theorem dX8_needPaper_15 : decode cX8_needPaper 15 = .ok (.new 408, 3) := by decide +kernel
theorem dX8_needPaper_18 : decode cX8_needPaper 18 = .ok (.dup, 1) := by decide +kernel
theorem dX8_needPaper_19 : decode cX8_needPaper 19 = .ok (.invokespecial 410, 3) := by decide +kernel
theorem dX8_needPaper_22 : decode cX8_needPaper 22 = .ok (.athrow, 1) := by decide +kernel
theorem dX8_needPaper_4 : decode cX8_needPaper 4 = .ok (.iload_n 1, 1) := by decide +kernel
theorem dX8_needPaper_5 : decode cX8_needPaper 5 = .ok (.aload_n 0, 1) := by decide +kernel
theorem dX8_needPaper_6 : decode cX8_needPaper 6 = .ok (.getfield 26, 3) := by decide +kernel
set_option maxRecDepth 20000 in
theorem ggX8_needPaper_Jx4a65c_size_8abf5 : GoodIn wsX8_needPaper wsJx4a65c_size_8abf5 := goodIn_r _ [8, 9, 15, 16, 17] (by decide +kernel) (by decide +kernel)
set_option maxRecDepth 20000 in
theorem gX8_needPaper_Jx4a65c_size_8abf5 : GoodIn wsX8_needPaper (wsV RX8 91 RJx4a65c yJx4a65c_size_8abf5 wsJx4a65c_size_8abf5) := goodIn_app (goodIn_of _ (by decide +kernel)) ggX8_needPaper_Jx4a65c_size_8abf5
theorem dX8_needPaper_9 : decode cX8_needPaper 9 = .ok (.invokevirtual 91, 3) := by decide +kernel
theorem dX8_needPaper_12 : decode cX8_needPaper 12 = .ok (.if_icmp .lt 11, 3) := by decide +kernel
theorem dX8_paperAt_0 : decode cX8_paperAt 0 = .ok (.aload_n 0, 1) := by decide +kernel
theorem dX8_paperAt_1 : decode cX8_paperAt 1 = .ok (.iload_n 1, 1) := by decide +kernel
set_option maxRecDepth 20000 in
theorem ggX8_paperAt_X8_needPaper : GoodIn wsX8_paperAt wsX8_needPaper := goodIn_ca (goodIn_r _ [7, 8, 9, 1, 10, 11, 12, 13, 14, 15, 33, 34, 35, 36, 37, 38, 39, 40] (by decide +kernel) (by decide +kernel)) (goodIn_sub (fun _ h => List.mem_cons_of_mem _ (List.mem_append_right _ h)) (by decide +kernel))
set_option maxRecDepth 20000 in
theorem gX8_paperAt_X8_needPaper : GoodIn wsX8_paperAt (wsV RX8 292 RX8 yX8_needPaper wsX8_needPaper) := goodIn_app (goodIn_of _ (by decide +kernel)) ggX8_paperAt_X8_needPaper
theorem dX8_paperAt_2 : decode cX8_paperAt 2 = .ok (.invokevirtual 292, 3) := by decide +kernel
theorem dX15_fails_0 : decode cX15_fails 0 = .ok (.aload_n 0, 1) := by decide +kernel
theorem dX15_fails_1 : decode cX15_fails 1 = .ok (.iload_n 1, 1) := by decide +kernel
theorem dX15_fails_2 : decode cX15_fails 2 = .ok (.putfield 36, 3) := by decide +kernel
theorem dX15_fails_5 : decode cX15_fails 5 = .ok (.iconst 0, 1) := by decide +kernel
theorem dX15_fails_6 : decode cX15_fails 6 = .ok (.ireturn, 1) := by decide +kernel
theorem dX15_tells_0 : decode cX15_tells 0 = .ok (.aload_n 0, 1) := by decide +kernel
theorem dX15_tells_1 : decode cX15_tells 1 = .ok (.iconst 0, 1) := by decide +kernel
theorem dX15_tells_2 : decode cX15_tells 2 = .ok (.putfield 36, 3) := by decide +kernel
theorem dX15_tells_5 : decode cX15_tells 5 = .ok (.iload_n 1, 1) := by decide +kernel
theorem dX15_tells_6 : decode cX15_tells 6 = .ok (.ireturn, 1) := by decide +kernel
theorem dX15_thrown_0 : decode cX15_thrown 0 = .ok (.aload_n 0, 1) := by decide +kernel
theorem dX15_thrown_1 : decode cX15_thrown 1 = .ok (.getfield 36, 3) := by decide +kernel
theorem dX15_thrown_4 : decode cX15_thrown 4 = .ok (.ireturn, 1) := by decide +kernel
theorem dX15_isField_0 : decode cX15_isField 0 = .ok (.iload_n 0, 1) := by decide +kernel
theorem dX15_isField_1 : decode cX15_isField 1 = .ok (.iconst 0, 1) := by decide +kernel
theorem dX15_isField_2 : decode cX15_isField 2 = .ok (.bipush 7, 2) := by decide +kernel
set_option maxRecDepth 20000 in
theorem ggX15_isField_X15_in : GoodIn wsX15_isField wsX15_in := goodIn_r _ [4] (by decide +kernel) (by decide +kernel)
set_option maxRecDepth 20000 in
theorem gX15_isField_X15_in : GoodIn wsX15_isField (va_wsS RX15 48 yX15_in wsX15_in) := goodIn_app (goodIn_of _ (by decide +kernel)) ggX15_isField_X15_in
theorem dX15_isField_4 : decode cX15_isField 4 = .ok (.invokestatic 48, 3) := by decide +kernel
theorem dX15_isField_7 : decode cX15_isField 7 = .ok (.ireturn, 1) := by decide +kernel
theorem dX15_isPerson_0 : decode cX15_isPerson 0 = .ok (.iload_n 1, 1) := by decide +kernel
theorem dX15_isPerson_1 : decode cX15_isPerson 1 = .ok (.iconst 0, 1) := by decide +kernel
theorem dX15_isPerson_2 : decode cX15_isPerson 2 = .ok (.aload_n 0, 1) := by decide +kernel
theorem dX15_isPerson_3 : decode cX15_isPerson 3 = .ok (.getfield 10, 3) := by decide +kernel
set_option maxRecDepth 20000 in
theorem ggX15_isPerson_Jx4a65c_size_8abf5 : GoodIn wsX15_isPerson wsJx4a65c_size_8abf5 := goodIn_r _ [6, 7, 21, 22, 23] (by decide +kernel) (by decide +kernel)
set_option maxRecDepth 20000 in
theorem gX15_isPerson_Jx4a65c_size_8abf5 : GoodIn wsX15_isPerson (wsV RX15 44 RJx4a65c yJx4a65c_size_8abf5 wsJx4a65c_size_8abf5) := goodIn_app (goodIn_of _ (by decide +kernel)) ggX15_isPerson_Jx4a65c_size_8abf5
theorem dX15_isPerson_6 : decode cX15_isPerson 6 = .ok (.invokevirtual 44, 3) := by decide +kernel
theorem dX15_isPerson_9 : decode cX15_isPerson 9 = .ok (.iconst 1, 1) := by decide +kernel
theorem dX15_isPerson_10 : decode cX15_isPerson 10 = .ok (.isub, 1) := by decide +kernel
set_option maxRecDepth 20000 in
theorem ggX15_isPerson_X15_in : GoodIn wsX15_isPerson wsX15_in := goodIn_r _ [11] (by decide +kernel) (by decide +kernel)
set_option maxRecDepth 20000 in
theorem gX15_isPerson_X15_in : GoodIn wsX15_isPerson (va_wsS RX15 48 yX15_in wsX15_in) := goodIn_app (goodIn_of _ (by decide +kernel)) ggX15_isPerson_X15_in
theorem dX15_isPerson_11 : decode cX15_isPerson 11 = .ok (.invokestatic 48, 3) := by decide +kernel
theorem dX15_isPerson_14 : decode cX15_isPerson 14 = .ok (.ireturn, 1) := by decide +kernel
theorem dX15_isPaper_0 : decode cX15_isPaper 0 = .ok (.iload_n 1, 1) := by decide +kernel
theorem dX15_isPaper_1 : decode cX15_isPaper 1 = .ok (.iconst 0, 1) := by decide +kernel
theorem dX15_isPaper_2 : decode cX15_isPaper 2 = .ok (.aload_n 0, 1) := by decide +kernel
theorem dX15_isPaper_3 : decode cX15_isPaper 3 = .ok (.getfield 33, 3) := by decide +kernel
set_option maxRecDepth 20000 in
theorem ggX15_isPaper_Jx4a65c_size_8abf5 : GoodIn wsX15_isPaper wsJx4a65c_size_8abf5 := goodIn_r _ [6, 7, 21, 22, 23] (by decide +kernel) (by decide +kernel)
set_option maxRecDepth 20000 in
theorem gX15_isPaper_Jx4a65c_size_8abf5 : GoodIn wsX15_isPaper (wsV RX15 44 RJx4a65c yJx4a65c_size_8abf5 wsJx4a65c_size_8abf5) := goodIn_app (goodIn_of _ (by decide +kernel)) ggX15_isPaper_Jx4a65c_size_8abf5
theorem dX15_isPaper_6 : decode cX15_isPaper 6 = .ok (.invokevirtual 44, 3) := by decide +kernel
theorem dX15_isPaper_9 : decode cX15_isPaper 9 = .ok (.iconst 1, 1) := by decide +kernel
theorem dX15_isPaper_10 : decode cX15_isPaper 10 = .ok (.isub, 1) := by decide +kernel
set_option maxRecDepth 20000 in
theorem ggX15_isPaper_X15_in : GoodIn wsX15_isPaper wsX15_in := goodIn_r _ [11] (by decide +kernel) (by decide +kernel)
set_option maxRecDepth 20000 in
theorem gX15_isPaper_X15_in : GoodIn wsX15_isPaper (va_wsS RX15 48 yX15_in wsX15_in) := goodIn_app (goodIn_of _ (by decide +kernel)) ggX15_isPaper_X15_in
theorem dX15_isPaper_11 : decode cX15_isPaper 11 = .ok (.invokestatic 48, 3) := by decide +kernel
theorem dX15_isPaper_14 : decode cX15_isPaper 14 = .ok (.ireturn, 1) := by decide +kernel
theorem dX15_areBoth_0 : decode cX15_areBoth 0 = .ok (.aload_n 0, 1) := by decide +kernel
theorem dX15_areBoth_1 : decode cX15_areBoth 1 = .ok (.iload_n 1, 1) := by decide +kernel
set_option maxRecDepth 20000 in
theorem ggX15_areBoth_X15_isPaper : GoodIn wsX15_areBoth wsX15_isPaper := goodIn_r _ [5, 6, 7, 8, 9, 10, 11, 12, 13, 14, 4, 15, 21, 22, 23, 24, 25, 26, 27, 28, 29, 30, 31, 32] (by decide +kernel) (by decide +kernel)
set_option maxRecDepth 20000 in
theorem gX15_areBoth_X15_isPaper : GoodIn wsX15_areBoth (wsV RX15 144 RX15 yX15_isPaper wsX15_isPaper) := goodIn_app (goodIn_of _ (by decide +kernel)) ggX15_areBoth_X15_isPaper
theorem dX15_areBoth_2 : decode cX15_areBoth 2 = .ok (.invokevirtual 144, 3) := by decide +kernel
theorem dX15_areBoth_5 : decode cX15_areBoth 5 = .ok (.ifCond .eq 15, 3) := by decide +kernel
theorem dX15_areBoth_20 : decode cX15_areBoth 20 = .ok (.iconst 0, 1) := by decide +kernel
theorem dX15_areBoth_21 : decode cX15_areBoth 21 = .ok (.ireturn, 1) := by decide +kernel
set_option maxHeartbeats 4000000 in
set_option maxRecDepth 100000 in
theorem c_X8_isWithin (l : Launch) (hst : l.stackTraces = false) (D : va_G) (cy : Nat → ClassId) (ed sz : Nat) (p0 : Int32) (p1 : Int32) (p2 : Int32) : Met l yX8_isWithin wsX8_isWithin ({ frames := 0, cells := 0, slots := 0, locals := 0 }) (zx_Pc D cy ed sz [.int p0, .int p1, .int p2] []) (va_Qi (fun (r9 : Int32) (u9 : Unit) => r9 = (zx_in p0 p1 p2)) (fun (u9 : Unit) (t9 : State) => zx_At D cy (va_A [] sz) [] t9) (va_A [] sz)) 0 0 (va_A [] sz) := by
  refine Met.ofW (cc := cX8_isWithin) (maxL := 3) (ret := (some .boolean)) (by decide) rfl ?_
  intro p e s m args below meth c s₁ B hml hv
  obtain ⟨rfl, hsz, hP, hK, hD0, hZ⟩ := hv
  have hx := B.exec
  have hb := B.bytes
  have hr := B.returns
  have hts := atoms_spec (ws := wsX8_isWithin) B.pre
  have hown : s.vm.findClass RX8 = some m.cls := findClass_of_methodNamed B.named
  have hlocks := B.notSynchronized
  subst hsz
  have hD := hD0.self (sz := s.heap.size)
  generalize hAe : va_A [] s.heap.size = A at hD hZ ⊢
  have hA : ∀ q : Nat, s.heap.size ≤ q → A q := fun q h => by rw [← hAe]; exact Or.inr h
  have hS : va_S A s.heap s.heap [] := va_S.rf
  have hP : va_P D vwCl [] s.heap := hP
  have hl := lv_entry ([.int p0, .int p1, .int p2]) (n := 3) (Nat.le_of_ble_eq_true rfl)
  rw [lg_entry_eq]
  generalize (lg_sl ([.int p0, .int p1, .int p2]) ++ List.replicate (3 - (lg_sl ([.int p0, .int p1, .int p2])).length) Slot.unset).toArray = ls at hl ⊢
  have hl : lv_has ls 3 [(0, .int p0), (1, .int p1), (2, .int p2)] := hl
  refine lv_iload_n hx hb dX8_isWithin_0 rfl (lv_at hl 0 rfl) ?_
  refine lv_iload_n hx hb dX8_isWithin_1 rfl (lv_at hl 1 rfl) ?_
  refine lv_icmp_lt (tgt := 14) hx hb dX8_isWithin_2 (by decide) (fun c_1 => ?_) (fun c_1 => ?_)
  ·
    refine lv_iconst (v := 0) hx hb dX8_isWithin_14 (by decide) ?_
    have hP9 := hP.sub (ws' := []) [] rfl
    have hD9 := hD.sub (ws' := []) [] (by decide) rfl
    exact W.zret (v := 0) hx hb hr rfl (fun t ht hW => ⟨⟨0, (), rfl, zx_in_lt c_1, zx_fin hP9 hD9 hK ht hW⟩, hS.F ht⟩) hS.2.2 dX8_isWithin_15
  ·
    refine lv_iload_n hx hb dX8_isWithin_5 rfl (lv_at hl 0 rfl) ?_
    refine lv_iload_n hx hb dX8_isWithin_6 rfl (lv_at hl 2 rfl) ?_
    refine lv_icmp_gt (tgt := 14) hx hb dX8_isWithin_7 (by decide) (fun c_2 => ?_) (fun c_2 => ?_)
    ·
      refine lv_iconst (v := 0) hx hb dX8_isWithin_14 (by decide) ?_
      have hP9 := hP.sub (ws' := []) [] rfl
      have hD9 := hD.sub (ws' := []) [] (by decide) rfl
      exact W.zret (v := 0) hx hb hr rfl (fun t ht hW => ⟨⟨0, (), rfl, zx_in_gt' c_2, zx_fin hP9 hD9 hK ht hW⟩, hS.F ht⟩) hS.2.2 dX8_isWithin_15
    ·
      refine lv_iconst (v := 1) hx hb dX8_isWithin_10 (by decide) ?_
      refine lv_goto (tgt := 15) hx hb dX8_isWithin_11 (by decide) ?_
      have hP9 := hP.sub (ws' := []) [] rfl
      have hD9 := hD.sub (ws' := []) [] (by decide) rfl
      exact W.zret (v := 1) hx hb hr rfl (fun t ht hW => ⟨⟨1, (), rfl, zx_in_yes c_1 c_2, zx_fin hP9 hD9 hK ht hW⟩, hS.F ht⟩) hS.2.2 dX8_isWithin_15
set_option maxHeartbeats 4000000 in
set_option maxRecDepth 100000 in
theorem c_X15_in (l : Launch) (hst : l.stackTraces = false) (D : va_G) (cy : Nat → ClassId) (ed sz : Nat) (p0 : Int32) (p1 : Int32) (p2 : Int32) : Met l yX15_in wsX15_in ({ frames := 0, cells := 0, slots := 0, locals := 0 }) (zx_Pc D cy ed sz [.int p0, .int p1, .int p2] []) (va_Qi (fun (r9 : Int32) (u9 : Unit) => r9 = (zx_in p0 p1 p2)) (fun (u9 : Unit) (t9 : State) => zx_At D cy (va_A [] sz) [] t9) (va_A [] sz)) 0 0 (va_A [] sz) := by
  refine Met.ofW (cc := cX15_in) (maxL := 3) (ret := (some .boolean)) (by decide) rfl ?_
  intro p e s m args below meth c s₁ B hml hv
  obtain ⟨rfl, hsz, hP, hK, hD0, hZ⟩ := hv
  have hx := B.exec
  have hb := B.bytes
  have hr := B.returns
  have hts := atoms_spec (ws := wsX15_in) B.pre
  have hown : s.vm.findClass RX15 = some m.cls := findClass_of_methodNamed B.named
  have hlocks := B.notSynchronized
  subst hsz
  have hD := hD0.self (sz := s.heap.size)
  generalize hAe : va_A [] s.heap.size = A at hD hZ ⊢
  have hA : ∀ q : Nat, s.heap.size ≤ q → A q := fun q h => by rw [← hAe]; exact Or.inr h
  have hS : va_S A s.heap s.heap [] := va_S.rf
  have hP : va_P D vwCl [] s.heap := hP
  have hl := lv_entry ([.int p0, .int p1, .int p2]) (n := 3) (Nat.le_of_ble_eq_true rfl)
  rw [lg_entry_eq]
  generalize (lg_sl ([.int p0, .int p1, .int p2]) ++ List.replicate (3 - (lg_sl ([.int p0, .int p1, .int p2])).length) Slot.unset).toArray = ls at hl ⊢
  have hl : lv_has ls 3 [(0, .int p0), (1, .int p1), (2, .int p2)] := hl
  refine lv_iload_n hx hb dX15_in_0 rfl (lv_at hl 0 rfl) ?_
  refine lv_iload_n hx hb dX15_in_1 rfl (lv_at hl 1 rfl) ?_
  refine lv_icmp_lt (tgt := 14) hx hb dX15_in_2 (by decide) (fun c_3 => ?_) (fun c_3 => ?_)
  ·
    refine lv_iconst (v := 0) hx hb dX15_in_14 (by decide) ?_
    have hP9 := hP.sub (ws' := []) [] rfl
    have hD9 := hD.sub (ws' := []) [] (by decide) rfl
    exact W.zret (v := 0) hx hb hr rfl (fun t ht hW => ⟨⟨0, (), rfl, zx_in_lt c_3, zx_fin hP9 hD9 hK ht hW⟩, hS.F ht⟩) hS.2.2 dX15_in_15
  ·
    refine lv_iload_n hx hb dX15_in_5 rfl (lv_at hl 0 rfl) ?_
    refine lv_iload_n hx hb dX15_in_6 rfl (lv_at hl 2 rfl) ?_
    refine lv_icmp_gt (tgt := 14) hx hb dX15_in_7 (by decide) (fun c_4 => ?_) (fun c_4 => ?_)
    ·
      refine lv_iconst (v := 0) hx hb dX15_in_14 (by decide) ?_
      have hP9 := hP.sub (ws' := []) [] rfl
      have hD9 := hD.sub (ws' := []) [] (by decide) rfl
      exact W.zret (v := 0) hx hb hr rfl (fun t ht hW => ⟨⟨0, (), rfl, zx_in_gt' c_4, zx_fin hP9 hD9 hK ht hW⟩, hS.F ht⟩) hS.2.2 dX15_in_15
    ·
      refine lv_iconst (v := 1) hx hb dX15_in_10 (by decide) ?_
      refine lv_goto (tgt := 15) hx hb dX15_in_11 (by decide) ?_
      have hP9 := hP.sub (ws' := []) [] rfl
      have hD9 := hD.sub (ws' := []) [] (by decide) rfl
      exact W.zret (v := 1) hx hb hr rfl (fun t ht hW => ⟨⟨1, (), rfl, zx_in_yes c_3 c_4, zx_fin hP9 hD9 hK ht hW⟩, hS.F ht⟩) hS.2.2 dX15_in_15
set_option maxHeartbeats 4000000 in
set_option maxRecDepth 100000 in
theorem c_AL_size (l : Launch) (hst : l.stackTraces = false) (D : va_G) (cy : Nat → ClassId) (ed sz : Nat) (pa : Nat) (el : Nat) (mc : Int32) (n : Int32) : Met l yJx4a65c_size_8abf5 wsJx4a65c_size_8abf5 ({ frames := 0, cells := 0, slots := 0, locals := 0 }) (zx_Pc D cy ed sz [.ref pa] [(pa, .inr (4, [.int mc, .ref el, .int n]))]) (va_Qi (fun (r9 : Int32) (u9 : Unit) => r9 = n) (fun (u9 : Unit) (t9 : State) => zx_At D cy (va_A [(pa, .inr (4, [.int mc, .ref el, .int n]))] sz) [(pa, .inr (4, [.int mc, .ref el, .int n]))] t9) (va_A [(pa, .inr (4, [.int mc, .ref el, .int n]))] sz)) 0 0 (va_A [(pa, .inr (4, [.int mc, .ref el, .int n]))] sz) := by
  refine Met.ofW (cc := cJx4a65c_size_8abf5) (maxL := 1) (ret := (some .int)) (by decide) rfl ?_
  intro p e s m args below meth c s₁ B hml hv
  obtain ⟨rfl, hsz, hP, hK, hD0, hZ⟩ := hv
  have hx := B.exec
  have hb := B.bytes
  have hr := B.returns
  have hts := atoms_spec (ws := wsJx4a65c_size_8abf5) B.pre
  have hown : s.vm.findClass RJx4a65c = some m.cls := findClass_of_methodNamed B.named
  have hlocks := B.notSynchronized
  subst hsz
  have hD := hD0.self (sz := s.heap.size)
  generalize hAe : va_A [(pa, .inr (4, [.int mc, .ref el, .int n]))] s.heap.size = A at hD hZ ⊢
  have hA : ∀ q : Nat, s.heap.size ≤ q → A q := fun q h => by rw [← hAe]; exact Or.inr h
  have hS : va_S A s.heap s.heap [] := va_S.rf
  have hP : va_P D vwCl [(pa, .inr (4, [.int mc, .ref el, .int n]))] s.heap := hP
  have hl := lv_entry ([.ref pa]) (n := 1) (Nat.le_of_ble_eq_true rfl)
  rw [lg_entry_eq]
  generalize (lg_sl ([.ref pa]) ++ List.replicate (1 - (lg_sl ([.ref pa])).length) Slot.unset).toArray = ls at hl ⊢
  have hl : lv_has ls 1 [(0, .ref pa)] := hl
  refine lv_aload_n hx hb dJx4a65c_size_8abf5_0 rfl (lv_at hl 0 rfl) ?_
  refine va_get (D := D) (ci := 4) (v := .int n) (C := RJx4a65c) (T := TJx4a65c) (N := 3) hx hb hts (by decide +kernel) hown hK hP 0 rfl rfl 2 (by decide) (hts (.fieldLink RJx4a65c 48 "java/util/ArrayList" "size" "I") (by decide +kernel)) (fun _ h9 => h9) rfl dJx4a65c_size_8abf5_1 ?_
  have hP9 := hP.sub (ws' := [(pa, .inr (4, [.int mc, .ref el, .int n]))]) [0] rfl
  have hD9 := hD.sub (ws' := [(pa, .inr (4, [.int mc, .ref el, .int n]))]) [0] (by decide) rfl
  exact W.iret (v := n) hx hb hr (fun t ht hW => ⟨⟨n, (), rfl, rfl, zx_fin hP9 hD9 hK ht hW⟩, hS.F ht⟩) hS.2.2 dJx4a65c_size_8abf5_4
set_option maxHeartbeats 4000000 in
set_option maxRecDepth 100000 in
theorem c_AL_isEmpty0 (l : Launch) (hst : l.stackTraces = false) (D : va_G) (cy : Nat → ClassId) (ed sz : Nat) (pa : Nat) (el : Nat) (mc : Int32) : Met l yJx4a65c_isEmpty_aae02 wsJx4a65c_isEmpty_aae02 ({ frames := 0, cells := 0, slots := 0, locals := 0 }) (zx_Pc D cy ed sz [.ref pa] [(pa, .inr (4, [.int mc, .ref el, .int 0]))]) (va_Qi (fun (r9 : Int32) (u9 : Unit) => r9 = 1) (fun (u9 : Unit) (t9 : State) => zx_At D cy (va_A [(pa, .inr (4, [.int mc, .ref el, .int 0]))] sz) [(pa, .inr (4, [.int mc, .ref el, .int 0]))] t9) (va_A [(pa, .inr (4, [.int mc, .ref el, .int 0]))] sz)) 0 0 (va_A [(pa, .inr (4, [.int mc, .ref el, .int 0]))] sz) := by
  refine Met.ofW (cc := cJx4a65c_isEmpty_aae02) (maxL := 1) (ret := (some .boolean)) (by decide) rfl ?_
  intro p e s m args below meth c s₁ B hml hv
  obtain ⟨rfl, hsz, hP, hK, hD0, hZ⟩ := hv
  have hx := B.exec
  have hb := B.bytes
  have hr := B.returns
  have hts := atoms_spec (ws := wsJx4a65c_isEmpty_aae02) B.pre
  have hown : s.vm.findClass RJx4a65c = some m.cls := findClass_of_methodNamed B.named
  have hlocks := B.notSynchronized
  subst hsz
  have hD := hD0.self (sz := s.heap.size)
  generalize hAe : va_A [(pa, .inr (4, [.int mc, .ref el, .int 0]))] s.heap.size = A at hD hZ ⊢
  have hA : ∀ q : Nat, s.heap.size ≤ q → A q := fun q h => by rw [← hAe]; exact Or.inr h
  have hS : va_S A s.heap s.heap [] := va_S.rf
  have hP : va_P D vwCl [(pa, .inr (4, [.int mc, .ref el, .int 0]))] s.heap := hP
  have hl := lv_entry ([.ref pa]) (n := 1) (Nat.le_of_ble_eq_true rfl)
  rw [lg_entry_eq]
  generalize (lg_sl ([.ref pa]) ++ List.replicate (1 - (lg_sl ([.ref pa])).length) Slot.unset).toArray = ls at hl ⊢
  have hl : lv_has ls 1 [(0, .ref pa)] := hl
  refine lv_aload_n hx hb dJx4a65c_isEmpty_aae02_0 rfl (lv_at hl 0 rfl) ?_
  refine va_get (D := D) (ci := 4) (v := .int 0) (C := RJx4a65c) (T := TJx4a65c) (N := 3) hx hb hts (by decide +kernel) hown hK hP 0 rfl rfl 2 (by decide) (hts (.fieldLink RJx4a65c 48 "java/util/ArrayList" "size" "I") (by decide +kernel)) (fun _ h9 => h9) rfl dJx4a65c_isEmpty_aae02_1 ?_
  refine lv_if_ne (tgt := 11) hx hb dJx4a65c_isEmpty_aae02_4 (by decide) (fun c_5 => absurd c_5 (by decide)) (fun _ => ?_)
  refine lv_iconst (v := 1) hx hb dJx4a65c_isEmpty_aae02_7 (by decide) ?_
  refine lv_goto (tgt := 12) hx hb dJx4a65c_isEmpty_aae02_8 (by decide) ?_
  have hP9 := hP.sub (ws' := [(pa, .inr (4, [.int mc, .ref el, .int 0]))]) [0] rfl
  have hD9 := hD.sub (ws' := [(pa, .inr (4, [.int mc, .ref el, .int 0]))]) [0] (by decide) rfl
  exact W.zret (v := 1) hx hb hr rfl (fun t ht hW => ⟨⟨1, (), rfl, rfl, zx_fin hP9 hD9 hK ht hW⟩, hS.F ht⟩) hS.2.2 dJx4a65c_isEmpty_aae02_12
set_option maxHeartbeats 4000000 in
set_option maxRecDepth 100000 in
theorem c_X8_needPerson (l : Launch) (hst : l.stackTraces = false) (D : va_G) (cy : Nat → ClassId) (ed sz : Nat) (h : Nat) (pe : Nat) (ne : Nat) (pa : Nat) (ro : Nat) (dy : Int32) (a1 : Nat) (a2 : Nat) (a3 : Nat) (a4 : Nat) (a5 : Nat) (a6 : Nat) (a7 : Nat) (a8 : Nat) (a9 : Nat) (p0 : Int32) : vx_Met l yX8_needPerson wsX8_needPerson ({ frames := 6, cells := 1, slots := 6, locals := 81 }) (zx_Pc D cy ed sz [.ref h, .int p0] [(h, .inr (13, [.ref pe, .ref ne, .ref pa, .ref ro, .int dy])), (pe, .inr (9, [.int 0, .ref a1, .ref a2, .ref a3, .ref a4, .ref a5, .ref a6, .ref a7, .ref a8, .ref a9]))]) (va_Qv (fun (_ : Unit) => False) (fun (u9 : Unit) (t9 : State) => zx_At D cy (va_A [(h, .inr (13, [.ref pe, .ref ne, .ref pa, .ref ro, .int dy])), (pe, .inr (9, [.int 0, .ref a1, .ref a2, .ref a3, .ref a4, .ref a5, .ref a6, .ref a7, .ref a8, .ref a9]))] sz) [] t9) (va_A [(h, .inr (13, [.ref pe, .ref ne, .ref pa, .ref ro, .int dy])), (pe, .inr (9, [.int 0, .ref a1, .ref a2, .ref a3, .ref a4, .ref a5, .ref a6, .ref a7, .ref a8, .ref a9]))] sz)) (zx_X (fun E9 => E9 = "java/lang/IndexOutOfBoundsException") (va_A [(h, .inr (13, [.ref pe, .ref ne, .ref pa, .ref ro, .int dy])), (pe, .inr (9, [.int 0, .ref a1, .ref a2, .ref a3, .ref a4, .ref a5, .ref a6, .ref a7, .ref a8, .ref a9]))] sz)) 1 6 (va_A [(h, .inr (13, [.ref pe, .ref ne, .ref pa, .ref ro, .int dy])), (pe, .inr (9, [.int 0, .ref a1, .ref a2, .ref a3, .ref a4, .ref a5, .ref a6, .ref a7, .ref a8, .ref a9]))] sz) := by
  refine vx_ofW (cc := cX8_needPerson) (maxL := 2) (ret := none) (by decide) rfl ?_
  intro p e s m args below meth c s₁ B hml htb hv
  obtain ⟨rfl, hsz, hP, hK, hD0, hZ⟩ := hv
  have hx := B.exec
  have hb := B.bytes
  have hr := B.returns
  have hts := atoms_spec (ws := wsX8_needPerson) B.pre
  have hown : s.vm.findClass RX8 = some m.cls := findClass_of_methodNamed B.named
  have hlocks := B.notSynchronized
  subst hsz
  have hD := hD0.self (sz := s.heap.size)
  generalize hAe : va_A [(h, .inr (13, [.ref pe, .ref ne, .ref pa, .ref ro, .int dy])), (pe, .inr (9, [.int 0, .ref a1, .ref a2, .ref a3, .ref a4, .ref a5, .ref a6, .ref a7, .ref a8, .ref a9]))] s.heap.size = A at hD hZ ⊢
  have hA : ∀ q : Nat, s.heap.size ≤ q → A q := fun q h => by rw [← hAe]; exact Or.inr h
  have hS : va_S A s.heap s.heap [] := va_S.rf
  have hP : va_P D vwCl [(h, .inr (13, [.ref pe, .ref ne, .ref pa, .ref ro, .int dy])), (pe, .inr (9, [.int 0, .ref a1, .ref a2, .ref a3, .ref a4, .ref a5, .ref a6, .ref a7, .ref a8, .ref a9]))] s.heap := hP
  have hl := lv_entry ([.ref h, .int p0]) (n := 2) (Nat.le_of_ble_eq_true rfl)
  rw [lg_entry_eq]
  generalize (lg_sl ([.ref h, .int p0]) ++ List.replicate (2 - (lg_sl ([.ref h, .int p0])).length) Slot.unset).toArray = ls at hl ⊢
  have hl : lv_has ls 2 [(0, .ref h), (1, .int p0)] := hl
  refine lv_iload_n hx hb dX8_needPerson_0 rfl (lv_at hl 1 rfl) ?_
  refine lv_if_lt (tgt := 15) hx hb dX8_needPerson_1 (by decide) (fun c_6 => ?_) (fun c_6 => ?_)
  ·
    have hat9 : ∀ w ∈ (vx_at0 RX8 410 "java/lang/IndexOutOfBoundsException" ["java/lang/RuntimeException", "java/lang/Exception"]).filter goodWord, w ∈ wsX8_needPerson := by decide +kernel
    exact vx_throw0 (names := ["java/lang/RuntimeException", "java/lang/Exception"]) hx hb hst hown (by decide +kernel) (by decide +kernel) (hts (.classLink RX8 408 "java/lang/IndexOutOfBoundsException") (by decide +kernel)) (hts (.initialized "java/lang/IndexOutOfBoundsException") (by decide +kernel)) (vx_hat (B := []) (fun w9 h9 => hts w9 (hat9 w9 h9)) (by decide +kernel) vx_n) (by decide +kernel) hZ.1 hZ.2.1 hS (hl.1.trans hml.symm) dX8_needPerson_15 dX8_needPerson_18 dX8_needPerson_19 dX8_needPerson_22 (fun x9 h9 => absurd h9 (htb x9)) (Nat.le_of_ble_eq_true rfl) (Nat.le_of_ble_eq_true rfl) (Nat.le_of_ble_eq_true rfl) (Nat.le_of_ble_eq_true rfl) hlocks (zx_thr hS rfl) hS.2.2 (Nat.le_of_ble_eq_true rfl) (Nat.le_of_ble_eq_true rfl)
  ·
    refine lv_iload_n hx hb dX8_needPerson_4 rfl (lv_at hl 1 rfl) ?_
    refine lv_aload_n hx hb dX8_needPerson_5 rfl (lv_at hl 0 rfl) ?_
    refine va_get (D := D) (ci := 13) (v := .ref pe) (C := RX8) (T := TX8) (N := 5) hx hb hts (by decide +kernel) hown hK hP 0 rfl rfl 0 (by decide) (hts (.fieldLink RX8 10 "Refereehall" "people" "LRefereehall$People;") (by decide +kernel)) (fun _ h9 => h9) rfl dX8_needPerson_6 ?_
    refine va_get (D := D) (ci := 9) (v := .int 0) (C := RX4) (T := TX4) (N := 10) hx hb hts (by decide +kernel) hown hK hP 1 rfl rfl 0 (by decide) (hts (.fieldLink RX8 46 "Refereehall$People" "count" "I") (by decide +kernel)) (fun _ h9 => h9) rfl dX8_needPerson_9 ?_
    refine lv_icmp_lt (tgt := 23) hx hb dX8_needPerson_12 (by decide) (fun c_7 => ?_) (fun c_7 => ?_)
    ·
      exact absurd c_7 c_6
    ·
      have hat9 : ∀ w ∈ (vx_at0 RX8 410 "java/lang/IndexOutOfBoundsException" ["java/lang/RuntimeException", "java/lang/Exception"]).filter goodWord, w ∈ wsX8_needPerson := by decide +kernel
      exact vx_throw0 (names := ["java/lang/RuntimeException", "java/lang/Exception"]) hx hb hst hown (by decide +kernel) (by decide +kernel) (hts (.classLink RX8 408 "java/lang/IndexOutOfBoundsException") (by decide +kernel)) (hts (.initialized "java/lang/IndexOutOfBoundsException") (by decide +kernel)) (vx_hat (B := []) (fun w9 h9 => hts w9 (hat9 w9 h9)) (by decide +kernel) vx_n) (by decide +kernel) hZ.1 hZ.2.1 hS (hl.1.trans hml.symm) dX8_needPerson_15 dX8_needPerson_18 dX8_needPerson_19 dX8_needPerson_22 (fun x9 h9 => absurd h9 (htb x9)) (Nat.le_of_ble_eq_true rfl) (Nat.le_of_ble_eq_true rfl) (Nat.le_of_ble_eq_true rfl) (Nat.le_of_ble_eq_true rfl) hlocks (zx_thr hS rfl) hS.2.2 (Nat.le_of_ble_eq_true rfl) (Nat.le_of_ble_eq_true rfl)
set_option maxHeartbeats 4000000 in
set_option maxRecDepth 100000 in
theorem c_X8_needPaper (l : Launch) (hst : l.stackTraces = false) (D : va_G) (cy : Nat → ClassId) (ed sz : Nat) (h : Nat) (pe : Nat) (ne : Nat) (pa : Nat) (ro : Nat) (dy : Int32) (mc : Int32) (el : Nat) (p0 : Int32) : vx_Met l yX8_needPaper wsX8_needPaper ({ frames := 6, cells := 1, slots := 6, locals := 81 }) (zx_Pc D cy ed sz [.ref h, .int p0] [(h, .inr (13, [.ref pe, .ref ne, .ref pa, .ref ro, .int dy])), (pa, .inr (4, [.int mc, .ref el, .int 0]))]) (va_Qv (fun (_ : Unit) => False) (fun (u9 : Unit) (t9 : State) => zx_At D cy (va_A [(h, .inr (13, [.ref pe, .ref ne, .ref pa, .ref ro, .int dy])), (pa, .inr (4, [.int mc, .ref el, .int 0]))] sz) [] t9) (va_A [(h, .inr (13, [.ref pe, .ref ne, .ref pa, .ref ro, .int dy])), (pa, .inr (4, [.int mc, .ref el, .int 0]))] sz)) (zx_X (fun E9 => E9 = "java/lang/IndexOutOfBoundsException") (va_A [(h, .inr (13, [.ref pe, .ref ne, .ref pa, .ref ro, .int dy])), (pa, .inr (4, [.int mc, .ref el, .int 0]))] sz)) 1 6 (va_A [(h, .inr (13, [.ref pe, .ref ne, .ref pa, .ref ro, .int dy])), (pa, .inr (4, [.int mc, .ref el, .int 0]))] sz) := by
  refine vx_ofW (cc := cX8_needPaper) (maxL := 2) (ret := none) (by decide) rfl ?_
  intro p e s m args below meth c s₁ B hml htb hv
  obtain ⟨rfl, hsz, hP, hK, hD0, hZ⟩ := hv
  have hx := B.exec
  have hb := B.bytes
  have hr := B.returns
  have hts := atoms_spec (ws := wsX8_needPaper) B.pre
  have hown : s.vm.findClass RX8 = some m.cls := findClass_of_methodNamed B.named
  have hlocks := B.notSynchronized
  subst hsz
  have hD := hD0.self (sz := s.heap.size)
  generalize hAe : va_A [(h, .inr (13, [.ref pe, .ref ne, .ref pa, .ref ro, .int dy])), (pa, .inr (4, [.int mc, .ref el, .int 0]))] s.heap.size = A at hD hZ ⊢
  have hA : ∀ q : Nat, s.heap.size ≤ q → A q := fun q h => by rw [← hAe]; exact Or.inr h
  have hS : va_S A s.heap s.heap [] := va_S.rf
  have hP : va_P D vwCl [(h, .inr (13, [.ref pe, .ref ne, .ref pa, .ref ro, .int dy])), (pa, .inr (4, [.int mc, .ref el, .int 0]))] s.heap := hP
  have hl := lv_entry ([.ref h, .int p0]) (n := 2) (Nat.le_of_ble_eq_true rfl)
  rw [lg_entry_eq]
  generalize (lg_sl ([.ref h, .int p0]) ++ List.replicate (2 - (lg_sl ([.ref h, .int p0])).length) Slot.unset).toArray = ls at hl ⊢
  have hl : lv_has ls 2 [(0, .ref h), (1, .int p0)] := hl
  refine lv_iload_n hx hb dX8_needPaper_0 rfl (lv_at hl 1 rfl) ?_
  refine lv_if_lt (tgt := 15) hx hb dX8_needPaper_1 (by decide) (fun c_8 => ?_) (fun c_8 => ?_)
  ·
    have hat9 : ∀ w ∈ (vx_at0 RX8 410 "java/lang/IndexOutOfBoundsException" ["java/lang/RuntimeException", "java/lang/Exception"]).filter goodWord, w ∈ wsX8_needPaper := by decide +kernel
    exact vx_throw0 (names := ["java/lang/RuntimeException", "java/lang/Exception"]) hx hb hst hown (by decide +kernel) (by decide +kernel) (hts (.classLink RX8 408 "java/lang/IndexOutOfBoundsException") (by decide +kernel)) (hts (.initialized "java/lang/IndexOutOfBoundsException") (by decide +kernel)) (vx_hat (B := []) (fun w9 h9 => hts w9 (hat9 w9 h9)) (by decide +kernel) vx_n) (by decide +kernel) hZ.1 hZ.2.1 hS (hl.1.trans hml.symm) dX8_needPaper_15 dX8_needPaper_18 dX8_needPaper_19 dX8_needPaper_22 (fun x9 h9 => absurd h9 (htb x9)) (Nat.le_of_ble_eq_true rfl) (Nat.le_of_ble_eq_true rfl) (Nat.le_of_ble_eq_true rfl) (Nat.le_of_ble_eq_true rfl) hlocks (zx_thr hS rfl) hS.2.2 (Nat.le_of_ble_eq_true rfl) (Nat.le_of_ble_eq_true rfl)
  ·
    refine lv_iload_n hx hb dX8_needPaper_4 rfl (lv_at hl 1 rfl) ?_
    refine lv_aload_n hx hb dX8_needPaper_5 rfl (lv_at hl 0 rfl) ?_
    refine va_get (D := D) (ci := 13) (v := .ref pa) (C := RX8) (T := TX8) (N := 5) hx hb hts (by decide +kernel) hown hK hP 0 rfl rfl 2 (by decide) (hts (.fieldLink RX8 26 "Refereehall" "papers" "Ljava/util/ArrayList;") (by decide +kernel)) (fun _ h9 => h9) rfl dX8_needPaper_6 ?_
    have hPc := hP.sub (ws' := [(pa, .inr (4, [.int mc, .ref el, .int 0]))]) [1] rfl
    have hDc := hD.sub (ws' := [(pa, .inr (4, [.int mc, .ref el, .int 0]))]) [1] (by decide) rfl
    have hFc := va_free (wc := [(pa, .inr (4, [.int mc, .ref el, .int 0]))]) hD hS hA [1] rfl
    refine va_calli (va_runV (As := []) (rest := [.int p0]) ⟨hx, hb, hml, hown, hts⟩ (c_AL_size l hst D cy ed s.heap.size pa el mc 0) (cwV 0 hts gX8_needPaper_Jx4a65c_size_8abf5 rfl rfl rfl (by decide +kernel) ⟨(Nat.le_of_ble_eq_true rfl), (Nat.le_of_ble_eq_true rfl)⟩) ⟨zx_blind, va_recv hK hPc (ci := 4) (q0 := 0) rfl rfl, zx_give hPc hK hDc hS hFc hZ⟩ rfl rfl hl.1 rfl (lv_room (Nat.le_of_ble_eq_true rfl)) dX8_needPaper_9 ⟨(Nat.le_of_ble_eq_true rfl), (Nat.le_of_ble_eq_true rfl)⟩) hS (fun q _ h => hFc q h) hFc (fun r9 u t H1 locs ht hvm hw hB hz1 hk1 hS => ?_)
    obtain rfl : r9 = 0 := hw
    obtain ⟨hP, hD⟩ := zx_join (wr := [(h, .inr (13, [.ref pe, .ref ne, .ref pa, .ref ro, .int dy]))]) (w1 := [(pa, .inr (4, [.int mc, .ref el, .int 0]))]) [1] [0] rfl rfl (by decide) (by decide) hP hD hk1 hFc hB ht
    generalize H1 = H at hP hS ⊢
    have hP : va_P D vwCl [(h, .inr (13, [.ref pe, .ref ne, .ref pa, .ref ro, .int dy])), (pa, .inr (4, [.int mc, .ref el, .int 0]))] H := hP
    have hD : va_D A [(h, .inr (13, [.ref pe, .ref ne, .ref pa, .ref ro, .int dy])), (pa, .inr (4, [.int mc, .ref el, .int 0]))] := hD
    refine W.widen (k := 0) (n := 0) (Nat.le_of_ble_eq_true rfl) (Nat.le_of_ble_eq_true rfl) ?_
    refine lv_icmp_lt (tgt := 23) hx hb dX8_needPaper_12 (by decide) (fun c_9 => ?_) (fun c_9 => ?_)
    ·
      exact absurd c_9 c_8
    ·
      have hat9 : ∀ w ∈ (vx_at0 RX8 410 "java/lang/IndexOutOfBoundsException" ["java/lang/RuntimeException", "java/lang/Exception"]).filter goodWord, w ∈ wsX8_needPaper := by decide +kernel
      exact vx_throw0 (names := ["java/lang/RuntimeException", "java/lang/Exception"]) hx hb hst hown (by decide +kernel) (by decide +kernel) (hts (.classLink RX8 408 "java/lang/IndexOutOfBoundsException") (by decide +kernel)) (hts (.initialized "java/lang/IndexOutOfBoundsException") (by decide +kernel)) (vx_hat (B := []) (fun w9 h9 => hts w9 (hat9 w9 h9)) (by decide +kernel) vx_n) (by decide +kernel) hZ.1 hZ.2.1 hS (hl.1.trans hml.symm) dX8_needPaper_15 dX8_needPaper_18 dX8_needPaper_19 dX8_needPaper_22 (fun x9 h9 => absurd h9 (htb x9)) (Nat.le_of_ble_eq_true rfl) (Nat.le_of_ble_eq_true rfl) (Nat.le_of_ble_eq_true rfl) (Nat.le_of_ble_eq_true rfl) hlocks (zx_thr hS rfl) hS.2.2 (Nat.le_of_ble_eq_true rfl) (Nat.le_of_ble_eq_true rfl)
set_option maxHeartbeats 4000000 in
set_option maxRecDepth 100000 in
theorem c_X8_paperAt (l : Launch) (hst : l.stackTraces = false) (D : va_G) (cy : Nat → ClassId) (ed sz : Nat) (h : Nat) (pe : Nat) (ne : Nat) (pa : Nat) (ro : Nat) (dy : Int32) (mc : Int32) (el : Nat) (p0 : Int32) : vx_Met l yX8_paperAt wsX8_paperAt ({ frames := 7, cells := 1, slots := 6, locals := 102 }) (zx_Pc D cy ed sz [.ref h, .int p0] [(h, .inr (13, [.ref pe, .ref ne, .ref pa, .ref ro, .int dy])), (pa, .inr (4, [.int mc, .ref el, .int 0]))]) (va_Qr (fun (_ : Unit) => False) (fun (u9 : Unit) (ra : Nat) (t9 : State) => zx_At D cy (va_A [(h, .inr (13, [.ref pe, .ref ne, .ref pa, .ref ro, .int dy])), (pa, .inr (4, [.int mc, .ref el, .int 0]))] sz) [] t9) (va_A [(h, .inr (13, [.ref pe, .ref ne, .ref pa, .ref ro, .int dy])), (pa, .inr (4, [.int mc, .ref el, .int 0]))] sz)) (zx_X (fun E9 => E9 = "java/lang/IndexOutOfBoundsException") (va_A [(h, .inr (13, [.ref pe, .ref ne, .ref pa, .ref ro, .int dy])), (pa, .inr (4, [.int mc, .ref el, .int 0]))] sz)) 1 6 (va_A [(h, .inr (13, [.ref pe, .ref ne, .ref pa, .ref ro, .int dy])), (pa, .inr (4, [.int mc, .ref el, .int 0]))] sz) := by
  refine vx_ofW (cc := cX8_paperAt) (maxL := 2) (ret := (some (.object "Refereehall$Paper"))) (by decide) rfl ?_
  intro p e s m args below meth c s₁ B hml htb hv
  obtain ⟨rfl, hsz, hP, hK, hD0, hZ⟩ := hv
  have hx := B.exec
  have hb := B.bytes
  have hr := B.returns
  have hts := atoms_spec (ws := wsX8_paperAt) B.pre
  have hown : s.vm.findClass RX8 = some m.cls := findClass_of_methodNamed B.named
  have hlocks := B.notSynchronized
  subst hsz
  have hD := hD0.self (sz := s.heap.size)
  generalize hAe : va_A [(h, .inr (13, [.ref pe, .ref ne, .ref pa, .ref ro, .int dy])), (pa, .inr (4, [.int mc, .ref el, .int 0]))] s.heap.size = A at hD hZ ⊢
  have hA : ∀ q : Nat, s.heap.size ≤ q → A q := fun q h => by rw [← hAe]; exact Or.inr h
  have hS : va_S A s.heap s.heap [] := va_S.rf
  have hP : va_P D vwCl [(h, .inr (13, [.ref pe, .ref ne, .ref pa, .ref ro, .int dy])), (pa, .inr (4, [.int mc, .ref el, .int 0]))] s.heap := hP
  have hl := lv_entry ([.ref h, .int p0]) (n := 2) (Nat.le_of_ble_eq_true rfl)
  rw [lg_entry_eq]
  generalize (lg_sl ([.ref h, .int p0]) ++ List.replicate (2 - (lg_sl ([.ref h, .int p0])).length) Slot.unset).toArray = ls at hl ⊢
  have hl : lv_has ls 2 [(0, .ref h), (1, .int p0)] := hl
  refine lv_aload_n hx hb dX8_paperAt_0 rfl (lv_at hl 0 rfl) ?_
  refine lv_iload_n hx hb dX8_paperAt_1 rfl (lv_at hl 1 rfl) ?_
  have hPc := hP.sub (ws' := [(h, .inr (13, [.ref pe, .ref ne, .ref pa, .ref ro, .int dy])), (pa, .inr (4, [.int mc, .ref el, .int 0]))]) [0, 1] rfl
  have hDc := hD.sub (ws' := [(h, .inr (13, [.ref pe, .ref ne, .ref pa, .ref ro, .int dy])), (pa, .inr (4, [.int mc, .ref el, .int 0]))]) [0, 1] (by decide) rfl
  have hFc := va_free (wc := [(h, .inr (13, [.ref pe, .ref ne, .ref pa, .ref ro, .int dy])), (pa, .inr (4, [.int mc, .ref el, .int 0]))]) hD hS hA [0, 1] rfl
  refine vx_callv (vx_runV (As := [.int p0]) (rest := []) ⟨hx, hb, hml, hown, hts⟩ (c_X8_needPaper l hst D cy ed s.heap.size h pe ne pa ro dy mc el p0) (cwV 1 hts gX8_paperAt_X8_needPaper rfl rfl rfl (by decide +kernel) ⟨(Nat.le_of_ble_eq_true rfl), (Nat.le_of_ble_eq_true rfl)⟩) ⟨zx_blind, va_recv hK hPc (ci := 13) (q0 := 0) rfl rfl, zx_give hPc hK hDc hS hFc hZ⟩ rfl rfl hl.1 rfl (lv_room (Nat.le_of_ble_eq_true rfl)) dX8_paperAt_2 ⟨(Nat.le_of_ble_eq_true rfl), (Nat.le_of_ble_eq_true rfl)⟩) hS (fun q _ h => hFc q h) hFc (fun q _ h => hFc q h) (fun E9 ce9 q9 _ t H locs ht hvm _ hBX hz1 hk1 hS hce hcv hcl => ?_) (fun u t H locs ht hvm hw hB hz1 hk1 hS => ?_)
  · exact vx_out (fun x9 h9 => absurd h9 (htb x9)) hlocks hce hcv hcl (zx_pass hS hBX) hS.2.2 (Nat.le_of_ble_eq_true rfl) (Nat.le_of_ble_eq_true rfl)
  · exact hw.elim
set_option maxHeartbeats 4000000 in
set_option maxRecDepth 100000 in
theorem c_X15_fails (l : Launch) (hst : l.stackTraces = false) (D : va_G) (cy : Nat → ClassId) (ed sz : Nat) (m0 : Nat) (mp : Nat) (mq : Nat) (b1 : Nat) (b2 : Nat) (b3 : Nat) (b4 : Nat) (b5 : Nat) (th : Int32) (md : Int32) (p0 : Int32) : Met l yX15_fails wsX15_fails ({ frames := 0, cells := 0, slots := 0, locals := 0 }) (zx_Pc D cy ed sz [.ref m0, .int p0] [(m0, .inr (20, [.int th, .ref mp, .int md, .ref b1, .ref b2, .ref b3, .ref b4, .ref b5, .ref mq]))]) (va_Qi (fun (r9 : Int32) (u9 : Unit) => r9 = 0) (fun (u9 : Unit) (t9 : State) => zx_At D cy (va_A [(m0, .inr (20, [.int th, .ref mp, .int md, .ref b1, .ref b2, .ref b3, .ref b4, .ref b5, .ref mq]))] sz) [(m0, .inr (20, [.int p0, .ref mp, .int md, .ref b1, .ref b2, .ref b3, .ref b4, .ref b5, .ref mq]))] t9) (va_A [(m0, .inr (20, [.int th, .ref mp, .int md, .ref b1, .ref b2, .ref b3, .ref b4, .ref b5, .ref mq]))] sz)) 0 0 (va_A [(m0, .inr (20, [.int th, .ref mp, .int md, .ref b1, .ref b2, .ref b3, .ref b4, .ref b5, .ref mq]))] sz) := by
  refine Met.ofW (cc := cX15_fails) (maxL := 2) (ret := (some .int)) (by decide) rfl ?_
  intro p e s m args below meth c s₁ B hml hv
  obtain ⟨rfl, hsz, hP, hK, hD0, hZ⟩ := hv
  have hx := B.exec
  have hb := B.bytes
  have hr := B.returns
  have hts := atoms_spec (ws := wsX15_fails) B.pre
  have hown : s.vm.findClass RX15 = some m.cls := findClass_of_methodNamed B.named
  have hlocks := B.notSynchronized
  subst hsz
  have hD := hD0.self (sz := s.heap.size)
  generalize hAe : va_A [(m0, .inr (20, [.int th, .ref mp, .int md, .ref b1, .ref b2, .ref b3, .ref b4, .ref b5, .ref mq]))] s.heap.size = A at hD hZ ⊢
  have hA : ∀ q : Nat, s.heap.size ≤ q → A q := fun q h => by rw [← hAe]; exact Or.inr h
  have hS : va_S A s.heap s.heap [] := va_S.rf
  have hP : va_P D vwCl [(m0, .inr (20, [.int th, .ref mp, .int md, .ref b1, .ref b2, .ref b3, .ref b4, .ref b5, .ref mq]))] s.heap := hP
  have hl := lv_entry ([.ref m0, .int p0]) (n := 2) (Nat.le_of_ble_eq_true rfl)
  rw [lg_entry_eq]
  generalize (lg_sl ([.ref m0, .int p0]) ++ List.replicate (2 - (lg_sl ([.ref m0, .int p0])).length) Slot.unset).toArray = ls at hl ⊢
  have hl : lv_has ls 2 [(0, .ref m0), (1, .int p0)] := hl
  refine lv_aload_n hx hb dX15_fails_0 rfl (lv_at hl 0 rfl) ?_
  refine lv_iload_n hx hb dX15_fails_1 rfl (lv_at hl 1 rfl) ?_
  refine va_put (D := D) (ci := 20) (v := .int p0) (ty := .int) (C := RX15) (T := TX15) (N := 9) hx hb hts (by decide +kernel) tyX15 tyX15_ok nmX15 hown hK hP hD hS 0 rfl rfl 0 (by decide) (hts (.fieldLink RX15 36 "RefereehallModel" "thrown" "I") (by decide +kernel)) (fun _ h9 => h9) rfl (by decide +kernel) rfl rfl (Nat.le_of_ble_eq_true rfl) dX15_fails_2 (fun H locs hP hD hS => ?_)
  have hP : va_P D vwCl [(m0, .inr (20, [.int p0, .ref mp, .int md, .ref b1, .ref b2, .ref b3, .ref b4, .ref b5, .ref mq]))] H := hP
  have hD : va_D A [(m0, .inr (20, [.int p0, .ref mp, .int md, .ref b1, .ref b2, .ref b3, .ref b4, .ref b5, .ref mq]))] := hD
  refine lv_iconst (v := 0) hx hb dX15_fails_5 (by decide) ?_
  have hP9 := hP.sub (ws' := [(m0, .inr (20, [.int p0, .ref mp, .int md, .ref b1, .ref b2, .ref b3, .ref b4, .ref b5, .ref mq]))]) [0] rfl
  have hD9 := hD.sub (ws' := [(m0, .inr (20, [.int p0, .ref mp, .int md, .ref b1, .ref b2, .ref b3, .ref b4, .ref b5, .ref mq]))]) [0] (by decide) rfl
  exact W.iret (v := 0) hx hb hr (fun t ht hW => ⟨⟨0, (), rfl, rfl, zx_fin hP9 hD9 hK ht hW⟩, hS.F ht⟩) hS.2.2 dX15_fails_6
set_option maxHeartbeats 4000000 in
set_option maxRecDepth 100000 in
theorem c_X15_tells (l : Launch) (hst : l.stackTraces = false) (D : va_G) (cy : Nat → ClassId) (ed sz : Nat) (m0 : Nat) (mp : Nat) (mq : Nat) (b1 : Nat) (b2 : Nat) (b3 : Nat) (b4 : Nat) (b5 : Nat) (th : Int32) (md : Int32) (p0 : Int32) : Met l yX15_tells wsX15_tells ({ frames := 0, cells := 0, slots := 0, locals := 0 }) (zx_Pc D cy ed sz [.ref m0, .int p0] [(m0, .inr (20, [.int th, .ref mp, .int md, .ref b1, .ref b2, .ref b3, .ref b4, .ref b5, .ref mq]))]) (va_Qi (fun (r9 : Int32) (u9 : Unit) => r9 = p0) (fun (u9 : Unit) (t9 : State) => zx_At D cy (va_A [(m0, .inr (20, [.int th, .ref mp, .int md, .ref b1, .ref b2, .ref b3, .ref b4, .ref b5, .ref mq]))] sz) [(m0, .inr (20, [.int 0, .ref mp, .int md, .ref b1, .ref b2, .ref b3, .ref b4, .ref b5, .ref mq]))] t9) (va_A [(m0, .inr (20, [.int th, .ref mp, .int md, .ref b1, .ref b2, .ref b3, .ref b4, .ref b5, .ref mq]))] sz)) 0 0 (va_A [(m0, .inr (20, [.int th, .ref mp, .int md, .ref b1, .ref b2, .ref b3, .ref b4, .ref b5, .ref mq]))] sz) := by
  refine Met.ofW (cc := cX15_tells) (maxL := 2) (ret := (some .int)) (by decide) rfl ?_
  intro p e s m args below meth c s₁ B hml hv
  obtain ⟨rfl, hsz, hP, hK, hD0, hZ⟩ := hv
  have hx := B.exec
  have hb := B.bytes
  have hr := B.returns
  have hts := atoms_spec (ws := wsX15_tells) B.pre
  have hown : s.vm.findClass RX15 = some m.cls := findClass_of_methodNamed B.named
  have hlocks := B.notSynchronized
  subst hsz
  have hD := hD0.self (sz := s.heap.size)
  generalize hAe : va_A [(m0, .inr (20, [.int th, .ref mp, .int md, .ref b1, .ref b2, .ref b3, .ref b4, .ref b5, .ref mq]))] s.heap.size = A at hD hZ ⊢
  have hA : ∀ q : Nat, s.heap.size ≤ q → A q := fun q h => by rw [← hAe]; exact Or.inr h
  have hS : va_S A s.heap s.heap [] := va_S.rf
  have hP : va_P D vwCl [(m0, .inr (20, [.int th, .ref mp, .int md, .ref b1, .ref b2, .ref b3, .ref b4, .ref b5, .ref mq]))] s.heap := hP
  have hl := lv_entry ([.ref m0, .int p0]) (n := 2) (Nat.le_of_ble_eq_true rfl)
  rw [lg_entry_eq]
  generalize (lg_sl ([.ref m0, .int p0]) ++ List.replicate (2 - (lg_sl ([.ref m0, .int p0])).length) Slot.unset).toArray = ls at hl ⊢
  have hl : lv_has ls 2 [(0, .ref m0), (1, .int p0)] := hl
  refine lv_aload_n hx hb dX15_tells_0 rfl (lv_at hl 0 rfl) ?_
  refine lv_iconst (v := 0) hx hb dX15_tells_1 (by decide) ?_
  refine va_put (D := D) (ci := 20) (v := .int 0) (ty := .int) (C := RX15) (T := TX15) (N := 9) hx hb hts (by decide +kernel) tyX15 tyX15_ok nmX15 hown hK hP hD hS 0 rfl rfl 0 (by decide) (hts (.fieldLink RX15 36 "RefereehallModel" "thrown" "I") (by decide +kernel)) (fun _ h9 => h9) rfl (by decide +kernel) rfl rfl (Nat.le_of_ble_eq_true rfl) dX15_tells_2 (fun H locs hP hD hS => ?_)
  have hP : va_P D vwCl [(m0, .inr (20, [.int 0, .ref mp, .int md, .ref b1, .ref b2, .ref b3, .ref b4, .ref b5, .ref mq]))] H := hP
  have hD : va_D A [(m0, .inr (20, [.int 0, .ref mp, .int md, .ref b1, .ref b2, .ref b3, .ref b4, .ref b5, .ref mq]))] := hD
  refine lv_iload_n hx hb dX15_tells_5 rfl (lv_at hl 1 rfl) ?_
  have hP9 := hP.sub (ws' := [(m0, .inr (20, [.int 0, .ref mp, .int md, .ref b1, .ref b2, .ref b3, .ref b4, .ref b5, .ref mq]))]) [0] rfl
  have hD9 := hD.sub (ws' := [(m0, .inr (20, [.int 0, .ref mp, .int md, .ref b1, .ref b2, .ref b3, .ref b4, .ref b5, .ref mq]))]) [0] (by decide) rfl
  exact W.iret (v := p0) hx hb hr (fun t ht hW => ⟨⟨p0, (), rfl, rfl, zx_fin hP9 hD9 hK ht hW⟩, hS.F ht⟩) hS.2.2 dX15_tells_6
set_option maxHeartbeats 4000000 in
set_option maxRecDepth 100000 in
theorem c_X15_thrown (l : Launch) (hst : l.stackTraces = false) (D : va_G) (cy : Nat → ClassId) (ed sz : Nat) (m0 : Nat) (mp : Nat) (mq : Nat) (b1 : Nat) (b2 : Nat) (b3 : Nat) (b4 : Nat) (b5 : Nat) (th : Int32) (md : Int32) : Met l yX15_thrown wsX15_thrown ({ frames := 0, cells := 0, slots := 0, locals := 0 }) (zx_Pc D cy ed sz [.ref m0] [(m0, .inr (20, [.int th, .ref mp, .int md, .ref b1, .ref b2, .ref b3, .ref b4, .ref b5, .ref mq]))]) (va_Qi (fun (r9 : Int32) (u9 : Unit) => r9 = th) (fun (u9 : Unit) (t9 : State) => zx_At D cy (va_A [(m0, .inr (20, [.int th, .ref mp, .int md, .ref b1, .ref b2, .ref b3, .ref b4, .ref b5, .ref mq]))] sz) [(m0, .inr (20, [.int th, .ref mp, .int md, .ref b1, .ref b2, .ref b3, .ref b4, .ref b5, .ref mq]))] t9) (va_A [(m0, .inr (20, [.int th, .ref mp, .int md, .ref b1, .ref b2, .ref b3, .ref b4, .ref b5, .ref mq]))] sz)) 0 0 (va_A [(m0, .inr (20, [.int th, .ref mp, .int md, .ref b1, .ref b2, .ref b3, .ref b4, .ref b5, .ref mq]))] sz) := by
  refine Met.ofW (cc := cX15_thrown) (maxL := 1) (ret := (some .int)) (by decide) rfl ?_
  intro p e s m args below meth c s₁ B hml hv
  obtain ⟨rfl, hsz, hP, hK, hD0, hZ⟩ := hv
  have hx := B.exec
  have hb := B.bytes
  have hr := B.returns
  have hts := atoms_spec (ws := wsX15_thrown) B.pre
  have hown : s.vm.findClass RX15 = some m.cls := findClass_of_methodNamed B.named
  have hlocks := B.notSynchronized
  subst hsz
  have hD := hD0.self (sz := s.heap.size)
  generalize hAe : va_A [(m0, .inr (20, [.int th, .ref mp, .int md, .ref b1, .ref b2, .ref b3, .ref b4, .ref b5, .ref mq]))] s.heap.size = A at hD hZ ⊢
  have hA : ∀ q : Nat, s.heap.size ≤ q → A q := fun q h => by rw [← hAe]; exact Or.inr h
  have hS : va_S A s.heap s.heap [] := va_S.rf
  have hP : va_P D vwCl [(m0, .inr (20, [.int th, .ref mp, .int md, .ref b1, .ref b2, .ref b3, .ref b4, .ref b5, .ref mq]))] s.heap := hP
  have hl := lv_entry ([.ref m0]) (n := 1) (Nat.le_of_ble_eq_true rfl)
  rw [lg_entry_eq]
  generalize (lg_sl ([.ref m0]) ++ List.replicate (1 - (lg_sl ([.ref m0])).length) Slot.unset).toArray = ls at hl ⊢
  have hl : lv_has ls 1 [(0, .ref m0)] := hl
  refine lv_aload_n hx hb dX15_thrown_0 rfl (lv_at hl 0 rfl) ?_
  refine va_get (D := D) (ci := 20) (v := .int th) (C := RX15) (T := TX15) (N := 9) hx hb hts (by decide +kernel) hown hK hP 0 rfl rfl 0 (by decide) (hts (.fieldLink RX15 36 "RefereehallModel" "thrown" "I") (by decide +kernel)) (fun _ h9 => h9) rfl dX15_thrown_1 ?_
  have hP9 := hP.sub (ws' := [(m0, .inr (20, [.int th, .ref mp, .int md, .ref b1, .ref b2, .ref b3, .ref b4, .ref b5, .ref mq]))]) [0] rfl
  have hD9 := hD.sub (ws' := [(m0, .inr (20, [.int th, .ref mp, .int md, .ref b1, .ref b2, .ref b3, .ref b4, .ref b5, .ref mq]))]) [0] (by decide) rfl
  exact W.iret (v := th) hx hb hr (fun t ht hW => ⟨⟨th, (), rfl, rfl, zx_fin hP9 hD9 hK ht hW⟩, hS.F ht⟩) hS.2.2 dX15_thrown_4
set_option maxHeartbeats 4000000 in
set_option maxRecDepth 100000 in
theorem c_X15_isField (l : Launch) (hst : l.stackTraces = false) (D : va_G) (cy : Nat → ClassId) (ed sz : Nat) (p0 : Int32) : Met l yX15_isField wsX15_isField ({ frames := 1, cells := 0, slots := 0, locals := 22 }) (zx_Pc D cy ed sz [.int p0] []) (va_Qi (fun (r9 : Int32) (u9 : Unit) => r9 = (zx_in p0 0 7)) (fun (u9 : Unit) (t9 : State) => zx_At D cy (va_A [] sz) [] t9) (va_A [] sz)) 0 0 (va_A [] sz) := by
  refine Met.ofW (cc := cX15_isField) (maxL := 1) (ret := (some .boolean)) (by decide) rfl ?_
  intro p e s m args below meth c s₁ B hml hv
  obtain ⟨rfl, hsz, hP, hK, hD0, hZ⟩ := hv
  have hx := B.exec
  have hb := B.bytes
  have hr := B.returns
  have hts := atoms_spec (ws := wsX15_isField) B.pre
  have hown : s.vm.findClass RX15 = some m.cls := findClass_of_methodNamed B.named
  have hlocks := B.notSynchronized
  subst hsz
  have hD := hD0.self (sz := s.heap.size)
  generalize hAe : va_A [] s.heap.size = A at hD hZ ⊢
  have hA : ∀ q : Nat, s.heap.size ≤ q → A q := fun q h => by rw [← hAe]; exact Or.inr h
  have hS : va_S A s.heap s.heap [] := va_S.rf
  have hP : va_P D vwCl [] s.heap := hP
  have hl := lv_entry ([.int p0]) (n := 1) (Nat.le_of_ble_eq_true rfl)
  rw [lg_entry_eq]
  generalize (lg_sl ([.int p0]) ++ List.replicate (1 - (lg_sl ([.int p0])).length) Slot.unset).toArray = ls at hl ⊢
  have hl : lv_has ls 1 [(0, .int p0)] := hl
  refine lv_iload_n hx hb dX15_isField_0 rfl (lv_at hl 0 rfl) ?_
  refine lv_iconst (v := 0) hx hb dX15_isField_1 (by decide) ?_
  refine lv_bipush (v := 7) hx hb dX15_isField_2 (by decide) ?_
  have hPc := hP.sub (ws' := []) [] rfl
  have hDc := hD.sub (ws' := []) [] (by decide) rfl
  have hFc := va_free (wc := []) hD hS hA [] rfl
  refine va_calli (va_runS (As := [.int p0, .int 0, .int 7]) (rest := []) ⟨hx, hb, hml, hown, hts⟩ (c_X15_in l hst D cy ed s.heap.size p0 0 7) (va_cwS 3 hts gX15_isField_X15_in rfl rfl rfl (by decide +kernel) ⟨(Nat.le_of_ble_eq_true rfl), (Nat.le_of_ble_eq_true rfl)⟩) ⟨zx_blind, zx_give hPc hK hDc hS hFc hZ⟩ rfl rfl hl.1 rfl (lv_room (Nat.le_of_ble_eq_true rfl)) dX15_isField_4 ⟨(Nat.le_of_ble_eq_true rfl), (Nat.le_of_ble_eq_true rfl)⟩) hS (fun q _ h => hFc q h) hFc (fun r9 u t H1 locs ht hvm hw hB hz1 hk1 hS => ?_)
  obtain rfl : r9 = (zx_in p0 0 7) := hw
  obtain ⟨hP, hD⟩ := zx_join (wr := []) (w1 := []) [] [] rfl rfl (by decide) (by decide) hP hD hk1 hFc hB ht
  generalize H1 = H at hP hS ⊢
  have hP : va_P D vwCl [] H := hP
  have hD : va_D A [] := hD
  refine W.widen (k := 0) (n := 0) (Nat.le_of_ble_eq_true rfl) (Nat.le_of_ble_eq_true rfl) ?_
  have hP9 := hP.sub (ws' := []) [] rfl
  have hD9 := hD.sub (ws' := []) [] (by decide) rfl
  exact W.zret (v := (zx_in p0 0 7)) hx hb hr (zx_nin _ _ _) (fun t ht hW => ⟨⟨(zx_in p0 0 7), (), rfl, rfl, zx_fin hP9 hD9 hK ht hW⟩, hS.F ht⟩) hS.2.2 dX15_isField_7
set_option maxHeartbeats 4000000 in
set_option maxRecDepth 100000 in
theorem c_X15_isPerson (l : Launch) (hst : l.stackTraces = false) (D : va_G) (cy : Nat → ClassId) (ed sz : Nat) (m0 : Nat) (mp : Nat) (mq : Nat) (b1 : Nat) (b2 : Nat) (b3 : Nat) (b4 : Nat) (b5 : Nat) (th : Int32) (md : Int32) (mm : Int32) (ep : Nat) (p0 : Int32) : Met l yX15_isPerson wsX15_isPerson ({ frames := 1, cells := 0, slots := 0, locals := 22 }) (zx_Pc D cy ed sz [.ref m0, .int p0] [(m0, .inr (20, [.int th, .ref mp, .int md, .ref b1, .ref b2, .ref b3, .ref b4, .ref b5, .ref mq])), (mp, .inr (4, [.int mm, .ref ep, .int 0]))]) (va_Qi (fun (r9 : Int32) (u9 : Unit) => r9 = 0) (fun (u9 : Unit) (t9 : State) => zx_At D cy (va_A [(m0, .inr (20, [.int th, .ref mp, .int md, .ref b1, .ref b2, .ref b3, .ref b4, .ref b5, .ref mq])), (mp, .inr (4, [.int mm, .ref ep, .int 0]))] sz) [(m0, .inr (20, [.int th, .ref mp, .int md, .ref b1, .ref b2, .ref b3, .ref b4, .ref b5, .ref mq])), (mp, .inr (4, [.int mm, .ref ep, .int 0]))] t9) (va_A [(m0, .inr (20, [.int th, .ref mp, .int md, .ref b1, .ref b2, .ref b3, .ref b4, .ref b5, .ref mq])), (mp, .inr (4, [.int mm, .ref ep, .int 0]))] sz)) 0 0 (va_A [(m0, .inr (20, [.int th, .ref mp, .int md, .ref b1, .ref b2, .ref b3, .ref b4, .ref b5, .ref mq])), (mp, .inr (4, [.int mm, .ref ep, .int 0]))] sz) := by
  refine Met.ofW (cc := cX15_isPerson) (maxL := 2) (ret := (some .boolean)) (by decide) rfl ?_
  intro p e s m args below meth c s₁ B hml hv
  obtain ⟨rfl, hsz, hP, hK, hD0, hZ⟩ := hv
  have hx := B.exec
  have hb := B.bytes
  have hr := B.returns
  have hts := atoms_spec (ws := wsX15_isPerson) B.pre
  have hown : s.vm.findClass RX15 = some m.cls := findClass_of_methodNamed B.named
  have hlocks := B.notSynchronized
  subst hsz
  have hD := hD0.self (sz := s.heap.size)
  generalize hAe : va_A [(m0, .inr (20, [.int th, .ref mp, .int md, .ref b1, .ref b2, .ref b3, .ref b4, .ref b5, .ref mq])), (mp, .inr (4, [.int mm, .ref ep, .int 0]))] s.heap.size = A at hD hZ ⊢
  have hA : ∀ q : Nat, s.heap.size ≤ q → A q := fun q h => by rw [← hAe]; exact Or.inr h
  have hS : va_S A s.heap s.heap [] := va_S.rf
  have hP : va_P D vwCl [(m0, .inr (20, [.int th, .ref mp, .int md, .ref b1, .ref b2, .ref b3, .ref b4, .ref b5, .ref mq])), (mp, .inr (4, [.int mm, .ref ep, .int 0]))] s.heap := hP
  have hl := lv_entry ([.ref m0, .int p0]) (n := 2) (Nat.le_of_ble_eq_true rfl)
  rw [lg_entry_eq]
  generalize (lg_sl ([.ref m0, .int p0]) ++ List.replicate (2 - (lg_sl ([.ref m0, .int p0])).length) Slot.unset).toArray = ls at hl ⊢
  have hl : lv_has ls 2 [(0, .ref m0), (1, .int p0)] := hl
  refine lv_iload_n hx hb dX15_isPerson_0 rfl (lv_at hl 1 rfl) ?_
  refine lv_iconst (v := 0) hx hb dX15_isPerson_1 (by decide) ?_
  refine lv_aload_n hx hb dX15_isPerson_2 rfl (lv_at hl 0 rfl) ?_
  refine va_get (D := D) (ci := 20) (v := .ref mp) (C := RX15) (T := TX15) (N := 9) hx hb hts (by decide +kernel) hown hK hP 0 rfl rfl 1 (by decide) (hts (.fieldLink RX15 10 "RefereehallModel" "people" "Ljava/util/ArrayList;") (by decide +kernel)) (fun _ h9 => h9) rfl dX15_isPerson_3 ?_
  have hPc := hP.sub (ws' := [(mp, .inr (4, [.int mm, .ref ep, .int 0]))]) [1] rfl
  have hDc := hD.sub (ws' := [(mp, .inr (4, [.int mm, .ref ep, .int 0]))]) [1] (by decide) rfl
  have hFc := va_free (wc := [(mp, .inr (4, [.int mm, .ref ep, .int 0]))]) hD hS hA [1] rfl
  refine va_calli (va_runV (As := []) (rest := [.int 0, .int p0]) ⟨hx, hb, hml, hown, hts⟩ (c_AL_size l hst D cy ed s.heap.size mp ep mm 0) (cwV 0 hts gX15_isPerson_Jx4a65c_size_8abf5 rfl rfl rfl (by decide +kernel) ⟨(Nat.le_of_ble_eq_true rfl), (Nat.le_of_ble_eq_true rfl)⟩) ⟨zx_blind, va_recv hK hPc (ci := 4) (q0 := 0) rfl rfl, zx_give hPc hK hDc hS hFc hZ⟩ rfl rfl hl.1 rfl (lv_room (Nat.le_of_ble_eq_true rfl)) dX15_isPerson_6 ⟨(Nat.le_of_ble_eq_true rfl), (Nat.le_of_ble_eq_true rfl)⟩) hS (fun q _ h => hFc q h) hFc (fun r9 u t H1 locs ht hvm hw hB hz1 hk1 hS => ?_)
  obtain rfl : r9 = 0 := hw
  obtain ⟨hP, hD⟩ := zx_join (wr := [(m0, .inr (20, [.int th, .ref mp, .int md, .ref b1, .ref b2, .ref b3, .ref b4, .ref b5, .ref mq]))]) (w1 := [(mp, .inr (4, [.int mm, .ref ep, .int 0]))]) [1] [0] rfl rfl (by decide) (by decide) hP hD hk1 hFc hB ht
  generalize H1 = H at hP hS ⊢
  have hP : va_P D vwCl [(m0, .inr (20, [.int th, .ref mp, .int md, .ref b1, .ref b2, .ref b3, .ref b4, .ref b5, .ref mq])), (mp, .inr (4, [.int mm, .ref ep, .int 0]))] H := hP
  have hD : va_D A [(m0, .inr (20, [.int th, .ref mp, .int md, .ref b1, .ref b2, .ref b3, .ref b4, .ref b5, .ref mq])), (mp, .inr (4, [.int mm, .ref ep, .int 0]))] := hD
  refine W.widen (k := 0) (n := 0) (Nat.le_of_ble_eq_true rfl) (Nat.le_of_ble_eq_true rfl) ?_
  refine lv_iconst (v := 1) hx hb dX15_isPerson_9 (by decide) ?_
  refine lv_isub hx hb dX15_isPerson_10 ?_
  have hPc := hP.sub (ws' := []) [] rfl
  have hDc := hD.sub (ws' := []) [] (by decide) rfl
  have hFc := va_free (wc := []) hD hS hA [] rfl
  refine va_calli (va_runS (As := [.int p0, .int 0, .int (0 - 1)]) (rest := []) ⟨hx, hb, hml, hown, hts⟩ (c_X15_in l hst D cy ed H.size p0 0 (0 - 1)) (va_cwS 3 hts gX15_isPerson_X15_in rfl rfl rfl (by decide +kernel) ⟨(Nat.le_of_ble_eq_true rfl), (Nat.le_of_ble_eq_true rfl)⟩) ⟨zx_blind, zx_give hPc hK hDc hS hFc hZ⟩ rfl rfl hl.1 rfl (lv_room (Nat.le_of_ble_eq_true rfl)) dX15_isPerson_11 ⟨(Nat.le_of_ble_eq_true rfl), (Nat.le_of_ble_eq_true rfl)⟩) hS (fun q _ h => hFc q h) hFc (fun r9 u t H1 locs ht hvm hw hB hz1 hk1 hS => ?_)
  obtain rfl : r9 = (zx_in p0 0 (0 - 1)) := hw
  obtain ⟨hP, hD⟩ := zx_join (wr := [(m0, .inr (20, [.int th, .ref mp, .int md, .ref b1, .ref b2, .ref b3, .ref b4, .ref b5, .ref mq])), (mp, .inr (4, [.int mm, .ref ep, .int 0]))]) (w1 := []) [] [0, 1] rfl rfl (by decide) (by decide) hP hD hk1 hFc hB ht
  generalize H1 = H at hP hS ⊢
  have hP : va_P D vwCl [(m0, .inr (20, [.int th, .ref mp, .int md, .ref b1, .ref b2, .ref b3, .ref b4, .ref b5, .ref mq])), (mp, .inr (4, [.int mm, .ref ep, .int 0]))] H := hP
  have hD : va_D A [(m0, .inr (20, [.int th, .ref mp, .int md, .ref b1, .ref b2, .ref b3, .ref b4, .ref b5, .ref mq])), (mp, .inr (4, [.int mm, .ref ep, .int 0]))] := hD
  refine W.widen (k := 0) (n := 0) (Nat.le_of_ble_eq_true rfl) (Nat.le_of_ble_eq_true rfl) ?_
  have hP9 := hP.sub (ws' := [(m0, .inr (20, [.int th, .ref mp, .int md, .ref b1, .ref b2, .ref b3, .ref b4, .ref b5, .ref mq])), (mp, .inr (4, [.int mm, .ref ep, .int 0]))]) [0, 1] rfl
  have hD9 := hD.sub (ws' := [(m0, .inr (20, [.int th, .ref mp, .int md, .ref b1, .ref b2, .ref b3, .ref b4, .ref b5, .ref mq])), (mp, .inr (4, [.int mm, .ref ep, .int 0]))]) [0, 1] (by decide) rfl
  exact W.zret (v := (zx_in p0 0 (0 - 1))) hx hb hr (zx_nin _ _ _) (fun t ht hW => ⟨⟨(zx_in p0 0 (0 - 1)), (), rfl, zx_in_none _, zx_fin hP9 hD9 hK ht hW⟩, hS.F ht⟩) hS.2.2 dX15_isPerson_14
set_option maxHeartbeats 4000000 in
set_option maxRecDepth 100000 in
theorem c_X15_isPaper (l : Launch) (hst : l.stackTraces = false) (D : va_G) (cy : Nat → ClassId) (ed sz : Nat) (m0 : Nat) (mp : Nat) (mq : Nat) (b1 : Nat) (b2 : Nat) (b3 : Nat) (b4 : Nat) (b5 : Nat) (th : Int32) (md : Int32) (mn : Int32) (eq : Nat) (p0 : Int32) : Met l yX15_isPaper wsX15_isPaper ({ frames := 1, cells := 0, slots := 0, locals := 22 }) (zx_Pc D cy ed sz [.ref m0, .int p0] [(m0, .inr (20, [.int th, .ref mp, .int md, .ref b1, .ref b2, .ref b3, .ref b4, .ref b5, .ref mq])), (mq, .inr (4, [.int mn, .ref eq, .int 0]))]) (va_Qi (fun (r9 : Int32) (u9 : Unit) => r9 = 0) (fun (u9 : Unit) (t9 : State) => zx_At D cy (va_A [(m0, .inr (20, [.int th, .ref mp, .int md, .ref b1, .ref b2, .ref b3, .ref b4, .ref b5, .ref mq])), (mq, .inr (4, [.int mn, .ref eq, .int 0]))] sz) [(m0, .inr (20, [.int th, .ref mp, .int md, .ref b1, .ref b2, .ref b3, .ref b4, .ref b5, .ref mq])), (mq, .inr (4, [.int mn, .ref eq, .int 0]))] t9) (va_A [(m0, .inr (20, [.int th, .ref mp, .int md, .ref b1, .ref b2, .ref b3, .ref b4, .ref b5, .ref mq])), (mq, .inr (4, [.int mn, .ref eq, .int 0]))] sz)) 0 0 (va_A [(m0, .inr (20, [.int th, .ref mp, .int md, .ref b1, .ref b2, .ref b3, .ref b4, .ref b5, .ref mq])), (mq, .inr (4, [.int mn, .ref eq, .int 0]))] sz) := by
  refine Met.ofW (cc := cX15_isPaper) (maxL := 2) (ret := (some .boolean)) (by decide) rfl ?_
  intro p e s m args below meth c s₁ B hml hv
  obtain ⟨rfl, hsz, hP, hK, hD0, hZ⟩ := hv
  have hx := B.exec
  have hb := B.bytes
  have hr := B.returns
  have hts := atoms_spec (ws := wsX15_isPaper) B.pre
  have hown : s.vm.findClass RX15 = some m.cls := findClass_of_methodNamed B.named
  have hlocks := B.notSynchronized
  subst hsz
  have hD := hD0.self (sz := s.heap.size)
  generalize hAe : va_A [(m0, .inr (20, [.int th, .ref mp, .int md, .ref b1, .ref b2, .ref b3, .ref b4, .ref b5, .ref mq])), (mq, .inr (4, [.int mn, .ref eq, .int 0]))] s.heap.size = A at hD hZ ⊢
  have hA : ∀ q : Nat, s.heap.size ≤ q → A q := fun q h => by rw [← hAe]; exact Or.inr h
  have hS : va_S A s.heap s.heap [] := va_S.rf
  have hP : va_P D vwCl [(m0, .inr (20, [.int th, .ref mp, .int md, .ref b1, .ref b2, .ref b3, .ref b4, .ref b5, .ref mq])), (mq, .inr (4, [.int mn, .ref eq, .int 0]))] s.heap := hP
  have hl := lv_entry ([.ref m0, .int p0]) (n := 2) (Nat.le_of_ble_eq_true rfl)
  rw [lg_entry_eq]
  generalize (lg_sl ([.ref m0, .int p0]) ++ List.replicate (2 - (lg_sl ([.ref m0, .int p0])).length) Slot.unset).toArray = ls at hl ⊢
  have hl : lv_has ls 2 [(0, .ref m0), (1, .int p0)] := hl
  refine lv_iload_n hx hb dX15_isPaper_0 rfl (lv_at hl 1 rfl) ?_
  refine lv_iconst (v := 0) hx hb dX15_isPaper_1 (by decide) ?_
  refine lv_aload_n hx hb dX15_isPaper_2 rfl (lv_at hl 0 rfl) ?_
  refine va_get (D := D) (ci := 20) (v := .ref mq) (C := RX15) (T := TX15) (N := 9) hx hb hts (by decide +kernel) hown hK hP 0 rfl rfl 8 (by decide) (hts (.fieldLink RX15 33 "RefereehallModel" "papers" "Ljava/util/ArrayList;") (by decide +kernel)) (fun _ h9 => h9) rfl dX15_isPaper_3 ?_
  have hPc := hP.sub (ws' := [(mq, .inr (4, [.int mn, .ref eq, .int 0]))]) [1] rfl
  have hDc := hD.sub (ws' := [(mq, .inr (4, [.int mn, .ref eq, .int 0]))]) [1] (by decide) rfl
  have hFc := va_free (wc := [(mq, .inr (4, [.int mn, .ref eq, .int 0]))]) hD hS hA [1] rfl
  refine va_calli (va_runV (As := []) (rest := [.int 0, .int p0]) ⟨hx, hb, hml, hown, hts⟩ (c_AL_size l hst D cy ed s.heap.size mq eq mn 0) (cwV 0 hts gX15_isPaper_Jx4a65c_size_8abf5 rfl rfl rfl (by decide +kernel) ⟨(Nat.le_of_ble_eq_true rfl), (Nat.le_of_ble_eq_true rfl)⟩) ⟨zx_blind, va_recv hK hPc (ci := 4) (q0 := 0) rfl rfl, zx_give hPc hK hDc hS hFc hZ⟩ rfl rfl hl.1 rfl (lv_room (Nat.le_of_ble_eq_true rfl)) dX15_isPaper_6 ⟨(Nat.le_of_ble_eq_true rfl), (Nat.le_of_ble_eq_true rfl)⟩) hS (fun q _ h => hFc q h) hFc (fun r9 u t H1 locs ht hvm hw hB hz1 hk1 hS => ?_)
  obtain rfl : r9 = 0 := hw
  obtain ⟨hP, hD⟩ := zx_join (wr := [(m0, .inr (20, [.int th, .ref mp, .int md, .ref b1, .ref b2, .ref b3, .ref b4, .ref b5, .ref mq]))]) (w1 := [(mq, .inr (4, [.int mn, .ref eq, .int 0]))]) [1] [0] rfl rfl (by decide) (by decide) hP hD hk1 hFc hB ht
  generalize H1 = H at hP hS ⊢
  have hP : va_P D vwCl [(m0, .inr (20, [.int th, .ref mp, .int md, .ref b1, .ref b2, .ref b3, .ref b4, .ref b5, .ref mq])), (mq, .inr (4, [.int mn, .ref eq, .int 0]))] H := hP
  have hD : va_D A [(m0, .inr (20, [.int th, .ref mp, .int md, .ref b1, .ref b2, .ref b3, .ref b4, .ref b5, .ref mq])), (mq, .inr (4, [.int mn, .ref eq, .int 0]))] := hD
  refine W.widen (k := 0) (n := 0) (Nat.le_of_ble_eq_true rfl) (Nat.le_of_ble_eq_true rfl) ?_
  refine lv_iconst (v := 1) hx hb dX15_isPaper_9 (by decide) ?_
  refine lv_isub hx hb dX15_isPaper_10 ?_
  have hPc := hP.sub (ws' := []) [] rfl
  have hDc := hD.sub (ws' := []) [] (by decide) rfl
  have hFc := va_free (wc := []) hD hS hA [] rfl
  refine va_calli (va_runS (As := [.int p0, .int 0, .int (0 - 1)]) (rest := []) ⟨hx, hb, hml, hown, hts⟩ (c_X15_in l hst D cy ed H.size p0 0 (0 - 1)) (va_cwS 3 hts gX15_isPaper_X15_in rfl rfl rfl (by decide +kernel) ⟨(Nat.le_of_ble_eq_true rfl), (Nat.le_of_ble_eq_true rfl)⟩) ⟨zx_blind, zx_give hPc hK hDc hS hFc hZ⟩ rfl rfl hl.1 rfl (lv_room (Nat.le_of_ble_eq_true rfl)) dX15_isPaper_11 ⟨(Nat.le_of_ble_eq_true rfl), (Nat.le_of_ble_eq_true rfl)⟩) hS (fun q _ h => hFc q h) hFc (fun r9 u t H1 locs ht hvm hw hB hz1 hk1 hS => ?_)
  obtain rfl : r9 = (zx_in p0 0 (0 - 1)) := hw
  obtain ⟨hP, hD⟩ := zx_join (wr := [(m0, .inr (20, [.int th, .ref mp, .int md, .ref b1, .ref b2, .ref b3, .ref b4, .ref b5, .ref mq])), (mq, .inr (4, [.int mn, .ref eq, .int 0]))]) (w1 := []) [] [0, 1] rfl rfl (by decide) (by decide) hP hD hk1 hFc hB ht
  generalize H1 = H at hP hS ⊢
  have hP : va_P D vwCl [(m0, .inr (20, [.int th, .ref mp, .int md, .ref b1, .ref b2, .ref b3, .ref b4, .ref b5, .ref mq])), (mq, .inr (4, [.int mn, .ref eq, .int 0]))] H := hP
  have hD : va_D A [(m0, .inr (20, [.int th, .ref mp, .int md, .ref b1, .ref b2, .ref b3, .ref b4, .ref b5, .ref mq])), (mq, .inr (4, [.int mn, .ref eq, .int 0]))] := hD
  refine W.widen (k := 0) (n := 0) (Nat.le_of_ble_eq_true rfl) (Nat.le_of_ble_eq_true rfl) ?_
  have hP9 := hP.sub (ws' := [(m0, .inr (20, [.int th, .ref mp, .int md, .ref b1, .ref b2, .ref b3, .ref b4, .ref b5, .ref mq])), (mq, .inr (4, [.int mn, .ref eq, .int 0]))]) [0, 1] rfl
  have hD9 := hD.sub (ws' := [(m0, .inr (20, [.int th, .ref mp, .int md, .ref b1, .ref b2, .ref b3, .ref b4, .ref b5, .ref mq])), (mq, .inr (4, [.int mn, .ref eq, .int 0]))]) [0, 1] (by decide) rfl
  exact W.zret (v := (zx_in p0 0 (0 - 1))) hx hb hr (zx_nin _ _ _) (fun t ht hW => ⟨⟨(zx_in p0 0 (0 - 1)), (), rfl, zx_in_none _, zx_fin hP9 hD9 hK ht hW⟩, hS.F ht⟩) hS.2.2 dX15_isPaper_14
set_option maxHeartbeats 4000000 in
set_option maxRecDepth 100000 in
theorem c_X15_areBoth (l : Launch) (hst : l.stackTraces = false) (D : va_G) (cy : Nat → ClassId) (ed sz : Nat) (m0 : Nat) (mp : Nat) (mq : Nat) (b1 : Nat) (b2 : Nat) (b3 : Nat) (b4 : Nat) (b5 : Nat) (th : Int32) (md : Int32) (mn : Int32) (eq : Nat) (p0 : Int32) (p1 : Int32) : Met l yX15_areBoth wsX15_areBoth ({ frames := 2, cells := 0, slots := 0, locals := 43 }) (zx_Pc D cy ed sz [.ref m0, .int p0, .int p1] [(m0, .inr (20, [.int th, .ref mp, .int md, .ref b1, .ref b2, .ref b3, .ref b4, .ref b5, .ref mq])), (mq, .inr (4, [.int mn, .ref eq, .int 0]))]) (va_Qi (fun (r9 : Int32) (u9 : Unit) => r9 = 0) (fun (u9 : Unit) (t9 : State) => zx_At D cy (va_A [(m0, .inr (20, [.int th, .ref mp, .int md, .ref b1, .ref b2, .ref b3, .ref b4, .ref b5, .ref mq])), (mq, .inr (4, [.int mn, .ref eq, .int 0]))] sz) [(m0, .inr (20, [.int th, .ref mp, .int md, .ref b1, .ref b2, .ref b3, .ref b4, .ref b5, .ref mq])), (mq, .inr (4, [.int mn, .ref eq, .int 0]))] t9) (va_A [(m0, .inr (20, [.int th, .ref mp, .int md, .ref b1, .ref b2, .ref b3, .ref b4, .ref b5, .ref mq])), (mq, .inr (4, [.int mn, .ref eq, .int 0]))] sz)) 0 0 (va_A [(m0, .inr (20, [.int th, .ref mp, .int md, .ref b1, .ref b2, .ref b3, .ref b4, .ref b5, .ref mq])), (mq, .inr (4, [.int mn, .ref eq, .int 0]))] sz) := by
  refine Met.ofW (cc := cX15_areBoth) (maxL := 3) (ret := (some .boolean)) (by decide) rfl ?_
  intro p e s m args below meth c s₁ B hml hv
  obtain ⟨rfl, hsz, hP, hK, hD0, hZ⟩ := hv
  have hx := B.exec
  have hb := B.bytes
  have hr := B.returns
  have hts := atoms_spec (ws := wsX15_areBoth) B.pre
  have hown : s.vm.findClass RX15 = some m.cls := findClass_of_methodNamed B.named
  have hlocks := B.notSynchronized
  subst hsz
  have hD := hD0.self (sz := s.heap.size)
  generalize hAe : va_A [(m0, .inr (20, [.int th, .ref mp, .int md, .ref b1, .ref b2, .ref b3, .ref b4, .ref b5, .ref mq])), (mq, .inr (4, [.int mn, .ref eq, .int 0]))] s.heap.size = A at hD hZ ⊢
  have hA : ∀ q : Nat, s.heap.size ≤ q → A q := fun q h => by rw [← hAe]; exact Or.inr h
  have hS : va_S A s.heap s.heap [] := va_S.rf
  have hP : va_P D vwCl [(m0, .inr (20, [.int th, .ref mp, .int md, .ref b1, .ref b2, .ref b3, .ref b4, .ref b5, .ref mq])), (mq, .inr (4, [.int mn, .ref eq, .int 0]))] s.heap := hP
  have hl := lv_entry ([.ref m0, .int p0, .int p1]) (n := 3) (Nat.le_of_ble_eq_true rfl)
  rw [lg_entry_eq]
  generalize (lg_sl ([.ref m0, .int p0, .int p1]) ++ List.replicate (3 - (lg_sl ([.ref m0, .int p0, .int p1])).length) Slot.unset).toArray = ls at hl ⊢
  have hl : lv_has ls 3 [(0, .ref m0), (1, .int p0), (2, .int p1)] := hl
  refine lv_aload_n hx hb dX15_areBoth_0 rfl (lv_at hl 0 rfl) ?_
  refine lv_iload_n hx hb dX15_areBoth_1 rfl (lv_at hl 1 rfl) ?_
  have hPc := hP.sub (ws' := [(m0, .inr (20, [.int th, .ref mp, .int md, .ref b1, .ref b2, .ref b3, .ref b4, .ref b5, .ref mq])), (mq, .inr (4, [.int mn, .ref eq, .int 0]))]) [0, 1] rfl
  have hDc := hD.sub (ws' := [(m0, .inr (20, [.int th, .ref mp, .int md, .ref b1, .ref b2, .ref b3, .ref b4, .ref b5, .ref mq])), (mq, .inr (4, [.int mn, .ref eq, .int 0]))]) [0, 1] (by decide) rfl
  have hFc := va_free (wc := [(m0, .inr (20, [.int th, .ref mp, .int md, .ref b1, .ref b2, .ref b3, .ref b4, .ref b5, .ref mq])), (mq, .inr (4, [.int mn, .ref eq, .int 0]))]) hD hS hA [0, 1] rfl
  refine va_calli (va_runV (As := [.int p0]) (rest := []) ⟨hx, hb, hml, hown, hts⟩ (c_X15_isPaper l hst D cy ed s.heap.size m0 mp mq b1 b2 b3 b4 b5 th md mn eq p0) (cwV 1 hts gX15_areBoth_X15_isPaper rfl rfl rfl (by decide +kernel) ⟨(Nat.le_of_ble_eq_true rfl), (Nat.le_of_ble_eq_true rfl)⟩) ⟨zx_blind, va_recv hK hPc (ci := 20) (q0 := 0) rfl rfl, zx_give hPc hK hDc hS hFc hZ⟩ rfl rfl hl.1 rfl (lv_room (Nat.le_of_ble_eq_true rfl)) dX15_areBoth_2 ⟨(Nat.le_of_ble_eq_true rfl), (Nat.le_of_ble_eq_true rfl)⟩) hS (fun q _ h => hFc q h) hFc (fun r9 u t H1 locs ht hvm hw hB hz1 hk1 hS => ?_)
  obtain rfl : r9 = 0 := hw
  obtain ⟨hP, hD⟩ := zx_join (wr := []) (w1 := [(m0, .inr (20, [.int th, .ref mp, .int md, .ref b1, .ref b2, .ref b3, .ref b4, .ref b5, .ref mq])), (mq, .inr (4, [.int mn, .ref eq, .int 0]))]) [0, 1] [] rfl rfl (by decide) (by decide) hP hD hk1 hFc hB ht
  generalize H1 = H at hP hS ⊢
  have hP : va_P D vwCl [(m0, .inr (20, [.int th, .ref mp, .int md, .ref b1, .ref b2, .ref b3, .ref b4, .ref b5, .ref mq])), (mq, .inr (4, [.int mn, .ref eq, .int 0]))] H := hP
  have hD : va_D A [(m0, .inr (20, [.int th, .ref mp, .int md, .ref b1, .ref b2, .ref b3, .ref b4, .ref b5, .ref mq])), (mq, .inr (4, [.int mn, .ref eq, .int 0]))] := hD
  refine W.widen (k := 0) (n := 0) (Nat.le_of_ble_eq_true rfl) (Nat.le_of_ble_eq_true rfl) ?_
  refine lv_if_eq (tgt := 20) hx hb dX15_areBoth_5 (by decide) (fun _ => ?_) (fun c_10 => absurd (by decide) c_10)
  refine lv_iconst (v := 0) hx hb dX15_areBoth_20 (by decide) ?_
  have hP9 := hP.sub (ws' := [(m0, .inr (20, [.int th, .ref mp, .int md, .ref b1, .ref b2, .ref b3, .ref b4, .ref b5, .ref mq])), (mq, .inr (4, [.int mn, .ref eq, .int 0]))]) [0, 1] rfl
  have hD9 := hD.sub (ws' := [(m0, .inr (20, [.int th, .ref mp, .int md, .ref b1, .ref b2, .ref b3, .ref b4, .ref b5, .ref mq])), (mq, .inr (4, [.int mn, .ref eq, .int 0]))]) [0, 1] (by decide) rfl
  exact W.zret (v := 0) hx hb hr rfl (fun t ht hW => ⟨⟨0, (), rfl, rfl, zx_fin hP9 hD9 hK ht hW⟩, hS.F ht⟩) hS.2.2 dX15_areBoth_21

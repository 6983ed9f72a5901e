theorem dJxa1e45_init_da8c8_0 : decode cJxa1e45_init_da8c8 0 = .ok (.aload_n 0, 1) := by decide +kernel
theorem dJxa1e45_init_da8c8_1 : decode cJxa1e45_init_da8c8 1 = .ok (.invokespecial 1, 3) := by decide +kernel
theorem dJxa1e45_init_da8c8_4 : decode cJxa1e45_init_da8c8 4 = .ok (.return_, 1) := by decide +kernel
theorem dJxc12de_init_da8c8_0 : decode cJxc12de_init_da8c8 0 = .ok (.aload_n 0, 1) := by decide +kernel
theorem dJxc12de_init_da8c8_1 : decode cJxc12de_init_da8c8 1 = .ok (.invokespecial 1, 3) := by decide +kernel
theorem dJxc12de_init_da8c8_4 : decode cJxc12de_init_da8c8 4 = .ok (.aload_n 0, 1) := by decide +kernel
theorem dJxc12de_init_da8c8_5 : decode cJxc12de_init_da8c8 5 = .ok (.iconst 0, 1) := by decide +kernel
theorem dJxc12de_init_da8c8_6 : decode cJxc12de_init_da8c8 6 = .ok (.putfield 7, 3) := by decide +kernel
theorem dJxc12de_init_da8c8_9 : decode cJxc12de_init_da8c8 9 = .ok (.return_, 1) := by decide +kernel
theorem dJx4a65c_init_da8c8_0 : decode cJx4a65c_init_da8c8 0 = .ok (.aload_n 0, 1) := by decide +kernel
theorem dJx4a65c_init_da8c8_1 : decode cJx4a65c_init_da8c8 1 = .ok (.invokespecial 1, 3) := by decide +kernel
theorem dJx4a65c_init_da8c8_4 : decode cJx4a65c_init_da8c8 4 = .ok (.aload_n 0, 1) := by decide +kernel
theorem dJx4a65c_init_da8c8_5 : decode cJx4a65c_init_da8c8 5 = .ok (.getstatic 39, 3) := by decide +kernel
theorem dJx4a65c_init_da8c8_8 : decode cJx4a65c_init_da8c8 8 = .ok (.putfield 9, 3) := by decide +kernel
theorem dJx4a65c_init_da8c8_11 : decode cJx4a65c_init_da8c8 11 = .ok (.return_, 1) := by decide +kernel
theorem dJ7_fill_53178_0 : decode cJ7_fill_53178 0 = .ok (.iconst 0, 1) := by decide +kernel
theorem dJ7_fill_53178_1 : decode cJ7_fill_53178 1 = .ok (.istore_n 2, 1) := by decide +kernel
theorem dJ7_fill_53178_2 : decode cJ7_fill_53178 2 = .ok (.aload_n 0, 1) := by decide +kernel
theorem dJ7_fill_53178_3 : decode cJ7_fill_53178 3 = .ok (.arraylength, 1) := by decide +kernel
theorem dJ7_fill_53178_4 : decode cJ7_fill_53178 4 = .ok (.istore_n 3, 1) := by decide +kernel
theorem dJ7_fill_53178_5 : decode cJ7_fill_53178 5 = .ok (.iload_n 2, 1) := by decide +kernel
theorem dJ7_fill_53178_6 : decode cJ7_fill_53178 6 = .ok (.iload_n 3, 1) := by decide +kernel
theorem dJ7_fill_53178_7 : decode cJ7_fill_53178 7 = .ok (.if_icmp .ge 13, 3) := by decide +kernel
theorem dJ7_fill_53178_20 : decode cJ7_fill_53178 20 = .ok (.return_, 1) := by decide +kernel
theorem dJ7_fill_53178_10 : decode cJ7_fill_53178 10 = .ok (.aload_n 0, 1) := by decide +kernel
theorem dJ7_fill_53178_11 : decode cJ7_fill_53178 11 = .ok (.iload_n 2, 1) := by decide +kernel
theorem dJ7_fill_53178_12 : decode cJ7_fill_53178 12 = .ok (.iload_n 1, 1) := by decide +kernel
theorem dJ7_fill_53178_13 : decode cJ7_fill_53178 13 = .ok (.iastore, 1) := by decide +kernel
theorem dJ7_fill_53178_14 : decode cJ7_fill_53178 14 = .ok (.iinc 2 1, 3) := by decide +kernel
theorem dJ7_fill_53178_17 : decode cJ7_fill_53178 17 = .ok (.goto (-12), 3) := by decide +kernel
abbrev wzJ7_fill_53178 : List Cond := .code yJ7_fill_53178 cJ7_fill_53178 4 none :: zx_G
abbrev wzJx4a65c_init_da8c8 : List Cond := .code yJx4a65c_init_da8c8 cJx4a65c_init_da8c8 1 none :: zx_G
abbrev wzJxa1e45_init_da8c8 : List Cond := .code yJxa1e45_init_da8c8 cJxa1e45_init_da8c8 1 none :: zx_G
abbrev wzJxc12de_init_da8c8 : List Cond := .code yJxc12de_init_da8c8 cJxc12de_init_da8c8 1 none :: zx_G
theorem mm_75 : (.initialized RJxa1e45 : Cond) ∈ zx_G := zx_wi 75 (by decide +kernel) (by decide +kernel)
theorem mm_76 : (.initialized RJxc12de : Cond) ∈ zx_G := zx_wi 76 (by decide +kernel) (by decide +kernel)
theorem mm_119 : (.instanceMethod objectInit : Cond) ∈ zx_G := zx_wi 119 (by decide +kernel) (by decide +kernel)
theorem mm_120 : (.code objectInit ⟨#[0xb1]⟩ 1 none : Cond) ∈ zx_G := zx_wi 120 (by decide +kernel) (by decide +kernel)
theorem mm_204 : (.methodLink RJx4a65c 1 yJxc12de_init_da8c8 : Cond) ∈ zx_G := zx_wi 204 (by decide +kernel) (by decide +kernel)
theorem mm_205 : (.instanceMethod yJxc12de_init_da8c8 : Cond) ∈ zx_G := zx_wi 205 (by decide +kernel) (by decide +kernel)
theorem mm_206 : (.code yJxc12de_init_da8c8 cJxc12de_init_da8c8 1 none : Cond) ∈ zx_G := zx_wi 206 (by decide +kernel) (by decide +kernel)
theorem mm_207 : (.methodLink RJxc12de 1 yJxa1e45_init_da8c8 : Cond) ∈ zx_G := zx_wi 207 (by decide +kernel) (by decide +kernel)
theorem mm_208 : (.instanceMethod yJxa1e45_init_da8c8 : Cond) ∈ zx_G := zx_wi 208 (by decide +kernel) (by decide +kernel)
theorem mm_209 : (.code yJxa1e45_init_da8c8 cJxa1e45_init_da8c8 1 none : Cond) ∈ zx_G := zx_wi 209 (by decide +kernel) (by decide +kernel)
theorem mm_210 : (.methodLink RJxa1e45 1 objectInit : Cond) ∈ zx_G := zx_wi 210 (by decide +kernel) (by decide +kernel)
theorem mm_211 : (.fieldLink RJx4a65c 39 "java/util/ArrayList" "DEFAULTCAPACITY_EMPTY_ELEMENTDATA" "[Ljava/lang/Object;" : Cond) ∈ zx_G := zx_wi 211 (by decide +kernel) (by decide +kernel)
theorem mm_213 : (.fieldLink RJx4a65c 9 "java/util/ArrayList" "elementData" "[Ljava/lang/Object;" : Cond) ∈ zx_G := zx_wi 213 (by decide +kernel) (by decide +kernel)
theorem mm_217 : (.fieldLink RJxc12de 7 "java/util/AbstractList" "modCount" "I" : Cond) ∈ zx_G := zx_wi 217 (by decide +kernel) (by decide +kernel)
set_option maxHeartbeats 4000000 in
set_option maxRecDepth 100000 in
theorem c_AC_init (l : Launch) (hst : l.stackTraces = false) (D : va_G) (cy : Nat → ClassId) (ed sz : Nat) (pa : Nat) (mc : Int32) (sz9 : Int32) : Met l yJxa1e45_init_da8c8 wzJxa1e45_init_da8c8 ({ frames := 1, cells := 0, slots := 0, locals := 12 }) (zx_Pc D cy ed sz [.ref pa] [(pa, .inr (4, [.int mc, .null, .int sz9]))]) (va_Qv (fun (u9 : Unit) => True) (fun (u9 : Unit) (t9 : State) => zx_At D cy (va_A [(pa, .inr (4, [.int mc, .null, .int sz9]))] sz) [(pa, .inr (4, [.int mc, .null, .int sz9]))] t9) (va_A [(pa, .inr (4, [.int mc, .null, .int sz9]))] sz)) 0 0 (va_A [(pa, .inr (4, [.int mc, .null, .int sz9]))] sz) := by
  refine Met.ofW (cc := cJxa1e45_init_da8c8) (maxL := 1) (ret := none) (by decide) rfl ?_
  intro p e s m args below meth c s₁ B hml hv
  obtain ⟨rfl, hsz, hP, hK, hD0, hZ, hN⟩ := hv
  have hx := B.exec
  have hb := B.bytes
  have hr := B.returns
  have hts := atoms_spec (ws := wzJxa1e45_init_da8c8) B.pre
  have hown : s.vm.findClass RJxa1e45 = some m.cls := findClass_of_methodNamed B.named
  have hlocks := B.notSynchronized
  have hin : meth.name = "<init>" := (name_of_methodNamed B.named B.method).1
  subst hsz
  have hD := hD0.self (sz := s.heap.size)
  generalize hAe : va_A [(pa, .inr (4, [.int mc, .null, .int sz9]))] s.heap.size = A at hD hZ ⊢
  have hA : ∀ q : Nat, s.heap.size ≤ q → A q := fun q h => by rw [← hAe]; exact Or.inr h
  have hS : va_S A s.heap s.heap [] := va_S.rf
  have hP : va_P D vwCl [(pa, .inr (4, [.int mc, .null, .int sz9]))] s.heap := hP
  have hl := lv_entry ([.ref pa]) (n := 1) (Nat.le_of_ble_eq_true rfl)
  rw [lg_entry_eq]
  generalize (lg_sl ([.ref pa]) ++ List.replicate (1 - (lg_sl ([.ref pa])).length) Slot.unset).toArray = ls at hl ⊢
  have hl : lv_has ls 1 [(0, .ref pa)] := hl
  refine lv_aload_n hx hb dJxa1e45_init_da8c8_0 rfl (lv_at hl 0 rfl) ?_
  refine W.objInit hx hb hown (hts (.methodLink RJxa1e45 1 objectInit) (zx_Gc mm_210)) (hts (.instanceMethod objectInit) (zx_Gc mm_119)) (hts (.code objectInit ⟨#[0xb1]⟩ 1 none) (zx_Gc mm_120)) rfl (by rw [hml]; exact hl.1) rfl dJxa1e45_init_da8c8_1 (Nat.le_of_ble_eq_true rfl) (Nat.le_of_ble_eq_true rfl) ?_
  refine W.eq (g2 := F0 m 4 ls []) rfl ?_
  have hP9 := hP.sub (ws' := [(pa, .inr (4, [.int mc, .null, .int sz9]))]) [0] rfl
  have hD9 := hD.sub (ws' := [(pa, .inr (4, [.int mc, .null, .int sz9]))]) [0] (by decide) rfl
  exact W.vret hx hb hr (fun t ht hW => ⟨⟨(), rfl, trivial, zx_fin hP9 hD9 hK ht hW⟩, hS.F ht⟩) hS.2.2 dJxa1e45_init_da8c8_4
set_option maxHeartbeats 4000000 in
set_option maxRecDepth 100000 in
theorem c_AbL_init (l : Launch) (hst : l.stackTraces = false) (D : va_G) (cy : Nat → ClassId) (ed sz : Nat) (pa : Nat) (mc : Int32) (sz9 : Int32) : Met l yJxc12de_init_da8c8 wzJxc12de_init_da8c8 ({ frames := 2, cells := 0, slots := 0, locals := 32 }) (zx_Pc D cy ed sz [.ref pa] [(pa, .inr (4, [.int mc, .null, .int sz9]))]) (va_Qv (fun (u9 : Unit) => True) (fun (u9 : Unit) (t9 : State) => zx_At D cy (va_A [(pa, .inr (4, [.int mc, .null, .int sz9]))] sz) [(pa, .inr (4, [.int 0, .null, .int sz9]))] t9) (va_A [(pa, .inr (4, [.int mc, .null, .int sz9]))] sz)) 0 0 (va_A [(pa, .inr (4, [.int mc, .null, .int sz9]))] sz) := by
  refine Met.ofW (cc := cJxc12de_init_da8c8) (maxL := 1) (ret := none) (by decide) rfl ?_
  intro p e s m args below meth c s₁ B hml hv
  obtain ⟨rfl, hsz, hP, hK, hD0, hZ, hN⟩ := hv
  have hx := B.exec
  have hb := B.bytes
  have hr := B.returns
  have hts := atoms_spec (ws := wzJxc12de_init_da8c8) B.pre
  have hown : s.vm.findClass RJxc12de = some m.cls := findClass_of_methodNamed B.named
  have hlocks := B.notSynchronized
  have hin : meth.name = "<init>" := (name_of_methodNamed B.named B.method).1
  subst hsz
  have hD := hD0.self (sz := s.heap.size)
  generalize hAe : va_A [(pa, .inr (4, [.int mc, .null, .int sz9]))] s.heap.size = A at hD hZ ⊢
  have hA : ∀ q : Nat, s.heap.size ≤ q → A q := fun q h => by rw [← hAe]; exact Or.inr h
  have hS : va_S A s.heap s.heap [] := va_S.rf
  have hP : va_P D vwCl [(pa, .inr (4, [.int mc, .null, .int sz9]))] s.heap := hP
  have hl := lv_entry ([.ref pa]) (n := 1) (Nat.le_of_ble_eq_true rfl)
  rw [lg_entry_eq]
  generalize (lg_sl ([.ref pa]) ++ List.replicate (1 - (lg_sl ([.ref pa])).length) Slot.unset).toArray = ls at hl ⊢
  have hl : lv_has ls 1 [(0, .ref pa)] := hl
  refine lv_aload_n hx hb dJxc12de_init_da8c8_0 rfl (lv_at hl 0 rfl) ?_
  have hPc := hP.sub (ws' := [(pa, .inr (4, [.int mc, .null, .int sz9]))]) [0] rfl
  have hDc := hD.sub (ws' := [(pa, .inr (4, [.int mc, .null, .int sz9]))]) [0] (by decide) rfl
  have hFc := va_free (wc := [(pa, .inr (4, [.int mc, .null, .int sz9]))]) hD hS hA [0] rfl
  refine va_callv (va_runI (As := []) (rest := []) ⟨hx, hb, hml, hown, hts⟩ (c_AC_init l hst D cy ed s.heap.size pa mc sz9) (cwI 0 hts (zx_GI mm_209) rfl rfl rfl (hts (.initialized RJxa1e45) (zx_Gc mm_75)) (hts (.methodLink RJxc12de 1 yJxa1e45_init_da8c8) (zx_Gc mm_207)) (hts (.instanceMethod yJxa1e45_init_da8c8) (zx_Gc mm_208)) rfl (by decide +kernel) ⟨(Nat.le_of_ble_eq_true rfl), (Nat.le_of_ble_eq_true rfl)⟩) ⟨zx_blind, zx_give hPc hK hDc hS hFc hZ hN⟩ rfl rfl hl.1 rfl (lv_room (Nat.le_of_ble_eq_true rfl)) dJxc12de_init_da8c8_1 ⟨(Nat.le_of_ble_eq_true rfl), (Nat.le_of_ble_eq_true rfl)⟩) hS (fun q _ h => hFc q h) hFc (fun u t H1 locs ht hvm hw hB hz1 hk1 hS => ?_)
  obtain ⟨hP, hD⟩ := zx_join (wr := []) (w1 := [(pa, .inr (4, [.int mc, .null, .int sz9]))]) [0] [] rfl rfl (by decide) (by decide) hP hD hk1 hFc hB ht
  generalize H1 = H at hP hS ⊢
  have hP : va_P D vwCl [(pa, .inr (4, [.int mc, .null, .int sz9]))] H := hP
  have hD : va_D A [(pa, .inr (4, [.int mc, .null, .int sz9]))] := hD
  refine W.widen (k := 0) (n := 0) (Nat.le_of_ble_eq_true rfl) (Nat.le_of_ble_eq_true rfl) ?_
  refine lv_aload_n hx hb dJxc12de_init_da8c8_4 rfl (lv_at hl 0 rfl) ?_
  refine lv_iconst (v := 0) hx hb dJxc12de_init_da8c8_5 (by decide) ?_
  refine va_put (D := D) (ci := 4) (v := .int 0) (ty := .int) (C := RJx4a65c) (T := TJx4a65c) (N := 3) hx hb hts (fun w h => zx_Gc (uz_Jx4a65c w h)) tyJx4a65c tyJx4a65c_ok nmJx4a65c hown hK hP hD hS 0 rfl rfl 0 (by decide) (hts (.fieldLink RJxc12de 7 "java/util/AbstractList" "modCount" "I") (zx_Gc mm_217)) (fun _ h9 => h9) rfl (by decide +kernel) rfl rfl (Nat.le_of_ble_eq_true rfl) dJxc12de_init_da8c8_6 (fun H locs hP hD hS => ?_)
  have hP : va_P D vwCl [(pa, .inr (4, [.int 0, .null, .int sz9]))] H := hP
  have hD : va_D A [(pa, .inr (4, [.int 0, .null, .int sz9]))] := hD
  have hP9 := hP.sub (ws' := [(pa, .inr (4, [.int 0, .null, .int sz9]))]) [0] rfl
  have hD9 := hD.sub (ws' := [(pa, .inr (4, [.int 0, .null, .int sz9]))]) [0] (by decide) rfl
  exact W.vret hx hb hr (fun t ht hW => ⟨⟨(), rfl, trivial, zx_fin hP9 hD9 hK ht hW⟩, hS.F ht⟩) hS.2.2 dJxc12de_init_da8c8_9
set_option maxHeartbeats 4000000 in
set_option maxRecDepth 100000 in
theorem c_AL_init (l : Launch) (hst : l.stackTraces = false) (D : va_G) (cy : Nat → ClassId) (ed sz : Nat) (pa : Nat) (mc : Int32) : Met l yJx4a65c_init_da8c8 wzJx4a65c_init_da8c8 ({ frames := 3, cells := 0, slots := 0, locals := 52 }) (zx_Pc D cy ed sz [.ref pa] [(pa, .inr (4, [.int mc, .null, .int 0]))]) (va_Qv (fun (u9 : Unit) => True) (fun (u9 : Unit) (t9 : State) => zx_At D cy (va_A [(pa, .inr (4, [.int mc, .null, .int 0]))] sz) [(pa, .inr (4, [.int 0, .ref ed, .int 0]))] t9) (va_A [(pa, .inr (4, [.int mc, .null, .int 0]))] sz)) 0 0 (va_A [(pa, .inr (4, [.int mc, .null, .int 0]))] sz) := by
  refine Met.ofW (cc := cJx4a65c_init_da8c8) (maxL := 1) (ret := none) (by decide) rfl ?_
  intro p e s m args below meth c s₁ B hml hv
  obtain ⟨rfl, hsz, hP, hK, hD0, hZ, hN⟩ := hv
  have hx := B.exec
  have hb := B.bytes
  have hr := B.returns
  have hts := atoms_spec (ws := wzJx4a65c_init_da8c8) B.pre
  have hown : s.vm.findClass RJx4a65c = some m.cls := findClass_of_methodNamed B.named
  have hlocks := B.notSynchronized
  have hin : meth.name = "<init>" := (name_of_methodNamed B.named B.method).1
  subst hsz
  have hD := hD0.self (sz := s.heap.size)
  generalize hAe : va_A [(pa, .inr (4, [.int mc, .null, .int 0]))] s.heap.size = A at hD hZ ⊢
  have hA : ∀ q : Nat, s.heap.size ≤ q → A q := fun q h => by rw [← hAe]; exact Or.inr h
  have hS : va_S A s.heap s.heap [] := va_S.rf
  have hP : va_P D vwCl [(pa, .inr (4, [.int mc, .null, .int 0]))] s.heap := hP
  have hl := lv_entry ([.ref pa]) (n := 1) (Nat.le_of_ble_eq_true rfl)
  rw [lg_entry_eq]
  generalize (lg_sl ([.ref pa]) ++ List.replicate (1 - (lg_sl ([.ref pa])).length) Slot.unset).toArray = ls at hl ⊢
  have hl : lv_has ls 1 [(0, .ref pa)] := hl
  refine lv_aload_n hx hb dJx4a65c_init_da8c8_0 rfl (lv_at hl 0 rfl) ?_
  have hPc := hP.sub (ws' := [(pa, .inr (4, [.int mc, .null, .int 0]))]) [0] rfl
  have hDc := hD.sub (ws' := [(pa, .inr (4, [.int mc, .null, .int 0]))]) [0] (by decide) rfl
  have hFc := va_free (wc := [(pa, .inr (4, [.int mc, .null, .int 0]))]) hD hS hA [0] rfl
  refine va_callv (va_runI (As := []) (rest := []) ⟨hx, hb, hml, hown, hts⟩ (c_AbL_init l hst D cy ed s.heap.size pa mc 0) (cwI 0 hts (zx_GI mm_206) rfl rfl rfl (hts (.initialized RJxc12de) (zx_Gc mm_76)) (hts (.methodLink RJx4a65c 1 yJxc12de_init_da8c8) (zx_Gc mm_204)) (hts (.instanceMethod yJxc12de_init_da8c8) (zx_Gc mm_205)) rfl (by decide +kernel) ⟨(Nat.le_of_ble_eq_true rfl), (Nat.le_of_ble_eq_true rfl)⟩) ⟨zx_blind, zx_give hPc hK hDc hS hFc hZ hN⟩ rfl rfl hl.1 rfl (lv_room (Nat.le_of_ble_eq_true rfl)) dJx4a65c_init_da8c8_1 ⟨(Nat.le_of_ble_eq_true rfl), (Nat.le_of_ble_eq_true rfl)⟩) hS (fun q _ h => hFc q h) hFc (fun u t H1 locs ht hvm hw hB hz1 hk1 hS => ?_)
  obtain ⟨hP, hD⟩ := zx_join (wr := []) (w1 := [(pa, .inr (4, [.int 0, .null, .int 0]))]) [0] [] rfl rfl (by decide) (by decide) hP hD hk1 hFc hB ht
  generalize H1 = H at hP hS ⊢
  have hP : va_P D vwCl [(pa, .inr (4, [.int 0, .null, .int 0]))] H := hP
  have hD : va_D A [(pa, .inr (4, [.int 0, .null, .int 0]))] := hD
  refine W.widen (k := 0) (n := 0) (Nat.le_of_ble_eq_true rfl) (Nat.le_of_ble_eq_true rfl) ?_
  refine lv_aload_n hx hb dJx4a65c_init_da8c8_4 rfl (lv_at hl 0 rfl) ?_
  refine va_gets hx hb hZ.2.2.1 hS hown (hts (.fieldLink RJx4a65c 39 "java/util/ArrayList" "DEFAULTCAPACITY_EMPTY_ELEMENTDATA" "[Ljava/lang/Object;") (zx_Gc mm_211)) (fun _ h9 => h9) dJx4a65c_init_da8c8_5 ?_
  refine va_put (D := D) (ci := 4) (v := .ref ed) (ty := .array (.object "java/lang/Object")) (C := RJx4a65c) (T := TJx4a65c) (N := 3) hx hb hts (fun w h => zx_Gc (uz_Jx4a65c w h)) tyJx4a65c tyJx4a65c_ok nmJx4a65c hown hK hP hD hS 0 rfl rfl 1 (by decide) (hts (.fieldLink RJx4a65c 9 "java/util/ArrayList" "elementData" "[Ljava/lang/Object;") (zx_Gc mm_213)) (fun _ h9 => h9) rfl (by decide +kernel) rfl rfl (Nat.le_of_ble_eq_true rfl) dJx4a65c_init_da8c8_8 (fun H locs hP hD hS => ?_)
  have hP : va_P D vwCl [(pa, .inr (4, [.int 0, .ref ed, .int 0]))] H := hP
  have hD : va_D A [(pa, .inr (4, [.int 0, .ref ed, .int 0]))] := hD
  have hP9 := hP.sub (ws' := [(pa, .inr (4, [.int 0, .ref ed, .int 0]))]) [0] rfl
  have hD9 := hD.sub (ws' := [(pa, .inr (4, [.int 0, .ref ed, .int 0]))]) [0] (by decide) rfl
  exact W.vret hx hb hr (fun t ht hW => ⟨⟨(), rfl, trivial, zx_fin hP9 hD9 hK ht hW⟩, hS.F ht⟩) hS.2.2 dJx4a65c_init_da8c8_11
set_option maxHeartbeats 4000000 in
set_option maxRecDepth 100000 in
theorem c_fill (l : Launch) (hst : l.stackTraces = false) (D : va_G) (cy : Nat → ClassId) (ed sz : Nat) (a0 : Nat) (N : Nat) (f : Nat → Int32) (v : Int32) (hN9 : N < 2 ^ 31) : Met l yJ7_fill_53178 wzJ7_fill_53178 ({ frames := 0, cells := 0, slots := 0, locals := 0 }) (zx_Pc D cy ed sz [.ref a0, .int v] [(a0, .inl (cy 0, N, .inl f))]) (va_Qv (fun (u9 : Nat → Int32) => match u9 with | f2 => True) (fun (u9 : Nat → Int32) (t9 : State) => match u9 with | f2 => zx_At D cy (va_A [(a0, .inl (cy 0, N, .inl f))] sz) [(a0, .inl (cy 0, N, .inl f2))] t9) (va_A [(a0, .inl (cy 0, N, .inl f))] sz)) 0 0 (va_A [(a0, .inl (cy 0, N, .inl f))] sz) := by
  refine Met.ofW (cc := cJ7_fill_53178) (maxL := 4) (ret := none) (by decide) rfl ?_
  intro p e s m args below meth c s₁ B hml hv
  obtain ⟨rfl, hsz, hP, hK, hD0, hZ, hN⟩ := hv
  have hx := B.exec
  have hb := B.bytes
  have hr := B.returns
  have hts := atoms_spec (ws := wzJ7_fill_53178) B.pre
  have hown : s.vm.findClass RJ7 = some m.cls := findClass_of_methodNamed B.named
  have hlocks := B.notSynchronized
  subst hsz
  have hD := hD0.self (sz := s.heap.size)
  generalize hAe : va_A [(a0, .inl (cy 0, N, .inl f))] s.heap.size = A at hD hZ ⊢
  have hA : ∀ q : Nat, s.heap.size ≤ q → A q := fun q h => by rw [← hAe]; exact Or.inr h
  have hS : va_S A s.heap s.heap [] := va_S.rf
  have hP : va_P D vwCl [(a0, .inl (cy 0, N, .inl f))] s.heap := hP
  have hl := lv_entry ([.ref a0, .int v]) (n := 4) (Nat.le_of_ble_eq_true rfl)
  rw [lg_entry_eq]
  generalize (lg_sl ([.ref a0, .int v]) ++ List.replicate (4 - (lg_sl ([.ref a0, .int v])).length) Slot.unset).toArray = ls at hl ⊢
  have hl : lv_has ls 4 [(0, .ref a0), (1, .int v)] := hl
  refine lv_iconst (v := nI 0) hx hb dJ7_fill_53178_0 (by decide) ?_
  refine lv_istore_n (lv' := [(2, .int (nI 0)), (0, .ref a0), (1, .int v)]) hx hb dJ7_fill_53178_1 rfl hl (by decide) rfl (fun ls hl => ?_)
  refine lv_aload_n hx hb dJ7_fill_53178_2 rfl (lv_at hl 1 rfl) ?_
  refine va_alen (v := (nI N)) hx hb hK hP 0 0 rfl rfl rfl dJ7_fill_53178_3 ?_
  refine lv_istore_n (lv' := [(3, .int (nI N)), (2, .int (nI 0)), (0, .ref a0), (1, .int v)]) hx hb dJ7_fill_53178_4 rfl hl (by decide) rfl (fun ls hl => ?_)
  refine zx_loop (P := fun i H locs ls => ∃ f : Nat → Int32, va_P D vwCl [(a0, .inl (cy 0, N, .inl f))] H ∧ va_D A [(a0, .inl (cy 0, N, .inl f))] ∧ va_S A s.heap H locs ∧ lv_has ls 4 [(2, .int (nI i)), (3, .int (nI N)), (0, .ref a0), (1, .int v)]) (N := N) 0 (Nat.zero_le _) ⟨_, hP, hD, hS, lv_sub hl [1, 0, 2, 3] rfl⟩ (fun i hi ih H locs ls hj => ?_)
  obtain ⟨f, hP, hD, hS, hl⟩ := hj
  refine lv_iload_n hx hb dJ7_fill_53178_5 rfl (lv_at hl 0 rfl) ?_
  refine lv_iload_n hx hb dJ7_fill_53178_6 rfl (lv_at hl 1 rfl) ?_
  refine lv_icmp_ge (tgt := 20) hx hb dJ7_fill_53178_7 (by decide) (fun c_12 => ?_) (fun c_12 => ?_)
  ·
    have hP9 := hP.sub (ws' := [(a0, .inl (cy 0, N, .inl f))]) [0] rfl
    have hD9 := hD.sub (ws' := [(a0, .inl (cy 0, N, .inl f))]) [0] (by decide) rfl
    exact W.vret hx hb hr (fun t ht hW => ⟨⟨f, rfl, trivial, zx_fin hP9 hD9 hK ht hW⟩, hS.F ht⟩) hS.2.2 dJ7_fill_53178_20
  ·
    have hlt9 : i < N := Nat.lt_of_not_le (fun q9 => c_12 (nI_le q9 (by omega)))
    refine lv_aload_n hx hb dJ7_fill_53178_10 rfl (lv_at hl 2 rfl) ?_
    refine lv_iload_n hx hb dJ7_fill_53178_11 rfl (lv_at hl 0 rfl) ?_
    refine lv_iload_n hx hb dJ7_fill_53178_12 rfl (lv_at hl 3 rfl) ?_
    refine va_iast hx hb hK hP hD hS 0 0 rfl rfl (vp_in_nI hlt9 (by omega)) dJ7_fill_53178_13 (fun H locs hP hD hS => ?_)
    have hP : va_P D vwCl [(a0, .inl (cy 0, N, .inl (upd f (nI i).toNatClampNeg v)))] H := hP
    have hD : va_D A [(a0, .inl (cy 0, N, .inl (upd f (nI i).toNatClampNeg v)))] := hD
    refine lv_iinc (v := nI (i + 1)) (lv' := [(2, .int (nI (i + 1))), (3, .int (nI N)), (0, .ref a0), (1, .int v)]) hx hb dJ7_fill_53178_14 hl (k := 0) rfl (by rw [nI_succ]; rfl) (by decide) rfl (fun ls hl => ?_)
    refine lv_goto (tgt := 5) hx hb dJ7_fill_53178_17 (by decide) ?_
    exact ih _ _ _ hlt9 ⟨_, hP, hD, hS, lv_sub hl [0, 1, 2, 3] rfl⟩

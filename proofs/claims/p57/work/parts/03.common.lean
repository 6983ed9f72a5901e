/-! ===== one list of words for all methods: the tables' good words ===== -/
/-- a private method's choice for an object of a class below the method's own: wanting in the tables' words, got out of those that are there -/
abbrev zx_yE : MethodName := ⟨"java/lang/AbstractStringBuilder", "ensureCapacityInternal", "(I)V"⟩
abbrev zx_yL : MethodName := ⟨"java/lang/AbstractStringBuilder", "isLatin1", "()Z"⟩
def zx_more : List Cond := [Cond.selects "java/lang/StringBuilder" zx_yE zx_yE]
def zx_tb : List Cond := lw_tbl ++ zx_more
theorem zx_selects_up {C : String} {y x : MethodName} {s : State} {args : Array Value} {n : Nat} (hy : y.cls ≠ "java/lang/invoke/MethodHandle" ∧ y.cls ≠ "java/lang/invoke/VarHandle") (hxy : x.cls = y.cls)
    (hins : (Cond.instantiable C n).before args s = true) (hpriv : (Cond.privateMethod y).before args s = true) (hinst : (Cond.instanceMethod y).before args s = true) (hx : (Cond.selects C x x).before args s = true) : (Cond.selects C y y).before args s = true := by
  obtain ⟨c, k, hc, hk, -, -, -, -⟩ := Cond.instantiable_spec hins
  obtain ⟨mk, methM, hnamed, hmethM, -, -⟩ := Cond.instanceMethod_spec hinst
  have hfound : s.methodFound? y.cls y.name y.desc = some mk := State.methodFound?_of_named hnamed hy
  have hsel : selectMethod {} s.vm c mk = .method mk := selectMethod_private hmethM (Cond.privateMethod_at hpriv mk methM hnamed hmethM)
  have hcls : s.vm.findClass y.cls = some mk.cls := findClass_of_methodNamed hnamed
  have hni : (s.vm.classes[mk.cls]?).any (!·.isInterface) = true := by
    simp only [Cond.before, Cond.holds, Cond.value, hc] at hx
    cases h1 : s.methodFound? x.cls x.name x.desc with
    | none => simp [h1] at hx
    | some r =>
      cases h2 : s.methodNamed? x with
      | none => simp [h1, h2] at hx
      | some q =>
        simp only [h1, h2] at hx
        have hq : q.cls = mk.cls := Option.some.inj ((findClass_of_methodNamed h2).symm.trans (by rw [hxy]; exact hcls))
        cases h3 : selectMethod {} s.vm c r with
        | method m' =>
          simp only [h3] at hx
          rw [← hq]
          simp at hx
          simpa using hx.2
        | _ => simp [h3] at hx
  simp only [Cond.before, Cond.holds, Cond.value, hc, hfound, hnamed, hsel]
  simpa using hni
theorem zx_tb_all {args : Array Value} {s : State} (h : ∀ w ∈ lw_tbl, w.before args s = true) : ∀ w ∈ zx_tb, w.before args s = true := by
  intro w hw
  rcases List.mem_append.mp hw with hw | hw
  · exact h w hw
  · rw [List.mem_singleton.mp hw]
    exact zx_selects_up (n := 4) (x := zx_yL) (by decide) rfl (h _ (by decide +kernel)) (h _ (by decide +kernel)) (h _ (by decide +kernel)) (h _ (by decide +kernel))
def zx_G : List Cond := zx_tb.filter goodWord
theorem zx_wi {w : Cond} (i : Nat) (h : zx_tb[i]? = some w) (g : goodWord w = true) : w ∈ zx_G := List.mem_filter.mpr ⟨List.mem_of_getElem? h, g⟩
theorem zx_Gc {c0 w : Cond} (h : w ∈ zx_G) : w ∈ c0 :: zx_G := List.mem_cons_of_mem _ h
theorem zx_gw {c0 w : Cond} (h : w ∈ zx_G) : w ∈ c0 :: zx_G ∧ ((w.onTables && w.keeps) = true ∨ ∃ ty, w = .arrayClass ty) := ⟨zx_Gc h, good_of_word (List.mem_filter.mp h).2⟩
theorem zx_GI {c0 c1 : Cond} (h : c1 ∈ zx_G) : GoodIn (c0 :: zx_G) (c1 :: zx_G) := fun w hw => (List.mem_cons.mp hw).elim (fun e => by rw [e]; exact zx_gw h) (fun hw => zx_gw hw)
theorem zx_GV {c0 c1 : Cond} {own C : String} {idx : Nat} {y : MethodName} (h1 : Cond.methodLink own idx y ∈ zx_G) (h2 : Cond.instanceMethod y ∈ zx_G) (h3 : Cond.selects C y y ∈ zx_G) (h4 : Cond.initialized C ∈ zx_G) (h5 : c1 ∈ zx_G) : GoodIn (c0 :: zx_G) (wsV own idx C y (c1 :: zx_G)) := by
  intro w hw
  unfold wsV at hw
  rcases List.mem_append.mp hw with hw | hw
  · simp only [List.mem_cons, List.not_mem_nil, or_false] at hw
    rcases hw with rfl | rfl | rfl | rfl
    · exact zx_gw h1
    · exact zx_gw h2
    · exact zx_gw h3
    · exact zx_gw h4
  · exact zx_GI h5 w hw
theorem zx_GS {c0 c1 : Cond} {own : String} {idx : Nat} {y : MethodName} (h1 : Cond.methodLink own idx y ∈ zx_G) (h2 : Cond.static y ∈ zx_G) (h3 : Cond.initialized y.cls ∈ zx_G) (h5 : c1 ∈ zx_G) : GoodIn (c0 :: zx_G) (va_wsS own idx y (c1 :: zx_G)) := by
  intro w hw
  unfold va_wsS at hw
  rcases List.mem_append.mp hw with hw | hw
  · simp only [List.mem_cons, List.not_mem_nil, or_false] at hw
    rcases hw with rfl | rfl | rfl
    · exact zx_gw h1
    · exact zx_gw h2
    · exact zx_gw h3
  · exact zx_GI h5 w hw
theorem zx_GF {c0 c1 : Cond} {own C : String} {idx : Nat} {x y : MethodName} (h1 : Cond.methodLink own idx x ∈ zx_G) (h2 : Cond.selects C x y ∈ zx_G) (h3 : Cond.instanceMethod y ∈ zx_G) (h4 : Cond.initialized y.cls ∈ zx_G) (h5 : c1 ∈ zx_G) : GoodIn (c0 :: zx_G) (va_wsF own idx C x y (c1 :: zx_G)) := by
  intro w hw
  unfold va_wsF at hw
  rcases List.mem_append.mp hw with hw | hw
  · simp only [List.mem_cons, List.not_mem_nil, or_false] at hw
    rcases hw with rfl | rfl | rfl | rfl
    · exact zx_gw h1
    · exact zx_gw h2
    · exact zx_gw h3
    · exact zx_gw h4
  · exact zx_GI h5 w hw
/-- the fields of a class: their words, by their places -/
theorem zx_us {C : String} {T : u_T} {N : Nat} (f : List Nat) (h : ∀ k, k < N → zx_tb[f.getD k 0]? = some (u_lay C T k) ∧ goodWord (u_lay C T k) = true) : ∀ w ∈ u_ws C T N, w ∈ zx_G := by
  intro w hw
  obtain ⟨k, hk, rfl⟩ := List.mem_map.mp hw
  have h1 := h k (List.mem_range.mp hk)
  exact zx_wi _ h1.1 h1.2
theorem zx_thw {L : List Cond} (h : ∀ w ∈ L.filter goodWord, w ∈ zx_tb) : ∀ w ∈ L.filter goodWord, w ∈ zx_G := fun w hw => List.mem_filter.mpr ⟨h w hw, (List.mem_filter.mp hw).2⟩
/-! ===== what the tables say beside those words: nest mates' links, casts, interfaces ===== -/
def zx_nestF : Cond → Bool
  | .fieldLinkNest .. => true
  | _ => false
def zx_nestM : Cond → Bool
  | .methodLinkNest .. => true
  | _ => false
theorem zx_cast_mk {args : Array Value} {U : State} {E N : String} {c t : ClassId} (h1 : U.vm.findClass E = some c) (h2 : U.vm.findClass N = some t) (h3 : U.vm.assignable c t = true) : (Cond.castable E N).before args U = true := by
  simp [Cond.before, Cond.holds, Cond.value, h1, h2, h3]
theorem zx_cast_moved {a a' : Array Value} {u U : State} {E N : String} (hvm : u.vm.Alike U.vm) (h : (Cond.castable E N).before a u = true) : (Cond.castable E N).before a' U = true := by
  obtain ⟨c, t, h1, h2, h3⟩ := Cond.castable_spec h
  exact zx_cast_mk (by rw [hvm.findClass]; exact h1) (by rw [hvm.findClass]; exact h2) (by rw [hvm.assignable]; exact h3)
theorem zx_decl_moved {a a' : Array Value} {u U : State} {x : MethodName} (hvm : u.vm.Alike U.vm) (h : (Cond.declares x).before a u = true) : (Cond.declares x).before a' U = true := by
  have h1 : (Cond.declares x).before a (u.setVm U.vm) = true := by rw [Cond.declares_setVm hvm]; exact h
  have e := Cond.onTables_vm (A := a) (A' := a') (U := u) (U' := U) U.vm (.declares x) rfl
  have hU : U.setVm U.vm = U := rfl
  rw [hU] at e
  rw [← e]
  exact h1
abbrev zx_itH : MethodName := ⟨"java/util/Iterator", "hasNext", "()Z"⟩
abbrev zx_itN : MethodName := ⟨"java/util/Iterator", "next", "()Ljava/lang/Object;"⟩
abbrev zx_yH : MethodName := ⟨"java/util/ArrayList$Itr", "hasNext", "()Z"⟩
abbrev zx_yN : MethodName := ⟨"java/util/ArrayList$Itr", "next", "()Ljava/lang/Object;"⟩
def zx_Nn (mi : Nat) (U : State) : Prop :=
  (∀ a i b n d h, Cond.fieldLinkNest a i b n d h ∈ lw_tbl → va_Nw (.fieldLinkNest a i b n d h) U) ∧
  (∀ a i x h, Cond.methodLinkNest a i x h ∈ lw_tbl → va_Nw (.methodLinkNest a i x h) U) ∧
  (∀ a b, Cond.castable a b ∈ lw_tbl → (Cond.castable a b).before #[] U = true) ∧
  (∀ a b, Cond.not (.castable a b) ∈ flatC narrow_1 → va_Nc a b U) ∧
  va_Fw "java/util/ArrayList$Itr" zx_itH zx_yH U ∧ va_Fw "java/util/ArrayList$Itr" zx_itN zx_yN U ∧
  (∀ x, Cond.declares x ∈ lw_tbl → (Cond.declares x).before #[] U = true) ∧ va_AO "java/lang/Object" U ∧ va_Mi "[Ljava/lang/Object;" mi U ∧ va_Dc U
theorem zx_Nn.warm {mi : Nat} {s U : State} (hW : s.WarmedH U.vm) (h : zx_Nn mi s) : zx_Nn mi U := by
  obtain ⟨h1, h2, h3, h4, h5, h6, h7, h8, h9, h10⟩ := h
  exact ⟨fun a i b n d h hw => va_Nw.warmF hW (h1 a i b n d h hw), fun a i x h hw => va_Nw.warmM hW (h2 a i x h hw), fun a b hw => zx_cast_moved hW.alike (h3 a b hw), fun a b hw => va_Nc.moved hW.alike (h4 a b hw), va_Fw.moved (by decide) hW.alike h5, va_Fw.moved (by decide) hW.alike h6, fun x hw => zx_decl_moved hW.alike (h7 x hw), h8.moved hW.alike, h9.moved hW.alike, h10.moved hW.alike⟩
theorem zx_Nn.same {mi : Nat} {s U : State} (hv : s.vm = U.vm) (h : zx_Nn mi s) : zx_Nn mi U := by
  obtain ⟨h1, h2, h3, h4, h5, h6, h7, h8, h9, h10⟩ := h
  have ha : s.vm.Alike U.vm := by rw [hv]; exact Vm.Alike.refl _
  exact ⟨fun a i b n d h hw => va_Nw.same rfl hv (h1 a i b n d h hw), fun a i x h hw => va_Nw.same rfl hv (h2 a i x h hw), fun a b hw => zx_cast_moved ha (h3 a b hw), fun a b hw => va_Nc.moved ha (h4 a b hw), va_Fw.moved (by decide) ha h5, va_Fw.moved (by decide) ha h6, fun x hw => zx_decl_moved ha (h7 x hw), h8.moved ha, h9.moved ha, h10.moved ha⟩
def zx_soft : Cond → Bool
  | .declares _ => true
  | .castable _ _ => true
  | _ => false
theorem zx_softs {mi : Nat} {L : List Cond} {args : Array Value} {s : State} (h : (L.filter (fun w => !goodWord w)).all (fun w => zx_soft w && decide (w ∈ lw_tbl)) = true) (hN : zx_Nn mi s) : ∀ w ∈ L.filter (fun w => !goodWord w), w.before args s = true := by
  intro w hw
  have h1 := List.all_eq_true.mp h w hw
  simp only [Bool.and_eq_true, decide_eq_true_eq] at h1
  obtain ⟨h2, h3⟩ := h1
  cases w with
  | declares x => exact zx_decl_moved (Vm.Alike.refl _) (hN.2.2.2.2.2.2.1 x h3)
  | castable a b => exact zx_cast_moved (Vm.Alike.refl _) (hN.2.2.1 a b h3)
  | _ => simp [zx_soft] at h2
/-! ===== what every contract here speaks of: the static cells, the world, the array classes ===== -/
def zx_T (cy : Nat → ClassId) : List (ClassId × FieldType) := [(cy 0, .int), (cy 1, .char), (cy 2, .object "java/lang/Object"), (cy 3, .long), (cy 4, .double), (cy 5, .byte)]
/-- the static cells that a method may meet: two of Throwable's, ArrayList's empty row at ed -/
def zx_St (ed : Nat) (A : Nat → Prop) (U : State) (H : Heap) : Prop :=
  vx_Zq Bundle.tN "UNASSIGNED_STACK" Bundle.steD A U H ∧ vx_Zq Bundle.tN "SUPPRESSED_SENTINEL" Bundle.listD A U H ∧ va_Z "java/util/ArrayList" "DEFAULTCAPACITY_EMPTY_ELEMENTDATA" "[Ljava/lang/Object;" (.ref ed) A U H ∧ va_T (.object "java/lang/Object") ed 0 (fun _ => .null) A U H ∧ va_Z "java/lang/String" "COMPACT_STRINGS" "Z" (.int 1) A U H
theorem zx_St.moved {ed : Nat} {A : Nat → Prop} {u U : State} {H : Heap} (hvm : u.vm.Alike U.vm) (h : zx_St ed A u H) : zx_St ed A U H := ⟨h.1.moved hvm, h.2.1.moved hvm, h.2.2.1.moved hvm, h.2.2.2.1.moved hvm, h.2.2.2.2.moved hvm⟩
theorem zx_St.kept {ed : Nat} {A : Nat → Prop} {U : State} {H H1 : Heap} (h : zx_St ed A U H) (hq : ∀ a : Nat, a < H.size → ¬ A a → H1[a]? = H[a]?) : zx_St ed A U H1 := ⟨h.1.kept hq, h.2.1.kept hq, h.2.2.1.kept hq, h.2.2.2.1.kept hq, h.2.2.2.2.kept hq⟩
theorem zx_St.narrow {ed : Nat} {A B : Nat → Prop} {U : State} {H : Heap} (h : zx_St ed A U H) (hAB : ∀ q, B q → A q) : zx_St ed B U H := ⟨h.1.narrow hAB, h.2.1.narrow hAB, h.2.2.1.narrow hAB, h.2.2.2.1.narrow hAB, h.2.2.2.2.narrow hAB⟩
/-- a method's start: its arguments av, its world ws, the heap of sz cells -/
def zx_Pc (D : va_G) (cy : Nat → ClassId) (ed sz : Nat) (av : List Value) (ws : va_W) : Array Value → State → Prop := va_Pc av (fun U => U.heap.size = sz ∧ va_P D vwCl ws U.heap ∧ va_K D vwCl (zx_T cy) U ∧ va_D (fun _ => True) ws ∧ zx_St ed (va_A ws sz) U U.heap ∧ zx_Nn (cy 6) U)
theorem zx_blind {D : va_G} {cy : Nat → ClassId} {ed sz : Nat} {av : List Value} {ws : va_W} : FrameBlind (zx_Pc D cy ed sz av ws) := by
  intro a U g mk h
  obtain ⟨h0, h1, h2, h3, h4, h5, h6⟩ := h
  exact ⟨h0, h1, h2, va_K.moved (u := U) (U := U.calling g mk a) (Vm.Alike.refl U.vm) h3, h4, zx_St.moved (u := U) (U := U.calling g mk a) (Vm.Alike.refl U.vm) h5, zx_Nn.same (s := U) (U := U.calling g mk a) rfl h6⟩
theorem zx_give {D : va_G} {cy : Nat → ClassId} {ed : Nat} {av : List Value} {wc : va_W} {A : Nat → Prop} {s : State} {H : Heap} {locs : List Loc} (hP : va_P D vwCl wc H) (hK : va_K D vwCl (zx_T cy) s) (hD : va_D A wc) (hS : va_S A s.heap H locs) (hF : ∀ q, va_A wc H.size q → A q) (hZ : zx_St ed A s s.heap) (hN : zx_Nn (cy 6) s) : ∀ U : State, U.heap = H → s.WarmedH U.vm → zx_Pc D cy ed H.size av wc av.toArray U := by
  intro U hU hW
  refine ⟨rfl, by rw [hU], by rw [hU]; exact hP, va_K.moved hW.alike hK, hD.weaken (fun _ _ _ _ => trivial), ?_, hN.warm hW⟩
  have h1 := (hZ.kept (H1 := H) hS.2.1).moved hW.alike
  rw [hU]
  exact h1.narrow hF
/-- the world behind a method -/
def zx_At (D : va_G) (cy : Nat → ClassId) (A : Nat → Prop) (ws : va_W) (t : State) : Prop := va_P D vwCl ws t.heap ∧ va_K D vwCl (zx_T cy) t ∧ va_D A ws
theorem zx_fin {D : va_G} {cy : Nat → ClassId} {A : Nat → Prop} {ws : va_W} {s t : State} {H : Heap} (hP : va_P D vwCl ws H) (hD : va_D A ws) (hK : va_K D vwCl (zx_T cy) s) (ht : t.heap = H) (hW : s.WarmedH t.vm) : zx_At D cy A ws t := ⟨by rw [ht]; exact hP, va_K.moved hW.alike hK, hD⟩
theorem zx_join {D : va_G} {cy : Nat → ClassId} {A : Nat → Prop} {ws wc wr w1 : va_W} {H H1 : Heap} {t : State} (isC isR : List Nat) (hC : isC.map (fun i => ws[i]?) = wc.map some) (hR : isR.map (fun i => ws[i]?) = wr.map some) (hn : va_nd isR = true) (hdis : ∀ i ∈ isR, i ∉ isC) (hP : va_P D vwCl ws H) (hD : va_D A ws) (hk : ∀ q : Nat, q < H.size → ¬ va_A wc H.size q → H1[q]? = H[q]?) (hF : ∀ q, va_A wc H.size q → A q) (hB : zx_At D cy (va_A wc H.size) w1 t) (ht : t.heap = H1) : va_P D vwCl (wr ++ w1) H1 ∧ va_D A (wr ++ w1) := by
  obtain ⟨h1, -, h3⟩ := hB
  rw [ht] at h1
  exact va_join hP hD isC isR hC hR hn hdis hk hF h1 h3
/-- the row of a type stands at one place of the tables -/
theorem zx_same {cl : List vw_C} {D : va_G} {cy : Nat → ClassId} {s : State} {cA : ClassId} {ty : FieldType} (k : Nat) {c0 : ClassId} (hk : (zx_T cy)[k]? = some (c0, ty)) (h : va_K D cl (zx_T cy ++ [(cA, ty)]) s) : cA = c0 := by
  have h1 := (h.2 k (c0, ty) (by rw [List.getElem?_append_left (List.getElem?_eq_some_iff.mp hk).1]; exact hk)).2
  have h2 := (h.2 (zx_T cy).length (cA, ty) (by simp)).2
  cases ty with
  | object C =>
    obtain ⟨k1, c1, -, -, -, g1⟩ := h1
    obtain ⟨k2, c2, -, -, -, g2⟩ := h2
    exact Option.some.inj (g2.symm.trans g1)
  | _ => exact Option.some.inj (h2.symm.trans h1)
/-- what a throw leaves behind: of the class thrown P holds, and nothing outside A has changed -/
def zx_X (P : String → Prop) (A : Nat → Prop) : String → State → State → Prop := vx_X (fun _ : Unit => True) (fun E9 _ _ => P E9) A
theorem zx_thr {P : String → Prop} {E : String} {A : Nat → Prop} {s : State} {H : Heap} {locs : List Loc} (hS : va_S A s.heap H locs) (hp : P E) : ∀ t : State, s.vm.Alike t.vm → H.size ≤ t.heap.size → (∀ q : Nat, q < H.size → t.heap[q]? = H[q]?) → zx_X P A E s t := fun t _ h1 h2 => ⟨(), trivial, hp, Nat.le_trans hS.1 h1, fun q h3 h4 => (h2 q (Nat.lt_of_lt_of_le h3 hS.1)).trans (hS.2.1 q h3 h4)⟩
theorem zx_pass {P : String → Prop} {E9 : String} {A : Nat → Prop} {s : State} {H : Heap} {locs : List Loc} (hS : va_S A s.heap H locs) (hp : P E9) : ∀ t : State, t.heap = H → s.vm.Alike t.vm → zx_X P A E9 s t := fun t ht _ => ⟨(), trivial, hp, by rw [ht]; exact hS.1, fun q h3 h4 => by rw [ht]; exact hS.2.1 q h3 h4⟩
/-- a number within two bounds, as 1 or 0 -/
def zx_in (a b c : Int32) : Int32 := if b ≤ a ∧ a ≤ c then 1 else 0
theorem zx_in_lt {a b c : Int32} (h : a < b) : (0 : Int32) = zx_in a b c := by
  unfold zx_in
  rw [if_neg (fun q => Int32.not_lt.mpr q.1 h)]
theorem zx_in_gt {a b c : Int32} (h : ¬ a ≤ c) : (0 : Int32) = zx_in a b c := by
  unfold zx_in
  rw [if_neg (fun q => h q.2)]
theorem zx_in_gt' {a b c : Int32} (h : c < a) : (0 : Int32) = zx_in a b c := zx_in_gt (Int32.not_le.mpr h)
theorem zx_in_yes {a b c : Int32} (h1 : ¬ a < b) (h2 : ¬ c < a) : (1 : Int32) = zx_in a b c := by
  unfold zx_in
  rw [if_pos ⟨Int32.not_lt.mp h1, Int32.not_lt.mp h2⟩]
theorem zx_in_none (a : Int32) : zx_in a 0 (0 - 1) = 0 := by
  unfold zx_in
  rw [if_neg]
  intro q
  have h := Int32.le_trans q.1 q.2
  revert h
  decide
theorem zx_nin (a b c : Int32) : narrow .boolean (.int (zx_in a b c)) = .int (zx_in a b c) := by
  unfold zx_in
  split <;> rfl
theorem zx_or0 (x : Int32) : x ||| 0 = x := by
  apply Int32.toBitVec_inj.mp
  simp
theorem zx_P0 {D : va_G} {cl : List vw_C} {H : Heap} : va_P D cl [] H := fun k q h => by simp at h
theorem zx_D0 {A : Nat → Prop} : va_D A [] := ⟨fun i j p q h => by simp at h, fun k q h => by simp at h⟩
theorem zx_at {D : va_G} {cl : List vw_C} {tys : List (ClassId × FieldType)} {s : State} (hK : va_K D cl tys s) (ci : Nat) {q : vw_C} (hc : cl[ci]? = some q) : ClassAt s q.1 (D.1 ci) := (hK.1 ci q hc).2
/-- a goal that several ways come to -/
theorem zx_cut {p : Program} {l : Launch} {e : Env} {R : Room} {s : State} {m : MethodId} {args : Array Value} {below : List Frame} {meth : Method} {c : Code} {H0 : Heap} {locs0 : List Loc} {cells slots : Nat} {Q : State → Prop} {P : Heap → List Loc → Array Slot → Prop} {pc2 : Nat} {st2 : List Value} {g : JFrame}
    (K : ∀ H locs ls, P H locs ls → W p l e R s m args below meth c H locs cells slots Q (F0 m pc2 ls st2))
    (k : (∀ H locs ls, P H locs ls → W p l e R s m args below meth c H locs cells slots Q (F0 m pc2 ls st2)) → W p l e R s m args below meth c H0 locs0 cells slots Q g) : W p l e R s m args below meth c H0 locs0 cells slots Q g := k K
theorem zx_in8 {a : Int32} (h : zx_in a 0 7 = 1) : vp_in a 8 := by
  unfold zx_in at h
  by_cases q : (0 : Int32) ≤ a ∧ a ≤ 7
  · obtain ⟨q1, q2⟩ := q
    intro q3
    rcases q3 with q3 | q3
    · exact absurd q1 (Int32.not_le.mpr q3)
    · rw [Int32.le_iff_toInt_le] at q1 q2
      have e1 : (0 : Int32).toInt = 0 := rfl
      have e2 : (7 : Int32).toInt = 7 := rfl
      rw [e1] at q1
      rw [e2] at q2
      have e3 : a.toNatClampNeg = a.toInt.toNat := rfl
      rw [e3] at q3
      omega
  · rw [if_neg q] at h
    exact absurd h (by decide)
theorem zx_in_01 (a b c : Int32) : zx_in a b c = 0 ∨ zx_in a b c = 1 := by
  unfold zx_in
  split
  · exact Or.inr rfl
  · exact Or.inl rfl
theorem zx_in_n0 {a b c : Int32} (h : ¬ zx_in a b c = 0) : zx_in a b c = 1 := (zx_in_01 a b c).resolve_left h
theorem zx_in_n1 {a b c : Int32} (h : ¬ zx_in a b c = 1) : zx_in a b c = 0 := (zx_in_01 a b c).resolve_right h
/-- a bit of a set, as the class reads it and as the check does -/
def zx_holds (s n : Int32) : Int32 := if n < 0 then 0 else if (32 : Int32) ≤ n then 0 else if (s >>> (n &&& 31)) &&& 1 = 0 then 0 else 1
def zx_has (s n : Int32) : Int32 := if (s >>> (n &&& 31)) &&& 1 = 1 then 1 else 0
theorem zx_holds_1 {s n : Int32} (h : n < 0) : (0 : Int32) = zx_holds s n := by unfold zx_holds; rw [if_pos h]
theorem zx_holds_2 {s n : Int32} (h : ¬ n < 0) (h2 : (32 : Int32) ≤ n) : (0 : Int32) = zx_holds s n := by unfold zx_holds; rw [if_neg h, if_pos h2]
theorem zx_holds_3 {s n : Int32} (h : ¬ n < 0) (h2 : ¬ (32 : Int32) ≤ n) (h3 : (s >>> (n &&& 31)) &&& 1 = 0) : (0 : Int32) = zx_holds s n := by unfold zx_holds; rw [if_neg h, if_neg h2, if_pos h3]
theorem zx_holds_4 {s n : Int32} (h : ¬ n < 0) (h2 : ¬ (32 : Int32) ≤ n) (h3 : ¬ (s >>> (n &&& 31)) &&& 1 = 0) : (1 : Int32) = zx_holds s n := by unfold zx_holds; rw [if_neg h, if_neg h2, if_neg h3]
theorem zx_nholds (a b : Int32) : narrow .boolean (.int (zx_holds a b)) = .int (zx_holds a b) := by
  unfold zx_holds
  repeat' split
  all_goals rfl
theorem zx_nhas (a b : Int32) : narrow .boolean (.int (zx_has a b)) = .int (zx_has a b) := by
  unfold zx_has
  split <;> rfl
theorem zx_way {g : Nat → Int32} {v : Int32} {i : Nat} (h : ∀ j, j < i → g j = v) : ∀ j, j < i + 1 → upd g i v j = v := by
  intro j hj
  unfold upd
  by_cases q : j = i
  · rw [if_pos q]
  · rw [if_neg q]; exact h j (by omega)
theorem zx_f1 {a : Int32} (h : a < 0) : zx_in a 0 7 = 0 := (zx_in_lt h).symm
theorem zx_f2 {a : Int32} (h : ¬ a < 8) : zx_in a 0 7 = 0 := by
  refine (zx_in_gt ?_).symm
  intro q
  apply h
  rw [Int32.lt_iff_toInt_lt]
  rw [Int32.le_iff_toInt_le] at q
  have e1 : (7 : Int32).toInt = 7 := rfl
  have e2 : (8 : Int32).toInt = 8 := rfl
  omega
theorem zx_f3 {a : Int32} (h : ¬ a < 0) (h2 : a < 8) : zx_in a 0 7 = 1 := by
  refine (zx_in_yes h ?_).symm
  intro q
  rw [Int32.lt_iff_toInt_lt] at h2 q
  have e1 : (7 : Int32).toInt = 7 := rfl
  have e2 : (8 : Int32).toInt = 8 := rfl
  omega
/-- a loop that counts up to N -/
theorem zx_loop {p : Program} {l : Launch} {e : Env} {R : Room} {s : State} {m : MethodId} {args : Array Value} {below : List Frame} {meth : Method} {c : Code} {H0 : Heap} {locs0 : List Loc} {cells slots : Nat} {Q : State → Prop} {P : Nat → Heap → List Loc → Array Slot → Prop} {N pc2 : Nat} {st2 : List Value} {ls0 : Array Slot} (i0 : Nat) (hi0 : i0 ≤ N) (h0 : P i0 H0 locs0 ls0)
    (K : ∀ i, i ≤ N → (∀ H locs ls, i < N → P (i + 1) H locs ls → W p l e R s m args below meth c H locs cells slots Q (F0 m pc2 ls st2)) → ∀ H locs ls, P i H locs ls → W p l e R s m args below meth c H locs cells slots Q (F0 m pc2 ls st2)) : W p l e R s m args below meth c H0 locs0 cells slots Q (F0 m pc2 ls0 st2) := by
  have h : ∀ (k i : Nat), i ≤ N → N ≤ i + k → ∀ H locs ls, P i H locs ls → W p l e R s m args below meth c H locs cells slots Q (F0 m pc2 ls st2) := by
    intro k
    induction k with
    | zero => exact fun i hi hk H locs ls hp => K i hi (fun _ _ _ hlt _ => absurd hlt (by omega)) H locs ls hp
    | succ k ih => exact fun i hi hk H locs ls hp => K i hi (fun H1 locs1 ls1 hlt hp1 => ih (i + 1) hlt (by omega) H1 locs1 ls1 hp1) H locs ls hp
  exact h N i0 hi0 (by omega) H0 locs0 ls0 h0
theorem zx_bn {i : Int32} {n : Nat} (h : ¬ (i < 0 ∨ n ≤ i.toNatClampNeg)) : vp_in i n := h
theorem zx_shr0 (y : Int32) : (0 : Int32) >>> y = 0 := by
  apply Int32.toBitVec_inj.mp
  simp
theorem zx_in8n {a : Int32} (h : zx_in a 0 7 = 1) : a.toNatClampNeg < 8 := Nat.not_le.mp fun q => zx_in8 h (Or.inr q)
/-- the least number of ways where nothing is tied -/
def zx_near (s f : Int32) : Int32 := if s &&& (1 <<< (f &&& 31)) = 0 then -1 else 0
-- what each call is to answer on fresh objects: which exception (0: none)
def k_addPerson (a b : Int32) : Int32 := if zx_in a 0 9 = 0 ∨ zx_in b 0 1048575 = 0 then 1 else 0
def k_tie (a b : Int32) : Int32 := if zx_in a 0 7 = 0 ∨ zx_in b 0 7 = 0 ∨ a = b then 1 else 0
def k_distance (a b : Int32) : Int32 := if zx_in a 0 7 = 0 ∨ zx_in b 0 7 = 0 then 1 else 0
def k_setRules (a b c d e : Int32) : Int32 := if zx_in a 0 7 = 0 ∨ zx_in b 2 4 = 0 ∨ zx_in c 0 100 = 0 ∨ zx_in d 0 c = 0 ∨ (¬ e = 111 ∧ ¬ e = 115 ∧ ¬ e = 100) then 1 else 0
def k_goOn (a : Int32) : Int32 := if zx_in a 1 99 = 0 then 1 else 0
def k_fieldIndex (a b : Int32) : Int32 := if zx_in a 0 7 = 0 ∨ zx_in b 1 9999 = 0 then 1 else 2
theorem zx_has_near {a b : Int32} (ha : zx_in a 0 7 = 1) (hb : zx_in b 0 7 = 1) : (zx_has ((1 : Int32) <<< (a &&& 31)) b = 0) ↔ ((1 : Int32) <<< (a &&& 31)) &&& ((1 : Int32) <<< (b &&& 31)) = 0 := by
  have small : ∀ c : Int32, zx_in c 0 7 = 1 → c = 0 ∨ c = 1 ∨ c = 2 ∨ c = 3 ∨ c = 4 ∨ c = 5 ∨ c = 6 ∨ c = 7 := by
    intro c hc
    unfold zx_in at hc
    by_cases q : (0 : Int32) ≤ c ∧ c ≤ 7
    · obtain ⟨q1, q2⟩ := q
      rw [Int32.le_iff_toInt_le] at q1 q2
      have e1 : (0 : Int32).toInt = 0 := rfl
      have e2 : (7 : Int32).toInt = 7 := rfl
      rw [e1] at q1
      rw [e2] at q2
      have h : c.toInt = 0 ∨ c.toInt = 1 ∨ c.toInt = 2 ∨ c.toInt = 3 ∨ c.toInt = 4 ∨ c.toInt = 5 ∨ c.toInt = 6 ∨ c.toInt = 7 := by omega
      rcases h with h | h | h | h | h | h | h | h
      · exact Or.inl (Int32.toInt_inj.mp h)
      · exact Or.inr (Or.inl (Int32.toInt_inj.mp h))
      · exact Or.inr (Or.inr (Or.inl (Int32.toInt_inj.mp h)))
      · exact Or.inr (Or.inr (Or.inr (Or.inl (Int32.toInt_inj.mp h))))
      · exact Or.inr (Or.inr (Or.inr (Or.inr (Or.inl (Int32.toInt_inj.mp h)))))
      · exact Or.inr (Or.inr (Or.inr (Or.inr (Or.inr (Or.inl (Int32.toInt_inj.mp h))))))
      · exact Or.inr (Or.inr (Or.inr (Or.inr (Or.inr (Or.inr (Or.inl (Int32.toInt_inj.mp h)))))))
      · exact Or.inr (Or.inr (Or.inr (Or.inr (Or.inr (Or.inr (Or.inr (Int32.toInt_inj.mp h)))))))
    · rw [if_neg q] at hc
      exact absurd hc (by decide)
  rcases small a ha with rfl | rfl | rfl | rfl | rfl | rfl | rfl | rfl <;> rcases small b hb with rfl | rfl | rfl | rfl | rfl | rfl | rfl | rfl <;> decide
/-! ===== what whole's refutation wants beside: references out of arrays, calls of a class above, loops that make cells, how a heap has grown ===== -/
section ZXE
variable {p : Program} {l : Launch} {e : Env} {R : Room} {s : State} {m : MethodId} {args : Array Value} {below : List Frame} {meth : Method} {c : Code} {H : Heap} {locs : List Loc} {cells slots : Nat} {Q : State → Prop}
variable {cc : ByteArray} {pc : Nat} {ls : Array Slot} {rest : List Value} {D : va_G} {cl : List vw_C} {A : Nat → Prop} {a : Nat} {tys : List (ClassId × FieldType)} {ws : va_W} {H0 : Heap}
theorem zx_aldq {v : Nat} (hexec : p.tables.exec = Jvm.exec) (hb : c.code = cc) (hK : va_K D cl tys s) (hP : va_P D cl ws H) (q0 t0 : Nat) {cA : ClassId} {C : String} {n : Nat} {f : Nat → Option Nat} (ha : ws[q0]? = some (a, .inl (cA, n, .inr (.inr (.inr (.inr f)))))) (ht : tys[t0]? = some (cA, .object C)) {i : Int32} (hin : vp_in i n) (hv : f i.toNatClampNeg = some v) (hdg : decode cc pc = .ok (.aaload, 1))
    (kk : W p l e R s m args below meth c H locs cells slots Q (F0 m (pc + 1) ls (.ref v :: rest))) : W p l e R s m args below meth c H locs cells slots Q (F0 m pc ls (.int i :: .ref a :: rest)) := by
  refine va_aldq hexec hb hK hP q0 t0 ha ht hin hdg ?_
  rw [hv]
  exact kk
theorem zx_arrc (hK : va_K D cl tys s) (hP : va_P D cl ws H) {q0 : Nat} (t0 : Nat) {cA : ClassId} {n : Nat} {f : Nat → Option Nat} (ha : ws[q0]? = some (a, .inl (cA, n, .inr (.inr (.inr (.inr f)))))) (ht : tys[t0]? = some (cA, .object "java/lang/Object")) : ∃ cell : Cell, H[a]? = some cell ∧ cell.vm.isStatics = false ∧ s.vm.findClass "[Ljava/lang/Object;" = some cell.cls :=
  ⟨_, hP q0 _ ha, rfl, va_nmO (hK.2 t0 _ ht).2 (by decide +kernel)⟩
end ZXE
theorem zx_GU {c0 c1 : Cond} {own C owner : String} {idx : Nat} {x y : MethodName} (h1 : Cond.methodLink own idx x ∈ zx_G) (h2 : Cond.sameMethod x.cls owner x.name x.desc ∈ zx_G) (h3 : Cond.selects C x y ∈ zx_G) (h4 : Cond.instanceMethod y ∈ zx_G) (h5 : Cond.initialized y.cls ∈ zx_G) (h6 : c1 ∈ zx_G) : GoodIn (c0 :: zx_G) (va_wsU own idx C owner x y (c1 :: zx_G)) := by
  intro w hw
  unfold va_wsU at hw
  rcases List.mem_append.mp hw with hw | hw
  · simp only [List.mem_cons, List.not_mem_nil, or_false] at hw
    rcases hw with rfl | rfl | rfl | rfl | rfl
    · exact zx_gw h1
    · exact zx_gw h2
    · exact zx_gw h3
    · exact zx_gw h4
    · exact zx_gw h5
  · exact zx_GI h6 w hw
theorem zx_GSU {c0 c1 : Cond} {own : String} {idx : Nat} {y : MethodName} (h1 : Cond.methodLink own idx y ∈ zx_G) (h2 : Cond.sameMethod y.cls y.cls y.name y.desc ∈ zx_G) (h3 : Cond.superclass own y.cls ∈ zx_G) (h4 : Cond.instanceMethod y ∈ zx_G) (h5 : Cond.initialized y.cls ∈ zx_G) (h6 : c1 ∈ zx_G) : GoodIn (c0 :: zx_G) (va_wsSU own idx y (c1 :: zx_G)) := by
  intro w hw
  unfold va_wsSU at hw
  rcases List.mem_append.mp hw with hw | hw
  · simp only [List.mem_cons, List.not_mem_nil, or_false] at hw
    rcases hw with rfl | rfl | rfl | rfl | rfl
    · exact zx_gw h1
    · exact zx_gw h2
    · exact zx_gw h3
    · exact zx_gw h4
    · exact zx_gw h5
  · exact zx_GI h6 w hw
theorem zx_gadd {a g n H H1 : Nat} (h : a + g ≤ H) (h2 : H + n ≤ H1) : a + (g + n) ≤ H1 := by omega
/-- a loop that counts up to N and makes cells as it goes -/
theorem zx_loopC {p : Program} {l : Launch} {e : Env} {R : Room} {s : State} {m : MethodId} {args : Array Value} {below : List Frame} {meth : Method} {c : Code} {H0 : Heap} {locs0 : List Loc} {Q : State → Prop} {P : Nat → Heap → List Loc → Array Slot → Prop} {N pc2 : Nat} {st2 : List Value} {ls0 : Array Slot} (cf sf : Nat → Nat) (i0 : Nat) (hi0 : i0 ≤ N) (h0 : P i0 H0 locs0 ls0)
    (K : ∀ i, i ≤ N → (∀ H locs ls, i < N → P (i + 1) H locs ls → W p l e R s m args below meth c H locs (cf (i + 1)) (sf (i + 1)) Q (F0 m pc2 ls st2)) → ∀ H locs ls, P i H locs ls → W p l e R s m args below meth c H locs (cf i) (sf i) Q (F0 m pc2 ls st2)) : W p l e R s m args below meth c H0 locs0 (cf i0) (sf i0) Q (F0 m pc2 ls0 st2) := by
  have h : ∀ (k i : Nat), i ≤ N → N ≤ i + k → ∀ H locs ls, P i H locs ls → W p l e R s m args below meth c H locs (cf i) (sf i) Q (F0 m pc2 ls st2) := by
    intro k
    induction k with
    | zero => exact fun i hi hk H locs ls hp => K i hi (fun _ _ _ hlt _ => absurd hlt (by omega)) H locs ls hp
    | succ k ih => exact fun i hi hk H locs ls hp => K i hi (fun H1 locs1 ls1 hlt hp1 => ih (i + 1) hlt (by omega) H1 locs1 ls1 hp1) H locs ls hp
  exact h N i0 hi0 (by omega) H0 locs0 ls0 h0
/-- a new cell beside the one that was there: the heap has grown -/
theorem zx_grown1 {D : va_G} {cl : List vw_C} {H : Heap} {A : Nat → Prop} {sz pa ra ci : Nat} {e0 e2 : va_E} {fs : List Value} (hAe : va_A [(pa, e0)] sz = A) (hP : va_P D cl [(ra, .inr (ci, fs)), (pa, e2)] H) (hD : va_D A [(ra, .inr (ci, fs)), (pa, e2)]) : sz + 1 ≤ H.size := by
  obtain ⟨r, -, cell, q1, -⟩ := hP 0 _ rfl
  have h1 : ra < H.size := (Array.getElem?_eq_some_iff.mp q1).1
  have h2 : A ra := hD.2 0 _ rfl
  rw [← hAe] at h2
  rcases h2 with ⟨k, e9, hk⟩ | h2
  · cases k with
    | zero =>
      have h3 : pa = ra := congrArg Prod.fst (Option.some.inj hk)
      exact absurd (hD.1 0 1 _ _ rfl rfl h3.symm) (by decide)
    | succ k => simp at hk
  · omega
theorem zx_up_at {α : Type} {f : Nat → α} {i k : Nat} (v : α) (h : k = i) : va_up f i v k = v := by
  unfold va_up
  rw [if_pos h]
theorem zx_up_ne {α : Type} {f : Nat → α} {i j : Nat} (v : α) (h : j ≠ i) : va_up f i v j = f j := by
  unfold va_up
  rw [if_neg h]
theorem zx_cpy {α : Type} {f g : Nat → α} {sp dp n j : Nat} (h1 : sp = 0) (h2 : dp = 0) (h : j < n) : va_cpy f g sp dp n j = f j := by
  subst h1 h2
  unfold va_cpy
  rw [if_pos ⟨Nat.zero_le _, by omega⟩]
  simp
theorem zx_le_nI {N i : Nat} {M : Int32} (hM : M = nI N) (hN : N < 2 ^ 31) (hi : i < 2 ^ 31) : M ≤ nI i ↔ N ≤ i := by
  subst hM
  exact nI_leI hN hi
theorem zx_row0 {f : Nat → Int32} {i k : Nat} (h : ∀ j, j < i → f j = 0) (hk : k = i) : ∀ j, j < i + 1 → upd f k 0 j = 0 := by
  subst hk
  intro j hj
  unfold upd
  by_cases q : j = k
  · rw [if_pos q]
  · rw [if_neg q]; exact h j (by omega)
/-- how many pairs stand ahead of row a, among 20 people -/
def zx_Tp : Nat → Nat
  | 0 => 0
  | a + 1 => zx_Tp a + (19 - a)
theorem zx_Tp_le {a : Nat} (h : a < 20) : zx_Tp a + (19 - a) ≤ 190 := by
  have h1 : ∀ a, a < 20 → zx_Tp a + (19 - a) ≤ 190 := by decide
  exact h1 a h
theorem zx_Tp_s (a : Nat) : zx_Tp (a + 1) = zx_Tp a + (19 - a) := rfl
theorem zx_Tp_le2 {a : Nat} (h : a ≤ 20) : zx_Tp a ≤ 190 := by
  have h1 : ∀ a, a < 21 → zx_Tp a ≤ 190 := by decide
  exact h1 a (by omega)

/-! ===== what every contract here speaks of: the static cells, the world, the array classes ===== -/
def zx_T (cy : Nat → ClassId) : List (ClassId × FieldType) := [(cy 0, .int), (cy 1, .char), (cy 2, .object "java/lang/Object"), (cy 3, .long), (cy 4, .double)]
/-- the static cells that a method may meet: two of Throwable's, ArrayList's empty row at ed -/
def zx_St (ed : Nat) (A : Nat → Prop) (U : State) (H : Heap) : Prop :=
  vx_Zq Bundle.tN "UNASSIGNED_STACK" Bundle.steD A U H ∧ vx_Zq Bundle.tN "SUPPRESSED_SENTINEL" Bundle.listD A U H ∧ va_Z "java/util/ArrayList" "DEFAULTCAPACITY_EMPTY_ELEMENTDATA" "[Ljava/lang/Object;" (.ref ed) A U H ∧ va_T (.object "java/lang/Object") ed 0 (fun _ => .null) A U H
theorem zx_St.moved {ed : Nat} {A : Nat → Prop} {u U : State} {H : Heap} (hvm : u.vm.Alike U.vm) (h : zx_St ed A u H) : zx_St ed A U H := ⟨h.1.moved hvm, h.2.1.moved hvm, h.2.2.1.moved hvm, h.2.2.2.moved hvm⟩
theorem zx_St.kept {ed : Nat} {A : Nat → Prop} {U : State} {H H1 : Heap} (h : zx_St ed A U H) (hq : ∀ a : Nat, a < H.size → ¬ A a → H1[a]? = H[a]?) : zx_St ed A U H1 := ⟨h.1.kept hq, h.2.1.kept hq, h.2.2.1.kept hq, h.2.2.2.kept hq⟩
theorem zx_St.narrow {ed : Nat} {A B : Nat → Prop} {U : State} {H : Heap} (h : zx_St ed A U H) (hAB : ∀ q, B q → A q) : zx_St ed B U H := ⟨h.1.narrow hAB, h.2.1.narrow hAB, h.2.2.1.narrow hAB, h.2.2.2.narrow hAB⟩
/-- a method's start: its arguments av, its world ws, the heap of sz cells -/
def zx_Pc (D : va_G) (cy : Nat → ClassId) (ed sz : Nat) (av : List Value) (ws : va_W) : Array Value → State → Prop := va_Pc av (fun U => U.heap.size = sz ∧ va_P D vwCl ws U.heap ∧ va_K D vwCl (zx_T cy) U ∧ va_D (fun _ => True) ws ∧ zx_St ed (va_A ws sz) U U.heap)
theorem zx_blind {D : va_G} {cy : Nat → ClassId} {ed sz : Nat} {av : List Value} {ws : va_W} : FrameBlind (zx_Pc D cy ed sz av ws) := by
  intro a U g mk h
  obtain ⟨h0, h1, h2, h3, h4, h5⟩ := h
  exact ⟨h0, h1, h2, va_K.moved (u := U) (U := U.calling g mk a) (Vm.Alike.refl U.vm) h3, h4, zx_St.moved (u := U) (U := U.calling g mk a) (Vm.Alike.refl U.vm) h5⟩
theorem zx_give {D : va_G} {cy : Nat → ClassId} {ed : Nat} {av : List Value} {wc : va_W} {A : Nat → Prop} {s : State} {H : Heap} {locs : List Loc} (hP : va_P D vwCl wc H) (hK : va_K D vwCl (zx_T cy) s) (hD : va_D A wc) (hS : va_S A s.heap H locs) (hF : ∀ q, va_A wc H.size q → A q) (hZ : zx_St ed A s s.heap) : ∀ U : State, U.heap = H → s.WarmedH U.vm → zx_Pc D cy ed H.size av wc av.toArray U := by
  intro U hU hW
  refine ⟨rfl, by rw [hU], by rw [hU]; exact hP, va_K.moved hW.alike hK, hD.weaken (fun _ _ _ _ => trivial), ?_⟩
  have h1 := (hZ.kept (H1 := H) hS.2.1).moved hW.alike
  rw [hU]
  exact h1.narrow hF
/-- the world behind a method -/
def zx_At (D : va_G) (cy : Nat → ClassId) (A : Nat → Prop) (ws : va_W) (t : State) : Prop := va_P D vwCl ws t.heap ∧ va_K D vwCl (zx_T cy) t ∧ va_D A ws
theorem zx_fin {D : va_G} {cy : Nat → ClassId} {A : Nat → Prop} {ws : va_W} {s t : State} {H : Heap} (hP : va_P D vwCl ws H) (hD : va_D A ws) (hK : va_K D vwCl (zx_T cy) s) (ht : t.heap = H) (hW : s.WarmedH t.vm) : zx_At D cy A ws t := ⟨by rw [ht]; exact hP, va_K.moved hW.alike hK, hD⟩
theorem zx_join {D : va_G} {cy : Nat → ClassId} {A : Nat → Prop} {ws wc wr w1 : va_W} {H H1 : Heap} {t : State} (isC isR : List Nat) (hC : isC.map (fun i => ws[i]?) = wc.map some) (hR : isR.map (fun i => ws[i]?) = wr.map some) (hn : va_nd isR = true) (hdis : ∀ i ∈ isR, i ∉ isC) (hP : va_P D vwCl ws H) (hD : va_D A ws) (hk : ∀ q : Nat, q < H.size → ¬ va_A wc H.size q → H1[q]? = H[q]?) (hF : ∀ q, va_A wc H.size q → A q) (hB : zx_At D cy (va_A wc H.size) w1 t) (ht : t.heap = H1) : va_P D vwCl (wr ++ w1) H1 ∧ va_D A (wr ++ w1) := by
  obtain ⟨h1, -, h3⟩ := hB
  rw [ht] at h1
  exact va_join hP hD isC isR hC hR hn hdis hk hF h1 h3
/-- the row of a type stands at one place of the tables -/
theorem zx_same {cl : List vw_C} {D : va_G} {cy : Nat → ClassId} {s : State} {cA : ClassId} {ty : FieldType} (k : Nat) {c0 : ClassId} (hk : (zx_T cy)[k]? = some (c0, ty)) (h : va_K D cl (zx_T cy ++ [(cA, ty)]) s) : cA = c0 := by
  have h1 := (h.2 k (c0, ty) (by rw [List.getElem?_append_left (List.getElem?_eq_some_iff.mp hk).1]; exact hk)).2
  have h2 := (h.2 (zx_T cy).length (cA, ty) (by simp)).2
  cases ty with
  | object C =>
    obtain ⟨k1, c1, -, -, -, g1⟩ := h1
    obtain ⟨k2, c2, -, -, -, g2⟩ := h2
    exact Option.some.inj (g2.symm.trans g1)
  | _ => exact Option.some.inj (h2.symm.trans h1)
/-- what a throw leaves behind: of the class thrown P holds, and nothing outside A has changed -/
def zx_X (P : String → Prop) (A : Nat → Prop) : String → State → State → Prop := vx_X (fun _ : Unit => True) (fun E9 _ _ => P E9) A
theorem zx_thr {P : String → Prop} {E : String} {A : Nat → Prop} {s : State} {H : Heap} {locs : List Loc} (hS : va_S A s.heap H locs) (hp : P E) : ∀ t : State, s.vm.Alike t.vm → H.size ≤ t.heap.size → (∀ q : Nat, q < H.size → t.heap[q]? = H[q]?) → zx_X P A E s t := fun t _ h1 h2 => ⟨(), trivial, hp, Nat.le_trans hS.1 h1, fun q h3 h4 => (h2 q (Nat.lt_of_lt_of_le h3 hS.1)).trans (hS.2.1 q h3 h4)⟩
theorem zx_pass {P : String → Prop} {E9 : String} {A : Nat → Prop} {s : State} {H : Heap} {locs : List Loc} (hS : va_S A s.heap H locs) (hp : P E9) : ∀ t : State, t.heap = H → s.vm.Alike t.vm → zx_X P A E9 s t := fun t ht _ => ⟨(), trivial, hp, by rw [ht]; exact hS.1, fun q h3 h4 => by rw [ht]; exact hS.2.1 q h3 h4⟩
/-- a number within two bounds, as 1 or 0 -/
def zx_in (a b c : Int32) : Int32 := if b ≤ a ∧ a ≤ c then 1 else 0
theorem zx_in_lt {a b c : Int32} (h : a < b) : (0 : Int32) = zx_in a b c := by
  unfold zx_in
  rw [if_neg (fun q => Int32.not_lt.mpr q.1 h)]
theorem zx_in_gt {a b c : Int32} (h : ¬ a ≤ c) : (0 : Int32) = zx_in a b c := by
  unfold zx_in
  rw [if_neg (fun q => h q.2)]
theorem zx_in_gt' {a b c : Int32} (h : c < a) : (0 : Int32) = zx_in a b c := zx_in_gt (Int32.not_le.mpr h)
theorem zx_in_yes {a b c : Int32} (h1 : ¬ a < b) (h2 : ¬ c < a) : (1 : Int32) = zx_in a b c := by
  unfold zx_in
  rw [if_pos ⟨Int32.not_lt.mp h1, Int32.not_lt.mp h2⟩]
theorem zx_in_none (a : Int32) : zx_in a 0 (0 - 1) = 0 := by
  unfold zx_in
  rw [if_neg]
  intro q
  have h := Int32.le_trans q.1 q.2
  revert h
  decide
theorem zx_nin (a b c : Int32) : narrow .boolean (.int (zx_in a b c)) = .int (zx_in a b c) := by
  unfold zx_in
  split <;> rfl

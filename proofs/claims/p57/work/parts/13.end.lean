set_option maxRecDepth 16384 in
theorem zt_slots : zt_about.slotsTrue = true := by decide +kernel
set_option maxRecDepth 16384 in
theorem zt_fits : argsFit zt_about.vm ⟨0, 0⟩ #[Value.ref 0] = true := by decide +kernel
theorem zt_cell (u v : Array Value) (a : Nat) (h : a ≠ 0) : (start1.aboutOf u).heap[a]? = (start1.aboutOf v).heap[a]? := by
  match a, h with
  | 0, h => exact absurd rfl h
  | 1, _ => rfl
  | 2, _ => rfl
  | 3, _ => rfl
  | 4, _ => rfl
  | 5, _ => rfl
  | 6, _ => rfl
  | 7, _ => rfl
  | n + 8, _ =>
    have h1 : ∀ w : Array Value, (start1.aboutOf w).heap[n + 8]? = none := fun w => Array.getElem?_eq_none (by show 8 ≤ n + 8; omega)
    rw [h1, h1]
theorem zt_fs (u v : Array Value) (c : ClassId) (d : VmData) (i : Nat) (y : Value) : (start1.aboutOf u).fitsSlot c d i y = (start1.aboutOf v).fitsSlot c d i y := rfl
theorem zt_first (u : Array Value) : (start1.aboutOf u).heap[0]? = some { cls := 58, slots := u, vm := .none } := rfl
theorem zt_int (u : Array Value) (i : Nat) (z : Int32) : (start1.aboutOf u).fitsSlot 58 .none i (.int z) = true := rfl
theorem zt_get (j : Nat) (hj : j < 3072) : zt_cells[j]? = some (.int (zx_bad j)) := by
  unfold zt_cells
  simp [hj]
theorem zt_cf (u : Array Value) (h : ∀ j, j < u.size → ∃ z, u[j]? = some (.int z)) : cellFits (start1.aboutOf u) { cls := 58, slots := u, vm := .none } = true := by
  unfold cellFits
  rw [List.all_eq_true]
  intro j hj
  obtain ⟨z, hz⟩ := h j (List.mem_range.mp hj)
  show (match u[j]? with | some v => (start1.aboutOf u).fitsSlot 58 .none j v | none => true) = true
  rw [hz]
  exact zt_int u j z
theorem zt_cf2 (u v : Array Value) (c : Cell) : cellFits (start1.aboutOf u) c = cellFits (start1.aboutOf v) c := rfl
theorem zt_heap : heapFits zt_about = true := by
  have h0 : heapFits start1.about = true := start1.atStart.2.2.2.2.2.2.2.2.1
  unfold heapFits at h0 ⊢
  rw [Array.all_eq_true] at h0 ⊢
  intro i hi
  have hg : zt_about.heap[i]? = some zt_about.heap[i] := Array.getElem?_eq_getElem hi
  by_cases h : i = 0
  · subst h
    have e : zt_about.heap[0] = { cls := 58, slots := zt_cells, vm := .none } := Option.some.inj (hg.symm.trans (zt_first zt_cells))
    rw [e]
    exact zt_cf zt_cells (fun j hj => ⟨_, zt_get j (by rw [show (3072 : Nat) = zt_cells.size by simp [zt_cells]]; exact hj)⟩)
  · have e2 : start1.about.heap[i]? = some zt_about.heap[i] := (zt_cell _ _ i h).trans hg
    obtain ⟨hi2, e3⟩ := Array.getElem?_eq_some_iff.mp e2
    have h1 := h0 i hi2
    rw [e3] at h1
    exact (zt_cf2 zt_cells start1.cells0 _).trans h1
set_option maxRecDepth 16384 in
theorem zt_named : zt_about.methodNamed? x = some ⟨0, 0⟩ := by decide +kernel
set_option maxRecDepth 16384 in
theorem zt_hears : zt_about.hears ⟨0, 0⟩ Lib.HandBits.below0 = true := by decide +kernel
set_option maxRecDepth 16384 in
theorem zt_ripe : zt_about.ripe ⟨0, 0⟩ #[Value.ref 0] Lib.HandBits.below0 = true := by decide +kernel
set_option maxRecDepth 16384 in
theorem zt_size : zt_about.heap.size = 8 := by decide +kernel
def zt_env : Env := launch0.env 0 3000000 30000000
set_option maxRecDepth 16384 in
theorem zt_me : zt_about.me.stackBytes = 0 := by decide +kernel
set_option maxRecDepth 16384 in
theorem zt_ah1 : zt_about.frames.length + zx_R.frames ≤ zt_env.platform.maxFrames := by decide +kernel
set_option maxRecDepth 16384 in
theorem zt_ah4 : zt_about.localsInUse + zx_R.locals ≤ zt_env.platform.maxStackSlots := by decide +kernel
set_option maxRecDepth 16384 in
theorem zt_ah2 : zt_about.heap.size + zx_R.cells ≤ zt_env.platform.maxCells := by decide +kernel
set_option maxRecDepth 16384 in
theorem zt_ah3 : zt_about.slotsUsed + zx_R.slots ≤ zt_env.platform.maxSlots := by decide +kernel
set_option maxRecDepth 16384 in
theorem zt_ah5 : zt_about.localsInUse + zx_R.locals + stackMargin ≤ realStackBytes / 8 := by decide +kernel
theorem zt_room : zt_about.hasRoom zt_env.platform zx_R = true := State.hasRoom_of (s := zt_about) (pl := zt_env.platform) (r := zx_R) zt_me zt_ah1 zt_ah4 zt_ah2 zt_ah3 zt_slots zt_ah5
set_option maxRecDepth 16384 in
theorem zt_bh1 : zt_about.frames.length + room_1.frames ≤ zt_env.platform.maxFrames := by decide +kernel
set_option maxRecDepth 16384 in
theorem zt_bh4 : zt_about.localsInUse + room_1.locals ≤ zt_env.platform.maxStackSlots := by decide +kernel
set_option maxRecDepth 16384 in
theorem zt_bh2 : zt_about.heap.size + room_1.cells ≤ zt_env.platform.maxCells := by decide +kernel
set_option maxRecDepth 16384 in
theorem zt_bh3 : zt_about.slotsUsed + room_1.slots ≤ zt_env.platform.maxSlots := by decide +kernel
set_option maxRecDepth 16384 in
theorem zt_bh5 : zt_about.localsInUse + room_1.locals + stackMargin ≤ realStackBytes / 8 := by decide +kernel
theorem zt_room1 : zt_about.hasRoom zt_env.platform room_1 = true := State.hasRoom_of (s := zt_about) (pl := zt_env.platform) (r := room_1) zt_me zt_bh1 zt_bh4 zt_bh2 zt_bh3 zt_slots zt_bh5
set_option maxRecDepth 16384 in
theorem zt_len : (Cond.isInt (.length (.arg 0))).before #[Value.ref 0] zt_about = true := by decide +kernel
theorem zt_at0 : zt_about.arrayAt? 0 = some { cls := 58, slots := zt_cells, vm := .none } := rfl
theorem zt_rest1 : rest_1_c.before #[Value.ref 0] zt_about = true := by
  show (Cond.and (Cond.isInt (.length (.arg 0))) (Cond.all (.arg 0) (Cond.isInt (.elem (.arg 0) (.index 0))))).before #[Value.ref 0] zt_about = true
  rw [Cond.before_and, zt_len, Bool.true_and]
  have hall : (Cond.all (.arg 0) (.isInt (.elem (.arg 0) (.index 0)))).value #[Value.ref 0] zt_about none zt_about [] = some true := by
    refine Cond.all_intro (a := 0) (cell := { cls := 58, slots := zt_cells, vm := .none }) rfl zt_at0 fun i hi => ?_
    have h8 : zt_cells.size = 3072 := by simp [zt_cells]
    have hi2 : i < 3072 := by rw [← h8]; exact hi
    have hneg : ¬ (Int32.ofNat i < 0) := Int32.ofNat_not_neg (by omega)
    have hidx : (Term.index 0).eval #[Value.ref 0] zt_about none [i] zt_about = some (.int (Int32.ofNat i)) := rfl
    have harg : (Term.arg 0).eval #[Value.ref 0] zt_about none [i] zt_about = some (.ref 0) := rfl
    have e1 : (Term.elem (.arg 0) (.index 0)).eval #[Value.ref 0] zt_about none [i] zt_about = some (.int (zx_bad i)) := by
      rw [Term.eval, harg, hidx]
      have hc : (Int32.ofNat i).toNatClampNeg = i := clamp_of rfl (by omega)
      simp only [zt_at0, hneg, if_false, hc, Option.bind_eq_bind, Option.bind_some, Option.pure_def]
      exact zt_get i hi2
    simp [Cond.value, e1]
  simp only [Cond.before, Cond.holds, hall]; rfl
set_option maxRecDepth 16384 in
theorem zt_pre1 : (Cond.and given_1 narrow_1).before #[Value.ref 0] zt_about = true := by decide +kernel
theorem zt_frames : zt_about.frames = Frame.invoking ⟨0, 0⟩ #[Value.ref 0] :: Lib.HandBits.below0 := rfl
theorem zt_running : zt_about.status = .running := rfl
theorem zt_runnable : zt_about.curStatus? = some .runnable := rfl
theorem zt_alone : zt_about.alone = true := rfl

/-! ===== a start that is there: the printed witness's own, with the script of 512 calls, and an environment with room for more cells ===== -/
def zt_cells : Array Value := ((List.range 3072).map (fun j => Value.int (zx_bad j))).toArray
def zt_about : State := start1.aboutOf zt_cells
set_option maxRecDepth 16384 in
theorem zt_rest : (Jvm.Cond.code x code maxLocals ret :: tables_1).all (fun c => c.onTables || c.before start1.args0 zt_about) = true := by decide +kernel
theorem zt_words : ∀ c ∈ (Jvm.Cond.code x code maxLocals ret :: tables_1), c.before start1.args0 zt_about = true := by
  intro c hc
  have h1 := start1.words c hc
  have h2 : (c.onTables || c.before start1.args0 zt_about) = true := List.all_eq_true.mp zt_rest c hc
  rw [Bool.or_eq_true] at h2
  rcases h2 with h3 | h3
  · have e := Cond.onTables_vm (A := start1.args0) (A' := start1.args0) (U := start1.about) (U' := zt_about) start1.about.vm c h3
    have e1 : start1.about.setVm start1.about.vm = start1.about := rfl
    have e2 : zt_about.setVm start1.about.vm = zt_about := rfl
    rw [e1, e2] at e
    rw [← e]
    exact h1
  · exact h3
theorem zt_script : va_X 0 3072 zx_bad zt_about zt_about.heap :=
  ⟨{ cls := 58, slots := zt_cells, vm := .none }, rfl, ⟨fun k h => (by cases h), _, rfl, _, rfl⟩, fun h => (by cases h), by simp [zt_cells], fun j hj => by
    show (zt_cells)[j]? = some (.int (zx_bad j))
    unfold zt_cells
    simp [hj]⟩

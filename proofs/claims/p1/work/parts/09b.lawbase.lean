theorem zx_lcmpe {x y : Int64} (h : x = y) : lg_cmp x y = 0 := by
  subst h
  unfold lg_cmp
  rw [if_neg (by simp), if_pos rfl]
theorem zx_fi (a b : Int32) : ¬ k_fieldIndex a b = 0 := by
  unfold k_fieldIndex
  split <;> decide
/-- what holds all along the law's walk -/
def zx_LW (p : Program) (l : Launch) (s : State) (m : MethodId) (c : Code) (D : va_G) (cy : Nat → ClassId) (ed b : Nat) (xs : Nat → Int32) (A : Nat → Prop) : Prop :=
  p.tables.exec = Jvm.exec ∧ c.code = code ∧ c.maxLocals = 9 ∧ l.stackTraces = false ∧ s.vm.findClass RL = some m.cls ∧ (∀ w ∈ Cond.initialized RX8 :: zx_G, w.before #[Value.ref b] s = true) ∧ va_X b 6 xs s s.heap ∧ b < s.heap.size ∧ ¬ A b ∧ (∀ q : Nat, s.heap.size ≤ q → A q) ∧ va_K D vwCl (zx_T cy) s ∧ zx_St ed A s s.heap ∧ zx_Nn s

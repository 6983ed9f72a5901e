theorem zt_applies : (headSpec (Jvm.Cond.code x code maxLocals ret :: tables_1) room_1).applies x zt_env.platform zt_about = true :=
  (Spec.applies_iff zt_frames).mpr ⟨zt_running, zt_runnable, zt_alone, zt_named, zt_hears, zt_ripe, zt_room1, atoms_intro zt_words⟩
/-- **The claim's first limb is false**: the launch as it is printed, an environment that it admits with room for more cells than it asks, and the script of 512 calls. -/
theorem p57_is_false : ¬ Claimed_1_1 :=
  bad_refutes (l := launch0) (p := start1.p0) (e := zt_env) (s := zt_about) (m := ⟨0, 0⟩) (b := 0) (below := Lib.HandBits.below0) rfl lists_1
    (launch0.admits_env _ _ _) fairChoices_fair.cas fairChoices_fair.clock zt_frames zt_fits zt_heap zt_applies zt_room zt_rest1 zt_pre1 zt_script
/-- so what is owed can't be had -/
theorem p57_not : ¬ (Claimed_1_1 ∧ Claimed_1_2) := fun h => p57_is_false h.1

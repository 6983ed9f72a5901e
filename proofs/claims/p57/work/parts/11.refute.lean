theorem mm_433 : (.instantiable RJx00060 6 : Cond) ∈ zx_G := zx_wi 433 (by decide +kernel) (by decide +kernel)
theorem mm_459 : (.instantiable RJ0 4 : Cond) ∈ zx_G := zx_wi 459 (by decide +kernel) (by decide +kernel)
theorem mm_1042 : (.instantiable RX6 8 : Cond) ∈ zx_G := zx_wi 1042 (by decide +kernel) (by decide +kernel)
theorem mm_1746 : (.instantiable RX10 2 : Cond) ∈ zx_G := zx_wi 1746 (by decide +kernel) (by decide +kernel)
theorem mm_2123 : (.instantiable RX9 3 : Cond) ∈ zx_G := zx_wi 2123 (by decide +kernel) (by decide +kernel)
theorem mm_2155 : (.instantiable RX13 8 : Cond) ∈ zx_G := zx_wi 2155 (by decide +kernel) (by decide +kernel)
theorem uz_J0 : ∀ w ∈ u_ws RJ0 TJ0 2, w ∈ zx_G := zx_us [461, 463] (by decide +kernel)
theorem uz_Jx00060 : ∀ w ∈ u_ws RJx00060 TJx00060 6, w ∈ zx_G := zx_us [448, 449, 450, 451, 452, 453] (by decide +kernel)
theorem uz_X10 : ∀ w ∈ u_ws RX10 TX10 2, w ∈ zx_G := zx_us [1755, 1757] (by decide +kernel)
theorem uz_X13 : ∀ w ∈ u_ws RX13 TX13 8, w ∈ zx_G := zx_us [2177, 2179, 2181, 2183, 2185, 2187, 2189, 2191] (by decide +kernel)
theorem uz_X6 : ∀ w ∈ u_ws RX6 TX6 8, w ∈ zx_G := zx_us [1067, 1069, 1071, 1073, 1075, 1077, 1079, 1081] (by decide +kernel)
theorem uz_X9 : ∀ w ∈ u_ws RX9 TX9 3, w ∈ zx_G := zx_us [2135, 2137, 2139] (by decide +kernel)
theorem zx_arrP {args : Array Value} {s : State} {ty : FieldType} (hne : ∀ C, ty ≠ .object C) (h : (Cond.arrayClass ty).before args s = true) : ∃ cA, ArrOfT s cA ty ∧ va_RA s cA ty := by
  obtain ⟨cA, kA, comp, h1, h2, h3⟩ := Cond.arrayClass_spec h
  refine ⟨cA, fun n z => ⟨fun k h => (by cases h), kA, h2, comp, h3⟩, ?_⟩
  cases ty <;> first | exact h1 | exact absurd rfl (hne _)
theorem zx_arrO {args : Array Value} {s : State} {C : String} (h : (Cond.arrayOver (.object C)).before args s = true) : ∃ cA, ArrOfT s cA (.object C) ∧ va_RA s cA (.object C) := by
  obtain ⟨comp, c, k, f1, -, f2, f3, f4⟩ := Cond.arrayOver_spec h
  exact ⟨c, fun n z => ⟨fun k h => (by cases h), k, f2, comp, f3⟩, k, comp, f2, f3, f1, f4⟩
theorem zx_Kall (cl : List vw_C) (s : State) (h : ∀ q ∈ cl, ∃ (c : ClassId) (i : Nat → Nat), u_Kn s q.1 q.2.1 q.2.2 c i) : ∃ (dC : Nat → ClassId) (dI : Nat → Nat → Nat), ∀ (k : Nat) (q : vw_C), cl[k]? = some q → u_Kn s q.1 q.2.1 q.2.2 (dC k) (dI k) := by
  have h1 : ∀ k : Nat, ∃ (c : ClassId) (i : Nat → Nat), ∀ q : vw_C, cl[k]? = some q → u_Kn s q.1 q.2.1 q.2.2 c i := by
    intro k
    cases hk : cl[k]? with
    | none => exact ⟨0, fun _ => 0, fun q hq => by cases hq⟩
    | some q =>
      obtain ⟨c, i, hu⟩ := h q (List.mem_of_getElem? hk)
      exact ⟨c, i, fun q' hq' => by cases hq'; exact hu⟩
  exact ⟨fun k => (h1 k).choose, fun k => (h1 k).choose_spec.choose, fun k => (h1 k).choose_spec.choose_spec⟩
theorem zx_classes {args : Array Value} {s : State} (hts : ∀ w ∈ zx_G, w.before args s = true) : ∀ q ∈ vwCl, ∃ (c : ClassId) (i : Nat → Nat), u_Kn s q.1 q.2.1 q.2.2 c i := by
  refine List.forall_mem_cons.mpr ⟨u_known (C := RJ0) (T := TJ0) (N := 2) (n := 4) hts uz_J0 (hts (.instantiable RJ0 4) mm_459), List.forall_mem_cons.mpr ⟨u_known (C := RJ4) (T := TJ4) (N := 4) (n := 4) hts uz_J4 (hts (.instantiable RJ4 4) mm_1791), List.forall_mem_cons.mpr ⟨u_known (C := RJx00060) (T := TJx00060) (N := 6) (n := 6) hts uz_Jx00060 (hts (.instantiable RJx00060 6) mm_433), List.forall_mem_cons.mpr ⟨u_known (C := RJx35411) (T := TJx35411) (N := 4) (n := 4) hts uz_Jx35411 (hts (.instantiable RJx35411 4) mm_1674), List.forall_mem_cons.mpr ⟨u_known (C := RJx4a65c) (T := TJx4a65c) (N := 3) (n := 3) hts uz_Jx4a65c (hts (.instantiable RJx4a65c 3) mm_200), List.forall_mem_cons.mpr ⟨u_known (C := RX0) (T := TX0) (N := 2) (n := 2) hts uz_X0 (hts (.instantiable RX0 2) mm_610), List.forall_mem_cons.mpr ⟨u_known (C := RX1) (T := TX1) (N := 5) (n := 5) hts uz_X1 (hts (.instantiable RX1 5) mm_173), List.forall_mem_cons.mpr ⟨u_known (C := RX2) (T := TX2) (N := 5) (n := 5) hts uz_X2 (hts (.instantiable RX2 5) mm_645), List.forall_mem_cons.mpr ⟨u_known (C := RX3) (T := TX3) (N := 19) (n := 19) hts uz_X3 (hts (.instantiable RX3 19) mm_575), List.forall_mem_cons.mpr ⟨u_known (C := RX4) (T := TX4) (N := 10) (n := 10) hts uz_X4 (hts (.instantiable RX4 10) mm_122), List.forall_mem_cons.mpr ⟨u_known (C := RX5) (T := TX5) (N := 4) (n := 4) hts uz_X5 (hts (.instantiable RX5 4) mm_624), List.forall_mem_cons.mpr ⟨u_known (C := RX6) (T := TX6) (N := 8) (n := 8) hts uz_X6 (hts (.instantiable RX6 8) mm_1042), List.forall_mem_cons.mpr ⟨u_known (C := RX7) (T := TX7) (N := 6) (n := 6) hts uz_X7 (hts (.instantiable RX7 6) mm_581), List.forall_mem_cons.mpr ⟨u_known (C := RX8) (T := TX8) (N := 5) (n := 5) hts uz_X8 (hts (.instantiable RX8 5) mm_114), List.forall_mem_cons.mpr ⟨u_known (C := RX9) (T := TX9) (N := 3) (n := 3) hts uz_X9 (hts (.instantiable RX9 3) mm_2123), List.forall_mem_cons.mpr ⟨u_known (C := RX10) (T := TX10) (N := 2) (n := 2) hts uz_X10 (hts (.instantiable RX10 2) mm_1746), List.forall_mem_cons.mpr ⟨u_known (C := RX11) (T := TX11) (N := 26) (n := 26) hts uz_X11 (hts (.instantiable RX11 26) mm_1783), List.forall_mem_cons.mpr ⟨u_known (C := RX12) (T := TX12) (N := 7) (n := 7) hts uz_X12 (hts (.instantiable RX12 7) mm_1613), List.forall_mem_cons.mpr ⟨u_known (C := RX13) (T := TX13) (N := 8) (n := 8) hts uz_X13 (hts (.instantiable RX13 8) mm_2155), List.forall_mem_cons.mpr ⟨u_known (C := RX14) (T := TX14) (N := 3) (n := 3) hts uz_X14 (hts (.instantiable RX14 3) mm_1911), List.forall_mem_cons.mpr ⟨u_known (C := RX15) (T := TX15) (N := 9) (n := 9) hts uz_X15 (hts (.instantiable RX15 9) mm_1564), fun _ h => absurd h List.not_mem_nil⟩⟩⟩⟩⟩⟩⟩⟩⟩⟩⟩⟩⟩⟩⟩⟩⟩⟩⟩⟩⟩
theorem zx_begin {s : State} {b : Nat} (hts0 : ∀ w ∈ lw_tbl, w.before #[Value.ref b] s = true) (hgv : (Jvm.Cond.and given_1 narrow_1).before #[Value.ref b] s = true) : ∃ (D : va_G) (cy : Nat → ClassId) (ed : Nat), va_K D vwCl (zx_T cy) s ∧ zx_St ed (fun q : Nat => s.heap.size ≤ q) s s.heap ∧ zx_Nn (cy 6) s := by
  have hts : ∀ w ∈ zx_G, w.before #[Value.ref b] s = true := fun w h => zx_tb_all hts0 w (List.mem_filter.mp h).1
  have hn : ∀ c ∈ flatC narrow_1, c.before #[Value.ref b] s = true := fun c hc => flat_of_before _ hgv c (List.mem_append_right _ hc)
  have hsz : ∀ a : Nat, a < s.heap.size → ¬ (fun q : Nat => s.heap.size ≤ q) a := fun a h => Nat.not_le.mpr h
  obtain ⟨dC, dI, hKn⟩ := zx_Kall vwCl s (zx_classes hts)
  obtain ⟨c0, r0⟩ := zx_arrP (fun C => by simp) (hts0 (.arrayClass .int) (List.mem_of_getElem? (i := 171) (by decide +kernel)))
  obtain ⟨c1, r1⟩ := zx_arrP (fun C => by simp) (hts0 (.arrayClass .char) (List.mem_of_getElem? (i := 198) (by decide +kernel)))
  obtain ⟨c2, r2⟩ := zx_arrO (hts0 (.arrayOver (.object "java/lang/Object")) (List.mem_of_getElem? (i := 833) (by decide +kernel)))
  obtain ⟨c3, r3⟩ := zx_arrP (fun C => by simp) (hts0 (.arrayClass .long) (List.mem_of_getElem? (i := 2450) (by decide +kernel)))
  obtain ⟨c4, r4⟩ := zx_arrP (fun C => by simp) (hts0 (.arrayClass .double) (List.mem_of_getElem? (i := 2451) (by decide +kernel)))
  obtain ⟨c5, r5⟩ := zx_arrP (fun C => by simp) (hts0 (.arrayClass .byte) (List.mem_of_getElem? (i := 460) (by decide +kernel)))
  have harr := hn (.arrayOf (.static "java/util/ArrayList" "DEFAULTCAPACITY_EMPTY_ELEMENTDATA" "[Ljava/lang/Object;") (.object "java/lang/Object")) (by decide +kernel)
  have heq := hn (.eq (.length (.static "java/util/ArrayList" "DEFAULTCAPACITY_EMPTY_ELEMENTDATA" "[Ljava/lang/Object;")) (.int 0)) (by decide +kernel)
  obtain ⟨w, e1, e2⟩ := Cond.eq_one heq
  have e3 : w = .int 0 := (Option.some.inj e2).symm
  rw [e3] at e1
  have hcs := hn (.eq (.static "java/lang/String" "COMPACT_STRINGS" "Z") (.int 1)) (by decide +kernel)
  obtain ⟨w2, f1, f2⟩ := Cond.eq_one hcs
  have f3 : w2 = .int 1 := (Option.some.inj f2).symm
  rw [f3] at f1
  obtain ⟨mi, hmi⟩ := va_Mi.of (hn (.isRef (.mirror "[Ljava/lang/Object;")) (by decide +kernel))
  obtain ⟨ed, g1, g2⟩ := va_Tof (N := 0) (f := fun _ => .null) (A := fun q : Nat => s.heap.size ≤ q) (by decide) harr e1 (fun j hj => absurd hj (Nat.not_lt_zero _)) hsz
  refine ⟨(dC, dI), (fun k => if k = 0 then c0 else if k = 1 then c1 else if k = 2 then c2 else if k = 3 then c3 else if k = 4 then c4 else if k = 5 then c5 else mi), ed, ⟨hKn, ?_⟩, ⟨vx_Zqof (hts0 (.laysStatic "java/lang/Throwable" "UNASSIGNED_STACK" "[Ljava/lang/StackTraceElement;") (List.mem_of_getElem? (i := 369) (by decide +kernel))) (hts0 (.initialized "java/lang/Throwable") (List.mem_of_getElem? (i := 79) (by decide +kernel))) (hn _ (by decide +kernel)) hsz, vx_Zqof (hts0 (.laysStatic "java/lang/Throwable" "SUPPRESSED_SENTINEL" "Ljava/util/List;") (List.mem_of_getElem? (i := 371) (by decide +kernel))) (hts0 (.initialized "java/lang/Throwable") (List.mem_of_getElem? (i := 79) (by decide +kernel))) (hn _ (by decide +kernel)) hsz, va_Zof (hts0 (.laysStatic "java/util/ArrayList" "DEFAULTCAPACITY_EMPTY_ELEMENTDATA" "[Ljava/lang/Object;") (List.mem_of_getElem? (i := 212) (by decide +kernel))) (hts0 (.initialized "java/util/ArrayList") (List.mem_of_getElem? (i := 77) (by decide +kernel))) g1 hsz, g2, va_Zof (hts0 (.laysStatic "java/lang/String" "COMPACT_STRINGS" "Z") (List.mem_of_getElem? (i := 1800) (by decide +kernel))) (hts0 (.initialized "java/lang/String") (List.mem_of_getElem? (i := 90) (by decide +kernel))) f1 hsz⟩, ?_⟩
  · intro k q hq
    match k, hq with
    | 0, hq => cases hq; exact r0
    | 1, hq => cases hq; exact r1
    | 2, hq => cases hq; exact r2
    | 3, hq => cases hq; exact r3
    | 4, hq => cases hq; exact r4
    | 5, hq => cases hq; exact r5
    | k + 6, hq => simp [zx_T] at hq
  · exact ⟨fun a i b n d h hw => va_Nw.of rfl (hts0 _ hw), fun a i x h hw => va_Nw.of rfl (hts0 _ hw), fun a b hw => zx_cast_moved (Vm.Alike.refl _) (hts0 _ hw), fun a b hw => va_Nc.of (hn _ hw), (va_Fw.of (hts0 (.declares ⟨"java/util/Iterator", "hasNext", "()Z"⟩) (List.mem_of_getElem? (i := 1695) (by decide +kernel))) (hts0 (.interfaceMethod "java/util/Iterator" "java/util/Iterator" "hasNext" "()Z") (List.mem_of_getElem? (i := 1694) (by decide +kernel))) (hts0 (.publicMethod ⟨"java/util/ArrayList$Itr", "hasNext", "()Z"⟩) (List.mem_of_getElem? (i := 1700) (by decide +kernel))) (hts0 (.unhidden "java/util/ArrayList$Itr" "hasNext" "()Z") (List.mem_of_getElem? (i := 1698) (by decide +kernel))) (hts0 (.castable "java/util/ArrayList$Itr" "java/util/Iterator") (List.mem_of_getElem? (i := 1696) (by decide +kernel)))), (va_Fw.of (hts0 (.declares ⟨"java/util/Iterator", "next", "()Ljava/lang/Object;"⟩) (List.mem_of_getElem? (i := 1705) (by decide +kernel))) (hts0 (.interfaceMethod "java/util/Iterator" "java/util/Iterator" "next" "()Ljava/lang/Object;") (List.mem_of_getElem? (i := 1704) (by decide +kernel))) (hts0 (.publicMethod ⟨"java/util/ArrayList$Itr", "next", "()Ljava/lang/Object;"⟩) (List.mem_of_getElem? (i := 1709) (by decide +kernel))) (hts0 (.unhidden "java/util/ArrayList$Itr" "next" "()Ljava/lang/Object;") (List.mem_of_getElem? (i := 1707) (by decide +kernel))) (hts0 (.castable "java/util/ArrayList$Itr" "java/util/Iterator") (List.mem_of_getElem? (i := 1696) (by decide +kernel)))), fun x hw => zx_decl_moved (Vm.Alike.refl _) (hts0 _ hw), va_AO.of (hts0 (.arrayOver (.object "java/lang/Object")) (List.mem_of_getElem? (i := 833) (by decide +kernel))), hmi, va_Dc.of (hts0 (.declares ⟨"java/lang/Object", "getClass", "()Ljava/lang/Class;"⟩) (List.mem_of_getElem? (i := 2490) (by decide +kernel)))⟩
theorem zx_and63 (x : Int32) : ∃ n : Nat, n < 64 ∧ x &&& 63 = Int32.ofNat n := by
  refine ⟨(x &&& 63).toBitVec.toNat, ?_, ?_⟩
  · have h : (x &&& 63).toBitVec.toNat = x.toBitVec.toNat &&& 63 := by simp
    rw [h]
    exact Nat.lt_of_le_of_lt Nat.and_le_right (by decide)
  · apply Int32.toBitVec_inj.mp
    simp
theorem zx_words {args : Array Value} {s : State} (h : ∀ w ∈ (Jvm.Cond.code x code maxLocals ret :: tables_1), w.before args s = true) : (∀ w ∈ lw_tbl, w.before args s = true) ∧ ∀ w ∈ wzL_law, w.before args s = true := by
  have h1 : ∀ w ∈ lw_tbl, w.before args s = true := k2_hts_sels lw_privs (fun w hw => h w (List.mem_cons_of_mem _ hw)) lw_privs_ok
  refine ⟨h1, fun w hw => ?_⟩
  rcases List.mem_cons.mp hw with e | hw
  · rw [e]
    exact h (Jvm.Cond.code x code maxLocals ret) List.mem_cons_self
  · exact zx_tb_all h1 w (List.mem_filter.mp hw).1
set_option maxHeartbeats 4000000 in
/-- **From every start with room enough on which the script stands, the claim's first limb is false**: the run ends, and has made 646380 cells and more, where the claim's frame allows 603072. -/
theorem bad_refutes {l : Launch} {p : Program} {e : Env} {s : State} {m : MethodId} {b : Nat} {below : List Frame} (hflags : l.flags = flags0) (hL : Lists l classFile x code maxLocals ret tables_1 room_1) (ha : l.admits e) (hc : FairCas e.choices) (hk : FairClock e.choices)
    (hf : s.frames = Frame.invoking m #[Value.ref b] :: below) (hfit : argsFit s.vm m #[Value.ref b] = true) (hheap : heapFits s = true) (happ : (headSpec (Jvm.Cond.code x code maxLocals ret :: tables_1) room_1).applies x e.platform s = true) (hroom : s.hasRoom e.platform zx_R = true)
    (hrest : rest_1 p.tables e #[Value.ref b] s) (hpre : Pre_1 p.tables e #[Value.ref b] s) (hX : va_X b 3072 zx_bad s s.heap) : ¬ Claimed_1_1 := by
  intro hcl
  obtain ⟨n, o, hw, hr, he, hpost⟩ := hcl l hflags hL trivial p e ha hc hk s m #[Value.ref b] below hf hfit hheap happ ⟨trivial, hrest, hpre⟩
  obtain ⟨a1, a2, a3, a4, a5, a6, a7, a8⟩ := (Spec.appliesLoose_iff hf).mp ((Spec.applies_iff_loose hf).mp happ).1
  have hts0 : ∀ w ∈ (Jvm.Cond.code x code maxLocals ret :: tables_1), w.before #[Value.ref b] s = true := atoms_spec (ws := Jvm.Cond.code x code maxLocals ret :: tables_1) a8
  have hst : l.stackTraces = false := by unfold Launch.stackTraces; rw [hflags]; decide +kernel
  have hbl : b < s.heap.size := by
    obtain ⟨scr, h1, -⟩ := hX
    exact (Array.getElem?_eq_some_iff.mp h1).1
  have happ2 : (headSpec wzL_law zx_R).appliesLoose yL_law e.platform s = true := (Spec.appliesLoose_iff hf).mpr ⟨a1, a2, a3, a4, a5, a6, hroom, atoms_intro (zx_words hts0).2⟩
  obtain ⟨n2, o2, hw2, hr2, he2, ⟨hq2, -⟩⟩ := bad_met l hst b p e ha hc hk s m #[Value.ref b] below hf happ2 ⟨rfl, hbl, hX, zx_begin (zx_words hts0).1 hpre⟩ trivial
  obtain ⟨rfl, rfl⟩ := the_end_unique (f := fun k => stepsAlone p.tables e k s) hw he hw2 he2
  obtain ⟨-, hF, -, -⟩ := hpost
  obtain ⟨-, -, hsb⟩ := hF
  have h1 : (stepsAlone p.tables e n s).heap.size ≤ s.heap.size + 603072 := hsb.2.2.1
  have h2 : s.heap.size + 646380 ≤ (stepsAlone p.tables e n s).heap.size := hq2
  omega


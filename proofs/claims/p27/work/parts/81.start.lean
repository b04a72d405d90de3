/-! the start: what the Statement gives, as the machine layer wants it -/
theorem g_ty1 {args : Array Value} {s : State} {ty : FieldType} (h : (Cond.arrayClass ty).before args s = true) : ∃ cA, ArrOfT s cA ty ∧ s.vm.findClass ("[" ++ ty.toString) = some cA := by
  obtain ⟨c, k, comp, h1, h2, h3⟩ := Cond.arrayClass_spec h
  exact ⟨c, fun N z => ⟨(fun k h => by cases h), k, h2, comp, h3⟩, h1⟩
theorem g_tyO {args : Array Value} {s : State} {C : String} (h : (Cond.arrayOver (.object C)).before args s = true) : ∃ cA, ArrOfT s cA (.object C) ∧ va_RA s cA (.object C) := by
  obtain ⟨comp, c, k, h1, h2, h3, h4, h5⟩ := Cond.arrayOver_spec h
  exact ⟨c, fun N z => ⟨(fun k h => by cases h), k, h3, comp, h4⟩, k, comp, h3, h4, h1, h5⟩
theorem g_tyA {args : Array Value} {s : State} (h : (Cond.arrayOver (.array .int)).before args s = true) : ∃ cA, ArrOfT s cA (.array .int) ∧ va_RA s cA (.array .int) := by
  obtain ⟨comp, c, k, h1, h2, h3, h4, h5⟩ := arrayOverA_spec h
  exact ⟨c, fun N z => ⟨(fun k h => by cases h), k, h3, comp, h4⟩, h5⟩
theorem g_tyB {args : Array Value} {s : State} (h : (Cond.arrayOver (.array (.array .int))).before args s = true) : ∃ cA, ArrOfT s cA (.array (.array .int)) ∧ va_RA s cA (.array (.array .int)) := by
  obtain ⟨comp, c, k, h1, h2, h3, h4, h5⟩ := arrayOverA_spec h
  exact ⟨c, fun N z => ⟨(fun k h => by cases h), k, h3, comp, h4⟩, h5⟩
theorem g_str {args : Array Value} {s : State} {own tx : String} {k : Nat} (h1 : (Cond.stringRef own k tx).before args s = true) (h2 : (Cond.exactly (.string own k) "java/lang/String").before args s = true) : ∃ sa : Nat, vk_R own k tx sa s := by
  obtain ⟨a, c, cell, k9, h3, -⟩ := Cond.exactly_spec h2
  exact ⟨a, vk_R.of h1 h3⟩
abbrev g_fl : List Cond := flatC (Jvm.Cond.and given_1 narrow_1)
theorem g_strs : ∀ q ∈ ms_strs, Cond.stringRef q.1 q.2.1 q.2.2 ∈ lw_tbl := List.forall_mem_cons.mpr ⟨(List.mem_of_getElem? (i := 825) (by decide +kernel)), List.forall_mem_cons.mpr ⟨(List.mem_of_getElem? (i := 89) (by decide +kernel)), List.forall_mem_cons.mpr ⟨(List.mem_of_getElem? (i := 140) (by decide +kernel)), List.forall_mem_cons.mpr ⟨(List.mem_of_getElem? (i := 204) (by decide +kernel)), List.forall_mem_cons.mpr ⟨(List.mem_of_getElem? (i := 210) (by decide +kernel)), List.forall_mem_cons.mpr ⟨(List.mem_of_getElem? (i := 834) (by decide +kernel)), List.forall_mem_cons.mpr ⟨(List.mem_of_getElem? (i := 233) (by decide +kernel)), List.forall_mem_cons.mpr ⟨(List.mem_of_getElem? (i := 264) (by decide +kernel)), List.forall_mem_cons.mpr ⟨(List.mem_of_getElem? (i := 863) (by decide +kernel)), List.forall_mem_cons.mpr ⟨(List.mem_of_getElem? (i := 865) (by decide +kernel)), List.forall_mem_cons.mpr ⟨(List.mem_of_getElem? (i := 887) (by decide +kernel)), List.forall_mem_cons.mpr ⟨(List.mem_of_getElem? (i := 888) (by decide +kernel)), List.forall_mem_cons.mpr ⟨(List.mem_of_getElem? (i := 889) (by decide +kernel)), List.forall_mem_cons.mpr ⟨(List.mem_of_getElem? (i := 811) (by decide +kernel)), List.forall_mem_cons.mpr ⟨(List.mem_of_getElem? (i := 278) (by decide +kernel)), List.forall_mem_cons.mpr ⟨(List.mem_of_getElem? (i := 339) (by decide +kernel)), List.forall_mem_cons.mpr ⟨(List.mem_of_getElem? (i := 349) (by decide +kernel)), List.forall_mem_cons.mpr ⟨(List.mem_of_getElem? (i := 350) (by decide +kernel)), List.forall_mem_cons.mpr ⟨(List.mem_of_getElem? (i := 374) (by decide +kernel)), List.forall_mem_cons.mpr ⟨(List.mem_of_getElem? (i := 398) (by decide +kernel)), List.forall_mem_cons.mpr ⟨(List.mem_of_getElem? (i := 458) (by decide +kernel)), fun _ h => absurd h List.not_mem_nil⟩⟩⟩⟩⟩⟩⟩⟩⟩⟩⟩⟩⟩⟩⟩⟩⟩⟩⟩⟩⟩
theorem g_strx : ∀ q ∈ ms_strs, Cond.exactly (.string q.1 q.2.1) "java/lang/String" ∈ g_fl := by decide +kernel
theorem g_nM : ∀ q ∈ ms_nM, Cond.methodLinkNest q.1 q.2.1 q.2.2.1 q.2.2.2 ∈ lw_tbl := List.forall_mem_cons.mpr ⟨(List.mem_of_getElem? (i := 507) (by decide +kernel)), List.forall_mem_cons.mpr ⟨(List.mem_of_getElem? (i := 645) (by decide +kernel)), List.forall_mem_cons.mpr ⟨(List.mem_of_getElem? (i := 557) (by decide +kernel)), List.forall_mem_cons.mpr ⟨(List.mem_of_getElem? (i := 171) (by decide +kernel)), List.forall_mem_cons.mpr ⟨(List.mem_of_getElem? (i := 755) (by decide +kernel)), List.forall_mem_cons.mpr ⟨(List.mem_of_getElem? (i := 759) (by decide +kernel)), fun _ h => absurd h List.not_mem_nil⟩⟩⟩⟩⟩⟩
theorem g_nF : ∀ q ∈ ms_nF, Cond.fieldLinkNest q.1 q.2.1 q.2.2.1 q.2.2.2.1 q.2.2.2.2.1 q.2.2.2.2.2 ∈ lw_tbl := List.forall_mem_cons.mpr ⟨(List.mem_of_getElem? (i := 681) (by decide +kernel)), List.forall_mem_cons.mpr ⟨(List.mem_of_getElem? (i := 683) (by decide +kernel)), List.forall_mem_cons.mpr ⟨(List.mem_of_getElem? (i := 617) (by decide +kernel)), fun _ h => absurd h List.not_mem_nil⟩⟩⟩
theorem g_dcl : ∀ y ∈ ms_dcl, Cond.declares y ∈ lw_tbl := List.forall_mem_cons.mpr ⟨(List.mem_of_getElem? (i := 50) (by decide +kernel)), List.forall_mem_cons.mpr ⟨(List.mem_of_getElem? (i := 52) (by decide +kernel)), List.forall_mem_cons.mpr ⟨(List.mem_of_getElem? (i := 54) (by decide +kernel)), fun _ h => absurd h List.not_mem_nil⟩⟩⟩
theorem g_stX {args : Array Value} {s : State} (hts : ∀ w ∈ lw_tbl, w.before args s = true) (hg : ∀ w ∈ g_fl, w.before args s = true) : ∃ t, va_Z "StarlingSquare" "STEP_X" "[I" (.ref t) (fun q => s.heap.size ≤ q) s s.heap ∧ va_T .int t 8 (fun j => .int (ms_sx j)) (fun q => s.heap.size ≤ q) s s.heap := by
  have hA : ∀ a : Nat, a < s.heap.size → ¬ s.heap.size ≤ a := fun a h => Nat.not_le.mpr h
  have harr := hg (.arrayOf (.static "StarlingSquare" "STEP_X" "[I") .int) (by decide +kernel)
  have hlen := va_eqt (hg (.eq (.length (.static "StarlingSquare" "STEP_X" "[I")) (.int 8)) (by decide +kernel))
  have e0 := va_eqt (hg (.eq (.elem (.static "StarlingSquare" "STEP_X" "[I") (.int 0)) (.int 1)) (by decide +kernel))
  have e1 := va_eqt (hg (.eq (.elem (.static "StarlingSquare" "STEP_X" "[I") (.int 1)) (.int 0)) (by decide +kernel))
  have e2 := va_eqt (hg (.eq (.elem (.static "StarlingSquare" "STEP_X" "[I") (.int 2)) (.int (-1))) (by decide +kernel))
  have e3 := va_eqt (hg (.eq (.elem (.static "StarlingSquare" "STEP_X" "[I") (.int 3)) (.int 0)) (by decide +kernel))
  have e4 := va_eqt (hg (.eq (.elem (.static "StarlingSquare" "STEP_X" "[I") (.int 4)) (.int 1)) (by decide +kernel))
  have e5 := va_eqt (hg (.eq (.elem (.static "StarlingSquare" "STEP_X" "[I") (.int 5)) (.int (-1))) (by decide +kernel))
  have e6 := va_eqt (hg (.eq (.elem (.static "StarlingSquare" "STEP_X" "[I") (.int 6)) (.int (-1))) (by decide +kernel))
  have e7 := va_eqt (hg (.eq (.elem (.static "StarlingSquare" "STEP_X" "[I") (.int 7)) (.int 1)) (by decide +kernel))
  obtain ⟨t, h1, h2⟩ := va_Tof (N := 8) (f := fun j => .int (ms_sx j)) (by decide) harr hlen (fun j hj => by
    match j, hj with
    | 0, _ => exact e0
    | 1, _ => exact e1
    | 2, _ => exact e2
    | 3, _ => exact e3
    | 4, _ => exact e4
    | 5, _ => exact e5
    | 6, _ => exact e6
    | 7, _ => exact e7
    ) hA
  exact ⟨t, va_Zref (hts _ (List.mem_of_getElem? (i := 682) (by decide +kernel))) (hts _ (List.mem_of_getElem? (i := 24) (by decide +kernel))) h1 hA, h2⟩
theorem g_stY {args : Array Value} {s : State} (hts : ∀ w ∈ lw_tbl, w.before args s = true) (hg : ∀ w ∈ g_fl, w.before args s = true) : ∃ t, va_Z "StarlingSquare" "STEP_Y" "[I" (.ref t) (fun q => s.heap.size ≤ q) s s.heap ∧ va_T .int t 8 (fun j => .int (ms_sy j)) (fun q => s.heap.size ≤ q) s s.heap := by
  have hA : ∀ a : Nat, a < s.heap.size → ¬ s.heap.size ≤ a := fun a h => Nat.not_le.mpr h
  have harr := hg (.arrayOf (.static "StarlingSquare" "STEP_Y" "[I") .int) (by decide +kernel)
  have hlen := va_eqt (hg (.eq (.length (.static "StarlingSquare" "STEP_Y" "[I")) (.int 8)) (by decide +kernel))
  have e0 := va_eqt (hg (.eq (.elem (.static "StarlingSquare" "STEP_Y" "[I") (.int 0)) (.int 0)) (by decide +kernel))
  have e1 := va_eqt (hg (.eq (.elem (.static "StarlingSquare" "STEP_Y" "[I") (.int 1)) (.int 1)) (by decide +kernel))
  have e2 := va_eqt (hg (.eq (.elem (.static "StarlingSquare" "STEP_Y" "[I") (.int 2)) (.int 0)) (by decide +kernel))
  have e3 := va_eqt (hg (.eq (.elem (.static "StarlingSquare" "STEP_Y" "[I") (.int 3)) (.int (-1))) (by decide +kernel))
  have e4 := va_eqt (hg (.eq (.elem (.static "StarlingSquare" "STEP_Y" "[I") (.int 4)) (.int 1)) (by decide +kernel))
  have e5 := va_eqt (hg (.eq (.elem (.static "StarlingSquare" "STEP_Y" "[I") (.int 5)) (.int 1)) (by decide +kernel))
  have e6 := va_eqt (hg (.eq (.elem (.static "StarlingSquare" "STEP_Y" "[I") (.int 6)) (.int (-1))) (by decide +kernel))
  have e7 := va_eqt (hg (.eq (.elem (.static "StarlingSquare" "STEP_Y" "[I") (.int 7)) (.int (-1))) (by decide +kernel))
  obtain ⟨t, h1, h2⟩ := va_Tof (N := 8) (f := fun j => .int (ms_sy j)) (by decide) harr hlen (fun j hj => by
    match j, hj with
    | 0, _ => exact e0
    | 1, _ => exact e1
    | 2, _ => exact e2
    | 3, _ => exact e3
    | 4, _ => exact e4
    | 5, _ => exact e5
    | 6, _ => exact e6
    | 7, _ => exact e7
    ) hA
  exact ⟨t, va_Zref (hts _ (List.mem_of_getElem? (i := 684) (by decide +kernel))) (hts _ (List.mem_of_getElem? (i := 24) (by decide +kernel))) h1 hA, h2⟩
theorem g_xs {args : Array Value} {s : State} (hts : ∀ w ∈ lw_tbl, w.before args s = true) (hg : ∀ w ∈ g_fl, w.before args s = true) : ms_xs s.heap.size s s.heap := by
  have hA : ∀ a : Nat, a < s.heap.size → ¬ s.heap.size ≤ a := fun a h => Nat.not_le.mpr h
  have hT := hts (.initialized "java/lang/Throwable") (List.mem_of_getElem? (i := 30) (by decide +kernel))
  refine ⟨vx_Zqof (hts _ (List.mem_of_getElem? (i := 75) (by decide +kernel))) hT (hg _ (by decide +kernel)) hA, vx_Zqof (hts _ (List.mem_of_getElem? (i := 77) (by decide +kernel))) hT (hg _ (by decide +kernel)) hA, fun q hq => g_str (hts _ (g_strs q hq)) (hg _ (g_strx q hq)), fun q hq => absurd hq List.not_mem_nil, fun E hE => ?_, fun y hy => va_Nw.of rfl (hts _ (g_dcl y hy))⟩
  have h1 : ∀ E, (Cond.castable E E).before args s = true → ∃ c, s.vm.findClass E = some c := fun E h => by
    obtain ⟨c, t, h2, -⟩ := Cond.castable_spec h
    exact ⟨c, h2⟩
  simp only [ms_exs, List.mem_cons, List.not_mem_nil, or_false] at hE
  rcases hE with hE | hE | hE
  · rw [hE]; exact h1 _ (hts _ (List.mem_of_getElem? (i := 226) (by decide +kernel)))
  · rw [hE]; exact h1 _ (hts _ (List.mem_of_getElem? (i := 133) (by decide +kernel)))
  · rw [hE]; exact h1 _ (hts _ (List.mem_of_getElem? (i := 48) (by decide +kernel)))
theorem g_K {args : Array Value} {s : State} (hts : ∀ w ∈ lw_tbl, w.before args s = true) : ∃ (D : va_G) (cA : Nat → ClassId), va_K D vwCl (ms_tys cA) s := by
  have hb : ∀ w ∈ ms_big, w.before args s = true := fun w hw => hts w (List.mem_filter.mp hw).1
  obtain ⟨c_X0, i_X0, k_X0⟩ := u_known (n := 10) hb iwX0 (hts (.instantiable RX0 10) (List.mem_of_getElem? (i := 359) (by decide +kernel)))
  obtain ⟨c_X1, i_X1, k_X1⟩ := u_known (n := 4) hb iwX1 (hts (.instantiable RX1 4) (List.mem_of_getElem? (i := 506) (by decide +kernel)))
  obtain ⟨c_X2, i_X2, k_X2⟩ := u_known (n := 5) hb iwX2 (hts (.instantiable RX2 5) (List.mem_of_getElem? (i := 286) (by decide +kernel)))
  obtain ⟨c_X3, i_X3, k_X3⟩ := u_known (n := 5) hb iwX3 (hts (.instantiable RX3 5) (List.mem_of_getElem? (i := 177) (by decide +kernel)))
  obtain ⟨c_X4, i_X4, k_X4⟩ := u_known (n := 11) hb iwX4 (hts (.instantiable RX4 11) (List.mem_of_getElem? (i := 556) (by decide +kernel)))
  obtain ⟨c_X5, i_X5, k_X5⟩ := u_known (n := 6) hb iwX5 (hts (.instantiable RX5 6) (List.mem_of_getElem? (i := 243) (by decide +kernel)))
  obtain ⟨c_X6, i_X6, k_X6⟩ := u_known (n := 10) hb iwX6 (hts (.instantiable RX6 10) (List.mem_of_getElem? (i := 495) (by decide +kernel)))
  obtain ⟨a0, b0, d0⟩ := g_ty1 (hts (.arrayClass .int) (List.mem_of_getElem? (i := 527) (by decide +kernel)))
  obtain ⟨a1, b1, d1⟩ := g_ty1 (hts (.arrayClass .boolean) (List.mem_of_getElem? (i := 812) (by decide +kernel)))
  obtain ⟨a2, b2, d2⟩ := g_tyB (hts (.arrayOver (.array (.array .int))) (List.mem_of_getElem? (i := 713) (by decide +kernel)))
  obtain ⟨a3, b3, d3⟩ := g_tyO (hts (.arrayOver (.object "StarlingSquare$Walker")) (List.mem_of_getElem? (i := 555) (by decide +kernel)))
  obtain ⟨a4, b4, d4⟩ := g_tyA (hts (.arrayOver (.array .int)) (List.mem_of_getElem? (i := 714) (by decide +kernel)))
  refine ⟨(fun k => if k = 0 then c_X0 else if k = 1 then c_X1 else if k = 2 then c_X2 else if k = 3 then c_X3 else if k = 4 then c_X4 else if k = 5 then c_X5 else c_X6, fun k => if k = 0 then i_X0 else if k = 1 then i_X1 else if k = 2 then i_X2 else if k = 3 then i_X3 else if k = 4 then i_X4 else if k = 5 then i_X5 else i_X6), fun k => if k = 0 then a0 else if k = 1 then a1 else if k = 2 then a2 else if k = 3 then a3 else a4, fun c q hq => ?_, fun k q hq => ?_⟩
  · match c, hq with
    | 0, hq => cases hq; exact k_X0
    | 1, hq => cases hq; exact k_X1
    | 2, hq => cases hq; exact k_X2
    | 3, hq => cases hq; exact k_X3
    | 4, hq => cases hq; exact k_X4
    | 5, hq => cases hq; exact k_X5
    | 6, hq => cases hq; exact k_X6
    | c + 7, hq => simp [vwCl] at hq
  · match k, hq with
    | 0, hq => cases hq; exact ⟨b0, d0⟩
    | 1, hq => cases hq; exact ⟨b1, d1⟩
    | 2, hq => cases hq; exact ⟨b2, d2⟩
    | 3, hq => cases hq; exact ⟨b3, d3⟩
    | 4, hq => cases hq; exact ⟨b4, d4⟩
    | k + 5, hq => simp [ms_tys] at hq
theorem g_SE {args : Array Value} {s : State} {D : va_G} {cA : Nat → ClassId} (hts : ∀ w ∈ lw_tbl, w.before args s = true) (hg : ∀ w ∈ g_fl, w.before args s = true) (hK : va_K D vwCl (ms_tys cA) s) : ms_SE D cA s.heap.size s :=
  ⟨hK, ⟨g_stX hts hg, g_stY hts hg⟩, ⟨fun q hq => va_Nw.of rfl (hts _ (g_nM q hq)), fun q hq => va_Nw.of rfl (hts _ (g_nF q hq))⟩, va_AO.of (hts _ (List.mem_of_getElem? (i := 555) (by decide +kernel))), ⟨hts (.arrayOver (.array .int)) (List.mem_of_getElem? (i := 714) (by decide +kernel)), hts (.arrayOver (.array (.array .int))) (List.mem_of_getElem? (i := 713) (by decide +kernel))⟩, g_xs hts hg⟩

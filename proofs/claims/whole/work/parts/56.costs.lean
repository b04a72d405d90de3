/-! numbers: what a side costs, by both -/
theorem pos_of {W H cnt : Nat} {u : Nat → Nat → Int32} (hW : W ≤ 14) (hH : H ≤ 14) (hv : hvX (nI (W * H)) cnt u) {w : Nat} (hw : w < cnt) (h : ¬ u w 3 = -1) : ∃ o, o < W * H ∧ u w 3 = nI o := by
  have h9 := fd_196 hW hH
  have h1 := (hv w hw).resolve_left h
  obtain ⟨o, ho, e⟩ := has_nat h1
  refine ⟨o, ?_, e⟩
  have h2 := h1.2.1
  rw [e] at h2
  exact (nI_ltI (by omega) (by omega)).mp h2
theorem pRo_m {W cnt f : Nat} {u : Nat → Nat → Int32} (hc : cnt ≤ 24) : ct (pRo W u f (-1)) cnt = ct (fun w => decide (¬ u w 3 = -1 ∧ arR W f (u w 3).toNatClampNeg ∧ True)) cnt :=
  ct_congr (fun w hw => ba (by
    unfold pRo
    rw [decide_eq_true_eq, decide_eq_true_eq]
    exact ⟨fun h => ⟨h.2.1, h.2.2, trivial⟩, fun h => ⟨nI_m1 (by omega), h.1, h.2.1⟩⟩))
theorem pRo_i {W cnt f i : Nat} {u : Nat → Nat → Int32} (hc : cnt ≤ 24) (hi : i < cnt) : ct (pRo W u f (nI i)) cnt = ct (fun w => decide (¬ w = i ∧ ¬ u w 3 = -1 ∧ arR W f (u w 3).toNatClampNeg)) cnt :=
  ct_congr (fun w hw => ba (by
    unfold pRo
    rw [decide_eq_true_eq, decide_eq_true_eq]
    exact ⟨fun h => ⟨fun z => h.1 (by rw [z]), h.2⟩, fun h => ⟨fun z => h.1 ((nI_eq (by omega) (by omega)).mp z), h.2⟩⟩))
theorem on_side {W H cnt f j : Nat} {nr : Nat → Int32} {u : Nat → Nat → Int32} {on : Nat → Int32} (hL : lk_ok W H (W * H) nr) (hW : W ≤ 14) (hH : H ≤ 14) (hon : onV (W * H) cnt u on) (hf : f < W * H) (hj : j < 8) : (cr_on on (nbX nr f j) = -1 ∧ ∀ w, w < cnt → ¬ (nbX nr f j = u w 3 ∧ ¬ u w 3 = -1)) ∨ ∃ k, k < cnt ∧ cr_on on (nbX nr f j) = nI k ∧ nbX nr f j = u k 3 ∧ ¬ u k 3 = -1 ∧ ∀ w, w < cnt → nbX nr f j = u w 3 → w = k := by
  have h9 := fd_196 hW hH
  rcases nbX_val hL hf hW hH hj with h | ⟨o, ho, h⟩
  · refine Or.inl ⟨?_, fun w hw z => z.2 (z.1.symm.trans h)⟩
    rw [h]
    exact if_neg (fun z => absurd z.1 (by decide))
  · rw [h, cr_onI on (by omega)]
    rcases hon o ho with ⟨e1, e2⟩ | ⟨k, hk, e1, e2, e3⟩
    · exact Or.inl ⟨e1, fun w hw z => e2 w hw z.1.symm⟩
    · exact Or.inr ⟨k, hk, e1, e2.symm, fun z => nI_m1 (by omega) (e2.symm.trans z), fun w hw e => e3 w hw e.symm⟩
theorem cRound_eq {W H cnt f : Nat} {nr : Nat → Int32} {u : Nat → Nat → Int32} {on : Nat → Int32} (hL : lk_ok W H (W * H) nr) (hW : W ≤ 14) (hH : H ≤ 14) (hc : cnt ≤ 24) (hon : onV (W * H) cnt u on) (hv : hvX (nI (W * H)) cnt u) (hf : f < W * H) : cRound nr on (nI f) = nI (ct (pRo W u f (-1)) cnt) := by
  unfold cRound
  rw [pRo_m hc, ← rcount hL hW hH hon hv hf (fun _ => True)]
  congr 1
  refine ct_congr (fun j hj => ba ?_)
  unfold pRound
  rw [decide_eq_true_eq, an_iff]
  show ¬ cr_on on (nbX nr f j) = -1 ↔ _
  rcases on_side hL hW hH hon hf hj with ⟨e1, e2⟩ | ⟨k, hk, e1, e2, e3, -⟩
  · constructor
    · intro h; exact absurd e1 h
    · rintro ⟨w, hw, h⟩
      obtain ⟨a, b, -⟩ := of_decide_eq_true h
      exact absurd ⟨a, b⟩ (e2 w hw)
  · constructor
    · intro _; exact ⟨k, hk, decide_eq_true ⟨e2, e3, trivial⟩⟩
    · intro _; rw [e1]; exact nI_m1 (by omega)
theorem cFace_eq {W H cnt i own s : Nat} {nr : Nat → Int32} {u : Nat → Nat → Int32} {on : Nat → Int32} (hL : lk_ok W H (W * H) nr) (hW : W ≤ 14) (hH : H ≤ 14) (hc : cnt ≤ 24) (hon : onV (W * H) cnt u on) (hv : hvX (nI (W * H)) cnt u) (hi : i < cnt) (hpo : u i 3 = nI own) (ho : own < W * H) : cFace (nI cnt) nr on u (nI own) (nI s) = nI (ct (pFm W u i own (nI s)) cnt) := by
  have h9 := fd_196 hW hH
  unfold cFace
  have e0 : ct (pFm W u i own (nI s)) cnt = ct (fun w => decide (¬ u w 3 = -1 ∧ arR W own (u w 3).toNatClampNeg ∧ u w 4 = nI s)) cnt := ct_congr (fun w hw => ba (by
    unfold pFm
    rw [decide_eq_true_eq, decide_eq_true_eq]
    constructor
    · rintro ⟨a, b⟩; exact b
    · intro h
      refine ⟨fun z => ?_, h⟩
      have h2 := h.2.1
      rw [z, hpo, nI_clamp (by omega)] at h2
      exact h2.1 rfl))
  rw [e0, ← rcount hL hW hH hon hv ho (fun w => u w 4 = nI s)]
  congr 1
  refine ct_congr (fun j hj => ba ?_)
  unfold pFace
  rw [decide_eq_true_eq, an_iff]
  show pIs (nI cnt) (cr_on on (nbX nr own j)) ∧ u (cr_on on (nbX nr own j)).toNatClampNeg 4 = nI s ↔ _
  rcases on_side hL hW hH hon ho hj with ⟨e1, e2⟩ | ⟨k, hk, e1, e2, e3, e4⟩
  · constructor
    · rintro ⟨h, -⟩
      rw [e1] at h
      exact absurd h.1 (by decide)
    · rintro ⟨w, hw, h⟩
      obtain ⟨a, b, -⟩ := of_decide_eq_true h
      exact absurd ⟨a, b⟩ (e2 w hw)
  · rw [e1, nI_clamp (by omega)]
    constructor
    · rintro ⟨-, h⟩; exact ⟨k, hk, decide_eq_true ⟨e2, e3, h⟩⟩
    · rintro ⟨w, hw, h⟩
      obtain ⟨a, b, d⟩ := of_decide_eq_true h
      have := e4 w hw a
      subst this
      exact ⟨pIs_of hc hk, d⟩
theorem arR_symm {W f o : Nat} (h : arR W f o) : arR W o f := ⟨fun z => h.1 z.symm, ⟨h.2.1.2, h.2.1.1⟩, h.2.2.2, h.2.2.1⟩
theorem pRo_own {W H cnt i own : Nat} {u : Nat → Nat → Int32} (hc : cnt ≤ 24) (hW : W ≤ 14) (hH : H ≤ 14) (hi : i < cnt) (hpo : u i 3 = nI own) (ho : own < W * H) : ct (pRo W u own (-1)) cnt = ct (pRo W u own (nI i)) cnt := by
  have h9 := fd_196 hW hH
  rw [pRo_m hc, pRo_i hc hi]
  refine ct_congr (fun w hw => ba ?_)
  rw [decide_eq_true_eq, decide_eq_true_eq]
  constructor
  · rintro ⟨a, b, -⟩
    refine ⟨fun z => ?_, a, b⟩
    rw [z, hpo, nI_clamp (by omega)] at b
    exact b.1 rfl
  · rintro ⟨-, a, b⟩; exact ⟨a, b, trivial⟩
theorem pRo_to {W H cnt i own s o : Nat} {nr : Nat → Int32} {u : Nat → Nat → Int32} (hL : lk_ok W H (W * H) nr) (hc : cnt ≤ 24) (hW : W ≤ 14) (hH : H ≤ 14) (hi : i < cnt) (hpo : u i 3 = nI own) (ho : own < W * H) (ho2 : o < W * H) (hs : s < 8) (hn : nbX nr own s = nI o) : ct (pRo W u o (-1)) cnt = ct (pRo W u o (nI i)) cnt + 1 := by
  have h9 := fd_196 hW hH
  have har : arR W o own := arR_symm ((arR_iff hL hW hH ho ho2).mpr ⟨s, hs, hn⟩)
  rw [pRo_m hc, pRo_i hc hi]
  refine ct_add (j := i) ?_ ?_ (fun w hw => ?_) hi
  · exact decide_eq_false (fun z => z.1 rfl)
  · refine decide_eq_true ⟨?_, ?_, trivial⟩
    · rw [hpo]; exact nI_m1 (by omega)
    · rw [hpo, nI_clamp (by omega)]; exact har
  · exact ba (by rw [decide_eq_true_eq, decide_eq_true_eq]; exact ⟨fun z => ⟨hw, z.1, z.2.1⟩, fun z => ⟨z.2.1, z.2.2, trivial⟩⟩)
theorem sq_ds_m {n : Nat} {ds : Nat → Int32} {g : Int32} : sq_ds (nI n) ds g (-1) = -1 := if_neg (fun z => absurd z.2.1 (by decide))
theorem cost_S {W H cnt i own g : Nat} {nr on ds D hd : Nat → Int32} {u : Nat → Nat → Int32} (hL : lk_ok W H (W * H) nr) (hc : cnt ≤ 24) (hW : W ≤ 14) (hH : H ≤ 14) (hon : onV (W * H) cnt u on) (hv : hvX (nI (W * H)) cnt u) (hi : i < cnt) (hpo : u i 3 = nI own) (ho : own < W * H) (hg : g < 4) (hgo : u i 0 = nI g) (hD : ∀ f, f < W * H → ds (g * 196 + f) = D f) : cr_cost (nI (W * H)) nr ds on hd u (u i) 4 = mcS W cnt u D i own := by
  have h9 := fd_196 hW hH
  unfold cr_cost mcS
  rw [if_pos rfl, hgo, hpo, sq_dsI ds rfl h9 ho hg, hD own ho, cRound_eq hL hW hH hc hon hv ho, pRo_own hc hW hH hi hpo ho]
theorem cost_M {W H cnt i own g s : Nat} {nr on ds D hd : Nat → Int32} {dr : Int32} {u : Nat → Nat → Int32} (hL : lk_ok W H (W * H) nr) (hc : cnt ≤ 24) (hW : W ≤ 14) (hH : H ≤ 14) (hon : onV (W * H) cnt u on) (hv : hvX (nI (W * H)) cnt u) (hi : i < cnt) (hpo : u i 3 = nI own) (ho : own < W * H) (hg : g < 4) (hgo : u i 0 = nI g) (hD : ∀ f, f < W * H → ds (g * 196 + f) = D f) (h0 : hd 0 = nI cnt) (h2 : hd 2 = dr) (hs : s < 4) : cr_cost (nI (W * H)) nr ds on hd u (u i) (nI s) = mcM W cnt nr on dr u D i own s := by
  have h9 := fd_196 hW hH
  have hs4 : ¬ nI s = 4 := fun z9 => by have := (nI_eq (b := 4) (by omega) (by omega)).mp z9; omega
  unfold cr_cost mcM
  rw [if_neg hs4, hgo, hpo, h0, h2, cFace_eq hL hW hH hc hon hv hi hpo ho]
  show (if sq_ds _ ds (nI g) (nbX nr own s) = -1 ∨ ¬ cr_on on (nbX nr own s) = -1 then _ else 10 * sq_ds _ ds (nI g) (nbX nr own s) + u i 2 * (cRound nr on (nbX nr own s) - 1) - _) = _
  rcases nbX_val hL ho hW hH (s := s) (by omega) with h | ⟨o, ho2, h⟩
  · rw [h, sq_ds_m, if_pos (Or.inl rfl), if_pos (Or.inl rfl)]
  · rw [h, nI_clamp (by omega), sq_dsI ds rfl h9 ho2 hg, hD o ho2, cr_onI on (by omega), cRound_eq hL hW hH hc hon hv ho2, pRo_to hL hc hW hH hi hpo ho ho2 (by omega) h, nI_pred]
    by_cases h3 : D o = -1 ∨ ¬ on o = -1
    · rw [if_pos h3, if_pos (Or.inr h3)]
    · rw [if_neg h3, if_neg (by rintro (z | z); exact nI_m1 (by omega) z; exact h3 z)]

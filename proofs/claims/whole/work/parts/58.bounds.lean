/-! numbers: how large things are; wants by both -/
theorem bfM_J {nb : Nat → Nat → Int32} {fr : Nat → Bool} {n : Nat} (hn : n ≤ 196) (hfr : ∀ k, fr k = true → k < n) : ∀ r h S, bfJ n S → bfJ n (bfM nb fr r h S)
  | 0, _, _, hJ => hJ
  | r + 1, h, S, hJ => by
    cases e : S.2[h]? with
    | none => rw [bfM_n e]; exact hJ
    | some f =>
      rw [bfM_s e]
      exact bfM_J hn hfr r (h + 1) _ (bfS_J hJ hn hfr (hJ.2.1 f (List.mem_of_getElem? e)).2 4).1
theorem dX_val {n g : Nat} {nr wl mk : Nat → Int32} (h9 : n ≤ 196) (f : Nat) : dXg n nr wl mk g f = -1 ∨ ∃ v, v ≤ 196 ∧ dXg n nr wl mk g f = nI v := by
  have hJ := bfM_J (nb := nbX nr) h9 (frX_lt (nf := n) (wl := wl)) n 0 _ (bf0_J (st := stX n wl mk g) h9)
  have hl := hJ.len
  rcases hJ.2.2 f with h | ⟨v, hv, h⟩
  · exact Or.inl h
  · exact Or.inr ⟨v, by omega, h⟩
theorem nI_10 : (10 : Int32) = nI 10 := rfl
theorem co_le {v a c d e : Nat} (hv : v ≤ 196) (ha : a ≤ 9) (hc : c ≤ 24) (hd : d ≤ 9) (he : e ≤ 24) : 10 * nI v + nI a * nI c - nI d * nI e ≤ 10000 := by
  have h1 : a * c ≤ 9 * 24 := Nat.mul_le_mul ha hc
  have h2 : d * e ≤ 9 * 24 := Nat.mul_le_mul hd he
  rw [nI_10, pk_mul, pk_mul, pk_mul, nI_add, nb_le, nb_sub (by rw [nI_toI (by omega), nI_toI (by omega)]; omega) (by rw [nI_toI (by omega), nI_toI (by omega)]; omega), nI_toI (by omega), nI_toI (by omega)]
  show _ ≤ (10000 : Int)
  omega
theorem co_le2 {v a c : Nat} (hv : v ≤ 196) (ha : a ≤ 9) (hc : c ≤ 24) : 10 * nI v + nI a * nI c ≤ 10000 := by
  have h1 : a * c ≤ 9 * 24 := Nat.mul_le_mul ha hc
  rw [nI_10, pk_mul, pk_mul, nI_add, nb_le, nI_toI (by omega)]
  show _ ≤ (10000 : Int)
  omega
theorem nI_to9 {x : Int32} (h0 : 0 ≤ x) (h9 : x ≤ 9) : ∃ a, a ≤ 9 ∧ x = nI a := nI_of2 (M := 9) (n := 9) rfl (Int32.not_lt.mpr h0) h9
def wkV (cnt : Nat) (u : Nat → Nat → Int32) : Prop := ∀ k, k < cnt → gl_is (u k 0) ∧ (1 ≤ u k 1 ∧ u k 1 ≤ 3) ∧ 0 ≤ u k 2 ∧ u k 2 ≤ 9
theorem mcS_le {W cnt i own : Nat} {u : Nat → Nat → Int32} {D : Nat → Int32} (hc : cnt ≤ 24) (hD : D own = -1 ∨ ∃ v, v ≤ 196 ∧ D own = nI v) (h2 : 0 ≤ u i 2 ∧ u i 2 ≤ 9) : mcS W cnt u D i own ≤ 10000 := by
  unfold mcS
  split
  · exact Int32.le_refl _
  · next h =>
    obtain ⟨v, hv, e⟩ := hD.resolve_left h
    obtain ⟨a, ha, e2⟩ := nI_to9 h2.1 h2.2
    have := ct_le (pRo W u own (nI i)) cnt
    rw [e, e2]
    exact co_le2 hv ha (by omega)
theorem mcM_le {W cnt i own s : Nat} {nr on : Nat → Int32} {dr : Int32} {u : Nat → Nat → Int32} {D : Nat → Int32} (hc : cnt ≤ 24) (hD : ∀ f, D f = -1 ∨ ∃ v, v ≤ 196 ∧ D f = nI v) (h2 : 0 ≤ u i 2 ∧ u i 2 ≤ 9) (hd : 0 ≤ dr ∧ dr ≤ 9) : mcM W cnt nr on dr u D i own s ≤ 10000 := by
  unfold mcM
  split
  · exact Int32.le_refl _
  · next h =>
    obtain ⟨v, hv, e⟩ := (hD (nbX nr own s).toNatClampNeg).resolve_left (fun z => h (Or.inr (Or.inl z)))
    obtain ⟨a, ha, e2⟩ := nI_to9 h2.1 h2.2
    obtain ⟨d, hd', e3⟩ := nI_to9 hd.1 hd.2
    have := ct_le (pRo W u (nbX nr own s).toNatClampNeg (nI i)) cnt
    have := ct_le (pFm W u i own (nI s)) cnt
    rw [e, e2, e3]
    exact co_le hv ha (by omega) hd' (by omega)
theorem hdX_0 {cnt : Nat} {dr : Int32} : hdX cnt dr 0 = nI cnt := rfl
theorem hdX_2 {cnt : Nat} {dr : Int32} : hdX cnt dr 2 = dr := rfl
theorem wants_eq {W H cnt i own g : Nat} {nr on ds D : Nat → Int32} {dr : Int32} {u : Nat → Nat → Int32} (hL : lk_ok W H (W * H) nr) (hc : cnt ≤ 24) (hW : W ≤ 14) (hH : H ≤ 14) (hon : onV (W * H) cnt u on) (hv : hvX (nI (W * H)) cnt u) (hi : i < cnt) (hpo : u i 3 = nI own) (ho : own < W * H) (hg : g < 4) (hgo : u i 0 = nI g) (hds : ∀ f, f < W * H → ds (g * 196 + f) = D f) (hD : ∀ f, D f = -1 ∨ ∃ v, v ≤ 196 ∧ D f = nI v) (h2 : 0 ≤ u i 2 ∧ u i 2 ≤ 9) (hd : 0 ≤ dr ∧ dr ≤ 9) : mwR (mcM W cnt nr on dr u D i own) 4 4 (mcS W cnt u D i own) = bsX (nI (W * H)) nr ds cnt dr on u i := by
  have eM : ∀ j, j < 4 → mcM W cnt nr on dr u D i own j = cr_cost (nI (W * H)) nr ds on (hdX cnt dr) u (u i) (nI j) := fun j hj => (cost_M (hd := hdX cnt dr) (dr := dr) (D := D) hL hc hW hH hon hv hi hpo ho hg hgo hds hdX_0 hdX_2 hj).symm
  have eS : mcS W cnt u D i own = cr_cost (nI (W * H)) nr ds on (hdX cnt dr) u (u i) (nI 4) := (cost_S (hd := hdX cnt dr) (D := D) hL hc hW hH hon hv hi hpo ho hg hgo hds).symm
  unfold bsX
  rw [eS, mwR_congr (d := fun j => cr_cost (nI (W * H)) nr ds on (hdX cnt dr) u (u i) (nI j)) 4 _ _ eM]
  refine bs_eq (c := fun j => cr_cost (nI (W * H)) nr ds on (hdX cnt dr) u (u i) (nI j)) (fun j hj => ?_)
  by_cases h : j < 4
  · show cr_cost _ _ _ _ _ _ _ _ ≤ _
    rw [← eM j h]; exact mcM_le hc hD h2 hd
  · have e : j = 4 := by omega
    subst e
    show cr_cost _ _ _ _ _ _ _ _ ≤ _
    rw [← eS]; exact mcS_le hc (hD own) h2

/-! numbers: who goes, by both -/
theorem wnX_char {tg : Nat → Int32} {u : Nat → Nat → Int32} {f : Int32} : ∀ c, c ≤ 24 → (wnX tg u f c = -1 ∧ ∀ i, i < c → ¬ tg i = f) ∨ ∃ w, w < c ∧ wnX tg u f c = nI w ∧ tg w = f ∧ (∀ i, i < w → tg i = f → u i 5 < u w 5) ∧ ∀ i, w < i → i < c → tg i = f → u i 5 ≤ u w 5
  | 0, _ => Or.inl ⟨rfl, fun i hi => absurd hi (Nat.not_lt_zero i)⟩
  | c + 1, hc => by
    have e : wnX tg u f (c + 1) = if tg c = f ∧ (wnX tg u f c = -1 ∨ u (wnX tg u f c).toNatClampNeg 5 < u c 5) then nI c else wnX tg u f c := rfl
    rcases wnX_char (tg := tg) (u := u) (f := f) c (by omega) with ⟨h1, h2⟩ | ⟨w, hw, h1, h2, h3, h4⟩
    · rw [h1] at e
      by_cases h : tg c = f
      · rw [if_pos ⟨h, Or.inl rfl⟩] at e
        exact Or.inr ⟨c, by omega, e, h, fun i hi hf => absurd hf (h2 i hi), fun i h5 h6 => absurd h6 (by omega)⟩
      · rw [if_neg (fun z => h z.1)] at e
        refine Or.inl ⟨e, fun i hi => ?_⟩
        rcases Nat.lt_succ_iff_lt_or_eq.mp hi with h5 | h5
        · exact h2 i h5
        · rw [h5]; exact h
    · rw [h1, nI_clamp (by omega)] at e
      by_cases h : tg c = f ∧ u w 5 < u c 5
      · rw [if_pos ⟨h.1, Or.inr h.2⟩] at e
        refine Or.inr ⟨c, by omega, e, h.1, fun i hi hf => ?_, fun i h5 h6 => absurd h6 (by omega)⟩
        rcases Nat.lt_trichotomy i w with h7 | h7 | h7
        · exact Int32.lt_trans (h3 i h7 hf) h.2
        · rw [h7]; exact h.2
        · exact Int32.lt_of_le_of_lt (h4 i h7 hi hf) h.2
      · rw [if_neg (by rintro ⟨z1, z2 | z2⟩; exact nI_m1 (by omega) z2; exact h ⟨z1, z2⟩)] at e
        refine Or.inr ⟨w, by omega, e, h2, h3, fun i h5 h6 hf => ?_⟩
        rcases Nat.lt_succ_iff_lt_or_eq.mp h6 with h7 | h7
        · exact h4 i h5 h7 hf
        · rw [h7] at hf ⊢
          exact Int32.not_lt.mp (fun z => h ⟨hf, z⟩)
theorem wnX_iff {tg : Nat → Int32} {u : Nat → Nat → Int32} {f : Int32} {c k : Nat} (hc : c ≤ 24) (hk : k < c) (hf : tg k = f) : wnX tg u f c = nI k ↔ ∀ i, i < c → i = k ∨ ¬ tg i = f ∨ u i 5 < u k 5 ∨ (u i 5 = u k 5 ∧ k < i) := by
  rcases wnX_char (tg := tg) (u := u) (f := f) c hc with ⟨h1, h2⟩ | ⟨w, hw, h1, h2, h3, h4⟩
  · exact absurd hf (h2 k hk)
  · constructor
    · intro h i hi
      rw [h1] at h
      have e := (nI_eq (by omega) (by omega)).mp h
      subst e
      by_cases hi0 : i = w
      · exact Or.inl hi0
      · refine Or.inr ?_
        by_cases hif : tg i = f
        · refine Or.inr ?_
          rcases Nat.lt_or_gt_of_ne hi0 with h5 | h5
          · exact Or.inl (h3 i h5 hif)
          · rcases Int32.lt_or_eq_of_le (h4 i h5 hi hif) with h6 | h6
            · exact Or.inl h6
            · exact Or.inr ⟨h6, h5⟩
        · exact Or.inl hif
    · intro h
      rw [h1]
      by_cases e : w = k
      · rw [e]
      · exfalso
        rcases h w hw with h5 | h5 | h5 | ⟨h5, h6⟩
        · exact e h5
        · exact h5 h2
        · rcases Nat.lt_or_gt_of_ne e with h7 | h7
          · exact Int32.not_lt.mpr (h4 k h7 hk hf) h5
          · exact Int32.lt_irrefl (Int32.lt_trans h5 (h3 k h7 hf))
        · have := h3 k h6 hf
          rw [h5] at this
          exact Int32.lt_irrefl this
theorem gv_iff {to sd : Nat → Int32} {u : Nat → Nat → Int32} {k : Nat} : ∀ c, ¬ gv to sd u k c = 0 ↔ (¬ to k = -1 ∧ ¬ sd k = 4) ∧ ∀ i, i < c → i = k ∨ ¬ to i = to k ∨ sd i = 4 ∨ (u i 5 - u k 5 < 0 ∨ (u i 5 - u k 5 = 0 ∧ k < i))
  | 0 => by
    show ¬ ms_b _ = 0 ↔ _
    rw [ms_b_0, Decidable.not_not]
    exact ⟨fun h => ⟨h, fun i hi => absurd hi (Nat.not_lt_zero i)⟩, fun h => h.1⟩
  | c + 1 => by
    have ih := gv_iff (to := to) (sd := sd) (u := u) (k := k) c
    by_cases h0 : gv to sd u k c = 0
    · have e : gv to sd u k (c + 1) = 0 := gv_0 h0 1
      rw [e]
      constructor
      · intro h; exact absurd rfl h
      · rintro ⟨h1, h2⟩
        exact absurd h0 (ih.mpr ⟨h1, fun i hi => h2 i (by omega)⟩)
    · obtain ⟨h1, h2⟩ := ih.mp h0
      by_cases h : c = k ∨ ¬ to c = to k ∨ sd c = 4
      · rw [← gv_k h0 h]
        constructor
        · intro _
          refine ⟨h1, fun i hi => ?_⟩
          rcases Nat.lt_succ_iff_lt_or_eq.mp hi with h5 | h5
          · exact h2 i h5
          · rw [h5]; rcases h with h | h | h
            · exact Or.inl h
            · exact Or.inr (Or.inl h)
            · exact Or.inr (Or.inr (Or.inl h))
        · intro _; exact h0
      · rw [gv_s h0 h, ms_b_0, Decidable.not_not]
        constructor
        · intro h3
          refine ⟨h1, fun i hi => ?_⟩
          rcases Nat.lt_succ_iff_lt_or_eq.mp hi with h5 | h5
          · exact h2 i h5
          · rw [h5]; exact Or.inr (Or.inr (Or.inr h3))
        · rintro ⟨-, h3⟩
          rcases h3 c (by omega) with h4 | h4 | h4 | h4
          · exact absurd (Or.inl h4) h
          · exact absurd (Or.inr (Or.inl h4)) h
          · exact absurd (Or.inr (Or.inr h4)) h
          · exact h4
def waB (N cnt : Nat) (u : Nat → Nat → Int32) : Prop := ∀ k, k < cnt → ∃ w, w ≤ N ∧ u k 5 = nI w
theorem wa_sub {N cnt i k : Nat} {u : Nat → Nat → Int32} (hN : N < 1000000) (h : waB N cnt u) (hi : i < cnt) (hk : k < cnt) : (u i 5 - u k 5 < 0 ↔ u i 5 < u k 5) ∧ (u i 5 - u k 5 = 0 ↔ u i 5 = u k 5) := by
  obtain ⟨a, ha, ea⟩ := h i hi
  obtain ⟨b, hb, eb⟩ := h k hk
  have e : (nI a - nI b).toInt = (a : Int) - b := by rw [nb_sub (by rw [nI_toI (by omega), nI_toI (by omega)]; omega) (by rw [nI_toI (by omega), nI_toI (by omega)]; omega), nI_toI (by omega), nI_toI (by omega)]
  have z : (0 : Int32).toInt = 0 := rfl
  rw [ea, eb, nb_lt, nb_lt, e, z, nI_toI (by omega), nI_toI (by omega), ← Int32.toInt_inj, ← Int32.toInt_inj, e, z, nI_toI (by omega), nI_toI (by omega)]
  omega
/-- what is wanted, where it isn't to stay, is a free field -/
theorem bs_free {W H cnt k own s : Nat} {nr ds on : Nat → Int32} {dr : Int32} {u : Nat → Nat → Int32} (hL : lk_ok W H (W * H) nr) (hW : W ≤ 14) (hH : H ≤ 14) (ho : own < W * H) (hpo : u k 3 = nI own) (hs : s < 4) (h : bsX (nI (W * H)) nr ds cnt dr on u k = nI s) : ∃ o, o < W * H ∧ nbX nr own s = nI o ∧ on o = -1 := by
  have h9 := fd_196 hW hH
  have hlt : cr_cost (nI (W * H)) nr ds on (hdX cnt dr) u (u k) (nI s) < 10000 := by
    rcases cr_bsI (c := fun j => cr_cost (nI (W * H)) nr ds on (hdX cnt dr) u (u k) (nI j)) 5 (by omega) with ⟨h1, -⟩ | ⟨i, hi, h1, h2, -⟩
    · unfold bsX at h
      rw [h1] at h
      have := (nI_eq (a := 4) (b := s) (by omega) (by omega)).mp h
      omega
    · unfold bsX at h
      rw [h1] at h
      have := (nI_eq (by omega) (by omega)).mp h
      subst this
      exact h2
  have hs4 : ¬ nI s = 4 := fun z9 => by have := (nI_eq (b := 4) (by omega) (by omega)).mp z9; omega
  unfold cr_cost at hlt
  rw [if_neg hs4, hpo] at hlt
  by_cases hb : sq_ds (nI (W * H)) ds (u k 0) (nbX nr own s) = -1 ∨ ¬ cr_on on (nbX nr own s) = -1
  · rw [if_pos hb] at hlt
    exact absurd hlt (by decide)
  · rcases nbX_val hL ho hW hH (s := s) (by omega) with h1 | ⟨o, ho2, h1⟩
    · exact absurd (Or.inl (by rw [h1]; exact sq_ds_m)) hb
    · refine ⟨o, ho2, h1, ?_⟩
      rw [h1, cr_onI on (by omega)] at hb
      exact Decidable.not_not.mp (fun z => hb (Or.inr z))

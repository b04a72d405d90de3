/-! numbers: the world behind turnTo, walker -/
theorem wdV.mono {W H cnt N M : Nat} {X : cX} (h : wdV W H cnt N X) (hNM : N ≤ M) : wdV W H cnt M X := ⟨h.1, h.2.1, h.2.2.1, fun k hk => by
  obtain ⟨w, hw, e⟩ := h.2.2.2 k hk
  exact ⟨w, by omega, e⟩⟩
theorem tr_at {X : cX} {k j c : Nat} {gl mo : Int32} (h0 : ¬ c = 0) (h2 : ¬ c = 2) : (trX X k gl mo).1 j c = X.1 j c := by
  show va_up X.1 k (upd (upd (X.1 k) 0 gl) 2 mo) j c = _
  unfold va_up
  by_cases e : j = k
  · rw [if_pos e, e]
    unfold upd
    rw [if_neg h2, if_neg h0]
  · rw [if_neg e]
theorem tr_k {X : cX} {k j : Nat} {gl mo : Int32} : ((trX X k gl mo).1 j 0 = if j = k then gl else X.1 j 0) ∧ ((trX X k gl mo).1 j 2 = if j = k then mo else X.1 j 2) := by
  constructor
  · show va_up X.1 k (upd (upd (X.1 k) 0 gl) 2 mo) j 0 = _
    unfold va_up
    by_cases e : j = k
    · rw [if_pos e, if_pos e]; rfl
    · rw [if_neg e, if_neg e]
  · show va_up X.1 k (upd (upd (X.1 k) 0 gl) 2 mo) j 2 = _
    unfold va_up
    by_cases e : j = k
    · rw [if_pos e, if_pos e]; rfl
    · rw [if_neg e, if_neg e]
theorem wdV.tr {W H cnt N k : Nat} {X : cX} {gl mo : Int32} (h : wdV W H cnt N X) (hg : gl_is gl) (hm : 0 ≤ mo ∧ mo ≤ 9) : wdV W H cnt N (trX X k gl mo) := by
  refine ⟨h.1.congr (fun j hj => tr_at (by omega) (by omega)), fun j hj => ?_, fun j hj => ?_, fun j hj => ?_⟩
  · rw [tr_at (by omega) (by omega)]; exact h.2.1 j hj
  · obtain ⟨a, b, c⟩ := h.2.2.1 j hj
    rw [tr_k.1, tr_k.2, tr_at (c := 1) (by omega) (by omega)]
    by_cases e : j = k
    · rw [if_pos e, if_pos e]; exact ⟨hg, b, hm⟩
    · rw [if_neg e, if_neg e]; exact ⟨a, b, c⟩
  · rw [tr_at (by omega) (by omega)]; exact h.2.2.2 j hj
theorem ad_at {X : cX} {cnt j : Nat} {gl pc mo f : Int32} (h : j < cnt) : (adX cnt X gl pc mo f).1 j = X.1 j := if_neg (by omega)
theorem ad_new {X : cX} {cnt : Nat} {gl pc mo f : Int32} : (adX cnt X gl pc mo f).1 cnt = wk_come (X.1 cnt) gl pc mo f := if_pos rfl
theorem wdV.ad {W H cnt N o : Nat} {X : cX} {gl pc mo : Int32} (hW : W ≤ 14) (hH : H ≤ 14) (hc : cnt ≤ 24) (h : wdV W H cnt N X) (hg : gl_is gl) (hp : 1 ≤ pc ∧ pc ≤ 3) (hm : 0 ≤ mo ∧ mo ≤ 9) (ho : o < W * H) (hfr : X.2.2.1 o = -1) : wdV W H (cnt + 1) N (adX cnt X gl pc mo (nI o)) := by
  have h9 := fd_196 hW hH
  have hno : ∀ j, j < cnt → ¬ X.1 j 3 = nI o := fun j hj z => by
    rcases h.1 o ho with ⟨-, e⟩ | ⟨k, hk, e, -, -⟩
    · exact e j hj z
    · rw [hfr] at e
      exact nI_m1 (by omega) e.symm
  have e3 : ∀ j, j < cnt + 1 → (adX cnt X gl pc mo (nI o)).1 j 3 = if j = cnt then nI o else X.1 j 3 := fun j hj => by
    by_cases e : j = cnt
    · rw [if_pos e, e, ad_new]; rfl
    · rw [if_neg e, ad_at (by omega)]
  refine ⟨fun f hf => ?_, fun j hj => ?_, fun j hj => ?_, fun j hj => ?_⟩
  · have eo : (adX cnt X gl pc mo (nI o)).2.2.1 f = if f = o then nI cnt else X.2.2.1 f := by
      show upd X.2.2.1 (nI o).toNatClampNeg (nI cnt) f = _
      rw [nI_clamp (by omega)]
      rfl
    rw [eo]
    by_cases e : f = o
    · subst e
      rw [if_pos rfl]
      refine Or.inr ⟨cnt, by omega, rfl, by rw [e3 cnt (by omega), if_pos rfl], fun j hj z => ?_⟩
      rw [e3 j hj] at z
      by_cases ej : j = cnt
      · exact ej
      · rw [if_neg ej] at z
        exact absurd z (hno j (by omega))
    · rw [if_neg e]
      have hne : ¬ nI o = nI f := fun z => e ((nI_eq (by omega) (by omega)).mp z).symm
      rcases h.1 f hf with ⟨a, b⟩ | ⟨k, a, b, c, d⟩
      · refine Or.inl ⟨a, fun j hj z => ?_⟩
        rw [e3 j hj] at z
        by_cases ej : j = cnt
        · rw [if_pos ej] at z; exact hne z
        · rw [if_neg ej] at z; exact b j (by omega) z
      · refine Or.inr ⟨k, by omega, b, by rw [e3 k (by omega), if_neg (by omega)]; exact c, fun j hj z => ?_⟩
        rw [e3 j hj] at z
        by_cases ej : j = cnt
        · rw [if_pos ej] at z; exact absurd z hne
        · rw [if_neg ej] at z; exact d j (by omega) z
  · rw [e3 j hj]
    by_cases ej : j = cnt
    · rw [if_pos ej]; exact Or.inr (gr_hasI rfl ho h9)
    · rw [if_neg ej]; exact h.2.1 j (by omega)
  · by_cases ej : j = cnt
    · rw [ej, ad_new]; exact ⟨hg, hp, hm⟩
    · rw [ad_at (by omega)]; exact h.2.2.1 j (by omega)
  · by_cases ej : j = cnt
    · rw [ej, ad_new]; exact ⟨0, Nat.zero_le N, rfl⟩
    · rw [ad_at (by omega)]; exact h.2.2.2 j (by omega)

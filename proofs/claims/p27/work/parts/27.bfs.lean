/-! how far: one function for both sides. S: what is known of each field, and the queue -/
abbrev bf_S : Type := (Nat → Int32) × List Nat
theorem ct_lt {p : Nat → Bool} {j : Nat} (hp : p j = false) : ∀ {n : Nat}, j < n → ct p n < n
  | 0, h => absurd h (Nat.not_lt_zero _)
  | n + 1, h => by
    show ct p n + (if p n then 1 else 0) < n + 1
    have := ct_le p n
    by_cases e : j = n
    · subst e
      rw [hp]
      simp
      omega
    · have := ct_lt hp (n := n) (by omega)
      split <;> omega
theorem ct_congr {p q : Nat → Bool} : ∀ {n : Nat}, (∀ i, i < n → p i = q i) → ct p n = ct q n
  | 0, _ => rfl
  | n + 1, h => by
    show ct p n + (if p n then 1 else 0) = ct q n + (if q n then 1 else 0)
    rw [ct_congr (n := n) (fun i hi => h i (by omega)), h n (by omega)]
theorem ct_add {p q : Nat → Bool} {j : Nat} (hp : p j = false) (hq : q j = true) (ho : ∀ i, i ≠ j → q i = p i) : ∀ {n : Nat}, j < n → ct q n = ct p n + 1
  | 0, h => absurd h (Nat.not_lt_zero _)
  | n + 1, h => by
    show ct q n + (if q n then 1 else 0) = ct p n + (if p n then 1 else 0) + 1
    by_cases e : j = n
    · subst e
      rw [hp, hq, ct_congr (n := j) (fun i hi => ho i (by omega))]
      rfl
    · rw [ct_add hp hq ho (n := n) (by omega), ho n (by omega)]
      omega
/-- what one side of a field does -/
def bf1 (nb : Nat → Nat → Int32) (fr : Nat → Bool) (f s : Nat) (S : bf_S) : bf_S := if 0 ≤ nb f s ∧ fr (nb f s).toNatClampNeg = true ∧ S.1 (nb f s).toNatClampNeg = -1 then (upd S.1 (nb f s).toNatClampNeg (S.1 f + 1), S.2 ++ [(nb f s).toNatClampNeg]) else S
def bfS (nb : Nat → Nat → Int32) (fr : Nat → Bool) (f : Nat) (S : bf_S) : Nat → bf_S
  | 0 => S
  | s + 1 => bf1 nb fr f s (bfS nb fr f S s)
def bfM (nb : Nat → Nat → Int32) (fr : Nat → Bool) : Nat → Nat → bf_S → bf_S
  | 0, _, S => S
  | r + 1, h, S => match S.2[h]? with
    | some f => bfM nb fr r (h + 1) (bfS nb fr f S 4)
    | none => S
def bf0 (st : Nat → Bool) (n : Nat) : bf_S := (fun f => if st f then 0 else -1, (List.range n).filter st)
/-- how far each field is -/
def bfD (nb : Nat → Nat → Int32) (fr st : Nat → Bool) (n : Nat) : Nat → Int32 := (bfM nb fr n 0 (bf0 st n)).1
def bfJ (n : Nat) (S : bf_S) : Prop := S.2.length = ct (fun f => decide (¬ S.1 f = -1)) n ∧ (∀ f ∈ S.2, f < n ∧ ¬ S.1 f = -1) ∧ ∀ f, S.1 f = -1 ∨ ∃ v, v ≤ S.2.length ∧ S.1 f = nI v
theorem nI_m1 {v : Nat} (h : v < 2 ^ 31) : ¬ nI v = -1 := by
  intro h1
  have h2 := congrArg Int32.toInt h1
  rw [nI_toInt h, show (-1 : Int32).toInt = -1 from rfl] at h2
  omega
theorem bfJ.len {n : Nat} {S : bf_S} (h : bfJ n S) : S.2.length ≤ n := by rw [h.1]; exact ct_le _ _
theorem bfJ.room {n : Nat} {S : bf_S} (h : bfJ n S) {j : Nat} (hj : j < n) (hd : S.1 j = -1) : S.2.length < n := by
  rw [h.1]
  exact ct_lt (j := j) (by simp [hd]) hj
theorem bf1_J {nb : Nat → Nat → Int32} {fr : Nat → Bool} {f s n : Nat} {S : bf_S} (h : bfJ n S) (hn : n ≤ 196) (hfr : ∀ k, fr k = true → k < n) (hf : ¬ S.1 f = -1) : bfJ n (bf1 nb fr f s S) ∧ ¬ (bf1 nb fr f s S).1 f = -1 := by
  unfold bf1
  split
  · next hc =>
    obtain ⟨h0, h1, h2⟩ := hc
    have hj := hfr _ h1
    obtain ⟨g1, g2, g3⟩ := h
    have hl : S.2.length ≤ n := by rw [g1]; exact ct_le _ _
    have hv : ∃ v, v ≤ S.2.length ∧ S.1 f = nI v := (g3 f).resolve_left hf
    obtain ⟨v, hv1, hv2⟩ := hv
    have hnew : S.1 f + 1 = nI (v + 1) := by rw [hv2, nI_1]
    have hne : f ≠ (nb f s).toNatClampNeg := fun e => hf (e ▸ h2)
    refine ⟨⟨?_, ?_, ?_⟩, ?_⟩
    · show (S.2 ++ [_]).length = _
      rw [List.length_append, g1]
      symm
      refine ct_add (p := fun f => decide (¬ S.1 f = -1)) (j := (nb f s).toNatClampNeg) (by simp [h2]) ?_ (fun i hi => ?_) hj
      · simp only [upd, if_pos rfl, hnew]
        exact decide_eq_true (nI_m1 (by omega))
      · simp only [upd, if_neg hi]
    · intro k hk
      rcases List.mem_append.mp hk with h5 | h5
      · refine ⟨(g2 k h5).1, ?_⟩
        simp only [upd]
        split
        · rw [hnew]; exact nI_m1 (by omega)
        · exact (g2 k h5).2
      · rw [List.mem_singleton] at h5
        subst h5
        refine ⟨hj, ?_⟩
        simp only [upd, if_pos rfl, hnew]
        exact nI_m1 (by omega)
    · intro k
      simp only [upd]
      split
      · exact Or.inr ⟨v + 1, by simp; omega, hnew⟩
      · rcases g3 k with h5 | ⟨v2, h5, h6⟩
        · exact Or.inl h5
        · exact Or.inr ⟨v2, by simp; omega, h6⟩
    · simp only [upd, if_neg hne]
      exact hf
  · exact ⟨h, hf⟩
theorem bfS_J {nb : Nat → Nat → Int32} {fr : Nat → Bool} {f n : Nat} {S : bf_S} (h : bfJ n S) (hn : n ≤ 196) (hfr : ∀ k, fr k = true → k < n) (hf : ¬ S.1 f = -1) : ∀ s, bfJ n (bfS nb fr f S s) ∧ ¬ (bfS nb fr f S s).1 f = -1
  | 0 => ⟨h, hf⟩
  | s + 1 => by
    have ih := bfS_J h hn hfr hf (nb := nb) s
    exact bf1_J ih.1 hn hfr ih.2
theorem bf0_J {st : Nat → Bool} {n : Nat} (hn : n ≤ 196) : bfJ n (bf0 st n) := by
  refine ⟨?_, ?_, ?_⟩
  · show ((List.range n).filter st).length = _
    have e : ∀ m, ((List.range m).filter st).length = ct (fun f => decide (¬ (bf0 st n).1 f = -1)) m := by
      intro m
      induction m with
      | zero => rfl
      | succ m ih =>
        rw [List.range_succ, List.filter_append, List.length_append, ih]
        show _ = ct _ m + _
        congr 1
        by_cases h : st m = true
        · simp [bf0, h]
        · simp [bf0, h]
    exact e n
  · intro f hf
    have hf2 := List.mem_filter.mp hf
    refine ⟨List.mem_range.mp hf2.1, ?_⟩
    simp [bf0, hf2.2]
  · intro f
    by_cases h : st f = true
    · exact Or.inr ⟨0, Nat.zero_le _, by simp [bf0, h]; rfl⟩
    · exact Or.inl (by simp [bf0, h])
/-- the row of a goal among the distances -/
def rp (ds : Nat → Int32) (gi : Nat) (d : Nat → Int32) : Nat → Int32 := fun j => if gi * 196 ≤ j ∧ j < gi * 196 + 196 then d (j - gi * 196) else ds j
theorem rp_get {ds d : Nat → Int32} {gi f : Nat} (h : f < 196) : rp ds gi d (gi * 196 + f) = d f := by
  unfold rp
  rw [if_pos (by omega)]
  congr 1
  omega
theorem rp_set {ds d : Nat → Int32} {gi f : Nat} {v : Int32} (h : f < 196) : upd (rp ds gi d) (gi * 196 + f) v = rp ds gi (upd d f v) := by
  funext j
  unfold upd rp
  by_cases e : j = gi * 196 + f
  · subst e
    rw [if_pos rfl, if_pos (by omega)]
    exact (if_pos (by omega)).symm
  · rw [if_neg e]
    by_cases h2 : gi * 196 ≤ j ∧ j < gi * 196 + 196
    · rw [if_pos h2, if_pos h2]
      exact (if_neg (by omega)).symm
    · rw [if_neg h2, if_neg h2]
theorem rp_id {ds : Nat → Int32} {gi : Nat} : rp ds gi (fun f => ds (gi * 196 + f)) = ds := by
  funext j
  unfold rp
  split
  · next h => exact congrArg ds (by omega)
  · rfl
theorem rp_congr {ds d d' : Nat → Int32} {gi : Nat} (h : ∀ f, f < 196 → d f = d' f) : rp ds gi d = rp ds gi d' := by
  funext j
  unfold rp
  split
  · exact h _ (by omega)
  · rfl
/-- the queue as it lies in a row -/
def bf_q (L : List Nat) (qu : Nat → Int32) : Prop := ∀ i f, L[i]? = some f → qu i = nI f
theorem bf_q.add {L : List Nat} {qu : Nat → Int32} {f : Nat} (h : bf_q L qu) : bf_q (L ++ [f]) (upd qu L.length (nI f)) := by
  intro i k hi
  by_cases e : i = L.length
  · subst e
    rw [List.getElem?_append_right (Nat.le_refl _)] at hi
    simp at hi
    simp [upd, hi]
  · simp only [upd, if_neg e]
    refine h i k ?_
    rcases Nat.lt_or_ge i L.length with h1 | h1
    · rwa [List.getElem?_append_left h1] at hi
    · rw [List.getElem?_append_right h1] at hi
      rw [List.getElem?_eq_none (by simp; omega)] at hi
      cases hi
theorem sq_frI {fl x : Int32} {nf : Nat} {wl : Nat → Int32} (hf : fl = nI nf) (h9 : nf ≤ 196) : sq_fr fl wl x ↔ (0 ≤ x ∧ decide (x.toNatClampNeg < nf ∧ wl x.toNatClampNeg = 0) = true) := by
  unfold sq_fr gr_has
  rw [decide_eq_true_iff, hf]
  constructor
  · rintro ⟨⟨h1, h2, h3⟩, h4⟩
    refine ⟨h1, ?_, h4⟩
    obtain ⟨j, hj, rfl⟩ := nI_of (Int32.not_lt.mpr h1)
    rw [nI_clamp hj]
    exact (nI_ltI hj (by omega)).mp h2
  · rintro ⟨h1, h2, h4⟩
    obtain ⟨j, hj, rfl⟩ := nI_of (Int32.not_lt.mpr h1)
    rw [nI_clamp hj] at h2
    exact ⟨⟨h1, nI_lt h2 (by omega), show nI j < nI 196 from nI_lt (by omega) (by omega)⟩, h4⟩

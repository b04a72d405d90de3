/-! far by rounds: the numbers -/
def fk_lt (n o fa W H wa cnt : Nat) (wr : Nat → Nat) : Prop := o < n ∧ mn_ad fa H W ≤ n ∧ wa < n ∧ ∀ k, k < cnt → wr k < n
/-- what Flock holds of each field: wall and marks -/
def fvR (n : Nat) (wl mk : Nat → Int32) (fv : Nat → Nat → Int32) : Prop := ∀ f, f < n → fv f 0 = wl f ∧ ∀ g, g < 4 → fv f (2 + g) = ms_b (¬ mk f &&& (1 <<< (nI g &&& 31)) = 0)
theorem fk_at.hi {G G1 : ms_H} {n o x sb fa wa W H cnt : Nat} {dw cl dr pa : Int32} {wr : Nat → Nat} {fv u : Nat → Nat → Int32} (hM : fk_at G o x sb dw W H cl dr pa fa wa cnt wr fv u) (fl : fk_lt n o fa W H wa cnt wr) (hW0 : 0 < W) (hF : ∀ a, a < n → G1 a = G a) : fk_at G1 o x sb dw W H cl dr pa fa wa cnt wr fv u := by
  obtain ⟨l1, l2, l3, l4⟩ := fl
  exact ⟨(hF o l1).trans hM.1, hM.2.1.fr (fun a _ ha => hF a (by omega)) hW0, hM.2.2.fr (hF wa l3) (fun k hk => hF _ (l4 k hk))⟩
theorem mn_G2_lo {G : ms_H} {n N M a : Nat} (h : a < n) : mn_G2 G n N M a = G a := by
  unfold mn_G2
  rw [if_neg (by omega), if_neg (by omega)]
theorem mn_G2_far {G : ms_H} {n N M : Nat} : far_at (mn_G2 G n N M) n N M (fun _ => 0) := by
  refine ⟨⟨_, fun i hi => ?_, if_pos rfl⟩, fun i hi => ⟨fun _ => 0, fun j _ => rfl, ?_⟩⟩
  · exact if_pos hi
  · unfold mn_G2
    rw [if_neg (by omega), if_pos (by omega)]
/-- what is known when all fields before (i, k) are through -/
def scX (W i k : Nat) (A B : Nat → Int32) : Nat → Int32 := fun f => if f % W < i ∨ (f % W = i ∧ f / W < k) then A f else B f
theorem sc_now {W i k : Nat} {A B : Nat → Int32} (hi : i < W) : scX W i k A B (k * W + i) = B (k * W + i) := by
  have h := fd_mod (y := k) hi
  unfold scX
  rw [h.1, h.2, if_neg (by omega)]
theorem sc_ne {W i k f : Nat} (hi : i < W) (h : ¬ f = k * W + i) : (f % W < i ∨ (f % W = i ∧ f / W < k)) ↔ (f % W < i ∨ (f % W = i ∧ f / W < k + 1)) := by
  constructor
  · rintro (a | ⟨a, b⟩)
    · exact Or.inl a
    · exact Or.inr ⟨a, by omega⟩
  · rintro (a | ⟨a, b⟩)
    · exact Or.inl a
    · refine Or.inr ⟨a, ?_⟩
      rcases Nat.lt_succ_iff_lt_or_eq.mp b with c | c
      · exact c
      · refine absurd ?_ h
        have := Nat.div_add_mod f W
        rw [a, c, Nat.mul_comm] at this
        exact this.symm
theorem sc_put {W i k : Nat} {A B : Nat → Int32} {v : Int32} (hi : i < W) (hv : v = A (k * W + i)) : upd (scX W i k A B) (k * W + i) v = scX W i (k + 1) A B := by
  funext f
  unfold upd
  have h := fd_mod (y := k) hi
  by_cases e : f = k * W + i
  · rw [if_pos e, e, hv]
    unfold scX
    rw [h.1, h.2, if_pos (Or.inr ⟨rfl, by omega⟩)]
  · rw [if_neg e]
    unfold scX
    exact ite_congr (propext (sc_ne hi e)) (fun _ => rfl) (fun _ => rfl)
theorem sc_skip {W i k : Nat} {A B : Nat → Int32} (hi : i < W) (hv : A (k * W + i) = B (k * W + i)) : scX W i k A B = scX W i (k + 1) A B := by
  rw [← sc_put hi rfl]
  funext f
  unfold upd
  by_cases e : f = k * W + i
  · rw [if_pos e, e, sc_now hi, hv]
  · rw [if_neg e]
theorem sc_00 {W : Nat} {A B : Nat → Int32} : scX W 0 0 A B = B := by
  funext f
  exact if_neg (by rintro (a | ⟨a, b⟩); exact absurd a (Nat.not_lt_zero _); exact absurd b (Nat.not_lt_zero _))
theorem sc_row {W H i : Nat} {A B : Nat → Int32} : ∀ f, f < W * H → scX W i H A B f = scX W (i + 1) 0 A B f := fun f hf => by
  have h := (fd_div hf).2.1
  unfold scX
  exact ite_congr (propext ⟨by rintro (a | ⟨a, b⟩) <;> exact Or.inl (by omega), by rintro (a | ⟨a, b⟩); (rcases Nat.lt_succ_iff_lt_or_eq.mp a with c | c; exact Or.inl c; exact Or.inr ⟨c, h⟩); exact absurd b (Nat.not_lt_zero _)⟩) (fun _ => rfl) (fun _ => rfl)
theorem sc_end {W H : Nat} {A B : Nat → Int32} : ∀ f, f < W * H → scX W W 0 A B f = A f := fun f hf => if_pos (Or.inl (fd_div hf).1)
/-- the distances up to r -/
def mdR (D : Nat → Int32) (r : Nat) : Nat → Int32 := fun f => if ¬ D f = -1 ∧ (D f).toNatClampNeg ≤ r then D f else -1
theorem md_q {D : Nat → Int32} {r q f : Nat} (hv : D f = -1 ∨ ∃ v, v ≤ 196 ∧ D f = nI v) (hq : q ≤ r) (hr : r < 1000) : mdR D r f = nI q ↔ D f = nI q := by
  unfold mdR
  rcases hv with e | ⟨v, hv, e⟩
  · rw [if_neg (fun z => z.1 e), e]
  · rw [e, nI_clamp (by omega)]
    by_cases h : v ≤ r
    · rw [if_pos ⟨nI_m1 (by omega), h⟩]
    · rw [if_neg (fun z => h z.2)]
      exact ⟨fun z => absurd z.symm (nI_m1 (by omega)), fun z => absurd ((nI_eq (by omega) (by omega)).mp z) (by omega)⟩
theorem sc_q {W i k q f : Nat} {D : Nat → Int32} (hv : D f = -1 ∨ ∃ v, v ≤ 196 ∧ D f = nI v) (hq : q < 900) : scX W i k (mdR D (q + 1)) (mdR D q) f = nI q ↔ D f = nI q := by
  unfold scX
  split
  · exact md_q hv (by omega) (by omega)
  · exact md_q hv (Nat.le_refl q) (by omega)
/-- nothing new, or what is new -/
theorem md_next {D : Nat → Int32} {q f : Nat} (hv : D f = -1 ∨ ∃ v, v ≤ 196 ∧ D f = nI v) (hq : q < 900) (h : ¬ D f = nI (q + 1)) : mdR D (q + 1) f = mdR D q f := by
  unfold mdR
  rcases hv with e | ⟨v, hv, e⟩
  · rw [if_neg (fun z => z.1 e), if_neg (fun z => z.1 e)]
  · rw [e, nI_clamp (by omega)]
    have hne : ¬ v = q + 1 := fun z => h (by rw [e, z])
    exact ite_congr (propext ⟨fun z => ⟨z.1, by omega⟩, fun z => ⟨z.1, by omega⟩⟩) (fun _ => rfl) (fun _ => rfl)
theorem md_new {D : Nat → Int32} {q f : Nat} (hq : q < 900) (h : D f = nI (q + 1)) : mdR D (q + 1) f = nI (q + 1) := by
  unfold mdR
  rw [h, nI_clamp (by omega), if_pos ⟨nI_m1 (by omega), Nat.le_refl _⟩]
theorem md_neg {D : Nat → Int32} {q f : Nat} (hv : D f = -1 ∨ ∃ v, v ≤ 196 ∧ D f = nI v) (hq : q < 900) : (mdR D q f < 0 ↔ mdR D q f = -1) ∧ (mdR D q f = -1 ↔ D f = -1 ∨ ∃ v, q < v ∧ v ≤ 196 ∧ D f = nI v) := by
  unfold mdR
  rcases hv with e | ⟨v, hv, e⟩
  · rw [if_neg (fun z => z.1 e)]
    exact ⟨⟨fun _ => rfl, fun _ => by decide⟩, ⟨fun _ => Or.inl e, fun _ => rfl⟩⟩
  · rw [e, nI_clamp (by omega)]
    by_cases h : v ≤ q
    · rw [if_pos ⟨nI_m1 (by omega), h⟩]
      refine ⟨⟨fun z => absurd z (nI_pos (by omega)), fun z => absurd z (nI_m1 (by omega))⟩, ⟨fun z => absurd z (nI_m1 (by omega)), ?_⟩⟩
      rintro (z | ⟨w, h1, h2, h3⟩)
      · exact absurd z (nI_m1 (by omega))
      · have := (nI_eq (by omega) (by omega)).mp h3
        omega
    · rw [if_neg (fun z => h z.2)]
      exact ⟨⟨fun _ => rfl, fun _ => by decide⟩, ⟨fun _ => Or.inr ⟨v, by omega, hv, rfl⟩, fun _ => rfl⟩⟩
theorem md_0 {n g : Nat} {nr wl mk : Nat → Int32} (h9 : n ≤ 196) : mdR (dXg n nr wl mk g) 0 = fun f => if stX n wl mk g f = true then 0 else -1 := by
  funext f
  have h0 := dX_0 (g := g) (nr := nr) (wl := wl) (mk := mk) (f := f) h9
  unfold mdR
  by_cases h : stX n wl mk g f = true
  · rw [if_pos h, h0.mpr h, if_pos ⟨by decide, Nat.le_refl 0⟩]
  · rw [if_neg h]
    refine if_neg (fun z => h (h0.mp ?_))
    obtain ⟨v, hv, e⟩ := dX_n h9 z.1
    rw [e, nI_clamp (by omega)] at z
    rw [e, Nat.le_zero.mp z.2]
    rfl
/-- all are found -/
theorem md_all {n g : Nat} {nr wl mk : Nat → Int32} (h9 : n ≤ 196) : mdR (dXg n nr wl mk g) n = dXg n nr wl mk g := by
  funext f
  unfold mdR
  by_cases h : dXg n nr wl mk g f = -1
  · rw [if_neg (fun z => z.1 h), h]
  · obtain ⟨v, hv, e⟩ := dX_n h9 h
    rw [e, nI_clamp (by omega), if_pos ⟨nI_m1 (by omega), hv⟩]
/-- a round that finds nothing is the last one -/
theorem md_done {W H g q : Nat} {nr wl mk : Nat → Int32} (hL : lk_ok W H (W * H) nr) (hW : W ≤ 14) (hH : H ≤ 14) (hno : ∀ f, f < W * H → ¬ dXg (W * H) nr wl mk g f = nI (q + 1)) : mdR (dXg (W * H) nr wl mk g) q = dXg (W * H) nr wl mk g := by
  have h9 : W * H ≤ 196 := Nat.mul_le_mul hW hH
  have key : ∀ v f, v < 900 → dXg (W * H) nr wl mk g f = nI v → v ≤ q := by
    intro v
    induction v with
    | zero => intro f _ _; omega
    | succ v ih =>
      intro f hv e
      have hf := (dX_free h9 (f := f) (by rw [e]; exact nI_m1 (by omega))).1
      obtain ⟨s, o, hs, ho, -, e2⟩ := dX_pre hL hW hH hf (by omega) e
      have := ih o (by omega) e2
      rcases Nat.lt_or_eq_of_le this with h | h
      · omega
      · rw [h] at e
        exact absurd e (hno f hf)
  funext f
  unfold mdR
  by_cases h : dXg (W * H) nr wl mk g f = -1
  · rw [if_neg (fun z => z.1 h), h]
  · obtain ⟨v, hv, e⟩ := dX_n h9 h
    have := key v f (by omega) e
    rw [e, nI_clamp (by omega), if_pos ⟨nI_m1 (by omega), this⟩]
/-- a field is found in round q + 1 if one beside it was found in round q -/
theorem md_hit {W H g q f : Nat} {nr wl mk : Nat → Int32} (hL : lk_ok W H (W * H) nr) (hW : W ≤ 14) (hH : H ≤ 14) (hf : f < W * H) (hwf : wl f = 0) (hq : q < 900) (hlt : mdR (dXg (W * H) nr wl mk g) q f < 0) : dXg (W * H) nr wl mk g f = nI (q + 1) ↔ ∃ s, s < 4 ∧ ∃ t, t < W * H ∧ nbX nr f s = nI t ∧ dXg (W * H) nr wl mk g t = nI q := by
  have h9 : W * H ≤ 196 := Nat.mul_le_mul hW hH
  constructor
  · intro e
    obtain ⟨s, t, hs, ht, e1, e2⟩ := dX_pre hL hW hH hf (by omega) e
    exact ⟨s, hs, t, ht, e1, e2⟩
  · rintro ⟨s, hs, t, ht, e1, e2⟩
    have e3 := nbX_opp hL hW hH hf ht hs e1
    obtain ⟨w, hw, e4⟩ := dX_lip h9 (s := (s + 2) % 4) (by omega) hf hwf e3 (by omega) e2
    have hval := dX_val (n := W * H) (g := g) (nr := nr) (wl := wl) (mk := mk) h9 f
    have h5 := (md_neg hval hq).2.mp ((md_neg hval hq).1.mp hlt)
    rcases h5 with z | ⟨v, hv1, hv2, z⟩
    · rw [e4] at z
      exact absurd z (nI_m1 (by omega))
    · rw [e4] at z
      have := (nI_eq (by omega) (by omega)).mp z
      rw [e4]
      exact congrArg nI (by omega)

/-! numbers: a rectangle by its fields -/
def rcT (W a b a2 b2 f : Nat) : Prop := (min a a2 ≤ f % W ∧ f % W ≤ max a a2) ∧ min b b2 ≤ f / W ∧ f / W ≤ max b b2
def wlP (W a b a2 b2 : Nat) (bv : Int32) (wl : Nat → Int32) (k : Nat) : Nat → Int32 := fun f => if f < k ∧ (min a a2 ≤ f % W ∧ f % W ≤ max a a2) ∧ min b b2 ≤ f / W ∧ f / W ≤ max b b2 then bv else wl f
theorem wlP_0 {W a b a2 b2 : Nat} {bv : Int32} {wl : Nat → Int32} : wlP W a b a2 b2 bv wl 0 = wl := by
  funext f
  exact if_neg (fun z => Nat.not_lt_zero f z.1)
theorem wlP_in {W a b a2 b2 k : Nat} {bv : Int32} {wl : Nat → Int32} (h : rcT W a b a2 b2 k) : upd (wlP W a b a2 b2 bv wl k) k bv = wlP W a b a2 b2 bv wl (k + 1) := by
  funext f
  unfold upd wlP
  by_cases e : f = k
  · subst e
    rw [if_pos rfl, if_pos ⟨Nat.lt_succ_self f, h⟩]
  · rw [if_neg e]
    by_cases e2 : f < k ∧ (min a a2 ≤ f % W ∧ f % W ≤ max a a2) ∧ min b b2 ≤ f / W ∧ f / W ≤ max b b2
    · rw [if_pos e2, if_pos ⟨by omega, e2.2⟩]
    · rw [if_neg e2, if_neg (fun z => e2 ⟨by omega, z.2⟩)]
theorem wlP_out {W a b a2 b2 k : Nat} {bv : Int32} {wl : Nat → Int32} (h : ¬ rcT W a b a2 b2 k) : wlP W a b a2 b2 bv wl k = wlP W a b a2 b2 bv wl (k + 1) := by
  funext f
  unfold wlP
  by_cases e2 : f < k ∧ (min a a2 ≤ f % W ∧ f % W ≤ max a a2) ∧ min b b2 ≤ f / W ∧ f / W ≤ max b b2
  · rw [if_pos e2, if_pos ⟨by omega, e2.2⟩]
  · rw [if_neg e2, if_neg (fun z => by
      by_cases e : f = k
      · subst e; exact h z.2
      · exact e2 ⟨by omega, z.2⟩)]
theorem wlP_N {W H a b a2 b2 : Nat} {bv : Int32} {wl : Nat → Int32} (hW : 0 < W) (ha : a < W) (hb : b < H) (ha2 : a2 < W) (hb2 : b2 < H) (hv : bv = 0 ∨ bv = 1) : wlP W a b a2 b2 bv wl (W * H) = wlX W bv a b a2 b2 wl := by
  funext f
  have e1 : (if bv = 0 then (0 : Int32) else 1) = bv := by
    rcases hv with h | h
    · rw [h]; rfl
    · rw [h]; rfl
  have e2 : f / W * W + f % W = f := by rw [Nat.mul_comm]; exact Nat.div_add_mod f W
  have h1 : f % W < W := Nat.mod_lt f hW
  have h2 := wq_at (bv := bv) (wl := wl) (b := f / W) (ty := min b b2) (lx := min a a2) (n := max a a2 + 1 - min a a2) h1 (by omega) (max b b2 + 1 - min b b2)
  unfold wlX
  rw [e1]
  rw [e2] at h2
  rw [h2]
  unfold wlP
  by_cases h : (min b b2 ≤ f / W ∧ f / W < min b b2 + (max b b2 + 1 - min b b2)) ∧ min a a2 ≤ f % W ∧ f % W < min a a2 + (max a a2 + 1 - min a a2)
  · rw [if_pos h, if_pos ⟨by
      have h3 : f / W < H := by omega
      have h4 : f / W * W + W ≤ H * W := by
        have := Nat.mul_le_mul_right W (show f / W + 1 ≤ H by omega)
        rw [Nat.add_mul, Nat.one_mul] at this
        exact this
      rw [Nat.mul_comm W H]
      omega, by omega⟩]
  · rw [if_neg h, if_neg (fun z => h (by omega))]
theorem anF_iff {p : Nat → Bool} : ∀ (r a : Nat), anF p a r = true ↔ ∃ k, a ≤ k ∧ k < a + r ∧ p k = true
  | 0, a => ⟨fun h => absurd h Bool.false_ne_true, fun ⟨k, h1, h2, _⟩ => by omega⟩
  | r + 1, a => by
    show (p a || anF p (a + 1) r) = true ↔ _
    rw [Bool.or_eq_true, anF_iff r (a + 1)]
    constructor
    · rintro (h | ⟨k, h1, h2, h3⟩)
      · exact ⟨a, Nat.le_refl a, by omega, h⟩
      · exact ⟨k, by omega, by omega, h3⟩
    · rintro ⟨k, h1, h2, h3⟩
      by_cases e : k = a
      · subst e; exact Or.inl h3
      · exact Or.inr ⟨k, by omega, by omega, h3⟩
theorem wanF_iff {W H a b a2 b2 : Nat} {X : cX} (hW : W ≤ 14) (hH : H ≤ 14) (ha : a < W) (hb : b < H) (ha2 : a2 < W) (hb2 : b2 < H) : wanF W H X a b a2 b2 = true ↔ ∃ f, f < W * H ∧ rcT W a b a2 b2 f ∧ ¬ X.2.2.1 f = -1 := by
  have h196 := fd_196 hW hH
  have hp : ∀ x y, x < W → y < H → (pAny X.2.2.1 (nI W) (nI H) x y = true ↔ ¬ X.2.2.1 (y * W + x) = -1) := fun x y hx hy => by
    have := fd_lt hx hy
    unfold pAny
    rw [decide_eq_true_eq, gr_numI hW hH hx hy, cr_onI X.2.2.1 (by omega)]
  unfold wanF
  rw [anF_iff]
  constructor
  · rintro ⟨y, y1, y2, h⟩
    rw [anF_iff] at h
    obtain ⟨x, x1, x2, h⟩ := h
    have hx : x < W := by omega
    have hy : y < H := by omega
    refine ⟨y * W + x, fd_lt hx hy, ?_, (hp x y hx hy).mp h⟩
    have := fd_mod (y := y) hx
    unfold rcT
    rw [this.1, this.2]
    omega
  · rintro ⟨f, hf, hr, ho⟩
    obtain ⟨h1, h2, h3⟩ := fd_div hf
    unfold rcT at hr
    refine ⟨f / W, by omega, by omega, ?_⟩
    rw [anF_iff]
    exact ⟨f % W, by omega, by omega, (hp _ _ h1 h2).mpr (by rw [h3]; exact ho)⟩
theorem in_I {x l r : Nat} (hx : x < 1000) (hl : l < 1000) (hr : r < 1000) : (nI l ≤ nI x ∧ nI x ≤ nI r) ↔ (l ≤ x ∧ x ≤ r) := by
  rw [nb_le, nb_le, nI_toI (by omega), nI_toI (by omega), nI_toI (by omega)]
  omega

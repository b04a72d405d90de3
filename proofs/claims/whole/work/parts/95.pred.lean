/-! numbers: who is not at a goal has a nearer one beside it -/
def bfP (nb : Nat → Nat → Int32) (n : Nat) (S : bf_S) : Prop := ∀ o, S.1 o = -1 ∨ S.1 o = 0 ∨ ∃ f s, s < 4 ∧ f < n ∧ nb f s = nI o ∧ ¬ S.1 f = -1 ∧ S.1 o = S.1 f + 1
theorem bf1_P {nb : Nat → Nat → Int32} {fr : Nat → Bool} {f s n : Nat} {S : bf_S} (h : bfP nb n S) (hs : s < 4) (hfn : f < n) (hf : ¬ S.1 f = -1) : bfP nb n (bf1 nb fr f s S) := by
  unfold bf1
  split
  · next hc =>
    obtain ⟨h0, h1, h2⟩ := hc
    obtain ⟨t, ht, he⟩ := nI_of (Int32.not_lt.mpr h0)
    rw [he, nI_clamp (n := t) (by omega)] at h2 ⊢
    have hne : f ≠ t := fun e => hf (e ▸ h2)
    intro o
    show upd S.1 t (S.1 f + 1) o = -1 ∨ upd S.1 t (S.1 f + 1) o = 0 ∨ ∃ f9 s9, s9 < 4 ∧ f9 < n ∧ nb f9 s9 = nI o ∧ ¬ upd S.1 t (S.1 f + 1) f9 = -1 ∧ upd S.1 t (S.1 f + 1) o = upd S.1 t (S.1 f + 1) f9 + 1
    have e1 : ∀ q, q ≠ t → upd S.1 t (S.1 f + 1) q = S.1 q := fun q hq => if_neg hq
    by_cases e : o = t
    · subst e
      refine Or.inr (Or.inr ⟨f, s, hs, hfn, he, ?_, ?_⟩)
      · rw [e1 f hne]; exact hf
      · rw [e1 f hne]; exact if_pos rfl
    · rw [e1 o e]
      rcases h o with z | z | ⟨f9, s9, z1, z2, z3, z4, z5⟩
      · exact Or.inl z
      · exact Or.inr (Or.inl z)
      · have : f9 ≠ t := fun e9 => z4 (e9 ▸ h2)
        exact Or.inr (Or.inr ⟨f9, s9, z1, z2, z3, by rw [e1 f9 this]; exact z4, by rw [e1 f9 this]; exact z5⟩)
  · exact h
theorem bfS_P {nb : Nat → Nat → Int32} {fr : Nat → Bool} {f n : Nat} {S : bf_S} (hJ : bfJ n S) (hn : n ≤ 196) (hfr : ∀ k, fr k = true → k < n) (h : bfP nb n S) (hfn : f < n) (hf : ¬ S.1 f = -1) : ∀ s, s ≤ 4 → bfP nb n (bfS nb fr f S s)
  | 0, _ => h
  | s + 1, hs => bf1_P (bfS_P hJ hn hfr h hfn hf s (by omega)) (by omega) hfn (bfS_J hJ hn hfr hf s).2
theorem bfM_P {nb : Nat → Nat → Int32} {fr : Nat → Bool} {n : Nat} (hn : n ≤ 196) (hfr : ∀ k, fr k = true → k < n) : ∀ (r h : Nat) (S : bf_S), bfJ n S → bfP nb n S → bfP nb n (bfM nb fr r h S)
  | 0, _, _, _, hP => hP
  | r + 1, h, S, hJ, hP => by
    cases hq : S.2[h]? with
    | none => rw [bfM_n hq]; exact hP
    | some f =>
      rw [bfM_s hq]
      have hm := hJ.2.1 f (List.mem_of_getElem? hq)
      exact bfM_P hn hfr r (h + 1) _ (bfS_J hJ hn hfr hm.2 4).1 (bfS_P hJ hn hfr hP hm.1 hm.2 4 (Nat.le_refl 4))
theorem dX_pre {W H g o v : Nat} {nr wl mk : Nat → Int32} (hL : lk_ok W H (W * H) nr) (hW : W ≤ 14) (hH : H ≤ 14) (ho : o < W * H) (hv : v < 1000) (h : dXg (W * H) nr wl mk g o = nI (v + 1)) : ∃ s q, s < 4 ∧ q < W * H ∧ nbX nr o s = nI q ∧ dXg (W * H) nr wl mk g q = nI v := by
  have h9 := fd_196 hW hH
  have hP : bfP (nbX nr) (W * H) (bfM (nbX nr) (frX (W * H) wl) (W * H) 0 (bf0 (stX (W * H) wl mk g) (W * H))) := bfM_P h9 (fun k z => (of_decide_eq_true z).1) _ _ _ (bf0_J h9) (fun f => by
    by_cases e : stX (W * H) wl mk g f = true
    · exact Or.inr (Or.inl (by show (if _ then (0 : Int32) else -1) = 0; rw [if_pos e]))
    · exact Or.inl (by show (if _ then (0 : Int32) else -1) = -1; rw [if_neg e]))
  have h2 : (bfM (nbX nr) (frX (W * H) wl) (W * H) 0 (bf0 (stX (W * H) wl mk g) (W * H))).1 o = nI (v + 1) := h
  rcases hP o with z | z | ⟨f, s, z1, z2, z3, z4, z5⟩
  · rw [h2] at z; exact absurd z (nI_m1 (by omega))
  · rw [h2] at z
    have := (nI_eq (a := v + 1) (b := 0) (by omega) (by omega)).mp z
    omega
  · refine ⟨(s + 2) % 4, f, by omega, z2, nbX_opp hL hW hH z2 ho z1 z3, ?_⟩
    show (bfM (nbX nr) (frX (W * H) wl) (W * H) 0 (bf0 (stX (W * H) wl mk g) (W * H))).1 f = nI v
    rw [h2, ← nI_1] at z5
    exact (Int32.add_left_inj 1).mp z5.symm

/-! how far: neighbours differ by one at most; what is found is free -/
def bn (S : bf_S) (f : Nat) : Nat := (S.1 f).toNatClampNeg
/-- what is seen lies in the queue, in order; f's distance d is the least that is still to come -/
def bfQ (d : Nat) (S : bf_S) : Prop := (∀ f, ¬ S.1 f = -1 → f ∈ S.2) ∧ (∀ i j f g : Nat, i ≤ j → S.2[i]? = some f → S.2[j]? = some g → bn S f ≤ bn S g) ∧ ∀ j g : Nat, S.2[j]? = some g → bn S g ≤ d + 1
theorem bn_nI {n : Nat} {S : bf_S} (h : bfJ n S) (hn : n ≤ 196) {f : Nat} (hf : ¬ S.1 f = -1) : S.1 f = nI (bn S f) ∧ bn S f ≤ n := by
  obtain ⟨v, hv, e⟩ := (h.2.2 f).resolve_left hf
  have := h.len
  unfold bn
  rw [e, nI_clamp (by omega)]
  exact ⟨rfl, by omega⟩
theorem bf1_Q {nb : Nat → Nat → Int32} {fr : Nat → Bool} {n f s : Nat} {S : bf_S} (hJ : bfJ n S) (hn : n ≤ 196) (hf : ¬ S.1 f = -1) (hQ : bfQ (bn S f) S) :
    bfQ (bn S f) (bf1 nb fr f s S) ∧ (∀ o, ¬ S.1 o = -1 → (bf1 nb fr f s S).1 o = S.1 o) ∧ (∀ i g : Nat, S.2[i]? = some g → (bf1 nb fr f s S).2[i]? = some g) ∧ ∀ o, o < 1000 → nb f s = nI o → fr o = true → ¬ (bf1 nb fr f s S).1 o = -1 ∧ bn (bf1 nb fr f s S) o ≤ bn S f + 1 := by
  obtain ⟨q1, q2, q3⟩ := hQ
  obtain ⟨ef, bf⟩ := bn_nI hJ hn hf
  unfold bf1
  split
  · next hc =>
    obtain ⟨h0, h1, h2⟩ := hc
    generalize ht : (nb f s).toNatClampNeg = t at h1 h2
    have hne : ∀ o, ¬ S.1 o = -1 → ¬ o = t := fun o ho e => ho (e ▸ h2)
    have ht9 : (upd S.1 t (S.1 f + 1)) t = nI (bn S f + 1) := by
      show (if t = t then S.1 f + 1 else _) = _
      rw [if_pos rfl, ef, nI_1]
    have hbt : bn (upd S.1 t (S.1 f + 1), S.2 ++ [t]) t = bn S f + 1 := by
      unfold bn
      show ((upd S.1 t (S.1 f + 1)) t).toNatClampNeg = _
      rw [ht9, nI_clamp (by omega)]
      rfl
    have hbo : ∀ o, ¬ o = t → bn (upd S.1 t (S.1 f + 1), S.2 ++ [t]) o = bn S o := fun o ho => by
      unfold bn
      show ((upd S.1 t (S.1 f + 1)) o).toNatClampNeg = _
      rw [show (upd S.1 t (S.1 f + 1)) o = S.1 o from if_neg ho]
    have hmem : ∀ i g : Nat, S.2[i]? = some g → ¬ g = t := fun i g hi => hne g ((hJ.2.1 g (List.mem_of_getElem? hi)).2)
    have hget : ∀ i g, (S.2 ++ [t])[i]? = some g → S.2[i]? = some g ∨ (i = S.2.length ∧ g = t) := fun i g hi => by
      rcases Nat.lt_or_ge i S.2.length with h5 | h5
      · rw [List.getElem?_append_left h5] at hi
        exact Or.inl hi
      · rw [List.getElem?_append_right h5] at hi
        rcases Nat.lt_or_eq_of_le h5 with h6 | h6
        · rw [List.getElem?_eq_none (by simp; omega)] at hi
          cases hi
        · rw [h6, Nat.sub_self] at hi
          simp at hi
          exact Or.inr ⟨h6.symm, hi.symm⟩
    refine ⟨⟨fun o ho => ?_, fun i j g g2 hij hi hj => ?_, fun j g hj => ?_⟩, fun o ho => if_neg (hne o ho), fun i g hi => ?_, fun o ho9 ho hfr => ?_⟩
    · show o ∈ S.2 ++ [t]
      by_cases e : o = t
      · rw [e]; simp
      · exact List.mem_append_left _ (q1 o (fun z => ho ((show (upd S.1 t (S.1 f + 1)) o = S.1 o from if_neg e).trans z)))
    · rcases hget i g hi with a | ⟨a1, a2⟩
      · rw [hbo g (hmem i g a)]
        rcases hget j g2 hj with b | ⟨b1, b2⟩
        · rw [hbo g2 (hmem j g2 b)]
          exact q2 i j g g2 hij a b
        · rw [b2, hbt]
          exact q3 i g a
      · rw [a2, hbt]
        rcases hget j g2 hj with b | ⟨b1, b2⟩
        · have h7 := (List.getElem?_eq_some_iff.mp b).1
          omega
        · rw [b2, hbt]
          exact Nat.le_refl _
    · rcases hget j g hj with b | ⟨b1, b2⟩
      · rw [hbo g (hmem j g b)]
        exact q3 j g b
      · rw [b2, hbt]
        exact Nat.le_refl _
    · show (S.2 ++ [t])[i]? = some g
      rw [List.getElem?_append_left (List.getElem?_eq_some_iff.mp hi).1]
      exact hi
    · have e : o = t := by rw [← ht, ho, nI_clamp (by omega)]
      subst e
      refine ⟨?_, by rw [hbt]; exact Nat.le_refl _⟩
      show ¬ (upd S.1 o (S.1 f + 1)) o = -1
      rw [ht9]
      exact nI_m1 (by omega)
  · next hc =>
    refine ⟨⟨q1, q2, q3⟩, fun o ho => rfl, fun i g hi => hi, fun o ho9 ho hfr => ?_⟩
    have h0 : ¬ S.1 o = -1 := fun z => hc (by
      rw [ho, nI_clamp (by omega)]
      exact ⟨nI_pos' (by omega), hfr, z⟩)
    refine ⟨h0, ?_⟩
    obtain ⟨i, hi⟩ := List.getElem?_of_mem (q1 o h0)
    exact q3 i o hi
theorem bfS_Q {nb : Nat → Nat → Int32} {fr : Nat → Bool} {n f : Nat} {S : bf_S} (hJ : bfJ n S) (hn : n ≤ 196) (hfr : ∀ k, fr k = true → k < n) (hf : ¬ S.1 f = -1) (hQ : bfQ (bn S f) S) : ∀ s,
    bfQ (bn S f) (bfS nb fr f S s) ∧ (∀ o, ¬ S.1 o = -1 → (bfS nb fr f S s).1 o = S.1 o) ∧ (∀ i g : Nat, S.2[i]? = some g → (bfS nb fr f S s).2[i]? = some g) ∧ ∀ s9, s9 < s → ∀ o, o < 1000 → nb f s9 = nI o → fr o = true → ¬ (bfS nb fr f S s).1 o = -1 ∧ bn (bfS nb fr f S s) o ≤ bn S f + 1
  | 0 => ⟨hQ, fun o _ => rfl, fun i g h => h, fun s9 h => absurd h (Nat.not_lt_zero _)⟩
  | s + 1 => by
    obtain ⟨a1, a2, a3, a4⟩ := bfS_Q hJ hn hfr hf hQ (nb := nb) s
    obtain ⟨j1, j2⟩ := bfS_J hJ hn hfr hf (nb := nb) s
    have eb : bn (bfS nb fr f S s) f = bn S f := by unfold bn; rw [a2 f hf]
    obtain ⟨b1, b2, b3, b4⟩ := bf1_Q (nb := nb) (fr := fr) (s := s) j1 hn j2 (by rw [eb]; exact a1)
    rw [eb] at b1 b4
    refine ⟨b1, fun o ho => (b2 o (by rw [a2 o ho]; exact ho)).trans (a2 o ho), fun i g h => b3 i g (a3 i g h), fun s9 h9 o ho9 ho hfo => ?_⟩
    rcases Nat.lt_succ_iff_lt_or_eq.mp h9 with h5 | h5
    · obtain ⟨c1, c2⟩ := a4 s9 h5 o ho9 ho hfo
      have e : (bf1 nb fr f s (bfS nb fr f S s)).1 o = (bfS nb fr f S s).1 o := b2 o c1
      refine ⟨?_, ?_⟩
      · show ¬ (bf1 nb fr f s (bfS nb fr f S s)).1 o = -1
        rw [e]; exact c1
      · show ((bf1 nb fr f s (bfS nb fr f S s)).1 o).toNatClampNeg ≤ _
        rw [e]; exact c2
    · subst h5
      exact b4 o ho9 ho hfo
/-- what is done: its neighbours are seen, and a step further at most -/
def bfC (nb : Nat → Nat → Int32) (fr : Nat → Bool) (h : Nat) (S : bf_S) : Prop := ∀ i f : Nat, i < h → S.2[i]? = some f → ∀ s, s < 4 → ∀ o, o < 1000 → nb f s = nI o → fr o = true → ¬ S.1 o = -1 ∧ bn S o ≤ bn S f + 1
theorem bfM_Q {nb : Nat → Nat → Int32} {fr : Nat → Bool} {n : Nat} (hn : n ≤ 196) (hfr : ∀ k, fr k = true → k < n) : ∀ (r h : Nat) (S : bf_S), n ≤ h + r → bfJ n S → (∀ f, ¬ S.1 f = -1 → f ∈ S.2) → (∀ i j f g : Nat, i ≤ j → S.2[i]? = some f → S.2[j]? = some g → bn S f ≤ bn S g) → (∀ f j g : Nat, S.2[h]? = some f → S.2[j]? = some g → bn S g ≤ bn S f + 1) → bfC nb fr h S →
    ∀ f, ¬ (bfM nb fr r h S).1 f = -1 → ∀ s, s < 4 → ∀ o, o < 1000 → nb f s = nI o → fr o = true → ¬ (bfM nb fr r h S).1 o = -1 ∧ bn (bfM nb fr r h S) o ≤ bn (bfM nb fr r h S) f + 1
  | 0, h, S, hr, hJ, q1, q2, q3, hC => fun f hf => by
    obtain ⟨i, hi⟩ := List.getElem?_of_mem (q1 f hf)
    have := (List.getElem?_eq_some_iff.mp hi).1
    have := hJ.len
    exact hC i f (by omega) hi
  | r + 1, h, S, hr, hJ, q1, q2, q3, hC => by
    unfold bfM
    cases e : S.2[h]? with
    | none => 
      show ∀ f, ¬ S.1 f = -1 → ∀ s, s < 4 → ∀ o, o < 1000 → nb f s = nI o → fr o = true → ¬ S.1 o = -1 ∧ bn S o ≤ bn S f + 1
      intro f hf
      obtain ⟨i, hi⟩ := List.getElem?_of_mem (q1 f hf)
      have := (List.getElem?_eq_some_iff.mp hi).1
      have := List.getElem?_eq_none_iff.mp e
      exact hC i f (by omega) hi
    | some f =>
      have hf : ¬ S.1 f = -1 := (hJ.2.1 f (List.mem_of_getElem? e)).2
      obtain ⟨a1, a2, a3, a4⟩ := bfS_Q hJ hn hfr hf ⟨q1, q2, fun j g hj => q3 f j g e hj⟩ (nb := nb) 4
      obtain ⟨j1, -⟩ := bfS_J hJ hn hfr hf (nb := nb) 4
      have eb : ∀ o, ¬ S.1 o = -1 → bn (bfS nb fr f S 4) o = bn S o := fun o ho => by unfold bn; rw [a2 o ho]
      refine bfM_Q hn hfr r (h + 1) (bfS nb fr f S 4) (by omega) j1 a1.1 a1.2.1 (fun g j g2 hg hj => ?_) (fun i g hi hg s hs o ho9 ho hfo => ?_)
      · have h5 := a1.2.2 j g2 hj
        have h6 := a1.2.1 h (h + 1) f g (by omega) (a3 h f e) hg
        rw [eb f hf] at h6
        omega
      · rcases Nat.lt_succ_iff_lt_or_eq.mp hi with h5 | h5
        · have hl : i < S.2.length := by
            have := (List.getElem?_eq_some_iff.mp e).1
            omega
          have hg0 : S.2[i]? = some g := by
            obtain ⟨g0, e0⟩ : ∃ g0, S.2[i]? = some g0 := ⟨_, List.getElem?_eq_getElem hl⟩
            rw [a3 i g0 e0] at hg
            rw [e0]; exact hg
          obtain ⟨c1, c2⟩ := hC i g h5 hg0 s hs o ho9 ho hfo
          have hgm : ¬ S.1 g = -1 := (hJ.2.1 g (List.mem_of_getElem? hg0)).2
          rw [a2 o c1, eb o c1, eb g hgm]
          exact ⟨c1, c2⟩
        · subst h5
          have e9 : g = f := Option.some.inj (hg.symm.trans (a3 i f e))
          subst e9
          have h8 := a4 s hs o ho9 ho hfo
          rw [eb g hf]
          exact h8
theorem bf0_Q {nb : Nat → Nat → Int32} {fr st : Nat → Bool} {n : Nat} (hst : ∀ k, st k = true → k < n) : (∀ f, ¬ (bf0 st n).1 f = -1 → f ∈ (bf0 st n).2) ∧ (∀ f, f ∈ (bf0 st n).2 → bn (bf0 st n) f = 0) := by
  refine ⟨fun f hf => ?_, fun f hf => ?_⟩
  · have h : st f = true := by
      by_cases h : st f = true
      · exact h
      · exact absurd (show (bf0 st n).1 f = -1 from if_neg h) hf
    exact List.mem_filter.mpr ⟨List.mem_range.mpr (hst f h), h⟩
  · have h := (List.mem_filter.mp hf).2
    show (if st f = true then (0 : Int32) else -1).toNatClampNeg = 0
    rw [if_pos h]
    rfl
/-- a step further at most -/
theorem dX_lip {W H g f o v s : Nat} {nr wl mk : Nat → Int32} (h9 : W * H ≤ 196) (hs : s < 4) (ho : o < W * H) (hw : wl o = 0) (hn : nbX nr f s = nI o) (hv : v < 1000) (h : dXg (W * H) nr wl mk g f = nI v) : ∃ w, w ≤ v + 1 ∧ dXg (W * H) nr wl mk g o = nI w := by
  have hfr : ∀ k, frX (W * H) wl k = true → k < W * H := fun k hk => (of_decide_eq_true hk).1
  have hst : ∀ k, stX (W * H) wl mk g k = true → k < W * H := fun k hk => (of_decide_eq_true hk).1
  obtain ⟨q1, q2⟩ := bf0_Q (nb := nbX nr) (fr := frX (W * H) wl) hst
  have h0 := bf0_J (st := stX (W * H) wl mk g) h9
  have hJ := bfM_J (nb := nbX nr) h9 hfr (W * H) 0 _ h0
  have key := bfM_Q (nb := nbX nr) h9 hfr (W * H) 0 (bf0 (stX (W * H) wl mk g) (W * H)) (by omega) h0 q1 (fun i j a b _ hi hj => by rw [q2 a (List.mem_of_getElem? hi)]; exact Nat.zero_le _) (fun a j b ha hb => by rw [q2 b (List.mem_of_getElem? hb)]; exact Nat.zero_le _) (fun i a hi => absurd hi (Nat.not_lt_zero i)) f (by
    show ¬ dXg (W * H) nr wl mk g f = -1
    rw [h]
    exact nI_m1 (by omega)) s hs o (by omega) hn (decide_eq_true ⟨ho, hw⟩)
  obtain ⟨k1, k2⟩ := key
  obtain ⟨e1, e2⟩ := bn_nI hJ h9 k1
  refine ⟨_, ?_, e1⟩
  have e3 : bn (bfM (nbX nr) (frX (W * H) wl) (W * H) 0 (bf0 (stX (W * H) wl mk g) (W * H))) f = v := by
    show (dXg (W * H) nr wl mk g f).toNatClampNeg = v
    rw [h, nI_clamp (by omega)]
  rw [e3] at k2
  exact k2
/-- what is found is free; what is no start is not 0 -/
def bfW (nf : Nat) (fr st : Nat → Bool) (S : bf_S) : Prop := ∀ f, (¬ S.1 f = -1 → fr f = true) ∧ (S.1 f = 0 → st f = true) ∧ (st f = true → S.1 f = 0)
theorem bf1_W {nb : Nat → Nat → Int32} {fr st : Nat → Bool} {f s n nf : Nat} {S : bf_S} (hn : n ≤ 196) (hJ : bfJ n S) (hf : ¬ S.1 f = -1) (h : bfW nf fr st S) : bfW nf fr st (bf1 nb fr f s S) := by
  obtain ⟨ef, bf⟩ := bn_nI hJ hn hf
  unfold bf1
  split
  · next hc =>
    obtain ⟨h0, h1, h2⟩ := hc
    intro o
    show (¬ (if o = _ then _ else S.1 o) = -1 → _) ∧ ((if o = _ then _ else S.1 o) = 0 → _) ∧ (_ → (if o = _ then _ else S.1 o) = 0)
    by_cases e : o = (nb f s).toNatClampNeg
    · rw [if_pos e, ef, nI_1]
      refine ⟨fun _ => by rw [e]; exact h1, fun z => absurd z (nI_ne0 (by omega) (by omega)), fun z => ?_⟩
      have := (h o).2.2 z
      rw [e, h2] at this
      exact absurd this (by decide)
    · rw [if_neg e]
      exact h o
  · exact h
theorem bfS_W {nb : Nat → Nat → Int32} {fr st : Nat → Bool} {f n nf : Nat} {S : bf_S} (hn : n ≤ 196) (hfr : ∀ k, fr k = true → k < n) (hJ : bfJ n S) (hf : ¬ S.1 f = -1) (h : bfW nf fr st S) : ∀ s, bfW nf fr st (bfS nb fr f S s)
  | 0 => h
  | s + 1 => by
    obtain ⟨j1, j2⟩ := bfS_J hJ hn hfr hf (nb := nb) s
    exact bf1_W hn j1 j2 (bfS_W hn hfr hJ hf h s)
theorem bfM_W {nb : Nat → Nat → Int32} {fr st : Nat → Bool} {n nf : Nat} (hn : n ≤ 196) (hfr : ∀ k, fr k = true → k < n) : ∀ (r h : Nat) (S : bf_S), bfJ n S → bfW nf fr st S → bfW nf fr st (bfM nb fr r h S)
  | 0, _, _, _, hW => hW
  | r + 1, h, S, hJ, hW => by
    unfold bfM
    cases e : S.2[h]? with
    | none => exact hW
    | some f =>
      have hf : ¬ S.1 f = -1 := (hJ.2.1 f (List.mem_of_getElem? e)).2
      obtain ⟨j1, -⟩ := bfS_J hJ hn hfr hf (nb := nb) 4
      exact bfM_W hn hfr r (h + 1) _ j1 (bfS_W hn hfr hJ hf hW 4)
theorem dX_W {n g : Nat} {nr wl mk : Nat → Int32} (h9 : n ≤ 196) : bfW n (frX n wl) (stX n wl mk g) (bfM (nbX nr) (frX n wl) n 0 (bf0 (stX n wl mk g) n)) := by
  refine bfM_W h9 (fun k hk => (of_decide_eq_true hk).1) n 0 _ (bf0_J h9) (fun f => ?_)
  show (¬ (if stX n wl mk g f = true then (0 : Int32) else -1) = -1 → _) ∧ ((if stX n wl mk g f = true then (0 : Int32) else -1) = 0 → _) ∧ (_ → (if stX n wl mk g f = true then (0 : Int32) else -1) = 0)
  by_cases h : stX n wl mk g f = true
  · rw [if_pos h]
    have h2 := of_decide_eq_true h
    exact ⟨fun _ => decide_eq_true ⟨h2.1, h2.2.1⟩, fun _ => h, fun _ => rfl⟩
  · rw [if_neg h]
    exact ⟨fun z => absurd rfl z, fun z => absurd z (by decide), fun z => absurd z h⟩
theorem dX_free {n g f : Nat} {nr wl mk : Nat → Int32} (h9 : n ≤ 196) (h : ¬ dXg n nr wl mk g f = -1) : f < n ∧ wl f = 0 := of_decide_eq_true ((dX_W (g := g) (nr := nr) (wl := wl) (mk := mk) h9 f).1 h)
theorem dX_0 {n g f : Nat} {nr wl mk : Nat → Int32} (h9 : n ≤ 196) : dXg n nr wl mk g f = 0 ↔ stX n wl mk g f = true := ⟨(dX_W h9 f).2.1, (dX_W h9 f).2.2⟩
theorem dX_n {n g f : Nat} {nr wl mk : Nat → Int32} (h9 : n ≤ 196) (h : ¬ dXg n nr wl mk g f = -1) : ∃ v, v ≤ n ∧ dXg n nr wl mk g f = nI v := by
  have hJ := bfM_J (nb := nbX nr) h9 (fun k hk => (of_decide_eq_true hk).1) n 0 _ (bf0_J (st := stX n wl mk g) h9) (fr := frX n wl)
  obtain ⟨e1, e2⟩ := bn_nI hJ h9 (f := f) h
  exact ⟨_, e2, e1⟩

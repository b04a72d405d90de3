/-! numbers: one step, by both -/
def triP (n cnt : Nat) (u : Nat → Nat → Int32) (on : Nat → Int32) (T : Int32) (sd tg mt ms go : Nat → Int32) : Prop := ∀ k, k < cnt → (¬ wk_turn (u k) T ∧ sd k = 4 ∧ tg k = -1 ∧ mt k = -1 ∧ go k = 0) ∨ (wk_turn (u k) T ∧ sd k = 4 ∧ tg k = -1 ∧ ¬ mt k = -1 ∧ ms k = 4 ∧ go k = 0) ∨ (wk_turn (u k) T ∧ ¬ sd k = 4 ∧ ms k = sd k ∧ ∃ o, o < n ∧ tg k = nI o ∧ mt k = nI o ∧ on o = -1)
theorem tk_tri {W H cnt : Nat} {nr ds on : Nat → Int32} {dr T : Int32} {u : Nat → Nat → Int32} (hL : lk_ok W H (W * H) nr) (hW : W ≤ 14) (hH : H ≤ 14) (hv : hvX (nI (W * H)) cnt u) {k : Nat} (hk : k < cnt) : (¬ wk_turn (u k) T ∧ (sdX (nI (W * H)) nr ds cnt dr on u T) k = 4 ∧ (fun k => amT nr (u k) (sdX (nI (W * H)) nr ds cnt dr on u T k)) k = -1 ∧ (mto u (sdX (nI (W * H)) nr ds cnt dr on u T) (fun k => amT nr (u k) (sdX (nI (W * H)) nr ds cnt dr on u T k)) T) k = -1 ∧ (fun j => gv (mto u (sdX (nI (W * H)) nr ds cnt dr on u T) (fun k => amT nr (u k) (sdX (nI (W * H)) nr ds cnt dr on u T k)) T) (msd u (sdX (nI (W * H)) nr ds cnt dr on u T) T) u j cnt) k = 0) ∨ (wk_turn (u k) T ∧ (sdX (nI (W * H)) nr ds cnt dr on u T) k = 4 ∧ (fun k => amT nr (u k) (sdX (nI (W * H)) nr ds cnt dr on u T k)) k = -1 ∧ ¬ (mto u (sdX (nI (W * H)) nr ds cnt dr on u T) (fun k => amT nr (u k) (sdX (nI (W * H)) nr ds cnt dr on u T k)) T) k = -1 ∧ (msd u (sdX (nI (W * H)) nr ds cnt dr on u T) T) k = 4 ∧ (fun j => gv (mto u (sdX (nI (W * H)) nr ds cnt dr on u T) (fun k => amT nr (u k) (sdX (nI (W * H)) nr ds cnt dr on u T k)) T) (msd u (sdX (nI (W * H)) nr ds cnt dr on u T) T) u j cnt) k = 0) ∨ (wk_turn (u k) T ∧ ¬ (sdX (nI (W * H)) nr ds cnt dr on u T) k = 4 ∧ (msd u (sdX (nI (W * H)) nr ds cnt dr on u T) T) k = (sdX (nI (W * H)) nr ds cnt dr on u T) k ∧ ∃ o, o < W * H ∧ (fun k => amT nr (u k) (sdX (nI (W * H)) nr ds cnt dr on u T k)) k = nI o ∧ (mto u (sdX (nI (W * H)) nr ds cnt dr on u T) (fun k => amT nr (u k) (sdX (nI (W * H)) nr ds cnt dr on u T k)) T) k = nI o ∧ on o = -1) := by
  have h9 := fd_196 hW hH
  by_cases h : wk_turn (u k) T
  · obtain ⟨own, ho, hpo⟩ := pos_of hW hH hv hk h.1
    have eb : (sdX (nI (W * H)) nr ds cnt dr on u T) k = bsX (nI (W * H)) nr ds cnt dr on u k := if_pos h
    have em : (msd u (sdX (nI (W * H)) nr ds cnt dr on u T) T) k = (sdX (nI (W * H)) nr ds cnt dr on u T) k := if_pos h
    by_cases h4 : (sdX (nI (W * H)) nr ds cnt dr on u T) k = 4
    · refine Or.inr (Or.inl ⟨h, h4, ?_, ?_, em.trans h4, ?_⟩)
      · show amT nr (u k) ((sdX (nI (W * H)) nr ds cnt dr on u T) k) = -1
        unfold amT
        rw [if_pos h4]
      · unfold mto
        rw [if_pos h, if_pos h4]
        exact h.1
      · exact Decidable.not_not.mp (fun z => (gv_first z).2 (em.trans h4))
    · refine Or.inr (Or.inr ⟨h, h4, em, ?_⟩)
      obtain ⟨s, hs, es⟩ := bsX_val (fl := nI (W * H)) (nr := nr) (ds := ds) (cnt := cnt) (dr := dr) (on := on) (u := u) (k := k)
      have hs4 : s < 4 := by
        rcases Nat.lt_or_eq_of_le hs with z9 | z9
        · exact z9
        · exact absurd (by rw [eb, es, z9]; rfl) h4
      obtain ⟨o, ho2, e1, e2⟩ := bs_free hL hW hH ho hpo hs4 es
      have et : (fun k => amT nr (u k) (sdX (nI (W * H)) nr ds cnt dr on u T k)) k = nI o := by
        show amT nr (u k) ((sdX (nI (W * H)) nr ds cnt dr on u T) k) = nI o
        unfold amT
        rw [if_neg h4, hpo, eb, es]
        exact e1
      refine ⟨o, ho2, et, ?_, e2⟩
      unfold mto
      rw [if_pos h, if_neg h4]
      exact et
  · have h4 : (sdX (nI (W * H)) nr ds cnt dr on u T) k = 4 := if_neg h
    have em : (mto u (sdX (nI (W * H)) nr ds cnt dr on u T) (fun k => amT nr (u k) (sdX (nI (W * H)) nr ds cnt dr on u T k)) T) k = -1 := if_neg h
    refine Or.inl ⟨h, h4, ?_, em, ?_⟩
    · show amT nr (u k) ((sdX (nI (W * H)) nr ds cnt dr on u T) k) = -1
      unfold amT
      rw [if_pos h4]
    · exact Decidable.not_not.mp (fun z => (gv_first z).1 em)
theorem tk_go {W H cnt : Nat} {on : Nat → Int32} {T : Int32} {u : Nat → Nat → Int32} {N : Nat} {sd tg mt ms go : Nat → Int32} (hN : N < 1000000) (hW : W ≤ 14) (hH : H ≤ 14) (hc : cnt ≤ 24) (hwa : waB N cnt u) (h3 : triP (W * H) cnt u on T sd tg mt ms go) (hgo : ∀ k, go k = gv mt ms u k cnt) {k o : Nat} (hk : k < cnt) (ho : o < W * H) (ht9 : tg k = nI o) (hm : mt k = nI o) (hs : ¬ ms k = 4) : ¬ go k = 0 ↔ wnX tg u (nI o) cnt = nI k := by
  have h9 := fd_196 hW hH
  rw [hgo, gv_iff, wnX_iff hc hk ht9]
  have hf : ¬ mt k = -1 ∧ ¬ ms k = 4 := ⟨by rw [hm]; exact nI_m1 (by omega), hs⟩
  have key : ∀ i, i < cnt → ((i = k ∨ ¬ mt i = mt k ∨ ms i = 4 ∨ (u i 5 - u k 5 < 0 ∨ (u i 5 - u k 5 = 0 ∧ k < i))) ↔ (i = k ∨ ¬ tg i = nI o ∨ u i 5 < u k 5 ∨ (u i 5 = u k 5 ∧ k < i))) := fun i hi => by
    obtain ⟨w1, w2⟩ := wa_sub hN hwa hi hk
    rw [w1, w2, hm]
    rcases h3 i hi with ⟨-, -, e3, e4, -⟩ | ⟨-, -, e3, -, e5, -⟩ | ⟨-, e2, e3, o2, -, e4, e5, -⟩
    · have x1 : ¬ mt i = nI o := by rw [e4]; exact fun z => nI_m1 (by omega) z.symm
      have x2 : ¬ tg i = nI o := by rw [e3]; exact fun z => nI_m1 (by omega) z.symm
      exact ⟨fun _ => Or.inr (Or.inl x2), fun _ => Or.inr (Or.inl x1)⟩
    · have x2 : ¬ tg i = nI o := by rw [e3]; exact fun z => nI_m1 (by omega) z.symm
      exact ⟨fun _ => Or.inr (Or.inl x2), fun _ => Or.inr (Or.inr (Or.inl e5))⟩
    · have x1 : ¬ ms i = 4 := by rw [e3]; exact e2
      rw [e4, e5]
      constructor
      · rintro (z | z | z | z)
        · exact Or.inl z
        · exact Or.inr (Or.inl z)
        · exact absurd z x1
        · exact Or.inr (Or.inr z)
      · rintro (z | z | z)
        · exact Or.inl z
        · exact Or.inr (Or.inl z)
        · exact Or.inr (Or.inr (Or.inr z))
  exact ⟨fun h i hi => (key i hi).mp (h.2 i hi), fun h => ⟨hf, fun i hi => (key i hi).mpr (h i hi)⟩⟩
theorem rw_8 {u : Nat → Nat → Int32} {tb sd tg : Nat → Int32} {k : Nat} : rwX u tb sd tg k 8 = tb k ∧ rwX u tb sd tg k 9 = sd k ∧ rwX u tb sd tg k 10 = tg k ∧ ∀ j, j < 8 → rwX u tb sd tg k j = u k j := by
  refine ⟨rfl, rfl, rfl, fun j hj => ?_⟩
  unfold rwX upd
  rw [if_neg (by omega), if_neg (by omega), if_neg (by omega)]
/-- to go, by the class -/
abbrev mvP (fl : Int32) (cm r : Nat → Int32) (k : Nat) : Prop := ¬ r 8 = 0 ∧ goP fl cm r k
theorem tk_mv {W H cnt : Nat} {on : Nat → Int32} {T : Int32} {u : Nat → Nat → Int32} {N : Nat} {sd tg mt ms go : Nat → Int32} (hN : N < 1000000) (hW : W ≤ 14) (hH : H ≤ 14) (hc : cnt ≤ 24) (hwa : waB N cnt u) (h3 : triP (W * H) cnt u on T sd tg mt ms go) (hgo : ∀ k, go k = gv mt ms u k cnt) {k : Nat} (hk : k < cnt) : mvP (nI (W * H)) (cmX tg u cnt) (rwX u (tbX u T) sd tg k) k ↔ ¬ go k = 0 := by
  have h9 := fd_196 hW hH
  obtain ⟨r8, r9, r10, r7⟩ := rw_8 (u := u) (tb := (tbX u T)) (sd := sd) (tg := tg) (k := k)
  unfold mvP goP
  rw [r8, r10]
  rcases h3 k hk with ⟨h, -, e3, -, e5⟩ | ⟨h, -, e3, -, -, e5⟩ | ⟨h, e2, e3, o, ho, e4, e5, -⟩
  · rw [e3]
    exact ⟨fun z => absurd z.2.1.1 (by decide), fun z => absurd e5 z⟩
  · rw [e3]
    exact ⟨fun z => absurd z.2.1.1 (by decide), fun z => absurd e5 z⟩
  · rw [e4, tk_go hN hW hH hc hwa h3 hgo hk ho e4 e5 (by rw [e3]; exact e2), nI_clamp (by omega)]
    constructor
    · intro z; exact z.2.2
    · intro z
      refine ⟨fun z9 => ?_, gr_hasI rfl ho h9, z⟩
      have : ms_b (wk_turn (u k) T) = 0 := z9
      exact ms_b_0.mp this h
theorem up8 {r v : Nat → Int32} {c : Nat} {x y : Int32} (h : ∀ j, j < 8 → r j = v j) (e : x = y) : ∀ j, j < 8 → upd r c x j = upd v c y j := fun j hj => by
  unfold upd
  by_cases z : j = c
  · rw [if_pos z, if_pos z, e]
  · rw [if_neg z, if_neg z, h j hj]
theorem tk_row {W H cnt : Nat} {mk on : Nat → Int32} {T : Int32} {u : Nat → Nat → Int32} {N : Nat} {sd tg mt ms go : Nat → Int32} (hN : N < 1000000) (hW : W ≤ 14) (hH : H ≤ 14) (hc : cnt ≤ 24) (hwa : waB N cnt u) (h3 : triP (W * H) cnt u on T sd tg mt ms go) (hgo : ∀ k, go k = gv mt ms u k cnt) {k : Nat} (hk : k < cnt) : ∀ j, j < 8 → nuX (nI (W * H)) mk cnt u (tbX u T) sd tg T k j = mnu (nI (W * H)) mk mt ms go T u k j := by
  obtain ⟨r8, r9, r10, r7⟩ := rw_8 (u := u) (tb := (tbX u T)) (sd := sd) (tg := tg) (k := k)
  have mv := tk_mv hN hW hH hc hwa h3 hgo hk
  show ∀ j, j < 8 → gwW (nI (W * H)) mk (cmX tg u cnt) T k (rwX u (tbX u T) sd tg k) j = _
  unfold gwW mnu
  by_cases hg : go k = 0
  · have hno : ¬ mvP (nI (W * H)) (cmX tg u cnt) (rwX u (tbX u T) sd tg k) k := fun z => mv.mp z hg
    rw [if_pos hg]
    by_cases h8 : ¬ (rwX u (tbX u T) sd tg k) 8 = 0
    · rw [if_pos h8, if_neg (fun z => hno ⟨h8, z⟩)]
      have htu : wk_turn (u k) T := Decidable.not_not.mp (fun z => h8 (by rw [r8]; exact ms_b_0.mpr z))
      have hm : ¬ mt k = -1 := by
        rcases h3 k hk with ⟨h, -⟩ | ⟨-, -, -, e, -⟩ | ⟨-, -, -, o, ho, -, e, -⟩
        · exact absurd htu h
        · exact e
        · rw [e]; exact nI_m1 (by have := fd_196 hW hH; omega)
      rw [if_neg hm]
      exact up8 r7 (by rw [r7 5 (by omega)])
    · rw [if_neg h8]
      have htu : ¬ wk_turn (u k) T := fun z => h8 (by rw [r8]; exact fun z9 => ms_b_0.mp z9 z)
      have hm : mt k = -1 := by
        rcases h3 k hk with ⟨-, -, -, e, -⟩ | ⟨h, -⟩ | ⟨h, -⟩
        · exact e
        · exact absurd h htu
        · exact absurd h htu
      rw [if_pos hm]
      exact r7
  · obtain ⟨h8, hp⟩ := mv.mpr hg
    rw [if_neg hg, if_pos h8, if_pos hp]
    unfold goW
    rcases h3 k hk with ⟨-, -, -, -, e⟩ | ⟨-, -, -, -, -, e⟩ | ⟨-, -, e3, o, ho, e4, e5, -⟩
    · exact absurd e hg
    · exact absurd e hg
    · have b3 := up8 (c := 6) (x := (rwX u (tbX u T) sd tg k) 6 + 1) (y := u k 6 + 1) (up8 (c := 5) (x := 0) (up8 (c := 4) (x := (rwX u (tbX u T) sd tg k) 9) (y := ms k) r7 (r9.trans e3.symm)) rfl) (by rw [r7 6 (by omega)])
      rw [r10, r7 0 (by omega), e4, e5]
      by_cases hq : sq_mk (nI (W * H)) mk (u k 0) (nI o)
      · rw [if_pos hq, if_pos hq, upd_upd]
        exact up8 (up8 b3 rfl) rfl
      · rw [if_neg hq, if_neg hq]
        exact up8 b3 rfl
theorem tk_ht {W H cnt : Nat} {mk on ht : Nat → Int32} {T : Int32} {u : Nat → Nat → Int32} {N : Nat} {sd tg mt ms go : Nat → Int32} (hN : N < 1000000) (hW : W ≤ 14) (hH : H ≤ 14) (hc : cnt ≤ 24) (hwa : waB N cnt u) (h3 : triP (W * H) cnt u on T sd tg mt ms go) (hgo : ∀ k, go k = gv mt ms u k cnt) : ∀ k, k ≤ cnt → (hoX (nI (W * H)) mk cnt u (tbX u T) sd tg ht on k).1 = mht mt go ht k
  | 0, _ => rfl
  | k + 1, hk => by
    have ih := tk_ht (ht := ht) (mk := mk) hN hW hH hc hwa h3 hgo k (by omega)
    have mv := tk_mv hN hW hH hc hwa h3 hgo (show k < cnt by omega)
    show gwH (nI (W * H)) (cmX tg u cnt) k (rwX u (tbX u T) sd tg k) (hoX _ _ _ _ _ _ _ _ _ k).1 = if go k = 0 then mht mt go ht k else upd (mht mt go ht k) (mt k).toNatClampNeg (mht mt go ht k (mt k).toNatClampNeg + 1)
    rw [ih]
    unfold gwH
    by_cases hg : go k = 0
    · rw [if_pos hg, if_neg (fun z => mv.mp z hg)]
    · rw [if_neg hg, if_pos (mv.mpr hg)]
      unfold goH
      rcases h3 k (show k < cnt by omega) with ⟨-, -, -, -, e⟩ | ⟨-, -, -, -, -, e⟩ | ⟨-, -, -, o, -, e4, e5, -⟩
      · exact absurd e hg
      · exact absurd e hg
      · rw [show rwX u (tbX u T) sd tg k 10 = tg k from rfl, e4, e5]

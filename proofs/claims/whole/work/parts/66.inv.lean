/-! numbers: who is where behind a step -/
theorem onV.congr {n cnt : Nat} {u v : Nat → Nat → Int32} {on : Nat → Int32} (h : onV n cnt u on) (e : ∀ j, j < cnt → v j 3 = u j 3) : onV n cnt v on := fun f hf => by
  rcases h f hf with ⟨h1, h2⟩ | ⟨k, h1, h2, h3, h4⟩
  · exact Or.inl ⟨h1, fun j hj z => h2 j hj ((e j hj).symm.trans z)⟩
  · exact Or.inr ⟨k, h1, h2, (e k h1).trans h3, fun j hj z => h4 j hj ((e j hj).symm.trans z)⟩
theorem onV.move {n cnt k o1 o : Nat} {u v : Nat → Nat → Int32} {on : Nat → Int32} (h : onV n cnt u on) (hn : n ≤ 196) (hk : k < cnt) (e1 : u k 3 = nI o1) (ho1 : o1 < n) (ho : o < n) (hfree : ∀ j, j < cnt → ¬ u j 3 = nI o) (hv : ∀ j, j < cnt → ¬ j = k → v j 3 = u j 3) (ek : v k 3 = nI o) : onV n cnt v (upd (upd on o1 (-1)) o (nI k)) := fun f hf => by
  have e0 : upd (upd on o1 (-1)) o (nI k) f = if f = o then nI k else if f = o1 then -1 else on f := rfl
  rw [e0]
  by_cases h1 : f = o
  · subst h1
    rw [if_pos rfl]
    refine Or.inr ⟨k, hk, rfl, ek, fun j hj z => ?_⟩
    by_cases hjk : j = k
    · exact hjk
    · exact absurd ((hv j hj hjk).symm.trans z) (hfree j hj)
  · rw [if_neg h1]
    by_cases h2 : f = o1
    · subst h2
      rw [if_pos rfl]
      refine Or.inl ⟨rfl, fun j hj z => ?_⟩
      by_cases hjk : j = k
      · rw [hjk, ek] at z
        exact h1 ((nI_eq (by omega) (by omega)).mp z).symm
      · have z2 := (hv j hj hjk).symm.trans z
        rcases h f hf with ⟨-, h3⟩ | ⟨i, -, -, -, h4⟩
        · exact h3 j hj z2
        · exact hjk ((h4 j hj z2).trans (h4 k hk e1).symm)
    · rw [if_neg h2]
      have hkf : ∀ w, w < n → ¬ w = f → ¬ nI w = nI f := fun w hw z9 z => z9 ((nI_eq (by omega) (by omega)).mp z)
      rcases h f hf with ⟨h3, h4⟩ | ⟨i, h3, h4, h5, h6⟩
      · refine Or.inl ⟨h3, fun j hj z => ?_⟩
        by_cases hjk : j = k
        · rw [hjk, ek] at z
          exact hkf o ho (fun z9 => h1 z9.symm) z
        · exact h4 j hj ((hv j hj hjk).symm.trans z)
      · have hik : ¬ i = k := fun z => by rw [z, e1] at h5; exact hkf o1 ho1 (fun z9 => h2 z9.symm) h5
        refine Or.inr ⟨i, h3, h4, (hv i h3 hik).trans h5, fun j hj z => ?_⟩
        by_cases hjk : j = k
        · rw [hjk, ek] at z
          exact absurd z (hkf o ho (fun z9 => h1 z9.symm))
        · exact h6 j hj ((hv j hj hjk).symm.trans z)
theorem onV.leave {n cnt k o1 : Nat} {u v : Nat → Nat → Int32} {on : Nat → Int32} (h : onV n cnt u on) (hn : n ≤ 196) (hk : k < cnt) (e1 : u k 3 = nI o1) (ho1 : o1 < n) (hv : ∀ j, j < cnt → ¬ j = k → v j 3 = u j 3) (ek : v k 3 = -1) : onV n cnt v (upd on o1 (-1)) := fun f hf => by
  have e0 : upd on o1 (-1) f = if f = o1 then -1 else on f := rfl
  rw [e0]
  have hm : ∀ w, w < n → ¬ (-1 : Int32) = nI w := fun w hw z => nI_m1 (by omega) z.symm
  by_cases h2 : f = o1
  · subst h2
    rw [if_pos rfl]
    refine Or.inl ⟨rfl, fun j hj z => ?_⟩
    by_cases hjk : j = k
    · rw [hjk, ek] at z
      exact hm f hf z
    · have z2 := (hv j hj hjk).symm.trans z
      rcases h f hf with ⟨-, h3⟩ | ⟨i, -, -, -, h4⟩
      · exact h3 j hj z2
      · exact hjk ((h4 j hj z2).trans (h4 k hk e1).symm)
  · rw [if_neg h2]
    rcases h f hf with ⟨h3, h4⟩ | ⟨i, h3, h4, h5, h6⟩
    · refine Or.inl ⟨h3, fun j hj z => ?_⟩
      by_cases hjk : j = k
      · rw [hjk, ek] at z
        exact hm f hf z
      · exact h4 j hj ((hv j hj hjk).symm.trans z)
    · have hik : ¬ i = k := fun z => by
        rw [z, e1] at h5
        exact h2 ((nI_eq (by omega) (by omega)).mp h5).symm
      refine Or.inr ⟨i, h3, h4, (hv i h3 hik).trans h5, fun j hj z => ?_⟩
      by_cases hjk : j = k
      · rw [hjk, ek] at z
        exact absurd z (hm f hf)
      · exact h6 j hj ((hv j hj hjk).symm.trans z)
theorem mnu_3 {fl : Int32} {mk to sd go : Nat → Int32} {t : Int32} {u : Nat → Nat → Int32} {j : Nat} : mnu fl mk to sd go t u j 3 = if go j = 0 then u j 3 else if sq_mk fl mk (u j 0) (to j) then -1 else to j := by
  unfold mnu
  by_cases h : go j = 0
  · rw [if_pos h, if_pos h]
    by_cases h2 : to j = -1
    · rw [if_pos h2]
    · rw [if_neg h2]; rfl
  · rw [if_neg h, if_neg h]
    by_cases h2 : sq_mk fl mk (u j 0) (to j)
    · rw [if_pos h2, if_pos h2]; rfl
    · rw [if_neg h2, if_neg h2]; rfl
theorem mnu_lo {fl : Int32} {mk to sd go : Nat → Int32} {t : Int32} {u : Nat → Nat → Int32} {j c : Nat} (hc : c < 3) : mnu fl mk to sd go t u j c = u j c := by
  unfold mnu
  by_cases h : go j = 0
  · rw [if_pos h]
    by_cases h2 : to j = -1
    · rw [if_pos h2]
    · rw [if_neg h2]; exact if_neg (by omega)
  · rw [if_neg h]
    by_cases h2 : sq_mk fl mk (u j 0) (to j)
    · rw [if_pos h2]
      unfold upd
      rw [if_neg (by omega), if_neg (by omega), if_neg (by omega), if_neg (by omega), if_neg (by omega), if_neg (by omega)]
    · rw [if_neg h2]
      unfold upd
      rw [if_neg (by omega), if_neg (by omega), if_neg (by omega), if_neg (by omega)]
theorem mnu_5 {fl : Int32} {mk to sd go : Nat → Int32} {t : Int32} {u : Nat → Nat → Int32} {j : Nat} : mnu fl mk to sd go t u j 5 = if go j = 0 then (if to j = -1 then u j 5 else u j 5 + 1) else 0 := by
  unfold mnu
  by_cases h : go j = 0
  · rw [if_pos h, if_pos h]
    by_cases h2 : to j = -1
    · rw [if_pos h2, if_pos h2]
    · rw [if_neg h2, if_neg h2]; rfl
  · rw [if_neg h, if_neg h]
    by_cases h2 : sq_mk fl mk (u j 0) (to j)
    · rw [if_pos h2]; rfl
    · rw [if_neg h2]; rfl
theorem waB.step {N cnt : Nat} {fl : Int32} {mk to sd go : Nat → Int32} {t : Int32} {u v : Nat → Nat → Int32} (h : waB N cnt u) (e : ∀ k, k < cnt → v k 5 = mnu fl mk to sd go t u k 5) : waB (N + 1) cnt v := fun k hk => by
  obtain ⟨w, hw, e2⟩ := h k hk
  rw [e k hk, mnu_5]
  by_cases h1 : go k = 0
  · rw [if_pos h1]
    by_cases h2 : to k = -1
    · rw [if_pos h2]; exact ⟨w, by omega, e2⟩
    · rw [if_neg h2]; exact ⟨w + 1, by omega, by rw [e2, nI_1]⟩
  · rw [if_neg h1]; exact ⟨0, by omega, rfl⟩
theorem tk_on {W H cnt : Nat} {mk on ht : Nat → Int32} {T : Int32} {u : Nat → Nat → Int32} {N : Nat} {sd tg mt ms go : Nat → Int32} (hN : N < 1000000) (hW : W ≤ 14) (hH : H ≤ 14) (hc : cnt ≤ 24) (hwa : waB N cnt u) (h3 : triP (W * H) cnt u on T sd tg mt ms go) (hgo : ∀ k, go k = gv mt ms u k cnt) (hon : onV (W * H) cnt u on) (hv : hvX (nI (W * H)) cnt u) : ∀ c, c ≤ cnt → onV (W * H) cnt (uw (mnu (nI (W * H)) mk mt ms go T u) u c) (hoX (nI (W * H)) mk cnt u (tbX u T) sd tg ht on c).2
  | 0, _ => by rw [uw_0]; exact hon
  | k + 1, hk => by
    have h9 := fd_196 hW hH
    have hkc : k < cnt := by omega
    have ih := tk_on (ht := ht) (mk := mk) hN hW hH hc hwa h3 hgo hon hv k (by omega)
    have mv := tk_mv hN hW hH hc hwa h3 hgo hkc
    have eo : (hoX (nI (W * H)) mk cnt u (tbX u T) sd tg ht on (k + 1)).2 = gwO (nI (W * H)) mk (cmX tg u cnt) k (rwX u (tbX u T) sd tg k) (hoX (nI (W * H)) mk cnt u (tbX u T) sd tg ht on k).2 := rfl
    rw [eo]
    unfold gwO
    have oth : ∀ j, j < cnt → ¬ j = k → uw (mnu (nI (W * H)) mk mt ms go T u) u (k + 1) j 3 = uw (mnu (nI (W * H)) mk mt ms go T u) u k j 3 := fun j hj hjk => by
      unfold uw
      by_cases h : j < k
      · rw [if_pos h, if_pos (by omega)]
      · rw [if_neg h, if_neg (by omega)]
    have own9 : uw (mnu (nI (W * H)) mk mt ms go T u) u (k + 1) k 3 = mnu (nI (W * H)) mk mt ms go T u k 3 := by
      unfold uw
      rw [if_pos (Nat.lt_succ_self k)]
    have old9 : uw (mnu (nI (W * H)) mk mt ms go T u) u k k 3 = u k 3 := by
      unfold uw
      rw [if_neg (Nat.lt_irrefl k)]
    by_cases hg : go k = 0
    · rw [if_neg (fun z => mv.mp z hg)]
      refine ih.congr (fun j hj => ?_)
      by_cases hjk : j = k
      · rw [hjk, own9, old9, mnu_3, if_pos hg]
      · exact oth j hj hjk
    · rw [if_pos (mv.mpr hg)]
      rcases h3 k hkc with ⟨-, -, -, -, e⟩ | ⟨-, -, -, -, -, e⟩ | ⟨htu, e2, e3, o, ho, e4, e5, e6⟩
      · exact absurd e hg
      · exact absurd e hg
      · obtain ⟨o1, ho1, hpo⟩ := pos_of hW hH hv hkc htu.1
        have r3 : rwX u (tbX u T) sd tg k 3 = u k 3 := rw_8.2.2.2 3 (by omega)
        have r0 : rwX u (tbX u T) sd tg k 0 = u k 0 := rw_8.2.2.2 0 (by omega)
        have r10 : rwX u (tbX u T) sd tg k 10 = tg k := rfl
        unfold goO
        rw [r3, r0, r10, hpo, e4]
        by_cases hq : sq_mk (nI (W * H)) mk (u k 0) (nI o)
        · rw [if_pos hq, nI_clamp (n := o1) (by omega)]
          exact ih.leave h9 hkc (old9.trans hpo) ho1 oth (by rw [own9, mnu_3, if_neg hg, e5, if_pos hq])
        · rw [if_neg hq, nI_clamp (n := o1) (by omega), nI_clamp (n := o) (by omega)]
          refine ih.move h9 hkc (old9.trans hpo) ho1 ho (fun j hj z => ?_) oth (by rw [own9, mnu_3, if_neg hg, e5, if_neg hq])
          have hfo : ∀ i, i < cnt → ¬ u i 3 = nI o := fun i hi z9 => by
            rw [hon.hit ho hi z9] at e6
            exact nI_m1 (by omega) e6
          by_cases hjk : j < k
          · have ej : uw (mnu (nI (W * H)) mk mt ms go T u) u k j 3 = mnu (nI (W * H)) mk mt ms go T u j 3 := by unfold uw; rw [if_pos hjk]
            rw [ej, mnu_3] at z
            by_cases hgj : go j = 0
            · rw [if_pos hgj] at z; exact hfo j hj z
            · rw [if_neg hgj] at z
              by_cases hqj : sq_mk (nI (W * H)) mk (u j 0) (mt j)
              · rw [if_pos hqj] at z; exact nI_m1 (by omega) z.symm
              · rw [if_neg hqj] at z
                rcases h3 j hj with ⟨-, -, -, -, e⟩ | ⟨-, -, -, -, -, e⟩ | ⟨-, f2, f3, o3, ho3, f4, f5, -⟩
                · exact hgj e
                · exact hgj e
                · have e7 := (nI_eq (by omega) (by omega)).mp (f5.symm.trans z)
                  subst e7
                  have g1 := (tk_go hN hW hH hc hwa h3 hgo hj ho f4 f5 (by rw [f3]; exact f2)).mp hgj
                  have g2 := (tk_go hN hW hH hc hwa h3 hgo hkc ho e4 e5 (by rw [e3]; exact e2)).mp hg
                  have := (nI_eq (by omega) (by omega)).mp (g1.symm.trans g2)
                  omega
          · have ej : uw (mnu (nI (W * H)) mk mt ms go T u) u k j 3 = u j 3 := by unfold uw; rw [if_neg hjk]
            exact hfo j hj (ej.symm.trans z)

/-! the model: far -/
/-- below n all is as it was, but where E says -/
def ms_fb (E : Nat → Prop) (n : Nat) (G G1 : ms_H) : Prop := ∀ a, a < n → ¬ E a → G1 a = G a
abbrev noE : Nat → Prop := fun _ => False
theorem ms_fb.rf {E : Nat → Prop} {n : Nat} {G : ms_H} : ms_fb E n G G := fun _ _ _ => rfl
theorem ms_fb.up {E : Nat → Prop} {n b : Nat} {G G1 : ms_H} {y : ms_E} (h : ms_fb E n G G1) (hb : n ≤ b ∨ E b) : ms_fb E n G (ms_up G1 b y) := fun a h1 h2 => (ms_up_n _ _ (by rintro rfl; rcases hb with h3 | h3; omega; exact h2 h3)).trans (h a h1 h2)
theorem ms_fb.trans {E : Nat → Prop} {n n2 : Nat} {G G1 G2 : ms_H} (h : ms_fb E n G G1) (h2 : ms_fb noE n2 G1 G2) (hn : n ≤ n2) : ms_fb E n G G2 := fun a h3 h4 => (h2 a (by omega) (fun z => z)).trans (h a h3 h4)
theorem ms_fb.trans2 {E : Nat → Prop} {n n2 : Nat} {G G1 G2 : ms_H} (h : ms_fb E n G G1) (h2 : ms_fb E n2 G1 G2) (hn : n ≤ n2) : ms_fb E n G G2 := fun a h3 h4 => (h2 a (by omega) h4).trans (h a h3 h4)
theorem ms_fb.at {n : Nat} {G G1 : ms_H} (h : ms_fb noE n G G1) (a : Nat) (ha : a < n) : G1 a = G a := h a ha (fun z => z)
def md_lt (n m aw am ai ah : Nat) : Prop := m < n ∧ aw < n ∧ am < n ∧ ai < n ∧ ah < n
theorem md_at.fb {n m aw am ai ah W H cnt : Nat} {G G1 : ms_H} {th cl dr pa : Int32} {wl mm ht : Nat → Int32} {u : Nat → Nat → Int32} (hM : md_at G m aw am ai ah W H th cl dr pa cnt wl mm ht u) (hF : ms_fb noE n G G1) (hl : md_lt n m aw am ai ah) : md_at G1 m aw am ai ah W H th cl dr pa cnt wl mm ht u := by
  obtain ⟨h1, h2, h3, ⟨it, h4, h6⟩, h5⟩ := hM
  obtain ⟨l1, l2, l3, l4, l5⟩ := hl
  exact ⟨(hF.at m l1).trans h1, (hF.at aw l2).trans h2, (hF.at am l3).trans h3, ⟨it, (hF.at ai l4).trans h4, h6⟩, (hF.at ah l5).trans h5⟩
theorem nbX_val {W H f s : Nat} {nr : Nat → Int32} (hL : lk_ok W H (W * H) nr) (hf : f < W * H) (hW : W ≤ 14) (hH : H ≤ 14) (hs : s < 8) : nbX nr f s = -1 ∨ ∃ o, o < W * H ∧ nbX nr f s = nI o := by
  rw [nbX_lk hL hf (fd_196 hW hH) hs]
  unfold lk_v
  by_cases h : gr_num (nI W) (nI H) (nI (f % W) + ms_sx s) (nI (f / W) + ms_sy s) = -1
  · exact Or.inl h
  · obtain ⟨x, y, h1, h2, -, -, h3⟩ := gr_num_has hW hH h
    exact Or.inr ⟨y * W + x, fd_lt h1 h2, h3⟩
def mmR (n : Nat) (mk mm : Nat → Int32) : Prop := ∀ g, g < 4 → ∀ f, f < n → mm (g * n + f) = ms_b (¬ mk f &&& (1 <<< (nI g &&& 31)) = 0)
theorem bf1_m {nb : Nat → Nat → Int32} {fr : Nat → Bool} {f s : Nat} {S : bf_S} (h : nb f s = -1) : bf1 nb fr f s S = S := if_neg (fun z => by rw [h] at z; exact absurd z.1 (by decide))
theorem bf1_w {nb : Nat → Nat → Int32} {fr : Nat → Bool} {f s o : Nat} {S : bf_S} (h : nb f s = nI o) (ho : o < 196) (hw : fr o = false) : bf1 nb fr f s S = S := if_neg (fun z => by rw [h, nI_clamp (by omega)] at z; rw [hw] at z; exact absurd z.2.1 (by decide))
theorem bf1_d {nb : Nat → Nat → Int32} {fr : Nat → Bool} {f s o : Nat} {S : bf_S} (h : nb f s = nI o) (ho : o < 196) (hd : ¬ S.1 o = -1) : bf1 nb fr f s S = S := if_neg (fun z => by rw [h, nI_clamp (by omega)] at z; exact hd z.2.2)
theorem bf1_y {nb : Nat → Nat → Int32} {fr : Nat → Bool} {f s o : Nat} {S : bf_S} (h : nb f s = nI o) (ho : o < 196) (hw : fr o = true) (hd : S.1 o = -1) : bf1 nb fr f s S = (upd S.1 o (S.1 f + 1), S.2 ++ [o]) := by
  unfold bf1
  rw [h, nI_clamp (by omega), if_pos ⟨nI_pos' (by omega), hw, hd⟩]
theorem bf1_pre {nb : Nat → Nat → Int32} {fr : Nat → Bool} {f s k v : Nat} {S : bf_S} (h : S.2[k]? = some v) : (bf1 nb fr f s S).2[k]? = some v := by
  unfold bf1
  split
  · rw [List.getElem?_append_left (by exact (List.getElem?_eq_some_iff.mp h).1)]; exact h
  · exact h
theorem bfS_pre {nb : Nat → Nat → Int32} {fr : Nat → Bool} {f k v : Nat} {S : bf_S} (h : S.2[k]? = some v) : ∀ s, (bfS nb fr f S s).2[k]? = some v
  | 0 => h
  | s + 1 => bf1_pre (bfS_pre h s)
set_option maxHeartbeats 4000000 in
set_option maxRecDepth 20000 in
theorem l3_X6_far {n m aw am ai ah W H cnt : Nat} {G : ms_H} {th cl dr pa : Int32} {wl mm ht : Nat → Int32} {u : Nat → Nat → Int32} (hM : md_at G m aw am ai ah W H th cl dr pa cnt wl mm ht u) (hW : W ≤ 14) (hH : H ≤ 14) (hc : cnt ≤ 24) (hl : md_lt n m aw am ai ah) (hW0 : 0 < W) {nr mk : Nat → Int32} (hL : lk_ok W H (W * H) nr) (hmm : mmR (W * H) mk mm) {gi : Nat} (hg : gi < 4) {P : ms_P} {k f : Nat} {S : bf_S} (hJ : bfJ (W * H) S) (hfk : S.2[k]? = some f) : ∀ (r s : Nat), s + r = 4 → ∀ (K : ms_H) (qu : Nat → Int32), ms_fb noE n G K → K n = some (.inl (0, W * H, .inl (bfS (nbX nr) (frX (W * H) wl) f S s).1)) → K (n + 1) = some (.inl (0, W * H, .inl qu)) → bf_q (bfS (nbX nr) (frX (W * H) wl) f S s).2 qu → (∀ (K : ms_H) (qu : Nat → Int32), ms_fb noE n G K → K n = some (.inl (0, W * H, .inl (bfS (nbX nr) (frX (W * H) wl) f S 4).1)) → K (n + 1) = some (.inl (0, W * H, .inl qu)) → bf_q (bfS (nbX nr) (frX (W * H) wl) f S 4).2 qu → ms_W false m_X6_far P 175 [(0, .ref m), (1, .int (nI gi)), (2, .int (nI (W * H))), (3, .ref n), (4, .ref (n + 1)), (5, .int (nI (bfS (nbX nr) (frX (W * H) wl) f S 4).2.length)), (6, .int (nI k))] [] (n + 2) K 0 0) →  ms_W false m_X6_far (P) 100 [(0, .ref m), (1, .int (nI gi)), (2, .int (nI (W * H))), (3, .ref n), (4, .ref (n + 1)), (5, .int (nI (bfS (nbX nr) (frX (W * H) wl) f S s).2.length)), (6, .int (nI k)), (7, .int (nI s))] [] (n + 2) K 0 0 := by
  obtain ⟨hm, hw_, hk_, ⟨it, hi_, hit⟩, hh_⟩ := hM
  obtain ⟨l1, l2, l3, l4, l5⟩ := hl
  have h196 := fd_196 hW hH
  have hfm : f ∈ S.2 := List.mem_of_getElem? hfk
  have hff := (hJ.2.1 f hfm).1
  have hfd := (hJ.2.1 f hfm).2
  have hkl : k < W * H := Nat.lt_of_lt_of_le (List.getElem?_eq_some_iff.mp hfk).1 hJ.len
  intro r
  induction r with
  | zero =>
    intro s hk K qu hF hfa hro hU kk
    have hkN : s = 4 := by omega
    refine ms_run (pc' := 103) (lv' := [(0, .ref m), (1, .int (nI gi)), (2, .int (nI (W * H))), (3, .ref n), (4, .ref (n + 1)), (5, .int (nI (bfS (nbX nr) (frX (W * H) wl) f S s).2.length)), (6, .int (nI k)), (7, .int (nI s))]) (st' := [.int 4, .int (nI s)]) _ (ms_deC dX6_far_100 (ms_deC dX6_far_102 ms_deN)) rfl rfl ?_
    refine ms_icmp_ge (tgt := 175) dX6_far_103 (by decide) (fun h_103 => ?_) (fun h_103 => ?_)
    · skip
      rw [hkN] at hfa hU ⊢
      refine ms_W.sub (lv2 := [(0, _), (1, _), (2, _), (3, _), (4, _), (5, _), (6, _)]) ?_ [0, 1, 2, 3, 4, 5, 6] rfl
      exact kk K qu hF hfa hro hU
    · skip
      exact absurd (by show nI 4 ≤ nI s; exact nI_le (b := s) (by omega) (by omega)) h_103
  | succ r ih =>
    intro s hk K qu hF hfa hro hU kk
    have hlt : s < 4 := by omega
    refine ms_run (pc' := 103) (lv' := [(0, .ref m), (1, .int (nI gi)), (2, .int (nI (W * H))), (3, .ref n), (4, .ref (n + 1)), (5, .int (nI (bfS (nbX nr) (frX (W * H) wl) f S s).2.length)), (6, .int (nI k)), (7, .int (nI s))]) (st' := [.int 4, .int (nI s)]) _ (ms_deC dX6_far_100 (ms_deC dX6_far_102 ms_deN)) rfl rfl ?_
    refine ms_icmp_ge (tgt := 175) dX6_far_103 (by decide) (fun h_103 => ?_) (fun h_103 => ?_)
    · skip
      exact absurd h_103 (by show ¬ nI 4 ≤ nI s; exact nI_ge (b := 4) (by omega) (by omega))
    · skip
      refine ms_run (pc' := 111) (lv' := [(0, .ref m), (1, .int (nI gi)), (2, .int (nI (W * H))), (3, .ref n), (4, .ref (n + 1)), (5, .int (nI (bfS (nbX nr) (frX (W * H) wl) f S s).2.length)), (6, .int (nI k)), (7, .int (nI s))]) (st' := [.int (nI k), .ref (n + 1), .ref m]) _ (ms_deC dX6_far_106 (ms_deC dX6_far_107 (ms_deC dX6_far_109 ms_deN))) rfl rfl ?_
      refine ms_iaload dX6_far_111 hro (vp_in_nI (by omega) (by omega)) ?_
      rw [nI_clamp (n := k) (by omega), hU k f (bfS_pre hfk s)]
      refine ms_run (pc' := 114) (lv' := [(0, .ref m), (1, .int (nI gi)), (2, .int (nI (W * H))), (3, .ref n), (4, .ref (n + 1)), (5, .int (nI (bfS (nbX nr) (frX (W * H) wl) f S s).2.length)), (6, .int (nI k)), (7, .int (nI s))]) (st' := [.int (nI s), .int (nI f), .ref m]) _ (ms_deC dX6_far_112 ms_deN) rfl rfl ?_
      refine ms_callVp (As := [.int (nI f), .int (nI s)]) dX6_far_114 (c_X6_beside (md_at.fb ⟨hm, hw_, hk_, ⟨it, hi_, hit⟩, hh_⟩ hF ⟨l1, l2, l3, l4, l5⟩) hW hH hc hW0 hL hff (s := s) (by omega)) cv_X6_70 ((hF.at m l1).trans hm) rfl ⟨Nat.le_of_ble_eq_true rfl, Nat.le_of_ble_eq_true rfl⟩ rfl (Nat.le_of_ble_eq_true rfl) ?_
      refine ms_run (pc' := 122) (lv' := [(8, .int (nbX nr f s)), (0, .ref m), (1, .int (nI gi)), (2, .int (nI (W * H))), (3, .ref n), (4, .ref (n + 1)), (5, .int (nI (bfS (nbX nr) (frX (W * H) wl) f S s).2.length)), (6, .int (nI k)), (7, .int (nI s))]) (st' := [.int (-1), .int (nbX nr f s)]) _ (ms_deC dX6_far_117 (ms_deC dX6_far_119 (ms_deC dX6_far_121 ms_deN))) rfl rfl ?_
      refine ms_icmp_eq (tgt := 169) dX6_far_122 (by decide) (fun h_122 => ?_) (fun h_122 => ?_)
      · skip
        have e9 := bf1_m (nb := (nbX nr)) (fr := (frX (W * H) wl)) (S := bfS (nbX nr) (frX (W * H) wl) f S s) h_122
        refine ms_run (pc' := 172) (lv' := [(7, .int ((nI s) + 1)), (8, .int (nbX nr f s)), (0, .ref m), (1, .int (nI gi)), (2, .int (nI (W * H))), (3, .ref n), (4, .ref (n + 1)), (5, .int (nI (bfS (nbX nr) (frX (W * H) wl) f S s).2.length)), (6, .int (nI k))]) (st' := []) _ (ms_deC dX6_far_169 ms_deN) rfl rfl ?_
        refine ms_goto (tgt := 100) dX6_far_172 (by decide) ?_
        have e11 : bfS (nbX nr) (frX (W * H) wl) f S (s + 1) = bf1 (nbX nr) (frX (W * H) wl) f s (bfS (nbX nr) (frX (W * H) wl) f S s) := rfl
        have h7 := ih (s + 1) (by omega) K qu hF (by rw [e11, e9]; exact hfa) hro (by rw [e11, e9]; exact hU) kk
        have e10 : (bfS (nbX nr) (frX (W * H) wl) f S (s + 1)).2.length = (bfS (nbX nr) (frX (W * H) wl) f S s).2.length := by rw [e11, e9]
        rw [e10] at h7
        rw [nI_1 s]
        refine ms_W.sub (lv2 := [(0, _), (1, _), (2, _), (3, _), (4, _), (5, _), (6, _), (7, _)]) ?_ [2, 3, 4, 5, 6, 7, 8, 0] rfl
        exact h7
      · skip
        obtain ⟨o, ho, hoe⟩ := (nbX_val hL hff hW hH (s := s) (by omega)).resolve_left h_122
        rw [hoe]
        refine ms_run (pc' := 126) (lv' := [(8, .int (nI o)), (0, .ref m), (1, .int (nI gi)), (2, .int (nI (W * H))), (3, .ref n), (4, .ref (n + 1)), (5, .int (nI (bfS (nbX nr) (frX (W * H) wl) f S s).2.length)), (6, .int (nI k)), (7, .int (nI s))]) (st' := [.ref m]) _ (ms_deC dX6_far_125 ms_deN) rfl rfl ?_
        refine ms_getf dX6_far_126 fg_X6_29 ((hF.at m l1).trans hm) rfl ?_
        refine ms_run (pc' := 131) (lv' := [(8, .int (nI o)), (0, .ref m), (1, .int (nI gi)), (2, .int (nI (W * H))), (3, .ref n), (4, .ref (n + 1)), (5, .int (nI (bfS (nbX nr) (frX (W * H) wl) f S s).2.length)), (6, .int (nI k)), (7, .int (nI s))]) (st' := [.int (nI o), .ref aw]) _ (ms_deC dX6_far_129 ms_deN) rfl rfl ?_
        refine ms_zaload dX6_far_131 ((hF.at aw l2).trans hw_) (vp_in_nI (by omega) (by omega)) ?_
        rw [nI_clamp (n := o) (by omega)]
        refine ms_if_ne (tgt := 169) dX6_far_132 (by decide) (fun h_132 => ?_) (fun h_132 => ?_)
        · skip
          have e9 := bf1_w (nb := (nbX nr)) (fr := (frX (W * H) wl)) (S := bfS (nbX nr) (frX (W * H) wl) f S s) hoe (by omega) (decide_eq_false (fun z9 => h_132 z9.2))
          refine ms_run (pc' := 172) (lv' := [(7, .int ((nI s) + 1)), (8, .int (nI o)), (0, .ref m), (1, .int (nI gi)), (2, .int (nI (W * H))), (3, .ref n), (4, .ref (n + 1)), (5, .int (nI (bfS (nbX nr) (frX (W * H) wl) f S s).2.length)), (6, .int (nI k))]) (st' := []) _ (ms_deC dX6_far_169 ms_deN) rfl rfl ?_
          refine ms_goto (tgt := 100) dX6_far_172 (by decide) ?_
          have e11 : bfS (nbX nr) (frX (W * H) wl) f S (s + 1) = bf1 (nbX nr) (frX (W * H) wl) f s (bfS (nbX nr) (frX (W * H) wl) f S s) := rfl
          have h7 := ih (s + 1) (by omega) K qu hF (by rw [e11, e9]; exact hfa) hro (by rw [e11, e9]; exact hU) kk
          have e10 : (bfS (nbX nr) (frX (W * H) wl) f S (s + 1)).2.length = (bfS (nbX nr) (frX (W * H) wl) f S s).2.length := by rw [e11, e9]
          rw [e10] at h7
          rw [nI_1 s]
          refine ms_W.sub (lv2 := [(0, _), (1, _), (2, _), (3, _), (4, _), (5, _), (6, _), (7, _)]) ?_ [2, 3, 4, 5, 6, 7, 8, 0] rfl
          exact h7
        · skip
          refine ms_run (pc' := 138) (lv' := [(8, .int (nI o)), (0, .ref m), (1, .int (nI gi)), (2, .int (nI (W * H))), (3, .ref n), (4, .ref (n + 1)), (5, .int (nI (bfS (nbX nr) (frX (W * H) wl) f S s).2.length)), (6, .int (nI k)), (7, .int (nI s))]) (st' := [.int (nI o), .ref n]) _ (ms_deC dX6_far_135 (ms_deC dX6_far_136 ms_deN)) rfl rfl ?_
          refine ms_iaload dX6_far_138 hfa (vp_in_nI (by omega) (by omega)) ?_
          rw [nI_clamp (n := o) (by omega)]
          refine ms_run (pc' := 140) (lv' := [(8, .int (nI o)), (0, .ref m), (1, .int (nI gi)), (2, .int (nI (W * H))), (3, .ref n), (4, .ref (n + 1)), (5, .int (nI (bfS (nbX nr) (frX (W * H) wl) f S s).2.length)), (6, .int (nI k)), (7, .int (nI s))]) (st' := [.int (-1), .int ((bfS (nbX nr) (frX (W * H) wl) f S s).1 o)]) _ (ms_deC dX6_far_139 ms_deN) rfl rfl ?_
          refine ms_icmp_eq (tgt := 146) dX6_far_140 (by decide) (fun h_140 => ?_) (fun h_140 => ?_)
          · skip
            have e9 := bf1_y (nb := (nbX nr)) (fr := (frX (W * H) wl)) (S := bfS (nbX nr) (frX (W * H) wl) f S s) hoe (by omega) (decide_eq_true ⟨ho, by first | exact h_132 | exact Decidable.not_not.mp h_132⟩) h_140
            have hro9 : (bfS (nbX nr) (frX (W * H) wl) f S s).2.length < W * H := (bfS_J hJ h196 frX_lt hfd s).1.room ho h_140
            refine ms_run (pc' := 154) (lv' := [(8, .int (nI o)), (0, .ref m), (1, .int (nI gi)), (2, .int (nI (W * H))), (3, .ref n), (4, .ref (n + 1)), (5, .int (nI (bfS (nbX nr) (frX (W * H) wl) f S s).2.length)), (6, .int (nI k)), (7, .int (nI s))]) (st' := [.int (nI k), .ref (n + 1), .ref n, .int (nI o), .ref n]) _ (ms_deC dX6_far_146 (ms_deC dX6_far_147 (ms_deC dX6_far_149 (ms_deC dX6_far_150 (ms_deC dX6_far_152 ms_deN))))) rfl rfl ?_
            refine ms_iaload dX6_far_154 hro (vp_in_nI (by omega) (by omega)) ?_
            rw [nI_clamp (n := k) (by omega), hU k f (bfS_pre hfk s)]
            refine ms_iaload dX6_far_155 hfa (vp_in_nI (by omega) (by omega)) ?_
            rw [nI_clamp (n := f) (by omega)]
            refine ms_run (pc' := 158) (lv' := [(8, .int (nI o)), (0, .ref m), (1, .int (nI gi)), (2, .int (nI (W * H))), (3, .ref n), (4, .ref (n + 1)), (5, .int (nI (bfS (nbX nr) (frX (W * H) wl) f S s).2.length)), (6, .int (nI k)), (7, .int (nI s))]) (st' := [.int (((bfS (nbX nr) (frX (W * H) wl) f S s).1 f) + 1), .int (nI o), .ref n]) _ (ms_deC dX6_far_156 (ms_deC dX6_far_157 ms_deN)) rfl rfl ?_
            refine ms_iastore dX6_far_158 hfa (vp_in_nI (by omega) (by omega)) ?_
            rw [nI_clamp (n := o) (by omega)]
            obtain ⟨G_1, eG_1⟩ : ∃ K9 : ms_H, K9 = ms_up K n (.inl (0, (W * H), .inl (upd (bfS (nbX nr) (frX (W * H) wl) f S s).1 o ((bfS (nbX nr) (frX (W * H) wl) f S s).1 f + 1)))) := ⟨_, rfl⟩
            refine ms_W.heq eG_1 ?_
            have hF_2 : ms_fb noE n G G_1 := by rw [eG_1]; exact ms_fb.up hF (by first | exact Or.inl (by omega) | exact Or.inr rfl | exact Or.inr (Or.inl rfl) | exact Or.inr (Or.inr (Or.inl rfl)) | exact Or.inr (Or.inr (Or.inr rfl)) | exact Or.inr (Or.inr rfl))
            have hf_3 := (congrFun eG_1 m).trans ((ms_up_n K _ (by omega)).trans ((hF.at m l1).trans hm))
            have hf_4 := (congrFun eG_1 aw).trans ((ms_up_n K _ (by omega)).trans ((hF.at aw l2).trans hw_))
            have hf_5 := (congrFun eG_1 am).trans ((ms_up_n K _ (by omega)).trans ((hF.at am l3).trans hk_))
            have hf_6 := (congrFun eG_1 ai).trans ((ms_up_n K _ (by omega)).trans ((hF.at ai l4).trans hi_))
            have hf_7 := (congrFun eG_1 ah).trans ((ms_up_n K _ (by omega)).trans ((hF.at ah l5).trans hh_))
            have hf_8 : G_1 n = some (.inl (0, (W * H), .inl (upd (bfS (nbX nr) (frX (W * H) wl) f S s).1 o ((bfS (nbX nr) (frX (W * H) wl) f S s).1 f + 1)))) := by rw [eG_1]; exact ms_up_s _ _ _
            have hf_9 := (congrFun eG_1 (n + 1)).trans ((ms_up_n K _ (by omega)).trans hro)
            refine ms_run (pc' := 168) (lv' := [(5, .int ((nI (bfS (nbX nr) (frX (W * H) wl) f S s).2.length) + 1)), (8, .int (nI o)), (0, .ref m), (1, .int (nI gi)), (2, .int (nI (W * H))), (3, .ref n), (4, .ref (n + 1)), (6, .int (nI k)), (7, .int (nI s))]) (st' := [.int (nI o), .int (nI (bfS (nbX nr) (frX (W * H) wl) f S s).2.length), .ref (n + 1)]) _ (ms_deC dX6_far_159 (ms_deC dX6_far_161 (ms_deC dX6_far_163 (ms_deC dX6_far_166 ms_deN)))) rfl rfl ?_
            refine ms_iastore dX6_far_168 hf_9 (vp_in_nI hro9 (by omega)) ?_
            rw [nI_clamp (n := (bfS (nbX nr) (frX (W * H) wl) f S s).2.length) (by omega)]
            obtain ⟨G_10, eG_10⟩ : ∃ K9 : ms_H, K9 = ms_up G_1 (n + 1) (.inl (0, (W * H), .inl (upd qu (bfS (nbX nr) (frX (W * H) wl) f S s).2.length (nI o)))) := ⟨_, rfl⟩
            refine ms_W.heq eG_10 ?_
            have hF_11 : ms_fb noE n G G_10 := by rw [eG_10]; exact ms_fb.up hF_2 (by first | exact Or.inl (by omega) | exact Or.inr rfl | exact Or.inr (Or.inl rfl) | exact Or.inr (Or.inr (Or.inl rfl)) | exact Or.inr (Or.inr (Or.inr rfl)) | exact Or.inr (Or.inr rfl))
            have hf_12 := (congrFun eG_10 m).trans ((ms_up_n G_1 _ (by omega)).trans hf_3)
            have hf_13 := (congrFun eG_10 aw).trans ((ms_up_n G_1 _ (by omega)).trans hf_4)
            have hf_14 := (congrFun eG_10 am).trans ((ms_up_n G_1 _ (by omega)).trans hf_5)
            have hf_15 := (congrFun eG_10 ai).trans ((ms_up_n G_1 _ (by omega)).trans hf_6)
            have hf_16 := (congrFun eG_10 ah).trans ((ms_up_n G_1 _ (by omega)).trans hf_7)
            have hf_17 := (congrFun eG_10 n).trans ((ms_up_n G_1 _ (by omega)).trans hf_8)
            have hf_18 : G_10 (n + 1) = some (.inl (0, (W * H), .inl (upd qu (bfS (nbX nr) (frX (W * H) wl) f S s).2.length (nI o)))) := by rw [eG_10]; exact ms_up_s _ _ _
            refine ms_run (pc' := 172) (lv' := [(7, .int ((nI s) + 1)), (5, .int ((nI (bfS (nbX nr) (frX (W * H) wl) f S s).2.length) + 1)), (8, .int (nI o)), (0, .ref m), (1, .int (nI gi)), (2, .int (nI (W * H))), (3, .ref n), (4, .ref (n + 1)), (6, .int (nI k))]) (st' := []) _ (ms_deC dX6_far_169 ms_deN) rfl rfl ?_
            refine ms_goto (tgt := 100) dX6_far_172 (by decide) ?_
            have e11 : bfS (nbX nr) (frX (W * H) wl) f S (s + 1) = bf1 (nbX nr) (frX (W * H) wl) f s (bfS (nbX nr) (frX (W * H) wl) f S s) := rfl
            have h7 := ih (s + 1) (by omega) G_10 (upd qu (bfS (nbX nr) (frX (W * H) wl) f S s).2.length (nI o)) hF_11 (by rw [e11, e9]; exact hf_17) hf_18 (by rw [e11, e9]; exact hU.add) kk
            have e10 : (bfS (nbX nr) (frX (W * H) wl) f S (s + 1)).2.length = (bfS (nbX nr) (frX (W * H) wl) f S s).2.length + 1 := by rw [e11, e9]; exact List.length_append
            rw [e10] at h7
            rw [nI_1 s, nI_1]
            refine ms_W.sub (lv2 := [(0, _), (1, _), (2, _), (3, _), (4, _), (5, _), (6, _), (7, _)]) ?_ [3, 4, 5, 6, 7, 1, 8, 0] rfl
            exact h7
          · skip
            have e9 := bf1_d (nb := (nbX nr)) (fr := (frX (W * H) wl)) (S := bfS (nbX nr) (frX (W * H) wl) f S s) hoe (by omega) h_140
            refine ms_goto (tgt := 169) dX6_far_143 (by decide) ?_
            refine ms_run (pc' := 172) (lv' := [(7, .int ((nI s) + 1)), (8, .int (nI o)), (0, .ref m), (1, .int (nI gi)), (2, .int (nI (W * H))), (3, .ref n), (4, .ref (n + 1)), (5, .int (nI (bfS (nbX nr) (frX (W * H) wl) f S s).2.length)), (6, .int (nI k))]) (st' := []) _ (ms_deC dX6_far_169 ms_deN) rfl rfl ?_
            refine ms_goto (tgt := 100) dX6_far_172 (by decide) ?_
            have e11 : bfS (nbX nr) (frX (W * H) wl) f S (s + 1) = bf1 (nbX nr) (frX (W * H) wl) f s (bfS (nbX nr) (frX (W * H) wl) f S s) := rfl
            have h7 := ih (s + 1) (by omega) K qu hF (by rw [e11, e9]; exact hfa) hro (by rw [e11, e9]; exact hU) kk
            have e10 : (bfS (nbX nr) (frX (W * H) wl) f S (s + 1)).2.length = (bfS (nbX nr) (frX (W * H) wl) f S s).2.length := by rw [e11, e9]
            rw [e10] at h7
            rw [nI_1 s]
            refine ms_W.sub (lv2 := [(0, _), (1, _), (2, _), (3, _), (4, _), (5, _), (6, _), (7, _)]) ?_ [2, 3, 4, 5, 6, 7, 8, 0] rfl
            exact h7
set_option maxHeartbeats 4000000 in
set_option maxRecDepth 20000 in
theorem l2_X6_far {n m aw am ai ah W H cnt : Nat} {G : ms_H} {th cl dr pa : Int32} {wl mm ht : Nat → Int32} {u : Nat → Nat → Int32} (hM : md_at G m aw am ai ah W H th cl dr pa cnt wl mm ht u) (hW : W ≤ 14) (hH : H ≤ 14) (hc : cnt ≤ 24) (hl : md_lt n m aw am ai ah) (hW0 : 0 < W) {nr mk : Nat → Int32} (hL : lk_ok W H (W * H) nr) (hmm : mmR (W * H) mk mm) {gi : Nat} (hg : gi < 4) : ∀ (r k : Nat), k + r = W * H → ∀ (K : ms_H) (qu : Nat → Int32) (S : bf_S), bfJ (W * H) S → ms_fb noE n G K → K n = some (.inl (0, W * H, .inl S.1)) → K (n + 1) = some (.inl (0, W * H, .inl qu)) → bf_q S.2 qu →  ms_W false m_X6_far (fun r9 n1 G1 => r9 = .inl (some (.ref n)) ∧ n1 = n + 2 ∧ ms_fb noE n G G1 ∧ G1 n = some (.inl (0, W * H, .inl (bfM (nbX nr) (frX (W * H) wl) r k S).1))) 90 [(0, .ref m), (1, .int (nI gi)), (2, .int (nI (W * H))), (3, .ref n), (4, .ref (n + 1)), (5, .int (nI S.2.length)), (6, .int (nI k))] [] (n + 2) K 0 0 := by
  obtain ⟨hm, hw_, hk_, ⟨it, hi_, hit⟩, hh_⟩ := hM
  obtain ⟨l1, l2, l3, l4, l5⟩ := hl
  have h196 := fd_196 hW hH
  intro r
  induction r with
  | zero =>
    intro k hk K qu S hJ hF hfa hro hU
    have hkN : k = W * H := by omega
    refine ms_run (pc' := 94) (lv' := [(0, .ref m), (1, .int (nI gi)), (2, .int (nI (W * H))), (3, .ref n), (4, .ref (n + 1)), (5, .int (nI S.2.length)), (6, .int (nI k))]) (st' := [.int (nI S.2.length), .int (nI k)]) _ (ms_deC dX6_far_90 (ms_deC dX6_far_92 ms_deN)) rfl rfl ?_
    refine ms_icmp_ge (tgt := 181) dX6_far_94 (by decide) (fun h_94 => ?_) (fun h_94 => ?_)
    · skip
      refine ms_run (pc' := 182) (lv' := [(0, .ref m), (1, .int (nI gi)), (2, .int (nI (W * H))), (3, .ref n), (4, .ref (n + 1)), (5, .int (nI S.2.length)), (6, .int (nI k))]) (st' := [.ref n]) _ (ms_deC dX6_far_181 ms_deN) rfl rfl ?_
      refine ms_reta (st := []) (v := .ref n) dX6_far_182 rfl (Or.inr ⟨_, rfl⟩) (Or.inr ⟨_, rfl⟩) ?_
      exact ⟨rfl, rfl, hF, hfa⟩
    · skip
      exact absurd (nI_le (by have := hJ.len; omega) (by omega)) h_94
  | succ r ih =>
    intro k hk K qu S hJ hF hfa hro hU
    have hlt : k < W * H := by omega
    refine ms_run (pc' := 94) (lv' := [(0, .ref m), (1, .int (nI gi)), (2, .int (nI (W * H))), (3, .ref n), (4, .ref (n + 1)), (5, .int (nI S.2.length)), (6, .int (nI k))]) (st' := [.int (nI S.2.length), .int (nI k)]) _ (ms_deC dX6_far_90 (ms_deC dX6_far_92 ms_deN)) rfl rfl ?_
    refine ms_icmp_ge (tgt := 181) dX6_far_94 (by decide) (fun h_94 => ?_) (fun h_94 => ?_)
    · skip
      have e7 : bfM (nbX nr) (frX (W * H) wl) (r + 1) k S = S := bfM_n (List.getElem?_eq_none (Nat.not_lt.mp (fun z => (nI_ge z (by have := hJ.len; omega)) h_94)))
      refine ms_run (pc' := 182) (lv' := [(0, .ref m), (1, .int (nI gi)), (2, .int (nI (W * H))), (3, .ref n), (4, .ref (n + 1)), (5, .int (nI S.2.length)), (6, .int (nI k))]) (st' := [.ref n]) _ (ms_deC dX6_far_181 ms_deN) rfl rfl ?_
      refine ms_reta (st := []) (v := .ref n) dX6_far_182 rfl (Or.inr ⟨_, rfl⟩) (Or.inr ⟨_, rfl⟩) ?_
      exact ⟨rfl, rfl, hF, by rw [e7]; exact hfa⟩
    · skip
      have hlk : k < S.2.length := Nat.not_le.mp (fun z => h_94 (nI_le z (by omega)))
      obtain ⟨f, hfk⟩ : ∃ f, S.2[k]? = some f := ⟨_, List.getElem?_eq_getElem hlk⟩
      have hfd := (hJ.2.1 f (List.mem_of_getElem? hfk)).2
      refine ms_run (pc' := 100) (lv' := [(7, .int 0), (0, .ref m), (1, .int (nI gi)), (2, .int (nI (W * H))), (3, .ref n), (4, .ref (n + 1)), (5, .int (nI S.2.length)), (6, .int (nI k))]) (st' := []) _ (ms_deC dX6_far_97 (ms_deC dX6_far_98 ms_deN)) rfl rfl ?_
      have e7 : bfM (nbX nr) (frX (W * H) wl) (r + 1) k S = bfM (nbX nr) (frX (W * H) wl) r (k + 1) (bfS (nbX nr) (frX (W * H) wl) f S 4) := bfM_s hfk
      refine ms_W.sub (lv2 := [(0, _), (1, _), (2, _), (3, _), (4, _), (5, _), (6, _), (7, _)]) ?_ [1, 2, 3, 4, 5, 6, 7, 0] rfl
      refine l3_X6_far ⟨hm, hw_, hk_, ⟨it, hi_, hit⟩, hh_⟩ hW hH hc ⟨l1, l2, l3, l4, l5⟩ hW0 hL hmm hg hJ hfk 4 0 rfl K qu hF hfa hro hU (fun K9 qu9 k1 k2 k3 k4 => ?_)
      refine ms_run (pc' := 178) (lv' := [(6, .int (nI k + 1)), (0, .ref m), (1, .int (nI gi)), (2, .int (nI (W * H))), (3, .ref n), (4, .ref (n + 1)), (5, .int (nI (bfS (nbX nr) (frX (W * H) wl) f S 4).2.length))]) (st' := []) _ (ms_deC dX6_far_175 ms_deN) rfl rfl ?_
      refine ms_goto (tgt := 90) dX6_far_178 (by decide) ?_
      rw [e7, nI_1 k]
      refine ms_W.sub (lv2 := [(0, _), (1, _), (2, _), (3, _), (4, _), (5, _), (6, _)]) ?_ [1, 2, 3, 4, 5, 6, 0] rfl
      exact ih (k + 1) (by omega) K9 qu9 _ (bfS_J hJ h196 (frX_lt (wl := wl)) hfd 4).1 k1 k2 k3 k4
theorem mm_ix {n k g : Nat} : nI g * nI n + nI k = nI (g * n + k) := by rw [pk_mul, nI_add]
theorem mm_lt {n k g : Nat} (hg : g < 4) (hk : k < n) : g * n + k < 4 * n := by
  have := Nat.mul_le_mul_right n (show g + 1 ≤ 4 by omega)
  rw [Nat.add_mul] at this
  omega
theorem mm_in {n k g : Nat} (hg : g < 4) (hk : k < n) (hn : n ≤ 196) : vp_in (nI g * nI n + nI k) (4 * n) := by
  rw [mm_ix]; exact vp_in_nI (mm_lt hg hk) (by omega)
theorem mm_ld {n k g : Nat} {mk mm : Nat → Int32} (h : mmR n mk mm) (hg : g < 4) (hk : k < n) (hn : n ≤ 196) : mm (nI g * nI n + nI k).toNatClampNeg = ms_b (¬ mk k &&& (1 <<< (nI g &&& 31)) = 0) := by
  rw [mm_ix, nI_clamp (by have := mm_lt hg hk; omega)]; exact h g hg k hk
theorem ms_b_0 {p : Prop} [Decidable p] : ms_b p = 0 ↔ ¬ p := by unfold ms_b; split <;> simp_all
theorem bfI_0 {st : Nat → Bool} {d : Nat → Int32} {k : Nat} (h : st k = true) : bfI st d (k + 1) k = 0 := by unfold bfI; rw [if_pos (Nat.lt_succ_self k), if_pos h]
theorem bfI_1 {st : Nat → Bool} {d : Nat → Int32} {k : Nat} (h : st k = false) : bfI st d (k + 1) k = -1 := by unfold bfI; rw [if_pos (Nat.lt_succ_self k), h]; rfl
theorem bfI_00 {st : Nat → Bool} {d : Nat → Int32} : bfI st d 0 = d := by funext f; unfold bfI; rw [if_neg (Nat.not_lt_zero f)]
set_option maxHeartbeats 4000000 in
set_option maxRecDepth 20000 in
theorem l1_X6_far {n m aw am ai ah W H cnt : Nat} {G : ms_H} {th cl dr pa : Int32} {wl mm ht : Nat → Int32} {u : Nat → Nat → Int32} (hM : md_at G m aw am ai ah W H th cl dr pa cnt wl mm ht u) (hW : W ≤ 14) (hH : H ≤ 14) (hc : cnt ≤ 24) (hl : md_lt n m aw am ai ah) (hW0 : 0 < W) {nr mk : Nat → Int32} (hL : lk_ok W H (W * H) nr) (hmm : mmR (W * H) mk mm) {gi : Nat} (hg : gi < 4) : ∀ (r k : Nat), k + r = W * H → ∀ (K : ms_H) (qu : Nat → Int32), ms_fb noE n G K → K n = some (.inl (0, W * H, .inl (bfI (stX (W * H) wl mk gi) (fun _ => 0) k))) → K (n + 1) = some (.inl (0, W * H, .inl qu)) → bf_q ((List.range k).filter (stX (W * H) wl mk gi)) qu →  ms_W false m_X6_far (fun r n1 G1 => r = .inl (some (.ref n)) ∧ n1 = n + 2 ∧ ms_fb noE n G G1 ∧ G1 n = some (.inl (0, W * H, .inl (dXg (W * H) nr wl mk gi)))) 25 [(0, .ref m), (1, .int (nI gi)), (2, .int (nI (W * H))), (3, .ref n), (4, .ref (n + 1)), (5, .int (nI ((List.range k).filter (stX (W * H) wl mk gi)).length)), (6, .int (nI k))] [] (n + 2) K 0 0 := by
  obtain ⟨hm, hw_, hk_, ⟨it, hi_, hit⟩, hh_⟩ := hM
  obtain ⟨l1, l2, l3, l4, l5⟩ := hl
  have h196 := fd_196 hW hH
  intro r
  induction r with
  | zero =>
    intro k hk K qu hF hfa hro hU
    have hkN : k = W * H := by omega
    refine ms_run (pc' := 28) (lv' := [(0, .ref m), (1, .int (nI gi)), (2, .int (nI (W * H))), (3, .ref n), (4, .ref (n + 1)), (5, .int (nI ((List.range k).filter (stX (W * H) wl mk gi)).length)), (6, .int (nI k))]) (st' := [.int (nI (W * H)), .int (nI k)]) _ (ms_deC dX6_far_25 (ms_deC dX6_far_27 ms_deN)) rfl rfl ?_
    refine ms_icmp_ge (tgt := 87) dX6_far_28 (by decide) (fun h_28 => ?_) (fun h_28 => ?_)
    · skip
      refine ms_run (pc' := 90) (lv' := [(6, .int 0), (0, .ref m), (1, .int (nI gi)), (2, .int (nI (W * H))), (3, .ref n), (4, .ref (n + 1)), (5, .int (nI ((List.range k).filter (stX (W * H) wl mk gi)).length))]) (st' := []) _ (ms_deC dX6_far_87 (ms_deC dX6_far_88 ms_deN)) rfl rfl ?_
      have e6 : (List.range k).filter (stX (W * H) wl mk gi) = (bf0 (stX (W * H) wl mk gi) (W * H)).2 := by rw [hkN]; rfl
      rw [e6] at hU ⊢
      refine ms_extI (f' := (bf0 (stX (W * H) wl mk gi) (W * H)).1) hfa (fun f hf5 => by unfold bfI bf0; rw [if_pos (by omega)]) ?_
      obtain ⟨G_1, eG_1⟩ : ∃ K9 : ms_H, K9 = ms_up K n (.inl (0, (W * H), .inl ((bf0 (stX (W * H) wl mk gi) (W * H)).1))) := ⟨_, rfl⟩
      refine ms_W.heq eG_1 ?_
      have hF_2 : ms_fb noE n G G_1 := by rw [eG_1]; exact ms_fb.up hF (by first | exact Or.inl (by omega) | exact Or.inr rfl | exact Or.inr (Or.inl rfl) | exact Or.inr (Or.inr (Or.inl rfl)) | exact Or.inr (Or.inr (Or.inr rfl)) | exact Or.inr (Or.inr rfl))
      have hf_3 := (congrFun eG_1 m).trans ((ms_up_n K _ (by omega)).trans ((hF.at m l1).trans hm))
      have hf_4 := (congrFun eG_1 aw).trans ((ms_up_n K _ (by omega)).trans ((hF.at aw l2).trans hw_))
      have hf_5 := (congrFun eG_1 am).trans ((ms_up_n K _ (by omega)).trans ((hF.at am l3).trans hk_))
      have hf_6 := (congrFun eG_1 ai).trans ((ms_up_n K _ (by omega)).trans ((hF.at ai l4).trans hi_))
      have hf_7 := (congrFun eG_1 ah).trans ((ms_up_n K _ (by omega)).trans ((hF.at ah l5).trans hh_))
      have hf_8 : G_1 n = some (.inl (0, (W * H), .inl ((bf0 (stX (W * H) wl mk gi) (W * H)).1))) := by rw [eG_1]; exact ms_up_s _ _ _
      have hf_9 := (congrFun eG_1 (n + 1)).trans ((ms_up_n K _ (by omega)).trans hro)
      refine ms_W.sub (lv2 := [(0, _), (1, _), (2, _), (3, _), (4, _), (5, _), (6, _)]) ?_ [1, 2, 3, 4, 5, 6, 0] rfl
      exact l2_X6_far ⟨hm, hw_, hk_, ⟨it, hi_, hit⟩, hh_⟩ hW hH hc ⟨l1, l2, l3, l4, l5⟩ hW0 hL hmm hg (W * H) 0 (by omega) G_1 qu _ (bf0_J h196) hF_2 hf_8 hf_9 hU
    · skip
      exact absurd (by exact nI_le (b := k) (by omega) (by omega)) h_28
  | succ r ih =>
    intro k hk K qu hF hfa hro hU
    have hlt : k < W * H := by omega
    refine ms_run (pc' := 28) (lv' := [(0, .ref m), (1, .int (nI gi)), (2, .int (nI (W * H))), (3, .ref n), (4, .ref (n + 1)), (5, .int (nI ((List.range k).filter (stX (W * H) wl mk gi)).length)), (6, .int (nI k))]) (st' := [.int (nI (W * H)), .int (nI k)]) _ (ms_deC dX6_far_25 (ms_deC dX6_far_27 ms_deN)) rfl rfl ?_
    refine ms_icmp_ge (tgt := 87) dX6_far_28 (by decide) (fun h_28 => ?_) (fun h_28 => ?_)
    · skip
      exact absurd h_28 (by exact nI_ge (b := W * H) (by omega) (by omega))
    · skip
      refine ms_run (pc' := 35) (lv' := [(0, .ref m), (1, .int (nI gi)), (2, .int (nI (W * H))), (3, .ref n), (4, .ref (n + 1)), (5, .int (nI ((List.range k).filter (stX (W * H) wl mk gi)).length)), (6, .int (nI k))]) (st' := [.ref m, .int (nI k), .ref n]) _ (ms_deC dX6_far_31 (ms_deC dX6_far_32 (ms_deC dX6_far_34 ms_deN))) rfl rfl ?_
      refine ms_getf dX6_far_35 fg_X6_33 ((hF.at m l1).trans hm) rfl ?_
      refine ms_run (pc' := 44) (lv' := [(0, .ref m), (1, .int (nI gi)), (2, .int (nI (W * H))), (3, .ref n), (4, .ref (n + 1)), (5, .int (nI ((List.range k).filter (stX (W * H) wl mk gi)).length)), (6, .int (nI k))]) (st' := [.int (((nI gi) * (nI (W * H))) + (nI k)), .ref am, .int (nI k), .ref n]) _ (ms_deC dX6_far_38 (ms_deC dX6_far_39 (ms_deC dX6_far_40 (ms_deC dX6_far_41 (ms_deC dX6_far_43 ms_deN))))) rfl rfl ?_
      refine ms_zaload dX6_far_44 ((hF.at am l3).trans hk_) (mm_in hg hlt h196) ?_
      rw [mm_ld hmm hg hlt h196]
      refine ms_if_eq (tgt := 62) dX6_far_45 (by decide) (fun h_45 => ?_) (fun h_45 => ?_)
      · skip
        have hst : stX (W * H) wl mk gi k = false := decide_eq_false (fun z9 => ms_b_0.mp h_45 z9.2.2)
        refine ms_run (pc' := 63) (lv' := [(0, .ref m), (1, .int (nI gi)), (2, .int (nI (W * H))), (3, .ref n), (4, .ref (n + 1)), (5, .int (nI ((List.range k).filter (stX (W * H) wl mk gi)).length)), (6, .int (nI k))]) (st' := [.int (-1), .int (nI k), .ref n]) _ (ms_deC dX6_far_62 ms_deN) rfl rfl ?_
        refine ms_iastore dX6_far_63 hfa (vp_in_nI (by omega) (by omega)) ?_
        rw [nI_clamp (n := k) (by omega), bfI_f hst]
        obtain ⟨G_1, eG_1⟩ : ∃ K9 : ms_H, K9 = ms_up K n (.inl (0, (W * H), .inl (bfI (stX (W * H) wl mk gi) (fun _ => 0) (k + 1)))) := ⟨_, rfl⟩
        refine ms_W.heq eG_1 ?_
        have hF_2 : ms_fb noE n G G_1 := by rw [eG_1]; exact ms_fb.up hF (by first | exact Or.inl (by omega) | exact Or.inr rfl | exact Or.inr (Or.inl rfl) | exact Or.inr (Or.inr (Or.inl rfl)) | exact Or.inr (Or.inr (Or.inr rfl)) | exact Or.inr (Or.inr rfl))
        have hf_3 := (congrFun eG_1 m).trans ((ms_up_n K _ (by omega)).trans ((hF.at m l1).trans hm))
        have hf_4 := (congrFun eG_1 aw).trans ((ms_up_n K _ (by omega)).trans ((hF.at aw l2).trans hw_))
        have hf_5 := (congrFun eG_1 am).trans ((ms_up_n K _ (by omega)).trans ((hF.at am l3).trans hk_))
        have hf_6 := (congrFun eG_1 ai).trans ((ms_up_n K _ (by omega)).trans ((hF.at ai l4).trans hi_))
        have hf_7 := (congrFun eG_1 ah).trans ((ms_up_n K _ (by omega)).trans ((hF.at ah l5).trans hh_))
        have hf_8 : G_1 n = some (.inl (0, (W * H), .inl (bfI (stX (W * H) wl mk gi) (fun _ => 0) (k + 1)))) := by rw [eG_1]; exact ms_up_s _ _ _
        have hf_9 := (congrFun eG_1 (n + 1)).trans ((ms_up_n K _ (by omega)).trans hro)
        refine ms_run (pc' := 67) (lv' := [(0, .ref m), (1, .int (nI gi)), (2, .int (nI (W * H))), (3, .ref n), (4, .ref (n + 1)), (5, .int (nI ((List.range k).filter (stX (W * H) wl mk gi)).length)), (6, .int (nI k))]) (st' := [.int (nI k), .ref n]) _ (ms_deC dX6_far_64 (ms_deC dX6_far_65 ms_deN)) rfl rfl ?_
        refine ms_iaload dX6_far_67 hf_8 (vp_in_nI (by omega) (by omega)) ?_
        rw [nI_clamp (n := k) (by omega), bfI_1 hst]
        refine ms_if_ne (tgt := 81) dX6_far_68 (by decide) (fun _ => ?_) (fun h9 => absurd h9 (by decide))
        refine ms_run (pc' := 84) (lv' := [(6, .int ((nI k) + 1)), (0, .ref m), (1, .int (nI gi)), (2, .int (nI (W * H))), (3, .ref n), (4, .ref (n + 1)), (5, .int (nI ((List.range k).filter (stX (W * H) wl mk gi)).length))]) (st' := []) _ (ms_deC dX6_far_81 ms_deN) rfl rfl ?_
        refine ms_goto (tgt := 25) dX6_far_84 (by decide) ?_
        have h7 := ih (k + 1) (by omega) G_1 _ hF_2 hf_8 hf_9 (by rw [filt_f hst]; exact hU)
        rw [filt_f hst] at h7
        rw [nI_1 k]
        refine ms_W.sub (lv2 := [(0, _), (1, _), (2, _), (3, _), (4, _), (5, _), (6, _)]) ?_ [1, 2, 3, 4, 5, 6, 0] rfl
        exact h7
      · skip
        refine ms_run (pc' := 49) (lv' := [(0, .ref m), (1, .int (nI gi)), (2, .int (nI (W * H))), (3, .ref n), (4, .ref (n + 1)), (5, .int (nI ((List.range k).filter (stX (W * H) wl mk gi)).length)), (6, .int (nI k))]) (st' := [.ref m, .int (nI k), .ref n]) _ (ms_deC dX6_far_48 ms_deN) rfl rfl ?_
        refine ms_getf dX6_far_49 fg_X6_29 ((hF.at m l1).trans hm) rfl ?_
        refine ms_run (pc' := 54) (lv' := [(0, .ref m), (1, .int (nI gi)), (2, .int (nI (W * H))), (3, .ref n), (4, .ref (n + 1)), (5, .int (nI ((List.range k).filter (stX (W * H) wl mk gi)).length)), (6, .int (nI k))]) (st' := [.int (nI k), .ref aw, .int (nI k), .ref n]) _ (ms_deC dX6_far_52 ms_deN) rfl rfl ?_
        refine ms_zaload dX6_far_54 ((hF.at aw l2).trans hw_) (vp_in_nI (by omega) (by omega)) ?_
        rw [nI_clamp (n := k) (by omega)]
        refine ms_if_ne (tgt := 62) dX6_far_55 (by decide) (fun h_55 => ?_) (fun h_55 => ?_)
        · skip
          have hst : stX (W * H) wl mk gi k = false := decide_eq_false (fun z9 => h_55 z9.2.1)
          refine ms_run (pc' := 63) (lv' := [(0, .ref m), (1, .int (nI gi)), (2, .int (nI (W * H))), (3, .ref n), (4, .ref (n + 1)), (5, .int (nI ((List.range k).filter (stX (W * H) wl mk gi)).length)), (6, .int (nI k))]) (st' := [.int (-1), .int (nI k), .ref n]) _ (ms_deC dX6_far_62 ms_deN) rfl rfl ?_
          refine ms_iastore dX6_far_63 hfa (vp_in_nI (by omega) (by omega)) ?_
          rw [nI_clamp (n := k) (by omega), bfI_f hst]
          obtain ⟨G_10, eG_10⟩ : ∃ K9 : ms_H, K9 = ms_up K n (.inl (0, (W * H), .inl (bfI (stX (W * H) wl mk gi) (fun _ => 0) (k + 1)))) := ⟨_, rfl⟩
          refine ms_W.heq eG_10 ?_
          have hF_11 : ms_fb noE n G G_10 := by rw [eG_10]; exact ms_fb.up hF (by first | exact Or.inl (by omega) | exact Or.inr rfl | exact Or.inr (Or.inl rfl) | exact Or.inr (Or.inr (Or.inl rfl)) | exact Or.inr (Or.inr (Or.inr rfl)) | exact Or.inr (Or.inr rfl))
          have hf_12 := (congrFun eG_10 m).trans ((ms_up_n K _ (by omega)).trans ((hF.at m l1).trans hm))
          have hf_13 := (congrFun eG_10 aw).trans ((ms_up_n K _ (by omega)).trans ((hF.at aw l2).trans hw_))
          have hf_14 := (congrFun eG_10 am).trans ((ms_up_n K _ (by omega)).trans ((hF.at am l3).trans hk_))
          have hf_15 := (congrFun eG_10 ai).trans ((ms_up_n K _ (by omega)).trans ((hF.at ai l4).trans hi_))
          have hf_16 := (congrFun eG_10 ah).trans ((ms_up_n K _ (by omega)).trans ((hF.at ah l5).trans hh_))
          have hf_17 : G_10 n = some (.inl (0, (W * H), .inl (bfI (stX (W * H) wl mk gi) (fun _ => 0) (k + 1)))) := by rw [eG_10]; exact ms_up_s _ _ _
          have hf_18 := (congrFun eG_10 (n + 1)).trans ((ms_up_n K _ (by omega)).trans hro)
          refine ms_run (pc' := 67) (lv' := [(0, .ref m), (1, .int (nI gi)), (2, .int (nI (W * H))), (3, .ref n), (4, .ref (n + 1)), (5, .int (nI ((List.range k).filter (stX (W * H) wl mk gi)).length)), (6, .int (nI k))]) (st' := [.int (nI k), .ref n]) _ (ms_deC dX6_far_64 (ms_deC dX6_far_65 ms_deN)) rfl rfl ?_
          refine ms_iaload dX6_far_67 hf_17 (vp_in_nI (by omega) (by omega)) ?_
          rw [nI_clamp (n := k) (by omega), bfI_1 hst]
          refine ms_if_ne (tgt := 81) dX6_far_68 (by decide) (fun _ => ?_) (fun h9 => absurd h9 (by decide))
          refine ms_run (pc' := 84) (lv' := [(6, .int ((nI k) + 1)), (0, .ref m), (1, .int (nI gi)), (2, .int (nI (W * H))), (3, .ref n), (4, .ref (n + 1)), (5, .int (nI ((List.range k).filter (stX (W * H) wl mk gi)).length))]) (st' := []) _ (ms_deC dX6_far_81 ms_deN) rfl rfl ?_
          refine ms_goto (tgt := 25) dX6_far_84 (by decide) ?_
          have h7 := ih (k + 1) (by omega) G_10 _ hF_11 hf_17 hf_18 (by rw [filt_f hst]; exact hU)
          rw [filt_f hst] at h7
          rw [nI_1 k]
          refine ms_W.sub (lv2 := [(0, _), (1, _), (2, _), (3, _), (4, _), (5, _), (6, _)]) ?_ [1, 2, 3, 4, 5, 6, 0] rfl
          exact h7
        · skip
          have hst : stX (W * H) wl mk gi k = true := decide_eq_true ⟨hlt, by first | exact h_55 | exact Decidable.not_not.mp h_55, Decidable.not_not.mp (fun z9 => h_45 (ms_b_0.mpr z9))⟩
          refine ms_run (pc' := 59) (lv' := [(0, .ref m), (1, .int (nI gi)), (2, .int (nI (W * H))), (3, .ref n), (4, .ref (n + 1)), (5, .int (nI ((List.range k).filter (stX (W * H) wl mk gi)).length)), (6, .int (nI k))]) (st' := [.int 0, .int (nI k), .ref n]) _ (ms_deC dX6_far_58 ms_deN) rfl rfl ?_
          refine ms_goto (tgt := 63) dX6_far_59 (by decide) ?_
          refine ms_iastore dX6_far_63 hfa (vp_in_nI (by omega) (by omega)) ?_
          rw [nI_clamp (n := k) (by omega), bfI_t hst]
          obtain ⟨G_19, eG_19⟩ : ∃ K9 : ms_H, K9 = ms_up K n (.inl (0, (W * H), .inl (bfI (stX (W * H) wl mk gi) (fun _ => 0) (k + 1)))) := ⟨_, rfl⟩
          refine ms_W.heq eG_19 ?_
          have hF_20 : ms_fb noE n G G_19 := by rw [eG_19]; exact ms_fb.up hF (by first | exact Or.inl (by omega) | exact Or.inr rfl | exact Or.inr (Or.inl rfl) | exact Or.inr (Or.inr (Or.inl rfl)) | exact Or.inr (Or.inr (Or.inr rfl)) | exact Or.inr (Or.inr rfl))
          have hf_21 := (congrFun eG_19 m).trans ((ms_up_n K _ (by omega)).trans ((hF.at m l1).trans hm))
          have hf_22 := (congrFun eG_19 aw).trans ((ms_up_n K _ (by omega)).trans ((hF.at aw l2).trans hw_))
          have hf_23 := (congrFun eG_19 am).trans ((ms_up_n K _ (by omega)).trans ((hF.at am l3).trans hk_))
          have hf_24 := (congrFun eG_19 ai).trans ((ms_up_n K _ (by omega)).trans ((hF.at ai l4).trans hi_))
          have hf_25 := (congrFun eG_19 ah).trans ((ms_up_n K _ (by omega)).trans ((hF.at ah l5).trans hh_))
          have hf_26 : G_19 n = some (.inl (0, (W * H), .inl (bfI (stX (W * H) wl mk gi) (fun _ => 0) (k + 1)))) := by rw [eG_19]; exact ms_up_s _ _ _
          have hf_27 := (congrFun eG_19 (n + 1)).trans ((ms_up_n K _ (by omega)).trans hro)
          refine ms_run (pc' := 67) (lv' := [(0, .ref m), (1, .int (nI gi)), (2, .int (nI (W * H))), (3, .ref n), (4, .ref (n + 1)), (5, .int (nI ((List.range k).filter (stX (W * H) wl mk gi)).length)), (6, .int (nI k))]) (st' := [.int (nI k), .ref n]) _ (ms_deC dX6_far_64 (ms_deC dX6_far_65 ms_deN)) rfl rfl ?_
          refine ms_iaload dX6_far_67 hf_26 (vp_in_nI (by omega) (by omega)) ?_
          rw [nI_clamp (n := k) (by omega), bfI_0 hst]
          refine ms_if_ne (tgt := 81) dX6_far_68 (by decide) (fun h9 => absurd h9 (by decide)) (fun _ => ?_)
          refine ms_run (pc' := 80) (lv' := [(5, .int ((nI ((List.range k).filter (stX (W * H) wl mk gi)).length) + 1)), (0, .ref m), (1, .int (nI gi)), (2, .int (nI (W * H))), (3, .ref n), (4, .ref (n + 1)), (6, .int (nI k))]) (st' := [.int (nI k), .int (nI ((List.range k).filter (stX (W * H) wl mk gi)).length), .ref (n + 1)]) _ (ms_deC dX6_far_71 (ms_deC dX6_far_73 (ms_deC dX6_far_75 (ms_deC dX6_far_78 ms_deN)))) rfl rfl ?_
          refine ms_iastore dX6_far_80 hf_27 (vp_in_nI (by have := filt_le (st := (stX (W * H) wl mk gi)) k; omega) (by omega)) ?_
          rw [nI_clamp (n := ((List.range k).filter (stX (W * H) wl mk gi)).length) (by have := filt_le (st := (stX (W * H) wl mk gi)) k; omega)]
          obtain ⟨G_28, eG_28⟩ : ∃ K9 : ms_H, K9 = ms_up G_19 (n + 1) (.inl (0, (W * H), .inl (upd qu ((List.range k).filter (stX (W * H) wl mk gi)).length (nI k)))) := ⟨_, rfl⟩
          refine ms_W.heq eG_28 ?_
          have hF_29 : ms_fb noE n G G_28 := by rw [eG_28]; exact ms_fb.up hF_20 (by first | exact Or.inl (by omega) | exact Or.inr rfl | exact Or.inr (Or.inl rfl) | exact Or.inr (Or.inr (Or.inl rfl)) | exact Or.inr (Or.inr (Or.inr rfl)) | exact Or.inr (Or.inr rfl))
          have hf_30 := (congrFun eG_28 m).trans ((ms_up_n G_19 _ (by omega)).trans hf_21)
          have hf_31 := (congrFun eG_28 aw).trans ((ms_up_n G_19 _ (by omega)).trans hf_22)
          have hf_32 := (congrFun eG_28 am).trans ((ms_up_n G_19 _ (by omega)).trans hf_23)
          have hf_33 := (congrFun eG_28 ai).trans ((ms_up_n G_19 _ (by omega)).trans hf_24)
          have hf_34 := (congrFun eG_28 ah).trans ((ms_up_n G_19 _ (by omega)).trans hf_25)
          have hf_35 := (congrFun eG_28 n).trans ((ms_up_n G_19 _ (by omega)).trans hf_26)
          have hf_36 : G_28 (n + 1) = some (.inl (0, (W * H), .inl (upd qu ((List.range k).filter (stX (W * H) wl mk gi)).length (nI k)))) := by rw [eG_28]; exact ms_up_s _ _ _
          refine ms_run (pc' := 84) (lv' := [(6, .int ((nI k) + 1)), (5, .int ((nI ((List.range k).filter (stX (W * H) wl mk gi)).length) + 1)), (0, .ref m), (1, .int (nI gi)), (2, .int (nI (W * H))), (3, .ref n), (4, .ref (n + 1))]) (st' := []) _ (ms_deC dX6_far_81 ms_deN) rfl rfl ?_
          refine ms_goto (tgt := 25) dX6_far_84 (by decide) ?_
          have h7 := ih (k + 1) (by omega) G_28 _ hF_29 hf_35 hf_36 (by rw [filt_t hst]; exact hU.add)
          rw [filt_t hst] at h7
          rw [List.length_append] at h7
          rw [nI_1 k, nI_1 ((List.range k).filter (stX (W * H) wl mk gi)).length]
          refine ms_W.sub (lv2 := [(0, _), (1, _), (2, _), (3, _), (4, _), (5, _), (6, _)]) ?_ [2, 3, 4, 5, 6, 1, 0] rfl
          exact h7
set_option maxHeartbeats 4000000 in
set_option maxRecDepth 20000 in
theorem c_X6_far {n m aw am ai ah W H cnt : Nat} {G : ms_H} {th cl dr pa : Int32} {wl mm ht : Nat → Int32} {u : Nat → Nat → Int32} (hM : md_at G m aw am ai ah W H th cl dr pa cnt wl mm ht u) (hW : W ≤ 14) (hH : H ≤ 14) (hc : cnt ≤ 24) (hl : md_lt n m aw am ai ah) (hW0 : 0 < W) {nr mk : Nat → Int32} (hL : lk_ok W H (W * H) nr) (hmm : mmR (W * H) mk mm) {gi : Nat} (hg : gi < 4) : ms_M m_X6_far [.ref m, .int (nI gi)] n G 2 392 (fun r n1 G1 => r = .inl (some (.ref n)) ∧ n1 = n + 2 ∧ ms_fb noE n G G1 ∧ G1 n = some (.inl (0, W * H, .inl (dXg (W * H) nr wl mk gi)))) := by
  refine ms_M.of (by decide) (Nat.le_of_ble_eq_true rfl) ?_
  show ms_W false m_X6_far _ 0 [(0, .ref m), (1, .int (nI gi))] [] n G 2 392
  obtain ⟨hm, hw_, hk_, ⟨it, hi_, hit⟩, hh_⟩ := hM
  obtain ⟨l1, l2, l3, l4, l5⟩ := hl
  have h196 := fd_196 hW hH
  have hF : ms_fb noE n G G := ms_fb.rf
  refine ms_run (pc' := 1) (lv' := [(0, .ref m), (1, .int (nI gi))]) (st' := [.ref m]) _ (ms_deC dX6_far_0 ms_deN) rfl rfl ?_
  refine ms_getf dX6_far_1 fg_X6_20 hm rfl ?_
  refine ms_run (pc' := 5) (lv' := [(0, .ref m), (1, .int (nI gi))]) (st' := [.ref m, .int (nI W)]) _ (ms_deC dX6_far_4 ms_deN) rfl rfl ?_
  refine ms_getf dX6_far_5 fg_X6_23 hm rfl ?_
  refine ms_run (pc' := 9) (lv' := [(0, .ref m), (1, .int (nI gi))]) (st' := [.int ((nI W) * (nI H))]) _ (ms_deC dX6_far_8 ms_deN) rfl rfl ?_
  rw [pk_mul]
  refine ms_run (pc' := 11) (lv' := [(2, .int (nI (W * H))), (0, .ref m), (1, .int (nI gi))]) (st' := [.int (nI (W * H))]) _ (ms_deC dX6_far_9 (ms_deC dX6_far_10 ms_deN)) rfl rfl ?_
  refine ms_W.room (k2 := 1 + 1) (z2 := (W * H) + 196) ?_ (by omega) (by omega)
  refine ms_newI (N := (W * H)) dX6_far_11 aw_int (nI_pos (by omega)) (nI_clamp (by omega)) (by omega) ?_
  obtain ⟨G_1, eG_1⟩ : ∃ K9 : ms_H, K9 = ms_up G n (.inl (0, (W * H), .inl (fun _ => 0))) := ⟨_, rfl⟩
  refine ms_W.heq eG_1 ?_
  have hF_2 : ms_fb noE n G G_1 := by rw [eG_1]; exact ms_fb.up hF (by first | exact Or.inl (by omega) | exact Or.inr rfl | exact Or.inr (Or.inl rfl) | exact Or.inr (Or.inr (Or.inl rfl)) | exact Or.inr (Or.inr (Or.inr rfl)) | exact Or.inr (Or.inr rfl))
  have hf_3 := (congrFun eG_1 m).trans ((ms_up_n G _ (by omega)).trans hm)
  have hf_4 := (congrFun eG_1 aw).trans ((ms_up_n G _ (by omega)).trans hw_)
  have hf_5 := (congrFun eG_1 am).trans ((ms_up_n G _ (by omega)).trans hk_)
  have hf_6 := (congrFun eG_1 ai).trans ((ms_up_n G _ (by omega)).trans hi_)
  have hf_7 := (congrFun eG_1 ah).trans ((ms_up_n G _ (by omega)).trans hh_)
  have hf_8 : G_1 n = some (.inl (0, (W * H), .inl (fun _ => 0))) := by rw [eG_1]; exact ms_up_s _ _ _
  refine ms_run (pc' := 15) (lv' := [(3, .ref n), (2, .int (nI (W * H))), (0, .ref m), (1, .int (nI gi))]) (st' := [.int (nI (W * H))]) _ (ms_deC dX6_far_13 (ms_deC dX6_far_14 ms_deN)) rfl rfl ?_
  refine ms_W.room (k2 := 1 + 0) (z2 := (W * H) + 0) ?_ (by omega) (by omega)
  refine ms_newI (N := (W * H)) dX6_far_15 aw_int (nI_pos (by omega)) (nI_clamp (by omega)) (by omega) ?_
  obtain ⟨G_9, eG_9⟩ : ∃ K9 : ms_H, K9 = ms_up G_1 (n + 1) (.inl (0, (W * H), .inl (fun _ => 0))) := ⟨_, rfl⟩
  refine ms_W.heq eG_9 ?_
  have hF_10 : ms_fb noE n G G_9 := by rw [eG_9]; exact ms_fb.up hF_2 (by first | exact Or.inl (by omega) | exact Or.inr rfl | exact Or.inr (Or.inl rfl) | exact Or.inr (Or.inr (Or.inl rfl)) | exact Or.inr (Or.inr (Or.inr rfl)) | exact Or.inr (Or.inr rfl))
  have hf_11 := (congrFun eG_9 m).trans ((ms_up_n G_1 _ (by omega)).trans hf_3)
  have hf_12 := (congrFun eG_9 aw).trans ((ms_up_n G_1 _ (by omega)).trans hf_4)
  have hf_13 := (congrFun eG_9 am).trans ((ms_up_n G_1 _ (by omega)).trans hf_5)
  have hf_14 := (congrFun eG_9 ai).trans ((ms_up_n G_1 _ (by omega)).trans hf_6)
  have hf_15 := (congrFun eG_9 ah).trans ((ms_up_n G_1 _ (by omega)).trans hf_7)
  have hf_16 := (congrFun eG_9 n).trans ((ms_up_n G_1 _ (by omega)).trans hf_8)
  have hf_17 : G_9 (n + 1) = some (.inl (0, (W * H), .inl (fun _ => 0))) := by rw [eG_9]; exact ms_up_s _ _ _
  refine ms_run (pc' := 25) (lv' := [(6, .int 0), (5, .int 0), (4, .ref (n + 1)), (3, .ref n), (2, .int (nI (W * H))), (0, .ref m), (1, .int (nI gi))]) (st' := []) _ (ms_deC dX6_far_17 (ms_deC dX6_far_19 (ms_deC dX6_far_20 (ms_deC dX6_far_22 (ms_deC dX6_far_23 ms_deN))))) rfl rfl ?_
  refine ms_W.sub (lv2 := [(0, _), (1, _), (2, _), (3, _), (4, _), (5, _), (6, _)]) ?_ [5, 6, 4, 3, 2, 1, 0] rfl
  exact l1_X6_far ⟨hm, hw_, hk_, ⟨it, hi_, hit⟩, hh_⟩ hW hH hc ⟨l1, l2, l3, l4, l5⟩ hW0 hL hmm hg (W * H) 0 (by omega) G_9 _ hF_10 (by rw [bfI_00]; exact hf_16) hf_17 (fun i f h => absurd h (by simp))

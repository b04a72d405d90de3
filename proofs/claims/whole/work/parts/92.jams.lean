/-! the model: jams -/
set_option maxHeartbeats 1000000 in
set_option maxRecDepth 20000 in
theorem l1_X6_jams {n m aw am ai ah W H cnt N : Nat} {G : ms_H} {th dr pa : Int32} {wl mm : Nat → Int32} {X : cX} {nr mk ds : Nat → Int32} (hl : md_lt n m aw am ai ah) (hW : W ≤ 14) (hH : H ≤ 14) (hW0 : 0 < W) (hc : cnt ≤ 24) (hne : md_ne m aw am ai ah) (hL : lk_ok W H (W * H) nr) (hmm : mmR (W * H) mk mm) (hds : dsR (W * H) nr wl mk ds) (hd : 0 ≤ dr ∧ dr ≤ 9) (hN : N < 1000000) (hV : wdV W H cnt N X) {P : ms_P} : ∀ (r k : Nat), k + r = cnt → ∀ (K : ms_H), md_at K m aw am ai ah W H th X.2.2.2 dr pa cnt wl mm X.2.1 X.1 → ms_fb noE n G K → K n = some (.inl (0, cnt, .inl (fl2 (jIni (jbR cnt pa X.1)) k))) → (∀ (K : ms_H), md_at K m aw am ai ah W H th X.2.2.2 dr pa cnt wl mm X.2.1 X.1 → ms_fb noE n G K → K n = some (.inl (0, cnt, .inl (fl2 (jIni (jbR cnt pa X.1)) cnt))) → ms_W false m_X6_jams P 57 [(0, .ref m), (1, .ref n)] [] (n + 1) K 0 0) →  ms_W false m_X6_jams (P) 9 [(0, .ref m), (1, .ref n), (2, .int (nI k))] [] (n + 1) K 0 0 := by
  have hl9 := hl
  obtain ⟨l1, l2, l3, l4, l5⟩ := hl
  obtain ⟨n1, n2, n3, n4, n5, n6, n7, n8, n9, n10⟩ := hne
  have h196 := fd_196 hW hH
  intro r
  induction r with
  | zero =>
    intro k hk K hM9 hF hr kk
    have hkN : k = cnt := by omega
    have hM8 := hM9
    obtain ⟨hm, hw_, hk_, ⟨it, hi_, hit⟩, hh_⟩ := hM8
    refine ms_run (pc' := 11) (lv' := [(0, .ref m), (1, .ref n), (2, .int (nI k))]) (st' := [.ref m, .int (nI k)]) _ (ms_deC dX6_jams_9 (ms_deC dX6_jams_10 ms_deN)) rfl rfl ?_
    refine ms_getf dX6_jams_11 fg_X6_36 hm rfl ?_
    refine ms_icmp_ge (tgt := 57) dX6_jams_14 (by decide) (fun h_14 => ?_) (fun h_14 => ?_)
    · skip
      refine ms_W.sub (lv2 := [(0, _), (1, _)]) ?_ [0, 1] rfl
      rw [hkN] at hr
      exact kk K hM9 hF hr
    · skip
      exact absurd (by exact nI_le (b := k) (by omega) (by omega)) h_14
  | succ r ih =>
    intro k hk K hM9 hF hr kk
    have hlt : k < cnt := by omega
    have hM8 := hM9
    obtain ⟨hm, hw_, hk_, ⟨it, hi_, hit⟩, hh_⟩ := hM8
    refine ms_run (pc' := 11) (lv' := [(0, .ref m), (1, .ref n), (2, .int (nI k))]) (st' := [.ref m, .int (nI k)]) _ (ms_deC dX6_jams_9 (ms_deC dX6_jams_10 ms_deN)) rfl rfl ?_
    refine ms_getf dX6_jams_11 fg_X6_36 hm rfl ?_
    refine ms_icmp_ge (tgt := 57) dX6_jams_14 (by decide) (fun h_14 => ?_) (fun h_14 => ?_)
    · skip
      exact absurd h_14 (by exact nI_ge (b := cnt) (by omega) (by omega))
    · skip
      refine ms_run (pc' := 21) (lv' := [(0, .ref m), (1, .ref n), (2, .int (nI k))]) (st' := [.int (nI k), .ref m, .int (nI k), .ref n]) _ (ms_deC dX6_jams_17 (ms_deC dX6_jams_18 (ms_deC dX6_jams_19 (ms_deC dX6_jams_20 ms_deN)))) rfl rfl ?_
      refine ms_callVp (As := [.int (nI k)]) dX6_jams_21 (c_X6_isOnI ⟨hm, hw_, hk_, ⟨it, hi_, hit⟩, hh_⟩ hW hH hc hlt) cv_X6_110 hm rfl ⟨Nat.le_of_ble_eq_true rfl, Nat.le_of_ble_eq_true rfl⟩ rfl (Nat.le_of_ble_eq_true rfl) ?_
      by_cases hon9 : ¬ X.1 k 3 = -1
      · rw [show ms_b (¬ X.1 k 3 = -1) = 1 from if_pos hon9]
        refine ms_if_eq (tgt := 49) dX6_jams_24 (by decide) (fun h9 => absurd h9 (by decide)) (fun _ => ?_)
        refine ms_run (pc' := 28) (lv' := [(0, .ref m), (1, .ref n), (2, .int (nI k))]) (st' := [.ref m, .int (nI k), .ref n]) _ (ms_deC dX6_jams_27 ms_deN) rfl rfl ?_
        refine ms_getf dX6_jams_28 fg_X6_39 hm rfl ?_
        refine ms_run (pc' := 37) (lv' := [(0, .ref m), (1, .ref n), (2, .int (nI k))]) (st' := [.int (((nI k) * 8) + 5), .ref ai, .int (nI k), .ref n]) _ (ms_deC dX6_jams_31 (ms_deC dX6_jams_32 (ms_deC dX6_jams_34 (ms_deC dX6_jams_35 (ms_deC dX6_jams_36 ms_deN))))) rfl rfl ?_
        refine ms_iaload dX6_jams_37 hi_ (md_in (k := k) (j := 5) (Nat.lt_of_lt_of_le hlt hc) (by omega)) ?_
        rw [show it (((nI k) * 8) + 5).toNatClampNeg = X.1 k 5 from md_it (k := k) (j := 5) hit hlt hc (by omega)]
        refine ms_run (pc' := 39) (lv' := [(0, .ref m), (1, .ref n), (2, .int (nI k))]) (st' := [.ref m, .int (X.1 k 5), .int (nI k), .ref n]) _ (ms_deC dX6_jams_38 ms_deN) rfl rfl ?_
        refine ms_getf dX6_jams_39 fg_X6_13 hm rfl ?_
        refine ms_icmp_lt (tgt := 49) dX6_jams_42 (by decide) (fun h_42 => ?_) (fun h_42 => ?_)
        · skip
          refine ms_run (pc' := 50) (lv' := [(0, .ref m), (1, .ref n), (2, .int (nI k))]) (st' := [.int (-1), .int (nI k), .ref n]) _ (ms_deC dX6_jams_49 ms_deN) rfl rfl ?_
          refine ms_iastore dX6_jams_50 hr (vp_in_nI hlt (by omega)) ?_
          rw [nI_clamp (n := k) (by omega), fl2_v (show jIni (jbR cnt pa X.1) k = (-1) from by unfold jIni; rw [show jbR cnt pa X.1 k = false from decide_eq_false (fun z9 => absurd z9.2.2 (Int32.not_le.mpr h_42))]; rfl)]
          obtain ⟨G_1, eG_1⟩ : ∃ K9 : ms_H, K9 = ms_up K n (.inl (0, cnt, .inl (fl2 (jIni (jbR cnt pa X.1)) (k + 1)))) := ⟨_, rfl⟩
          refine ms_W.heq eG_1 ?_
          have hF_2 : ms_fb noE n G G_1 := by rw [eG_1]; exact ms_fb.up hF (by first | exact Or.inl (by omega) | exact Or.inr rfl | exact Or.inr (Or.inl rfl) | exact Or.inr (Or.inr (Or.inl rfl)) | exact Or.inr (Or.inr (Or.inr rfl)) | exact Or.inr (Or.inr rfl) | exact Or.inr (Or.inr (Or.inr (Or.inl rfl))) | exact Or.inr (Or.inr (Or.inr (Or.inr (Or.inl rfl)))) | exact Or.inr (Or.inr (Or.inr (Or.inr (Or.inr rfl)))))
          have hf_3 := (congrFun eG_1 m).trans ((ms_up_n K _ (by omega)).trans hm)
          have hf_4 := (congrFun eG_1 aw).trans ((ms_up_n K _ (by omega)).trans hw_)
          have hf_5 := (congrFun eG_1 am).trans ((ms_up_n K _ (by omega)).trans hk_)
          have hf_6 := (congrFun eG_1 ai).trans ((ms_up_n K _ (by omega)).trans hi_)
          have hf_7 := (congrFun eG_1 ah).trans ((ms_up_n K _ (by omega)).trans hh_)
          have hf_8 : G_1 n = some (.inl (0, cnt, .inl (fl2 (jIni (jbR cnt pa X.1)) (k + 1)))) := by rw [eG_1]; exact ms_up_s _ _ _
          refine ms_run (pc' := 54) (lv' := [(2, .int ((nI k) + 1)), (0, .ref m), (1, .ref n)]) (st' := []) _ (ms_deC dX6_jams_51 ms_deN) rfl rfl ?_
          refine ms_goto (tgt := 9) dX6_jams_54 (by decide) ?_
          rw [nI_1 k]
          refine ms_W.sub (lv2 := [(0, _), (1, _), (2, _)]) ?_ [1, 2, 0] rfl
          exact ih (k + 1) (by omega) G_1 ⟨hf_3, hf_4, hf_5, ⟨it, hf_6, hit⟩, hf_7⟩ hF_2 hf_8 kk
        · skip
          refine ms_run (pc' := 46) (lv' := [(0, .ref m), (1, .ref n), (2, .int (nI k))]) (st' := [.int (nI k), .int (nI k), .ref n]) _ (ms_deC dX6_jams_45 ms_deN) rfl rfl ?_
          refine ms_goto (tgt := 50) dX6_jams_46 (by decide) ?_
          refine ms_iastore dX6_jams_50 hr (vp_in_nI hlt (by omega)) ?_
          rw [nI_clamp (n := k) (by omega), fl2_v (show jIni (jbR cnt pa X.1) k = (nI k) from by unfold jIni; rw [show jbR cnt pa X.1 k = true from decide_eq_true ⟨hlt, hon9, Int32.not_lt.mp h_42⟩]; rfl)]
          obtain ⟨G_9, eG_9⟩ : ∃ K9 : ms_H, K9 = ms_up K n (.inl (0, cnt, .inl (fl2 (jIni (jbR cnt pa X.1)) (k + 1)))) := ⟨_, rfl⟩
          refine ms_W.heq eG_9 ?_
          have hF_10 : ms_fb noE n G G_9 := by rw [eG_9]; exact ms_fb.up hF (by first | exact Or.inl (by omega) | exact Or.inr rfl | exact Or.inr (Or.inl rfl) | exact Or.inr (Or.inr (Or.inl rfl)) | exact Or.inr (Or.inr (Or.inr rfl)) | exact Or.inr (Or.inr rfl) | exact Or.inr (Or.inr (Or.inr (Or.inl rfl))) | exact Or.inr (Or.inr (Or.inr (Or.inr (Or.inl rfl)))) | exact Or.inr (Or.inr (Or.inr (Or.inr (Or.inr rfl)))))
          have hf_11 := (congrFun eG_9 m).trans ((ms_up_n K _ (by omega)).trans hm)
          have hf_12 := (congrFun eG_9 aw).trans ((ms_up_n K _ (by omega)).trans hw_)
          have hf_13 := (congrFun eG_9 am).trans ((ms_up_n K _ (by omega)).trans hk_)
          have hf_14 := (congrFun eG_9 ai).trans ((ms_up_n K _ (by omega)).trans hi_)
          have hf_15 := (congrFun eG_9 ah).trans ((ms_up_n K _ (by omega)).trans hh_)
          have hf_16 : G_9 n = some (.inl (0, cnt, .inl (fl2 (jIni (jbR cnt pa X.1)) (k + 1)))) := by rw [eG_9]; exact ms_up_s _ _ _
          refine ms_run (pc' := 54) (lv' := [(2, .int ((nI k) + 1)), (0, .ref m), (1, .ref n)]) (st' := []) _ (ms_deC dX6_jams_51 ms_deN) rfl rfl ?_
          refine ms_goto (tgt := 9) dX6_jams_54 (by decide) ?_
          rw [nI_1 k]
          refine ms_W.sub (lv2 := [(0, _), (1, _), (2, _)]) ?_ [1, 2, 0] rfl
          exact ih (k + 1) (by omega) G_9 ⟨hf_11, hf_12, hf_13, ⟨it, hf_14, hit⟩, hf_15⟩ hF_10 hf_16 kk
      · rw [show ms_b (¬ X.1 k 3 = -1) = 0 from if_neg hon9]
        refine ms_if_eq (tgt := 49) dX6_jams_24 (by decide) (fun _ => ?_) (fun h9 => absurd h9 (by decide))
        refine ms_run (pc' := 50) (lv' := [(0, .ref m), (1, .ref n), (2, .int (nI k))]) (st' := [.int (-1), .int (nI k), .ref n]) _ (ms_deC dX6_jams_49 ms_deN) rfl rfl ?_
        refine ms_iastore dX6_jams_50 hr (vp_in_nI hlt (by omega)) ?_
        rw [nI_clamp (n := k) (by omega), fl2_v (show jIni (jbR cnt pa X.1) k = (-1) from by unfold jIni; rw [show jbR cnt pa X.1 k = false from decide_eq_false (fun z9 => hon9 z9.2.1)]; rfl)]
        obtain ⟨G_17, eG_17⟩ : ∃ K9 : ms_H, K9 = ms_up K n (.inl (0, cnt, .inl (fl2 (jIni (jbR cnt pa X.1)) (k + 1)))) := ⟨_, rfl⟩
        refine ms_W.heq eG_17 ?_
        have hF_18 : ms_fb noE n G G_17 := by rw [eG_17]; exact ms_fb.up hF (by first | exact Or.inl (by omega) | exact Or.inr rfl | exact Or.inr (Or.inl rfl) | exact Or.inr (Or.inr (Or.inl rfl)) | exact Or.inr (Or.inr (Or.inr rfl)) | exact Or.inr (Or.inr rfl) | exact Or.inr (Or.inr (Or.inr (Or.inl rfl))) | exact Or.inr (Or.inr (Or.inr (Or.inr (Or.inl rfl)))) | exact Or.inr (Or.inr (Or.inr (Or.inr (Or.inr rfl)))))
        have hf_19 := (congrFun eG_17 m).trans ((ms_up_n K _ (by omega)).trans hm)
        have hf_20 := (congrFun eG_17 aw).trans ((ms_up_n K _ (by omega)).trans hw_)
        have hf_21 := (congrFun eG_17 am).trans ((ms_up_n K _ (by omega)).trans hk_)
        have hf_22 := (congrFun eG_17 ai).trans ((ms_up_n K _ (by omega)).trans hi_)
        have hf_23 := (congrFun eG_17 ah).trans ((ms_up_n K _ (by omega)).trans hh_)
        have hf_24 : G_17 n = some (.inl (0, cnt, .inl (fl2 (jIni (jbR cnt pa X.1)) (k + 1)))) := by rw [eG_17]; exact ms_up_s _ _ _
        refine ms_run (pc' := 54) (lv' := [(2, .int ((nI k) + 1)), (0, .ref m), (1, .ref n)]) (st' := []) _ (ms_deC dX6_jams_51 ms_deN) rfl rfl ?_
        refine ms_goto (tgt := 9) dX6_jams_54 (by decide) ?_
        rw [nI_1 k]
        refine ms_W.sub (lv2 := [(0, _), (1, _), (2, _)]) ?_ [1, 2, 0] rfl
        exact ih (k + 1) (by omega) G_17 ⟨hf_19, hf_20, hf_21, ⟨it, hf_22, hit⟩, hf_23⟩ hF_18 hf_24 kk
set_option maxHeartbeats 1000000 in
set_option maxRecDepth 20000 in
theorem l3_X6_jams {n m aw am ai ah W H cnt N : Nat} {G : ms_H} {th dr pa : Int32} {wl mm : Nat → Int32} {X : cX} {nr mk ds : Nat → Int32} (hl : md_lt n m aw am ai ah) (hW : W ≤ 14) (hH : H ≤ 14) (hW0 : 0 < W) (hc : cnt ≤ 24) (hne : md_ne m aw am ai ah) (hL : lk_ok W H (W * H) nr) (hmm : mmR (W * H) mk mm) (hds : dsR (W * H) nr wl mk ds) (hd : 0 ≤ dr ∧ dr ≤ 9) (hN : N < 1000000) (hV : wdV W H cnt N X) {P : ms_P} {f0 : Nat → Int32} {i : Nat} (hi9 : i < cnt) : ∀ (r k : Nat), k + r = 4 → ∀ (K : ms_H) (f : Nat → Int32) (b9 : Int32), md_at K m aw am ai ah W H th X.2.2.2 dr pa cnt wl mm X.2.1 X.1 → ms_fb noE n G K → K n = some (.inl (0, cnt, .inl f)) → jPS (jbR cnt pa X.1) (nbR cnt nr X.2.2.1 X.1) cnt f0 i k b9 f → (∀ (K : ms_H) (f : Nat → Int32) (b9 : Int32), md_at K m aw am ai ah W H th X.2.2.2 dr pa cnt wl mm X.2.1 X.1 → ms_fb noE n G K → K n = some (.inl (0, cnt, .inl f)) → jPS (jbR cnt pa X.1) (nbR cnt nr X.2.2.1 X.1) cnt f0 (i + 1) 0 b9 f → ms_W false m_X6_jams P 170 [(0, .ref m), (1, .ref n), (2, .int b9), (3, .int (nI i))] [] (n + 1) K 0 0) →  ms_W false m_X6_jams (P) 78 [(0, .ref m), (1, .ref n), (2, .int b9), (3, .int (nI i)), (4, .int (nI k))] [] (n + 1) K 0 0 := by
  have hl9 := hl
  obtain ⟨l1, l2, l3, l4, l5⟩ := hl
  obtain ⟨n1, n2, n3, n4, n5, n6, n7, n8, n9, n10⟩ := hne
  have h196 := fd_196 hW hH
  intro r
  induction r with
  | zero =>
    intro k hk K f b9 hM9 hF hr hps kk
    have hkN : k = 4 := by omega
    have hM8 := hM9
    obtain ⟨hm, hw_, hk_, ⟨it, hi_, hit⟩, hh_⟩ := hM8
    refine ms_run (pc' := 81) (lv' := [(0, .ref m), (1, .ref n), (2, .int b9), (3, .int (nI i)), (4, .int (nI k))]) (st' := [.int 4, .int (nI k)]) _ (ms_deC dX6_jams_78 (ms_deC dX6_jams_80 ms_deN)) rfl rfl ?_
    refine ms_icmp_ge (tgt := 170) dX6_jams_81 (by decide) (fun h_81 => ?_) (fun h_81 => ?_)
    · skip
      refine ms_W.sub (lv2 := [(0, _), (1, _), (2, _), (3, _)]) ?_ [0, 1, 2, 3] rfl
      exact kk K f b9 hM9 hF hr (hps.row (Or.inl (by omega)))
    · skip
      exact absurd (by show nI 4 ≤ nI k; exact nI_le (b := k) (by omega) (by omega)) h_81
  | succ r ih =>
    intro k hk K f b9 hM9 hF hr hps kk
    have hlt : k < 4 := by omega
    have hM8 := hM9
    obtain ⟨hm, hw_, hk_, ⟨it, hi_, hit⟩, hh_⟩ := hM8
    refine ms_run (pc' := 81) (lv' := [(0, .ref m), (1, .ref n), (2, .int b9), (3, .int (nI i)), (4, .int (nI k))]) (st' := [.int 4, .int (nI k)]) _ (ms_deC dX6_jams_78 (ms_deC dX6_jams_80 ms_deN)) rfl rfl ?_
    refine ms_icmp_ge (tgt := 170) dX6_jams_81 (by decide) (fun h_81 => ?_) (fun h_81 => ?_)
    · skip
      exact absurd h_81 (by show ¬ nI 4 ≤ nI k; exact nI_ge (b := 4) (by omega) (by omega))
    · skip
      refine ms_run (pc' := 86) (lv' := [(0, .ref m), (1, .ref n), (2, .int b9), (3, .int (nI i)), (4, .int (nI k))]) (st' := [.int (nI i), .ref n]) _ (ms_deC dX6_jams_84 (ms_deC dX6_jams_85 ms_deN)) rfl rfl ?_
      refine ms_iaload dX6_jams_86 hr (vp_in_nI (by omega) (by omega)) ?_
      rw [nI_clamp (n := i) (by omega)]
      refine ms_run (pc' := 88) (lv' := [(0, .ref m), (1, .ref n), (2, .int b9), (3, .int (nI i)), (4, .int (nI k))]) (st' := [.int (-1), .int (f i)]) _ (ms_deC dX6_jams_87 ms_deN) rfl rfl ?_
      refine ms_icmp_eq (tgt := 170) dX6_jams_88 (by decide) (fun h_88 => ?_) (fun h_88 => ?_)
      · skip
        refine ms_W.sub (lv2 := [(0, _), (1, _), (2, _), (3, _)]) ?_ [0, 1, 2, 3] rfl
        exact kk K f b9 hM9 hF hr (hps.row (Or.inr (by rcases hps.1 i hi9 with z9 | ⟨z9, v, v1, v2, -, -⟩; exact z9.1; rw [v2] at h_88; exact absurd h_88 (nI_m1 (by omega)))))
      · skip
        refine ms_run (pc' := 93) (lv' := [(0, .ref m), (1, .ref n), (2, .int b9), (3, .int (nI i)), (4, .int (nI k))]) (st' := [.ref m, .ref m]) _ (ms_deC dX6_jams_91 (ms_deC dX6_jams_92 ms_deN)) rfl rfl ?_
        refine ms_getf dX6_jams_93 fg_X6_39 hm rfl ?_
        refine ms_run (pc' := 102) (lv' := [(0, .ref m), (1, .ref n), (2, .int b9), (3, .int (nI i)), (4, .int (nI k))]) (st' := [.int (((nI i) * 8) + 3), .ref ai, .ref m]) _ (ms_deC dX6_jams_96 (ms_deC dX6_jams_97 (ms_deC dX6_jams_99 (ms_deC dX6_jams_100 (ms_deC dX6_jams_101 ms_deN))))) rfl rfl ?_
        refine ms_iaload dX6_jams_102 hi_ (md_in (k := i) (j := 3) (Nat.lt_of_lt_of_le hi9 hc) (by omega)) ?_
        obtain ⟨jb1, jb2⟩ := (hps.1 i hi9).resolve_left (fun z9 => h_88 z9.2)
        obtain ⟨own, ho, hpo⟩ := pos_of hW hH hV.2.1 hi9 (of_decide_eq_true jb1).2.1
        rw [show it (((nI i) * 8) + 3).toNatClampNeg = X.1 i 3 from md_it (k := i) (j := 3) hit hi9 hc (by omega)]
        rw [hpo]
        refine ms_run (pc' := 105) (lv' := [(0, .ref m), (1, .ref n), (2, .int b9), (3, .int (nI i)), (4, .int (nI k))]) (st' := [.int (nI k), .int (nI own), .ref m]) _ (ms_deC dX6_jams_103 ms_deN) rfl rfl ?_
        refine ms_callVp (As := [.int (nI own), .int (nI k)]) dX6_jams_105 (c_X6_beside ⟨hm, hw_, hk_, ⟨it, hi_, hit⟩, hh_⟩ hW hH hc hW0 hL ho (s := k) hlt) cv_X6_70 hm rfl ⟨Nat.le_of_ble_eq_true rfl, Nat.le_of_ble_eq_true rfl⟩ rfl (Nat.le_of_ble_eq_true rfl) ?_
        refine ms_run (pc' := 113) (lv' := [(5, .int (nbX nr own k)), (0, .ref m), (1, .ref n), (2, .int b9), (3, .int (nI i)), (4, .int (nI k))]) (st' := [.int (-1), .int (nbX nr own k)]) _ (ms_deC dX6_jams_108 (ms_deC dX6_jams_110 (ms_deC dX6_jams_112 ms_deN))) rfl rfl ?_
        refine ms_icmp_ne (tgt := 120) dX6_jams_113 (by decide) (fun h_113 => ?_) (fun h_113 => ?_)
        · skip
          obtain ⟨q, hq, hqe⟩ := (nbX_val hL ho hW hH (s := k) (by omega)).resolve_left h_113
          rw [hqe]
          refine ms_run (pc' := 123) (lv' := [(5, .int (nI q)), (0, .ref m), (1, .ref n), (2, .int b9), (3, .int (nI i)), (4, .int (nI k))]) (st' := [.int (nI q), .ref m]) _ (ms_deC dX6_jams_120 (ms_deC dX6_jams_121 ms_deN)) rfl rfl ?_
          refine ms_callVp (As := [.int (nI q)]) dX6_jams_123 (c_X6_walkerOn ⟨hm, hw_, hk_, ⟨it, hi_, hit⟩, hh_⟩ hW hH hc hV.1 hq) cv_X6_88 hm rfl ⟨Nat.le_of_ble_eq_true rfl, Nat.le_of_ble_eq_true rfl⟩ rfl (Nat.le_of_ble_eq_true rfl) ?_
          refine ms_run (pc' := 131) (lv' := [(6, .int (X.2.2.1 q)), (5, .int (nI q)), (0, .ref m), (1, .ref n), (2, .int b9), (3, .int (nI i)), (4, .int (nI k))]) (st' := [.int (-1), .int (X.2.2.1 q)]) _ (ms_deC dX6_jams_126 (ms_deC dX6_jams_128 (ms_deC dX6_jams_130 ms_deN))) rfl rfl ?_
          refine ms_icmp_eq (tgt := 164) dX6_jams_131 (by decide) (fun h_131 => ?_) (fun h_131 => ?_)
          · skip
            refine ms_run (pc' := 167) (lv' := [(4, .int ((nI k) + 1)), (6, .int (X.2.2.1 q)), (5, .int (nI q)), (0, .ref m), (1, .ref n), (2, .int b9), (3, .int (nI i))]) (st' := []) _ (ms_deC dX6_jams_164 ms_deN) rfl rfl ?_
            refine ms_goto (tgt := 78) dX6_jams_167 (by decide) ?_
            rw [nI_1 k]
            refine ms_W.sub (lv2 := [(0, _), (1, _), (2, _), (3, _), (4, _)]) ?_ [3, 4, 5, 6, 0] rfl
            exact ih (k + 1) (by omega) K f b9 ⟨hm, hw_, hk_, ⟨it, hi_, hit⟩, hh_⟩ hF hr (hps.skip (fun o z1 z2 z3 => by rw [nbR_own hi9 hpo, hqe, cr_onI X.2.2.1 (by omega), h_131] at z3; exact absurd z3.symm (nI_m1 (by have := jbR_lt o z2; omega)))) kk
          · skip
            obtain ⟨o, ho9, hoe, hop, -⟩ := (hV.1 q hq).resolve_left (fun z9 => h_131 z9.1)
            rw [hoe]
            have hnb : (nbR cnt nr X.2.2.1 X.1) i k = nI o := by rw [nbR_own hi9 hpo, hqe, cr_onI X.2.2.1 (by omega), hoe]
            refine ms_run (pc' := 137) (lv' := [(6, .int (nI o)), (5, .int (nI q)), (0, .ref m), (1, .ref n), (2, .int b9), (3, .int (nI i)), (4, .int (nI k))]) (st' := [.int (nI o), .ref n]) _ (ms_deC dX6_jams_134 (ms_deC dX6_jams_135 ms_deN)) rfl rfl ?_
            refine ms_iaload dX6_jams_137 hr (vp_in_nI (by omega) (by omega)) ?_
            rw [nI_clamp (n := o) (by omega)]
            refine ms_run (pc' := 139) (lv' := [(6, .int (nI o)), (5, .int (nI q)), (0, .ref m), (1, .ref n), (2, .int b9), (3, .int (nI i)), (4, .int (nI k))]) (st' := [.int (-1), .int (f o)]) _ (ms_deC dX6_jams_138 ms_deN) rfl rfl ?_
            refine ms_icmp_eq (tgt := 164) dX6_jams_139 (by decide) (fun h_139 => ?_) (fun h_139 => ?_)
            · skip
              refine ms_run (pc' := 167) (lv' := [(4, .int ((nI k) + 1)), (6, .int (nI o)), (5, .int (nI q)), (0, .ref m), (1, .ref n), (2, .int b9), (3, .int (nI i))]) (st' := []) _ (ms_deC dX6_jams_164 ms_deN) rfl rfl ?_
              refine ms_goto (tgt := 78) dX6_jams_167 (by decide) ?_
              rw [nI_1 k]
              refine ms_W.sub (lv2 := [(0, _), (1, _), (2, _), (3, _), (4, _)]) ?_ [3, 4, 5, 6, 0] rfl
              exact ih (k + 1) (by omega) K f b9 ⟨hm, hw_, hk_, ⟨it, hi_, hit⟩, hh_⟩ hF hr (hps.skip (fun o2 z1 z2 z3 => by rw [hnb] at z3; have := jbR_lt o2 z2; have := (nI_eq (by omega) (by omega)).mp z3; subst this; exact absurd h_139 (by obtain ⟨-, v, v1, v2, -, -⟩ := (hps.1 o ho9).resolve_left (fun z9 => by rw [z2] at z9; exact absurd z9.1.symm Bool.false_ne_true); rw [v2]; exact nI_m1 (by omega)))) kk
            · skip
              have jbo : (jbR cnt pa X.1) o = true := ((hps.1 o ho9).resolve_left (fun z9 => h_139 z9.2)).1
              refine ms_run (pc' := 145) (lv' := [(6, .int (nI o)), (5, .int (nI q)), (0, .ref m), (1, .ref n), (2, .int b9), (3, .int (nI i)), (4, .int (nI k))]) (st' := [.int (nI o), .ref n]) _ (ms_deC dX6_jams_142 (ms_deC dX6_jams_143 ms_deN)) rfl rfl ?_
              refine ms_iaload dX6_jams_145 hr (vp_in_nI (by omega) (by omega)) ?_
              rw [nI_clamp (n := o) (by omega)]
              refine ms_run (pc' := 148) (lv' := [(6, .int (nI o)), (5, .int (nI q)), (0, .ref m), (1, .ref n), (2, .int b9), (3, .int (nI i)), (4, .int (nI k))]) (st' := [.int (nI i), .ref n, .int (f o)]) _ (ms_deC dX6_jams_146 (ms_deC dX6_jams_147 ms_deN)) rfl rfl ?_
              refine ms_iaload dX6_jams_148 hr (vp_in_nI (by omega) (by omega)) ?_
              rw [nI_clamp (n := i) (by omega)]
              refine ms_icmp_lt (tgt := 155) dX6_jams_149 (by decide) (fun h_149 => ?_) (fun h_149 => ?_)
              · skip
                refine ms_run (pc' := 160) (lv' := [(6, .int (nI o)), (5, .int (nI q)), (0, .ref m), (1, .ref n), (2, .int b9), (3, .int (nI i)), (4, .int (nI k))]) (st' := [.int (nI o), .ref n, .int (nI i), .ref n]) _ (ms_deC dX6_jams_155 (ms_deC dX6_jams_156 (ms_deC dX6_jams_157 (ms_deC dX6_jams_158 ms_deN)))) rfl rfl ?_
                refine ms_iaload dX6_jams_160 hr (vp_in_nI (by omega) (by omega)) ?_
                rw [nI_clamp (n := o) (by omega)]
                refine ms_iastore dX6_jams_161 hr (vp_in_nI (by omega) (by omega)) ?_
                rw [nI_clamp (n := i) (by omega)]
                obtain ⟨G_1, eG_1⟩ : ∃ K9 : ms_H, K9 = ms_up K n (.inl (0, cnt, .inl (upd f i (f o)))) := ⟨_, rfl⟩
                refine ms_W.heq eG_1 ?_
                have hF_2 : ms_fb noE n G G_1 := by rw [eG_1]; exact ms_fb.up hF (by first | exact Or.inl (by omega) | exact Or.inr rfl | exact Or.inr (Or.inl rfl) | exact Or.inr (Or.inr (Or.inl rfl)) | exact Or.inr (Or.inr (Or.inr rfl)) | exact Or.inr (Or.inr rfl) | exact Or.inr (Or.inr (Or.inr (Or.inl rfl))) | exact Or.inr (Or.inr (Or.inr (Or.inr (Or.inl rfl)))) | exact Or.inr (Or.inr (Or.inr (Or.inr (Or.inr rfl)))))
                have hf_3 := (congrFun eG_1 m).trans ((ms_up_n K _ (by omega)).trans hm)
                have hf_4 := (congrFun eG_1 aw).trans ((ms_up_n K _ (by omega)).trans hw_)
                have hf_5 := (congrFun eG_1 am).trans ((ms_up_n K _ (by omega)).trans hk_)
                have hf_6 := (congrFun eG_1 ai).trans ((ms_up_n K _ (by omega)).trans hi_)
                have hf_7 := (congrFun eG_1 ah).trans ((ms_up_n K _ (by omega)).trans hh_)
                have hf_8 : G_1 n = some (.inl (0, cnt, .inl (upd f i (f o)))) := by rw [eG_1]; exact ms_up_s _ _ _
                refine ms_run (pc' := 167) (lv' := [(4, .int ((nI k) + 1)), (2, .int 1), (6, .int (nI o)), (5, .int (nI q)), (0, .ref m), (1, .ref n), (3, .int (nI i))]) (st' := []) _ (ms_deC dX6_jams_162 (ms_deC dX6_jams_163 (ms_deC dX6_jams_164 ms_deN))) rfl rfl ?_
                refine ms_goto (tgt := 78) dX6_jams_167 (by decide) ?_
                rw [nI_1 k]
                refine ms_W.sub (lv2 := [(0, _), (1, _), (2, _), (3, _), (4, _)]) ?_ [4, 5, 1, 6, 0] rfl
                exact ih (k + 1) (by omega) G_1 (upd f i (f o)) 1 ⟨hf_3, hf_4, hf_5, ⟨it, hf_6, hit⟩, hf_7⟩ hF_2 hf_8 (jPS.put hc hi9 ho9 hps (jE_sy hL hW hH hc hV.1 hV.2.1 _ _ ⟨jb1, jbo, k, hlt, hnb⟩) h_149) kk
              · skip
                refine ms_goto (tgt := 164) dX6_jams_152 (by decide) ?_
                refine ms_run (pc' := 167) (lv' := [(4, .int ((nI k) + 1)), (6, .int (nI o)), (5, .int (nI q)), (0, .ref m), (1, .ref n), (2, .int b9), (3, .int (nI i))]) (st' := []) _ (ms_deC dX6_jams_164 ms_deN) rfl rfl ?_
                refine ms_goto (tgt := 78) dX6_jams_167 (by decide) ?_
                rw [nI_1 k]
                refine ms_W.sub (lv2 := [(0, _), (1, _), (2, _), (3, _), (4, _)]) ?_ [3, 4, 5, 6, 0] rfl
                exact ih (k + 1) (by omega) K f b9 ⟨hm, hw_, hk_, ⟨it, hi_, hit⟩, hh_⟩ hF hr (hps.skip (fun o2 z1 z2 z3 => by rw [hnb] at z3; have := jbR_lt o2 z2; have := (nI_eq (by omega) (by omega)).mp z3; subst this; exact h_149)) kk
        · skip
          refine ms_run (pc' := 117) (lv' := [(5, .int (nbX nr own k)), (0, .ref m), (1, .ref n), (2, .int b9), (3, .int (nI i)), (4, .int (nI k))]) (st' := [.int (-1)]) _ (ms_deC dX6_jams_116 ms_deN) rfl rfl ?_
          refine ms_goto (tgt := 126) dX6_jams_117 (by decide) ?_
          refine ms_run (pc' := 131) (lv' := [(6, .int (-1)), (5, .int (nbX nr own k)), (0, .ref m), (1, .ref n), (2, .int b9), (3, .int (nI i)), (4, .int (nI k))]) (st' := [.int (-1), .int (-1)]) _ (ms_deC dX6_jams_126 (ms_deC dX6_jams_128 (ms_deC dX6_jams_130 ms_deN))) rfl rfl ?_
          refine ms_icmp_eq (tgt := 164) dX6_jams_131 (by decide) (fun _ => ?_) (fun h9 => absurd h9 (by decide))
          refine ms_run (pc' := 167) (lv' := [(4, .int ((nI k) + 1)), (6, .int (-1)), (5, .int (nbX nr own k)), (0, .ref m), (1, .ref n), (2, .int b9), (3, .int (nI i))]) (st' := []) _ (ms_deC dX6_jams_164 ms_deN) rfl rfl ?_
          refine ms_goto (tgt := 78) dX6_jams_167 (by decide) ?_
          rw [nI_1 k]
          refine ms_W.sub (lv2 := [(0, _), (1, _), (2, _), (3, _), (4, _)]) ?_ [3, 4, 5, 6, 0] rfl
          exact ih (k + 1) (by omega) K f b9 ⟨hm, hw_, hk_, ⟨it, hi_, hit⟩, hh_⟩ hF hr (hps.skip (fun o z1 z2 z3 => by rw [nbR_own hi9 hpo, h_113] at z3; exact absurd z3.symm (nI_m1 (by have := jbR_lt o z2; omega)))) kk
set_option maxHeartbeats 1000000 in
set_option maxRecDepth 20000 in
theorem l2_X6_jams {n m aw am ai ah W H cnt N : Nat} {G : ms_H} {th dr pa : Int32} {wl mm : Nat → Int32} {X : cX} {nr mk ds : Nat → Int32} (hl : md_lt n m aw am ai ah) (hW : W ≤ 14) (hH : H ≤ 14) (hW0 : 0 < W) (hc : cnt ≤ 24) (hne : md_ne m aw am ai ah) (hL : lk_ok W H (W * H) nr) (hmm : mmR (W * H) mk mm) (hds : dsR (W * H) nr wl mk ds) (hd : 0 ≤ dr ∧ dr ≤ 9) (hN : N < 1000000) (hV : wdV W H cnt N X) {P : ms_P} {f0 : Nat → Int32} : ∀ (r k : Nat), k + r = cnt → ∀ (K : ms_H) (f : Nat → Int32) (b9 : Int32), md_at K m aw am ai ah W H th X.2.2.2 dr pa cnt wl mm X.2.1 X.1 → ms_fb noE n G K → K n = some (.inl (0, cnt, .inl f)) → jPS (jbR cnt pa X.1) (nbR cnt nr X.2.2.1 X.1) cnt f0 k 0 b9 f → (∀ (K : ms_H) (f : Nat → Int32) (b9 : Int32), md_at K m aw am ai ah W H th X.2.2.2 dr pa cnt wl mm X.2.1 X.1 → ms_fb noE n G K → K n = some (.inl (0, cnt, .inl f)) → jPS (jbR cnt pa X.1) (nbR cnt nr X.2.2.1 X.1) cnt f0 cnt 0 b9 f → ms_W false m_X6_jams P 176 [(0, .ref m), (1, .ref n), (2, .int b9)] [] (n + 1) K 0 0) →  ms_W false m_X6_jams (P) 67 [(0, .ref m), (1, .ref n), (2, .int b9), (3, .int (nI k))] [] (n + 1) K 0 0 := by
  have hne9 := hne
  have hl9 := hl
  obtain ⟨l1, l2, l3, l4, l5⟩ := hl
  obtain ⟨n1, n2, n3, n4, n5, n6, n7, n8, n9, n10⟩ := hne
  have h196 := fd_196 hW hH
  intro r
  induction r with
  | zero =>
    intro k hk K f b9 hM9 hF hr hps kk
    have hkN : k = cnt := by omega
    have hM8 := hM9
    obtain ⟨hm, hw_, hk_, ⟨it, hi_, hit⟩, hh_⟩ := hM8
    refine ms_run (pc' := 69) (lv' := [(0, .ref m), (1, .ref n), (2, .int b9), (3, .int (nI k))]) (st' := [.ref m, .int (nI k)]) _ (ms_deC dX6_jams_67 (ms_deC dX6_jams_68 ms_deN)) rfl rfl ?_
    refine ms_getf dX6_jams_69 fg_X6_36 hm rfl ?_
    refine ms_icmp_ge (tgt := 176) dX6_jams_72 (by decide) (fun h_72 => ?_) (fun h_72 => ?_)
    · skip
      refine ms_W.sub (lv2 := [(0, _), (1, _), (2, _)]) ?_ [0, 1, 2] rfl
      rw [hkN] at hps
      exact kk K f b9 hM9 hF hr hps
    · skip
      exact absurd (by exact nI_le (b := k) (by omega) (by omega)) h_72
  | succ r ih =>
    intro k hk K f b9 hM9 hF hr hps kk
    have hlt : k < cnt := by omega
    have hM8 := hM9
    obtain ⟨hm, hw_, hk_, ⟨it, hi_, hit⟩, hh_⟩ := hM8
    refine ms_run (pc' := 69) (lv' := [(0, .ref m), (1, .ref n), (2, .int b9), (3, .int (nI k))]) (st' := [.ref m, .int (nI k)]) _ (ms_deC dX6_jams_67 (ms_deC dX6_jams_68 ms_deN)) rfl rfl ?_
    refine ms_getf dX6_jams_69 fg_X6_36 hm rfl ?_
    refine ms_icmp_ge (tgt := 176) dX6_jams_72 (by decide) (fun h_72 => ?_) (fun h_72 => ?_)
    · skip
      exact absurd h_72 (by exact nI_ge (b := cnt) (by omega) (by omega))
    · skip
      refine ms_run (pc' := 78) (lv' := [(4, .int 0), (0, .ref m), (1, .ref n), (2, .int b9), (3, .int (nI k))]) (st' := []) _ (ms_deC dX6_jams_75 (ms_deC dX6_jams_76 ms_deN)) rfl rfl ?_
      refine ms_W.sub (lv2 := [(0, _), (1, _), (2, _), (3, _), (4, _)]) ?_ [1, 2, 3, 4, 0] rfl
      refine l3_X6_jams hl9 hW hH hW0 hc hne9 hL hmm hds hd hN hV hlt 4 0 (by omega) K f b9 hM9 hF hr hps (fun K2 f2 b2 hM2 hF2 hr2 hps2 => ?_)
      refine ms_run (pc' := 173) (lv' := [(3, .int ((nI k) + 1)), (0, .ref m), (1, .ref n), (2, .int b2)]) (st' := []) _ (ms_deC dX6_jams_170 ms_deN) rfl rfl ?_
      refine ms_goto (tgt := 67) dX6_jams_173 (by decide) ?_
      rw [nI_1 k]
      refine ms_W.sub (lv2 := [(0, _), (1, _), (2, _), (3, _)]) ?_ [1, 2, 3, 0] rfl
      exact ih (k + 1) (by omega) K2 f2 b2 hM2 hF2 hr2 hps2 kk
set_option maxHeartbeats 1000000 in
set_option maxRecDepth 20000 in
theorem l0_X6_jams {n m aw am ai ah W H cnt N : Nat} {G : ms_H} {th dr pa : Int32} {wl mm : Nat → Int32} {X : cX} {nr mk ds : Nat → Int32} (hl : md_lt n m aw am ai ah) (hW : W ≤ 14) (hH : H ≤ 14) (hW0 : 0 < W) (hc : cnt ≤ 24) (hne : md_ne m aw am ai ah) (hL : lk_ok W H (W * H) nr) (hmm : mmR (W * H) mk mm) (hds : dsR (W * H) nr wl mk ds) (hd : 0 ≤ dr ∧ dr ≤ 9) (hN : N < 1000000) (hV : wdV W H cnt N X) {P : ms_P} (kk : (∀ (K : ms_H) (f : Nat → Int32), md_at K m aw am ai ah W H th X.2.2.2 dr pa cnt wl mm X.2.1 X.1 → ms_fb noE n G K → K n = some (.inl (0, cnt, .inl f)) → jI (jbR cnt pa X.1) (nbR cnt nr X.2.2.1 X.1) cnt f → (∀ i s, i < cnt → s < 4 → okJ (jbR cnt pa X.1) (nbR cnt nr X.2.2.1 X.1) f i s) → ms_W false m_X6_jams P 179 [(0, .ref m), (1, .ref n)] [] (n + 1) K 0 0)) : ∀ M, ∀ (K : ms_H) (f : Nat → Int32), md_at K m aw am ai ah W H th X.2.2.2 dr pa cnt wl mm X.2.1 X.1 → ms_fb noE n G K → K n = some (.inl (0, cnt, .inl f)) → jI (jbR cnt pa X.1) (nbR cnt nr X.2.2.1 X.1) cnt f →  jS f cnt < M → ms_W false m_X6_jams P 59 [(0, .ref m), (1, .ref n), (2, .int 1)] [] (n + 1) K 0 0 := by
  have hne9 := hne
  have hl9 := hl
  intro M
  induction M with
  | zero => exact fun K f _ _ _ _ h => absurd h (Nat.not_lt_zero _)
  | succ M ih =>
    intro K f hM9 hF hr hji hms
    refine ms_run (pc' := 60) (lv' := [(0, .ref m), (1, .ref n), (2, .int 1)]) (st' := [.int 1]) _ (ms_deC dX6_jams_59 ms_deN) rfl rfl ?_
    refine ms_if_eq (tgt := 179) dX6_jams_60 (by decide) (fun h9 => absurd h9 (by decide)) (fun _ => ?_)
    refine ms_run (pc' := 67) (lv' := [(3, .int 0), (2, .int 0), (0, .ref m), (1, .ref n)]) (st' := []) _ (ms_deC dX6_jams_63 (ms_deC dX6_jams_64 (ms_deC dX6_jams_65 (ms_deC dX6_jams_66 ms_deN)))) rfl rfl ?_
    refine ms_W.sub (lv2 := [(0, _), (1, _), (2, _), (3, _)]) ?_ [2, 3, 1, 0] rfl
    refine l2_X6_jams hl9 hW hH hW0 hc hne9 hL hmm hds hd hN hV cnt 0 (by omega) K f 0 hM9 hF hr (jPS.start hji) (fun K2 f2 b2 hM2 hF2 hr2 hps2 => ?_)
    obtain ⟨hji2, ⟨hb2, hff, hok⟩ | ⟨hb2, hlt2⟩⟩ := hps2
    · subst hb2
      refine ms_goto (tgt := 59) dX6_jams_176 (by decide) ?_
      refine ms_run (pc' := 60) (lv' := [(0, .ref m), (1, .ref n), (2, .int 0)]) (st' := [.int 0]) _ (ms_deC dX6_jams_59 ms_deN) rfl rfl ?_
      refine ms_if_eq (tgt := 179) dX6_jams_60 (by decide) (fun _ => ?_) (fun h9 => absurd h9 (by decide))
      refine ms_W.sub (lv2 := [(0, _), (1, _)]) ?_ [0, 1] rfl
      exact kk K2 f2 hM2 hF2 hr2 hji2 (fun i s hi hs => hok i s hs (Or.inl hi))
    · subst hb2
      refine ms_goto (tgt := 59) dX6_jams_176 (by decide) ?_
      refine ms_W.sub (lv2 := [(0, _), (1, _), (2, _)]) ?_ [0, 1, 2] rfl
      exact ih K2 f2 hM2 hF2 hr2 hji2 (by omega)
set_option maxHeartbeats 1000000 in
set_option maxRecDepth 20000 in
theorem c_X6_jams {n m aw am ai ah W H cnt N : Nat} {G : ms_H} {th dr pa : Int32} {wl mm : Nat → Int32} {X : cX} {nr mk ds : Nat → Int32} (hM : md_at G m aw am ai ah W H th X.2.2.2 dr pa cnt wl mm X.2.1 X.1) (hl : md_lt n m aw am ai ah) (hW : W ≤ 14) (hH : H ≤ 14) (hW0 : 0 < W) (hc : cnt ≤ 24) (hne : md_ne m aw am ai ah) (hL : lk_ok W H (W * H) nr) (hmm : mmR (W * H) mk mm) (hds : dsR (W * H) nr wl mk ds) (hd : 0 ≤ dr ∧ dr ≤ 9) (hN : N < 1000000) (hV : wdV W H cnt N X) : ms_M m_X6_jams [.ref m] n G 1 24 (fun r n1 G1 => r = .inl (some (.ref n)) ∧ n1 = n + 1 ∧ ms_fb noE n G G1 ∧ ∃ (f : Nat → Int32) (L : Nat → Nat), G1 n = some (.inl (0, cnt, .inl f)) ∧ jL (jbR cnt pa X.1) (nbR cnt nr X.2.2.1 X.1) L ∧ ∀ k, k < cnt → f k = if (jbR cnt pa X.1) k = true then nI (L k) else -1) := by
  refine ms_M.of (by decide) (Nat.le_of_ble_eq_true rfl) ?_
  show ms_W false m_X6_jams _ 0 [(0, .ref m)] [] n G 1 24
  have hne9 := hne
  have hl9 := hl
  obtain ⟨hm, hw_, hk_, ⟨it, hi_, hit⟩, hh_⟩ := hM
  obtain ⟨l1, l2, l3, l4, l5⟩ := hl
  obtain ⟨n1, n2, n3, n4, n5, n6, n7, n8, n9, n10⟩ := hne
  have h196 := fd_196 hW hH
  have hF : ms_fb noE n G G := ms_fb.rf
  refine ms_run (pc' := 1) (lv' := [(0, .ref m)]) (st' := [.ref m]) _ (ms_deC dX6_jams_0 ms_deN) rfl rfl ?_
  refine ms_getf dX6_jams_1 fg_X6_36 hm rfl ?_
  refine ms_W.room (k2 := 1 + 0) (z2 := cnt + 0) ?_ (by omega) (by omega)
  refine ms_newI (N := cnt) dX6_jams_4 aw_int (nI_pos (by omega)) (nI_clamp (by omega)) (by omega) ?_
  obtain ⟨G_1, eG_1⟩ : ∃ K9 : ms_H, K9 = ms_up G n (.inl (0, cnt, .inl (fun _ => 0))) := ⟨_, rfl⟩
  refine ms_W.heq eG_1 ?_
  have hF_2 : ms_fb noE n G G_1 := by rw [eG_1]; exact ms_fb.up hF (by first | exact Or.inl (by omega) | exact Or.inr rfl | exact Or.inr (Or.inl rfl) | exact Or.inr (Or.inr (Or.inl rfl)) | exact Or.inr (Or.inr (Or.inr rfl)) | exact Or.inr (Or.inr rfl) | exact Or.inr (Or.inr (Or.inr (Or.inl rfl))) | exact Or.inr (Or.inr (Or.inr (Or.inr (Or.inl rfl)))) | exact Or.inr (Or.inr (Or.inr (Or.inr (Or.inr rfl)))))
  have hf_3 := (congrFun eG_1 m).trans ((ms_up_n G _ (by omega)).trans hm)
  have hf_4 := (congrFun eG_1 aw).trans ((ms_up_n G _ (by omega)).trans hw_)
  have hf_5 := (congrFun eG_1 am).trans ((ms_up_n G _ (by omega)).trans hk_)
  have hf_6 := (congrFun eG_1 ai).trans ((ms_up_n G _ (by omega)).trans hi_)
  have hf_7 := (congrFun eG_1 ah).trans ((ms_up_n G _ (by omega)).trans hh_)
  have hf_8 : G_1 n = some (.inl (0, cnt, .inl (fun _ => 0))) := by rw [eG_1]; exact ms_up_s _ _ _
  refine ms_run (pc' := 9) (lv' := [(2, .int 0), (1, .ref n), (0, .ref m)]) (st' := []) _ (ms_deC dX6_jams_6 (ms_deC dX6_jams_7 (ms_deC dX6_jams_8 ms_deN))) rfl rfl ?_
  refine ms_W.sub (lv2 := [(0, _), (1, _), (2, _)]) ?_ [2, 1, 0] rfl
  refine l1_X6_jams (G := G) hl9 hW hH hW0 hc hne9 hL hmm hds hd hN hV cnt 0 (by omega) G_1 ⟨hf_3, hf_4, hf_5, ⟨it, hf_6, hit⟩, hf_7⟩ hF_2 (by rw [fl2_0]; exact hf_8) (fun K1 hM1 hF1 hr1 => ?_)
  refine ms_run (pc' := 59) (lv' := [(2, .int 1), (0, .ref m), (1, .ref n)]) (st' := []) _ (ms_deC dX6_jams_57 (ms_deC dX6_jams_58 ms_deN)) rfl rfl ?_
  refine ms_W.sub (lv2 := [(0, _), (1, _), (2, _)]) ?_ [1, 2, 0] rfl
  refine l0_X6_jams (G := G) hl9 hW hH hW0 hc hne9 hL hmm hds hd hN hV (fun K f hM2 hF2 hr2 hji hok => ?_) _ K1 _ hM1 hF1 hr1 jI_ini (Nat.lt_succ_self _)
  refine ms_run (pc' := 180) (lv' := [(0, .ref m), (1, .ref n)]) (st' := [.ref n]) _ (ms_deC dX6_jams_179 ms_deN) rfl rfl ?_
  refine ms_reta (st := []) (v := .ref n) dX6_jams_180 rfl (Or.inr ⟨_, rfl⟩) (Or.inr ⟨_, rfl⟩) ?_
  have hj := jL_of hc jbR_lt (jE_sy hL hW hH hc hV.1 hV.2.1) hji hok
  exact ⟨rfl, rfl, hF2, f, _, hr2, hj.1, hj.2⟩

/-! the model: outWith -/
set_option maxHeartbeats 1000000 in
set_option maxRecDepth 20000 in
theorem c_X6_outWith {n m aw am ai ah W H cnt N : Nat} {G : ms_H} {th dr pa : Int32} {wl mm : Nat → Int32} {X : cX} {nr mk ds : Nat → Int32} (hM : md_at G m aw am ai ah W H th X.2.2.2 dr pa cnt wl mm X.2.1 X.1) (hl : md_lt n m aw am ai ah) (hW : W ≤ 14) (hH : H ≤ 14) (hW0 : 0 < W) (hc : cnt ≤ 24) (hne : md_ne m aw am ai ah) (hL : lk_ok W H (W * H) nr) (hmm : mmR (W * H) mk mm) (hds : dsR (W * H) nr wl mk ds) (hd : 0 ≤ dr ∧ dr ≤ 9) (hN : N < 1000000) (hV : wdV W H cnt N X) (hN2 : N < 100000) (tt dd : Int32) : ms_M m_X6_outWith [.ref m, .int tt, .int dd] n G 193 6285 (mq_P n G (E5 m aw am ai ah) (th_ahd tt dd) (fun _ => 1) (.int (nI (ct (pOut (stXn (nI (W * H)) nr mk ds cnt dd X tt.toNatClampNeg).1) cnt))) (fun t G1 => md_at G1 m aw am ai ah W H t X.2.2.2 dr pa cnt wl mm X.2.1 X.1) (fun G1 => md_at G1 m aw am ai ah W H 0 X.2.2.2 dr pa cnt wl mm X.2.1 X.1)) := by
  refine ms_M.of (by decide) (Nat.le_of_ble_eq_true rfl) ?_
  show ms_W false m_X6_outWith _ 0 [(0, .ref m), (1, .int tt), (2, .int dd)] [] n G 193 6285
  have hl9 := hl
  have hne9 := hne
  obtain ⟨hm, hw_, hk_, ⟨it, hi_, hit⟩, hh_⟩ := hM
  obtain ⟨l1, l2, l3, l4, l5⟩ := hl
  obtain ⟨n1, n2, n3, n4, n5, n6, n7, n8, n9, n10⟩ := hne
  have h196 := fd_196 hW hH
  have hF : ms_fb (E5 m aw am ai ah) n G G := ms_fb.rf
  refine ms_run (pc' := 2) (lv' := [(0, .ref m), (1, .int tt), (2, .int dd)]) (st' := [.int 0, .ref m]) _ (ms_deC dX6_outWith_0 (ms_deC dX6_outWith_1 ms_deN)) rfl rfl ?_
  refine ms_putf dX6_outWith_2 fp_X6_46 hm (Nat.le_of_ble_eq_true rfl) rfl rfl ?_
  obtain ⟨G_1, eG_1⟩ : ∃ K9 : ms_H, K9 = ms_up G m (.inr (6, [.int 0, .int (nI W), .int (nI H), .int X.2.2.2, .int dr, .int pa, .ref aw, .ref am, .int (nI cnt), .ref ai, .ref ah])) := ⟨_, rfl⟩
  refine ms_W.heq eG_1 ?_
  have hF_2 : ms_fb (E5 m aw am ai ah) n G G_1 := by rw [eG_1]; exact ms_fb.up hF (by first | exact Or.inl (by omega) | exact Or.inr rfl | exact Or.inr (Or.inl rfl) | exact Or.inr (Or.inr (Or.inl rfl)) | exact Or.inr (Or.inr (Or.inr rfl)) | exact Or.inr (Or.inr rfl) | exact Or.inr (Or.inr (Or.inr (Or.inl rfl))) | exact Or.inr (Or.inr (Or.inr (Or.inr (Or.inl rfl)))) | exact Or.inr (Or.inr (Or.inr (Or.inr (Or.inr rfl)))))
  have hf_3 : G_1 m = some (.inr (6, [.int 0, .int (nI W), .int (nI H), .int X.2.2.2, .int dr, .int pa, .ref aw, .ref am, .int (nI cnt), .ref ai, .ref ah])) := by rw [eG_1]; exact ms_up_s _ _ _
  have hf_4 := (congrFun eG_1 aw).trans ((ms_up_n G _ (by omega)).trans hw_)
  have hf_5 := (congrFun eG_1 am).trans ((ms_up_n G _ (by omega)).trans hk_)
  have hf_6 := (congrFun eG_1 ai).trans ((ms_up_n G _ (by omega)).trans hi_)
  have hf_7 := (congrFun eG_1 ah).trans ((ms_up_n G _ (by omega)).trans hh_)
  refine ms_run (pc' := 9) (lv' := [(0, .ref m), (1, .int tt), (2, .int dd)]) (st' := [.int 60, .int 1, .int tt]) _ (ms_deC dX6_outWith_5 (ms_deC dX6_outWith_6 (ms_deC dX6_outWith_7 ms_deN))) rfl rfl ?_
  refine ms_callSp (As := [.int tt, .int 1, .int 60]) dX6_outWith_9 (c_X6_isIn tt 1 60) cs_X6_49 rfl ⟨Nat.le_of_ble_eq_true rfl, Nat.le_of_ble_eq_true rfl⟩ rfl (Nat.le_of_ble_eq_true rfl) ?_
  by_cases h1 : 1 ≤ tt ∧ tt ≤ 60
  · rw [show ms_b (1 ≤ tt ∧ tt ≤ 60) = 1 from if_pos h1]
    obtain ⟨T, hT, hTe⟩ := nI_of2 (M := 60) (n := 60) rfl (by rw [Int32.not_lt]; exact Int32.le_trans (by decide) h1.1) h1.2
    subst hTe
    rw [nI_clamp (n := T) (by omega)]
    refine ms_if_eq (tgt := 25) dX6_outWith_12 (by decide) (fun h9 => absurd h9 (by decide)) (fun _ => ?_)
    refine ms_run (pc' := 19) (lv' := [(0, .ref m), (1, .int (nI T)), (2, .int dd)]) (st' := [.int 9, .int 0, .int dd]) _ (ms_deC dX6_outWith_15 (ms_deC dX6_outWith_16 (ms_deC dX6_outWith_17 ms_deN))) rfl rfl ?_
    refine ms_callSp (As := [.int dd, .int 0, .int 9]) dX6_outWith_19 (c_X6_isIn dd 0 9) cs_X6_49 rfl ⟨Nat.le_of_ble_eq_true rfl, Nat.le_of_ble_eq_true rfl⟩ rfl (Nat.le_of_ble_eq_true rfl) ?_
    by_cases h2 : 0 ≤ dd ∧ dd ≤ 9
    · rw [show ms_b (0 ≤ dd ∧ dd ≤ 9) = 1 from if_pos h2]
      refine ms_if_ne (tgt := 31) dX6_outWith_22 (by decide) (fun _ => ?_) (fun h9 => absurd h9 (by decide))
      refine ms_run (pc' := 32) (lv' := [(0, .ref m), (1, .int (nI T)), (2, .int dd)]) (st' := [.ref m]) _ (ms_deC dX6_outWith_31 ms_deN) rfl rfl ?_
      refine ms_getf dX6_outWith_32 fg_X6_7 hf_3 rfl ?_
      refine ms_run (pc' := 38) (lv' := [(3, .int dr), (0, .ref m), (1, .int (nI T)), (2, .int dd)]) (st' := [.int dd, .ref m]) _ (ms_deC dX6_outWith_35 (ms_deC dX6_outWith_36 (ms_deC dX6_outWith_37 ms_deN))) rfl rfl ?_
      refine ms_putf dX6_outWith_38 fp_X6_7 hf_3 (Nat.le_of_ble_eq_true rfl) rfl rfl ?_
      obtain ⟨G_8, eG_8⟩ : ∃ K9 : ms_H, K9 = ms_up G_1 m (.inr (6, [.int 0, .int (nI W), .int (nI H), .int X.2.2.2, .int dd, .int pa, .ref aw, .ref am, .int (nI cnt), .ref ai, .ref ah])) := ⟨_, rfl⟩
      refine ms_W.heq eG_8 ?_
      have hF_9 : ms_fb (E5 m aw am ai ah) n G G_8 := by rw [eG_8]; exact ms_fb.up hF_2 (by first | exact Or.inl (by omega) | exact Or.inr rfl | exact Or.inr (Or.inl rfl) | exact Or.inr (Or.inr (Or.inl rfl)) | exact Or.inr (Or.inr (Or.inr rfl)) | exact Or.inr (Or.inr rfl) | exact Or.inr (Or.inr (Or.inr (Or.inl rfl))) | exact Or.inr (Or.inr (Or.inr (Or.inr (Or.inl rfl)))) | exact Or.inr (Or.inr (Or.inr (Or.inr (Or.inr rfl)))))
      have hf_10 : G_8 m = some (.inr (6, [.int 0, .int (nI W), .int (nI H), .int X.2.2.2, .int dd, .int pa, .ref aw, .ref am, .int (nI cnt), .ref ai, .ref ah])) := by rw [eG_8]; exact ms_up_s _ _ _
      have hf_11 := (congrFun eG_8 aw).trans ((ms_up_n G_1 _ (by omega)).trans hf_4)
      have hf_12 := (congrFun eG_8 am).trans ((ms_up_n G_1 _ (by omega)).trans hf_5)
      have hf_13 := (congrFun eG_8 ai).trans ((ms_up_n G_1 _ (by omega)).trans hf_6)
      have hf_14 := (congrFun eG_8 ah).trans ((ms_up_n G_1 _ (by omega)).trans hf_7)
      refine ms_run (pc' := 43) (lv' := [(3, .int dr), (0, .ref m), (1, .int (nI T)), (2, .int dd)]) (st' := [.int (nI T), .ref m]) _ (ms_deC dX6_outWith_41 (ms_deC dX6_outWith_42 ms_deN)) rfl rfl ?_
      refine ms_W.room (k2 := 193 + 0) (z2 := 6285 + 0) ?_ (by omega) (by omega)
      refine ms_callV (As := [.int (nI T)]) dX6_outWith_43 (c_X6_outBehind (show md_at G_8 m aw am ai ah W H 0 X.2.2.2 dd pa cnt wl mm X.2.1 X.1 from ⟨hf_10, hf_11, hf_12, ⟨it, hf_13, hit⟩, hf_14⟩) hl9 hW hH hW0 hc hne9 hL hmm hds h2 hN hV (T := T) (by omega) hT) cv_X6_161 hf_10 rfl ⟨Nat.le_of_ble_eq_true rfl, Nat.le_of_ble_eq_true rfl⟩ rfl (Nat.le_of_ble_eq_true rfl) (fun v9 n9 K_ob hp9 => ?_)
      obtain ⟨hv9, hn9, hF_ob, hM_ob⟩ := hp9
      cases hv9
      obtain ⟨hm2, hw2, hk2, ⟨it2, hi2, hit2⟩, hh2⟩ := id hM_ob
      have hF2 := ms_fb.trans2 hF_9 (hF_ob.mono (fun a h => Or.inl h)) (Nat.le_refl n)
      refine ms_run (pc' := 50) (lv' := [(4, .int (nI (ct (pOut (stXn (nI (W * H)) nr mk ds cnt dd X T).1) cnt))), (3, .int dr), (0, .ref m), (1, .int (nI T)), (2, .int dd)]) (st' := [.int dr, .ref m]) _ (ms_deC dX6_outWith_46 (ms_deC dX6_outWith_48 (ms_deC dX6_outWith_49 ms_deN))) rfl rfl ?_
      refine ms_putf dX6_outWith_50 fp_X6_7 hm2 (Nat.le_of_ble_eq_true rfl) rfl rfl ?_
      obtain ⟨G_15, eG_15⟩ : ∃ K9 : ms_H, K9 = ms_up K_ob m (.inr (6, [.int 0, .int (nI W), .int (nI H), .int X.2.2.2, .int dr, .int pa, .ref aw, .ref am, .int (nI cnt), .ref ai, .ref ah])) := ⟨_, rfl⟩
      refine ms_W.heq eG_15 ?_
      have hF2_16 : ms_fb (E5 m aw am ai ah) n G G_15 := by rw [eG_15]; exact ms_fb.up hF2 (by first | exact Or.inl (by omega) | exact Or.inr rfl | exact Or.inr (Or.inl rfl) | exact Or.inr (Or.inr (Or.inl rfl)) | exact Or.inr (Or.inr (Or.inr rfl)) | exact Or.inr (Or.inr rfl) | exact Or.inr (Or.inr (Or.inr (Or.inl rfl))) | exact Or.inr (Or.inr (Or.inr (Or.inr (Or.inl rfl)))) | exact Or.inr (Or.inr (Or.inr (Or.inr (Or.inr rfl)))))
      have hf_17 : G_15 m = some (.inr (6, [.int 0, .int (nI W), .int (nI H), .int X.2.2.2, .int dr, .int pa, .ref aw, .ref am, .int (nI cnt), .ref ai, .ref ah])) := by rw [eG_15]; exact ms_up_s _ _ _
      have hf_18 := (congrFun eG_15 aw).trans ((ms_up_n K_ob _ (by omega)).trans hw2)
      have hf_19 := (congrFun eG_15 am).trans ((ms_up_n K_ob _ (by omega)).trans hk2)
      have hf_20 := (congrFun eG_15 ai).trans ((ms_up_n K_ob _ (by omega)).trans hi2)
      have hf_21 := (congrFun eG_15 ah).trans ((ms_up_n K_ob _ (by omega)).trans hh2)
      refine ms_run (pc' := 55) (lv' := [(4, .int (nI (ct (pOut (stXn (nI (W * H)) nr mk ds cnt dd X T).1) cnt))), (3, .int dr), (0, .ref m), (1, .int (nI T)), (2, .int dd)]) (st' := [.int (nI (ct (pOut (stXn (nI (W * H)) nr mk ds cnt dd X T).1) cnt))]) _ (ms_deC dX6_outWith_53 ms_deN) rfl rfl ?_
      refine ms_reti (st := []) (ty := .int) dX6_outWith_55 rfl rfl ?_
      exact mq_P.ok (by unfold th_ahd; grind) (by omega) hF2_16 rfl ⟨hf_17, hf_18, hf_19, ⟨_, hf_20, hit2⟩, hf_21⟩
    · rw [show ms_b (0 ≤ dd ∧ dd ≤ 9) = 0 from if_neg h2]
      refine ms_if_ne (tgt := 31) dX6_outWith_22 (by decide) (fun h9 => absurd h9 (by decide)) (fun _ => ?_)
      refine ms_run (pc' := 27) (lv' := [(0, .ref m), (1, .int (nI T)), (2, .int dd)]) (st' := [.int 1, .ref m]) _ (ms_deC dX6_outWith_25 (ms_deC dX6_outWith_26 ms_deN)) rfl rfl ?_
      refine ms_callV0 (As := [.int 1]) dX6_outWith_27 (c_X6_no (show md_at G_1 m aw am ai ah W H 0 X.2.2.2 dr pa cnt wl mm X.2.1 X.1 from ⟨hf_3, hf_4, hf_5, ⟨it, hf_6, hit⟩, hf_7⟩) hne9 1) cv_X6_79 hf_3 rfl ⟨Nat.le_of_ble_eq_true rfl, Nat.le_of_ble_eq_true rfl⟩ rfl (Nat.le_of_ble_eq_true rfl) (fun v9 n9 K_no hp9 => ?_)
      obtain ⟨hv9, rfl, hF_no, hM_no⟩ := hp9
      cases hv9
      refine ms_reti (st := []) (ty := .int) dX6_outWith_30 rfl rfl ?_
      exact mq_P.no (show th_ahd _ _ = some IAE from by unfold th_ahd; grind) (by omega) (ms_fb.trans2 hF_2 (hF_no.mono (fun a h => Or.inl h)) (by omega)) rfl hM_no
  · rw [show ms_b (1 ≤ tt ∧ tt ≤ 60) = 0 from if_neg h1]
    refine ms_if_eq (tgt := 25) dX6_outWith_12 (by decide) (fun _ => ?_) (fun h9 => absurd h9 (by decide))
    refine ms_run (pc' := 27) (lv' := [(0, .ref m), (1, .int tt), (2, .int dd)]) (st' := [.int 1, .ref m]) _ (ms_deC dX6_outWith_25 (ms_deC dX6_outWith_26 ms_deN)) rfl rfl ?_
    refine ms_callV0 (As := [.int 1]) dX6_outWith_27 (c_X6_no (show md_at G_1 m aw am ai ah W H 0 X.2.2.2 dr pa cnt wl mm X.2.1 X.1 from ⟨hf_3, hf_4, hf_5, ⟨it, hf_6, hit⟩, hf_7⟩) hne9 1) cv_X6_79 hf_3 rfl ⟨Nat.le_of_ble_eq_true rfl, Nat.le_of_ble_eq_true rfl⟩ rfl (Nat.le_of_ble_eq_true rfl) (fun v9 n9 K_no hp9 => ?_)
    obtain ⟨hv9, rfl, hF_no, hM_no⟩ := hp9
    cases hv9
    refine ms_reti (st := []) (ty := .int) dX6_outWith_30 rfl rfl ?_
    exact mq_P.no (show th_ahd _ _ = some IAE from by unfold th_ahd; grind) (by omega) (ms_fb.trans2 hF_2 (hF_no.mono (fun a h => Or.inl h)) (by omega)) rfl hM_no

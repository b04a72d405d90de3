/-! the model: meanSteps -/
theorem sm_t {f : Nat → Int32} {k : Nat} {v : Int32} (h : f k = v) : sm f k + v = sm f (k + 1) := by rw [← h]; rfl
set_option maxHeartbeats 1000000 in
set_option maxRecDepth 20000 in
theorem l_X6_meanSteps {n m aw am ai ah W H cnt : Nat} {G : ms_H} {th cl dr pa : Int32} {wl mm ht : Nat → Int32} {u : Nat → Nat → Int32} (hM : md_at G m aw am ai ah W H th cl dr pa cnt wl mm ht u) (hW : W ≤ 14) (hH : H ≤ 14) (hc : cnt ≤ 24) {P : ms_P} {kr zr : Nat} : ∀ (r k : Nat), k + r = cnt → (ms_W false m_X6_meanSteps P 68 [(0, .ref m), (1, .int (nI (ct (pOut u) cnt))), (2, .int (sm (vStep 1 u) cnt))] [] n G kr zr) → ms_W false m_X6_meanSteps (P) 11 [(0, .ref m), (1, .int (nI (ct (pOut u) k))), (2, .int (sm (vStep 1 u) k)), (3, .int (nI k))] [] n G kr zr := by
  obtain ⟨hm, hw_, hk_, ⟨it, hi_, hit⟩, hh_⟩ := hM
  intro r
  induction r with
  | zero =>
    intro k hk kk
    have hkN : k = cnt := by omega
    refine ms_run (pc' := 13) (lv' := [(0, .ref m), (1, .int (nI (ct (pOut u) k))), (2, .int (sm (vStep 1 u) k)), (3, .int (nI k))]) (st' := [.ref m, .int (nI k)]) _ (ms_deC dX6_meanSteps_11 (ms_deC dX6_meanSteps_12 ms_deN)) rfl rfl ?_
    refine ms_getf dX6_meanSteps_13 fg_X6_36 hm rfl ?_
    refine ms_icmp_ge (tgt := 68) dX6_meanSteps_16 (by decide) (fun h_16 => ?_) (fun h_16 => ?_)
    · skip
      rw [hkN]
      refine ms_W.sub (lv2 := [(0, _), (1, _), (2, _)]) ?_ [0, 1, 2] rfl
      exact kk
    · skip
      exact absurd (by exact nI_le (b := k) (by omega) (by omega)) h_16
  | succ r ih =>
    intro k hk kk
    have hlt : k < cnt := by omega
    refine ms_run (pc' := 13) (lv' := [(0, .ref m), (1, .int (nI (ct (pOut u) k))), (2, .int (sm (vStep 1 u) k)), (3, .int (nI k))]) (st' := [.ref m, .int (nI k)]) _ (ms_deC dX6_meanSteps_11 (ms_deC dX6_meanSteps_12 ms_deN)) rfl rfl ?_
    refine ms_getf dX6_meanSteps_13 fg_X6_36 hm rfl ?_
    refine ms_icmp_ge (tgt := 68) dX6_meanSteps_16 (by decide) (fun h_16 => ?_) (fun h_16 => ?_)
    · skip
      exact absurd h_16 (by exact nI_ge (b := cnt) (by omega) (by omega))
    · skip
      refine ms_run (pc' := 22) (lv' := [(0, .ref m), (1, .int (nI (ct (pOut u) k))), (2, .int (sm (vStep 1 u) k)), (3, .int (nI k))]) (st' := [.int (nI k), .ref m, .int (nI (ct (pOut u) k))]) _ (ms_deC dX6_meanSteps_19 (ms_deC dX6_meanSteps_20 (ms_deC dX6_meanSteps_21 ms_deN))) rfl rfl ?_
      refine ms_callVp (As := [.int (nI k)]) dX6_meanSteps_22 (c_X6_isOnI ⟨hm, hw_, hk_, ⟨it, hi_, hit⟩, hh_⟩ hW hH hc hlt) cv_X6_110 hm rfl ⟨Nat.le_of_ble_eq_true rfl, Nat.le_of_ble_eq_true rfl⟩ rfl (Nat.le_of_ble_eq_true rfl) ?_
      by_cases hon1 : ¬ u k 3 = -1
      · rw [show ms_b (¬ u k 3 = -1) = 1 from if_pos hon1]
        refine ms_if_eq (tgt := 32) dX6_meanSteps_25 (by decide) (fun h9 => absurd h9 (by decide)) (fun _ => ?_)
        refine ms_run (pc' := 29) (lv' := [(0, .ref m), (1, .int (nI (ct (pOut u) k))), (2, .int (sm (vStep 1 u) k)), (3, .int (nI k))]) (st' := [.int 0, .int (nI (ct (pOut u) k))]) _ (ms_deC dX6_meanSteps_28 ms_deN) rfl rfl ?_
        refine ms_goto (tgt := 33) dX6_meanSteps_29 (by decide) ?_
        refine ms_run (pc' := 38) (lv' := [(1, .int ((nI (ct (pOut u) k)) + 0)), (0, .ref m), (2, .int (sm (vStep 1 u) k)), (3, .int (nI k))]) (st' := [.int (nI k), .ref m, .int (sm (vStep 1 u) k)]) _ (ms_deC dX6_meanSteps_33 (ms_deC dX6_meanSteps_34 (ms_deC dX6_meanSteps_35 (ms_deC dX6_meanSteps_36 (ms_deC dX6_meanSteps_37 ms_deN))))) rfl rfl ?_
        refine ms_callVp (As := [.int (nI k)]) dX6_meanSteps_38 (c_X6_isOnI ⟨hm, hw_, hk_, ⟨it, hi_, hit⟩, hh_⟩ hW hH hc hlt) cv_X6_110 hm rfl ⟨Nat.le_of_ble_eq_true rfl, Nat.le_of_ble_eq_true rfl⟩ rfl (Nat.le_of_ble_eq_true rfl) ?_
        by_cases hon2 : ¬ u k 3 = -1
        · rw [show ms_b (¬ u k 3 = -1) = 1 from if_pos hon2]
          refine ms_if_eq (tgt := 48) dX6_meanSteps_41 (by decide) (fun h9 => absurd h9 (by decide)) (fun _ => ?_)
          refine ms_run (pc' := 45) (lv' := [(1, .int ((nI (ct (pOut u) k)) + 0)), (0, .ref m), (2, .int (sm (vStep 1 u) k)), (3, .int (nI k))]) (st' := [.int 0, .int (sm (vStep 1 u) k)]) _ (ms_deC dX6_meanSteps_44 ms_deN) rfl rfl ?_
          refine ms_goto (tgt := 60) dX6_meanSteps_45 (by decide) ?_
          refine ms_run (pc' := 65) (lv' := [(3, .int ((nI k) + 1)), (2, .int ((sm (vStep 1 u) k) + 0)), (1, .int ((nI (ct (pOut u) k)) + 0)), (0, .ref m)]) (st' := []) _ (ms_deC dX6_meanSteps_60 (ms_deC dX6_meanSteps_61 (ms_deC dX6_meanSteps_62 ms_deN))) rfl rfl ?_
          refine ms_goto (tgt := 11) dX6_meanSteps_65 (by decide) ?_
          have hp : pOut u k = false := decide_eq_false hon1
          rw [show (nI (ct (pOut u) k)) + 0 = nI (ct (pOut u) (k + 1)) from by rw [Int32.add_zero, ct_f hp], sm_t (f := vStep 1 u) (if_neg (by rintro (z9 | z9); exact absurd z9 (by decide); exact hon1 z9))]
          rw [nI_1 k]
          refine ms_W.sub (lv2 := [(0, _), (1, _), (2, _), (3, _)]) ?_ [3, 2, 1, 0] rfl
          exact ih (k + 1) (by omega) kk
        · rw [show ms_b (¬ u k 3 = -1) = 0 from if_neg hon2]
          exact absurd hon1 hon2
      · rw [show ms_b (¬ u k 3 = -1) = 0 from if_neg hon1]
        refine ms_if_eq (tgt := 32) dX6_meanSteps_25 (by decide) (fun _ => ?_) (fun h9 => absurd h9 (by decide))
        refine ms_run (pc' := 38) (lv' := [(1, .int ((nI (ct (pOut u) k)) + 1)), (0, .ref m), (2, .int (sm (vStep 1 u) k)), (3, .int (nI k))]) (st' := [.int (nI k), .ref m, .int (sm (vStep 1 u) k)]) _ (ms_deC dX6_meanSteps_32 (ms_deC dX6_meanSteps_33 (ms_deC dX6_meanSteps_34 (ms_deC dX6_meanSteps_35 (ms_deC dX6_meanSteps_36 (ms_deC dX6_meanSteps_37 ms_deN)))))) rfl rfl ?_
        refine ms_callVp (As := [.int (nI k)]) dX6_meanSteps_38 (c_X6_isOnI ⟨hm, hw_, hk_, ⟨it, hi_, hit⟩, hh_⟩ hW hH hc hlt) cv_X6_110 hm rfl ⟨Nat.le_of_ble_eq_true rfl, Nat.le_of_ble_eq_true rfl⟩ rfl (Nat.le_of_ble_eq_true rfl) ?_
        by_cases hon2 : ¬ u k 3 = -1
        · rw [show ms_b (¬ u k 3 = -1) = 1 from if_pos hon2]
          exact absurd hon2 hon1
        · rw [show ms_b (¬ u k 3 = -1) = 0 from if_neg hon2]
          refine ms_if_eq (tgt := 48) dX6_meanSteps_41 (by decide) (fun _ => ?_) (fun h9 => absurd h9 (by decide))
          refine ms_run (pc' := 49) (lv' := [(1, .int ((nI (ct (pOut u) k)) + 1)), (0, .ref m), (2, .int (sm (vStep 1 u) k)), (3, .int (nI k))]) (st' := [.ref m, .int (sm (vStep 1 u) k)]) _ (ms_deC dX6_meanSteps_48 ms_deN) rfl rfl ?_
          refine ms_getf dX6_meanSteps_49 fg_X6_39 hm rfl ?_
          refine ms_run (pc' := 59) (lv' := [(1, .int ((nI (ct (pOut u) k)) + 1)), (0, .ref m), (2, .int (sm (vStep 1 u) k)), (3, .int (nI k))]) (st' := [.int (((nI k) * 8) + 6), .ref ai, .int (sm (vStep 1 u) k)]) _ (ms_deC dX6_meanSteps_52 (ms_deC dX6_meanSteps_53 (ms_deC dX6_meanSteps_55 (ms_deC dX6_meanSteps_56 (ms_deC dX6_meanSteps_58 ms_deN))))) rfl rfl ?_
          refine ms_iaload dX6_meanSteps_59 hi_ (md_in (k := k) (j := 6) (Nat.lt_of_lt_of_le hlt hc) (by omega)) ?_
          rw [show it (((nI k) * 8) + 6).toNatClampNeg = u k 6 from md_it (k := k) (j := 6) hit hlt hc (by omega)]
          refine ms_run (pc' := 65) (lv' := [(3, .int ((nI k) + 1)), (2, .int ((sm (vStep 1 u) k) + (u k 6))), (1, .int ((nI (ct (pOut u) k)) + 1)), (0, .ref m)]) (st' := []) _ (ms_deC dX6_meanSteps_60 (ms_deC dX6_meanSteps_61 (ms_deC dX6_meanSteps_62 ms_deN))) rfl rfl ?_
          refine ms_goto (tgt := 11) dX6_meanSteps_65 (by decide) ?_
          have hp : pOut u k = true := decide_eq_true (Decidable.not_not.mp hon1)
          rw [ct_t hp, sm_t (f := vStep 1 u) (v := u k 6) (if_pos (Or.inr (Decidable.not_not.mp hon1)))]
          rw [nI_1 k]
          refine ms_W.sub (lv2 := [(0, _), (1, _), (2, _), (3, _)]) ?_ [3, 2, 1, 0] rfl
          exact ih (k + 1) (by omega) kk
set_option maxHeartbeats 1000000 in
set_option maxRecDepth 20000 in
theorem c_X6_meanSteps {n m aw am ai ah W H cnt N : Nat} {G : ms_H} {th dr pa : Int32} {wl mm : Nat → Int32} {X : cX} {nr mk ds : Nat → Int32} (hM : md_at G m aw am ai ah W H th X.2.2.2 dr pa cnt wl mm X.2.1 X.1) (hl : md_lt n m aw am ai ah) (hW : W ≤ 14) (hH : H ≤ 14) (hW0 : 0 < W) (hc : cnt ≤ 24) (hne : md_ne m aw am ai ah) (hL : lk_ok W H (W * H) nr) (hmm : mmR (W * H) mk mm) (hds : dsR (W * H) nr wl mk ds) (hd : 0 ≤ dr ∧ dr ≤ 9) (hN : N < 1000000) (hV : wdV W H cnt N X) : ms_M m_X6_meanSteps [.ref m] n G 0 0 (mq_P n G (E5 m aw am ai ah) (none) (fun _ => 1) (.double (mnX cnt X)) (fun t G1 => md_at G1 m aw am ai ah W H t X.2.2.2 dr pa cnt wl mm X.2.1 X.1) (fun G1 => md_at G1 m aw am ai ah W H 0 X.2.2.2 dr pa cnt wl mm X.2.1 X.1)) := by
  refine ms_M.of (by decide) (Nat.le_of_ble_eq_true rfl) ?_
  show ms_W false m_X6_meanSteps _ 0 [(0, .ref m)] [] n G 0 0
  have hl9 := hl
  have hne9 := hne
  obtain ⟨hm, hw_, hk_, ⟨it, hi_, hit⟩, hh_⟩ := hM
  obtain ⟨l1, l2, l3, l4, l5⟩ := hl
  obtain ⟨n1, n2, n3, n4, n5, n6, n7, n8, n9, n10⟩ := hne
  have h196 := fd_196 hW hH
  have hF : ms_fb (E5 m aw am ai ah) n G G := ms_fb.rf
  refine ms_run (pc' := 2) (lv' := [(0, .ref m)]) (st' := [.int 0, .ref m]) _ (ms_deC dX6_meanSteps_0 (ms_deC dX6_meanSteps_1 ms_deN)) rfl rfl ?_
  refine ms_putf dX6_meanSteps_2 fp_X6_46 hm (Nat.le_of_ble_eq_true rfl) rfl rfl ?_
  obtain ⟨G_1, eG_1⟩ : ∃ K9 : ms_H, K9 = ms_up G m (.inr (6, [.int 0, .int (nI W), .int (nI H), .int X.2.2.2, .int dr, .int pa, .ref aw, .ref am, .int (nI cnt), .ref ai, .ref ah])) := ⟨_, rfl⟩
  refine ms_W.heq eG_1 ?_
  have hF_2 : ms_fb (E5 m aw am ai ah) n G G_1 := by rw [eG_1]; exact ms_fb.up hF (by first | exact Or.inl (by omega) | exact Or.inr rfl | exact Or.inr (Or.inl rfl) | exact Or.inr (Or.inr (Or.inl rfl)) | exact Or.inr (Or.inr (Or.inr rfl)) | exact Or.inr (Or.inr rfl) | exact Or.inr (Or.inr (Or.inr (Or.inl rfl))) | exact Or.inr (Or.inr (Or.inr (Or.inr (Or.inl rfl)))) | exact Or.inr (Or.inr (Or.inr (Or.inr (Or.inr rfl)))))
  have hf_3 : G_1 m = some (.inr (6, [.int 0, .int (nI W), .int (nI H), .int X.2.2.2, .int dr, .int pa, .ref aw, .ref am, .int (nI cnt), .ref ai, .ref ah])) := by rw [eG_1]; exact ms_up_s _ _ _
  have hf_4 := (congrFun eG_1 aw).trans ((ms_up_n G _ (by omega)).trans hw_)
  have hf_5 := (congrFun eG_1 am).trans ((ms_up_n G _ (by omega)).trans hk_)
  have hf_6 := (congrFun eG_1 ai).trans ((ms_up_n G _ (by omega)).trans hi_)
  have hf_7 := (congrFun eG_1 ah).trans ((ms_up_n G _ (by omega)).trans hh_)
  refine ms_run (pc' := 11) (lv' := [(3, .int 0), (2, .int 0), (1, .int 0), (0, .ref m)]) (st' := []) _ (ms_deC dX6_meanSteps_5 (ms_deC dX6_meanSteps_6 (ms_deC dX6_meanSteps_7 (ms_deC dX6_meanSteps_8 (ms_deC dX6_meanSteps_9 (ms_deC dX6_meanSteps_10 ms_deN)))))) rfl rfl ?_
  refine ms_W.sub (lv2 := [(0, _), (1, _), (2, _), (3, _)]) ?_ [3, 2, 1, 0] rfl
  refine l_X6_meanSteps (show md_at G_1 m aw am ai ah W H 0 X.2.2.2 dr pa cnt wl mm X.2.1 X.1 from ⟨hf_3, hf_4, hf_5, ⟨it, hf_6, hit⟩, hf_7⟩) hW hH hc cnt 0 (by omega) ?_
  have hF2 := hF_2
  have hM2 := (show md_at G_1 m aw am ai ah W H 0 X.2.2.2 dr pa cnt wl mm X.2.1 X.1 from ⟨hf_3, hf_4, hf_5, ⟨it, hf_6, hit⟩, hf_7⟩)
  refine ms_run (pc' := 69) (lv' := [(0, .ref m), (1, .int (nI (ct (pOut X.1) cnt))), (2, .int (sm (vStep 1 X.1) cnt))]) (st' := [.int (nI (ct (pOut X.1) cnt))]) _ (ms_deC dX6_meanSteps_68 ms_deN) rfl rfl ?_
  refine ms_if_ne (tgt := 76) dX6_meanSteps_69 (by decide) (fun h_69 => ?_) (fun h_69 => ?_)
  · skip
    have hne9 : ¬ ct (pOut X.1) cnt = 0 := fun z9 => h_69 (by rw [z9]; rfl)
    refine ms_run (pc' := 77) (lv' := [(0, .ref m), (1, .int (nI (ct (pOut X.1) cnt))), (2, .int (sm (vStep 1 X.1) cnt))]) (st' := [.int (sm (vStep 1 X.1) cnt)]) _ (ms_deC dX6_meanSteps_76 ms_deN) rfl rfl ?_
    refine ms_i2d dX6_meanSteps_77 ?_
    refine ms_run (pc' := 79) (lv' := [(0, .ref m), (1, .int (nI (ct (pOut X.1) cnt))), (2, .int (sm (vStep 1 X.1) cnt))]) (st' := [.int (nI (ct (pOut X.1) cnt)), .double (FP.i2d (sm (vStep 1 X.1) cnt))]) _ (ms_deC dX6_meanSteps_78 ms_deN) rfl rfl ?_
    refine ms_i2d dX6_meanSteps_79 ?_
    refine ms_ddiv dX6_meanSteps_80 (dd_n (Nat.pos_of_ne_zero hne9) (Nat.le_trans (ct_le _ _) hc)) ?_
    refine ms_retd (st := []) dX6_meanSteps_81 rfl ?_
    exact mq_P.ok rfl (Nat.le_refl n) hF2 (by unfold mnX; rw [if_neg hne9]) hM2
  · skip
    have he0 : ct (pOut X.1) cnt = 0 := by have := ct_le (pOut X.1) cnt; exact (nI_eq (by omega) (by omega)).mp h_69
    refine ms_dconst0 dX6_meanSteps_72 ?_
    refine ms_goto (tgt := 81) dX6_meanSteps_73 (by decide) ?_
    refine ms_retd (st := []) dX6_meanSteps_81 rfl ?_
    exact mq_P.ok rfl (Nat.le_refl n) hF2 (by unfold mnX; rw [if_pos he0]) hM2

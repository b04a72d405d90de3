/-! the model: calls (4): turnTo, mark -/
theorem tr_it {it : Nat → Int32} {u : Nat → Nat → Int32} {cnt i a b : Nat} {x y : Int32} (h : ∀ k, k < cnt → ∀ j, j < 8 → it (k * 8 + j) = u k j) (hi : i < cnt) (ha : a < 8) (hb : b < 8) : ∀ k, k < cnt → ∀ j, j < 8 → upd (upd it (i * 8 + a) x) (i * 8 + b) y (k * 8 + j) = va_up u i (upd (upd (u i) a x) b y) k j := fun k hk j hj => by
  unfold va_up
  by_cases e : k = i
  · subst e
    rw [if_pos rfl]
    exact rw_up (rw_up (h k hk)) j hj
  · rw [if_neg e]
    exact ot_up hb (ot_up ha (fun j hj _ => h j hj)) k hk e j hj
set_option maxHeartbeats 1000000 in
set_option maxRecDepth 20000 in
theorem c_X6_turnTo {n m aw am ai ah W H cnt N : Nat} {G : ms_H} {th dr pa : Int32} {wl mm : Nat → Int32} {X : cX} {nr mk ds : Nat → Int32} (hM : md_at G m aw am ai ah W H th X.2.2.2 dr pa cnt wl mm X.2.1 X.1) (hl : md_lt n m aw am ai ah) (hW : W ≤ 14) (hH : H ≤ 14) (hW0 : 0 < W) (hc : cnt ≤ 24) (hne : md_ne m aw am ai ah) (hL : lk_ok W H (W * H) nr) (hmm : mmR (W * H) mk mm) (hds : dsR (W * H) nr wl mk ds) (hd : 0 ≤ dr ∧ dr ≤ 9) (hN : N < 1000000) (hV : wdV W H cnt N X) (kk gl mo : Int32) : ms_M m_X6_turnTo [.ref m, .int kk, .int gl, .int mo] n G 0 0 (mq_P n G (E5 m aw am ai ah) (th_trn W H mk cnt X.1 kk gl mo) (fun e => if e = IOB then 1 else if e = IAE then 2 else 3) (.int (X.1 kk.toNatClampNeg 0)) (fun t G1 => md_at G1 m aw am ai ah W H t X.2.2.2 dr pa cnt wl mm X.2.1 X.1) (fun G1 => md_at G1 m aw am ai ah W H 0 (trX X kk.toNatClampNeg gl mo).2.2.2 dr pa cnt wl mm (trX X kk.toNatClampNeg gl mo).2.1 (trX X kk.toNatClampNeg gl mo).1)) := by
  refine ms_M.of (by decide) (Nat.le_of_ble_eq_true rfl) ?_
  show ms_W false m_X6_turnTo _ 0 [(0, .ref m), (1, .int kk), (2, .int gl), (3, .int mo)] [] n G 0 0
  have hl9 := hl
  have hne9 := hne
  obtain ⟨hm, hw_, hk_, ⟨it, hi_, hit⟩, hh_⟩ := hM
  obtain ⟨l1, l2, l3, l4, l5⟩ := hl
  obtain ⟨n1, n2, n3, n4, n5, n6, n7, n8, n9, n10⟩ := hne
  have h196 := fd_196 hW hH
  have hF : ms_fb (E5 m aw am ai ah) n G G := ms_fb.rf
  refine ms_run (pc' := 2) (lv' := [(0, .ref m), (1, .int kk), (2, .int gl), (3, .int mo)]) (st' := [.int 0, .ref m]) _ (ms_deC dX6_turnTo_0 (ms_deC dX6_turnTo_1 ms_deN)) rfl rfl ?_
  refine ms_putf dX6_turnTo_2 fp_X6_46 hm (Nat.le_of_ble_eq_true rfl) rfl rfl ?_
  obtain ⟨G_1, eG_1⟩ : ∃ K9 : ms_H, K9 = ms_up G m (.inr (6, [.int 0, .int (nI W), .int (nI H), .int X.2.2.2, .int dr, .int pa, .ref aw, .ref am, .int (nI cnt), .ref ai, .ref ah])) := ⟨_, rfl⟩
  refine ms_W.heq eG_1 ?_
  have hF_2 : ms_fb (E5 m aw am ai ah) n G G_1 := by rw [eG_1]; exact ms_fb.up hF (by first | exact Or.inl (by omega) | exact Or.inr rfl | exact Or.inr (Or.inl rfl) | exact Or.inr (Or.inr (Or.inl rfl)) | exact Or.inr (Or.inr (Or.inr rfl)) | exact Or.inr (Or.inr rfl) | exact Or.inr (Or.inr (Or.inr (Or.inl rfl))) | exact Or.inr (Or.inr (Or.inr (Or.inr (Or.inl rfl)))) | exact Or.inr (Or.inr (Or.inr (Or.inr (Or.inr rfl)))))
  have hf_3 : G_1 m = some (.inr (6, [.int 0, .int (nI W), .int (nI H), .int X.2.2.2, .int dr, .int pa, .ref aw, .ref am, .int (nI cnt), .ref ai, .ref ah])) := by rw [eG_1]; exact ms_up_s _ _ _
  have hf_4 := (congrFun eG_1 aw).trans ((ms_up_n G _ (by omega)).trans hw_)
  have hf_5 := (congrFun eG_1 am).trans ((ms_up_n G _ (by omega)).trans hk_)
  have hf_6 := (congrFun eG_1 ai).trans ((ms_up_n G _ (by omega)).trans hi_)
  have hf_7 := (congrFun eG_1 ah).trans ((ms_up_n G _ (by omega)).trans hh_)
  refine ms_run (pc' := 7) (lv' := [(0, .ref m), (1, .int kk), (2, .int gl), (3, .int mo)]) (st' := [.int kk, .ref m]) _ (ms_deC dX6_turnTo_5 (ms_deC dX6_turnTo_6 ms_deN)) rfl rfl ?_
  refine ms_callVp (As := [.int kk]) dX6_turnTo_7 (c_X6_isWalker (show md_at G_1 m aw am ai ah W H 0 X.2.2.2 dr pa cnt wl mm X.2.1 X.1 from ⟨hf_3, hf_4, hf_5, ⟨it, hf_6, hit⟩, hf_7⟩) hW hH hc kk) cv_X6_53 hf_3 rfl ⟨Nat.le_of_ble_eq_true rfl, Nat.le_of_ble_eq_true rfl⟩ rfl (Nat.le_of_ble_eq_true rfl) ?_
  by_cases hpi : pIs (nI cnt) kk
  · rw [show ms_b (pIs (nI cnt) kk) = 1 from if_pos hpi]
    obtain ⟨i, hi, hki⟩ := pIs_nI hc hpi
    subst hki
    rw [nI_clamp (n := i) (by omega)]
    refine ms_if_eq (tgt := 20) dX6_turnTo_10 (by decide) (fun h9 => absurd h9 (by decide)) (fun _ => ?_)
    refine ms_run (pc' := 14) (lv' := [(0, .ref m), (1, .int (nI i)), (2, .int gl), (3, .int mo)]) (st' := [.int gl]) _ (ms_deC dX6_turnTo_13 ms_deN) rfl rfl ?_
    refine ms_callSp (As := [.int gl]) dX6_turnTo_14 (c_X6_isGoal gl) cs_X6_91 rfl ⟨Nat.le_of_ble_eq_true rfl, Nat.le_of_ble_eq_true rfl⟩ rfl (Nat.le_of_ble_eq_true rfl) ?_
    by_cases hgl : gl_is gl
    · rw [show ms_b (gl_is gl) = 1 from if_pos hgl]
      obtain ⟨g, hg, hge⟩ := gl_nI hgl
      subst hge
      refine ms_if_ne (tgt := 26) dX6_turnTo_17 (by decide) (fun _ => ?_) (fun h9 => absurd h9 (by decide))
      refine ms_run (pc' := 30) (lv' := [(0, .ref m), (1, .int (nI i)), (2, .int (nI g)), (3, .int mo)]) (st' := [.int 9, .int 0, .int mo]) _ (ms_deC dX6_turnTo_26 (ms_deC dX6_turnTo_27 (ms_deC dX6_turnTo_28 ms_deN))) rfl rfl ?_
      refine ms_callSp (As := [.int mo, .int 0, .int 9]) dX6_turnTo_30 (c_X6_isIn mo 0 9) cs_X6_49 rfl ⟨Nat.le_of_ble_eq_true rfl, Nat.le_of_ble_eq_true rfl⟩ rfl (Nat.le_of_ble_eq_true rfl) ?_
      by_cases hmo : 0 ≤ mo ∧ mo ≤ 9
      · rw [show ms_b (0 ≤ mo ∧ mo ≤ 9) = 1 from if_pos hmo]
        refine ms_if_ne (tgt := 42) dX6_turnTo_33 (by decide) (fun _ => ?_) (fun h9 => absurd h9 (by decide))
        refine ms_run (pc' := 50) (lv' := [(4, .int ((nI i) * 8)), (0, .ref m), (1, .int (nI i)), (2, .int (nI g)), (3, .int mo)]) (st' := [.int (nI i), .ref m]) _ (ms_deC dX6_turnTo_42 (ms_deC dX6_turnTo_43 (ms_deC dX6_turnTo_45 (ms_deC dX6_turnTo_46 (ms_deC dX6_turnTo_48 (ms_deC dX6_turnTo_49 ms_deN)))))) rfl rfl ?_
        refine ms_callVp (As := [.int (nI i)]) dX6_turnTo_50 (c_X6_isOnI (show md_at G_1 m aw am ai ah W H 0 X.2.2.2 dr pa cnt wl mm X.2.1 X.1 from ⟨hf_3, hf_4, hf_5, ⟨it, hf_6, hit⟩, hf_7⟩) hW hH hc hi) cv_X6_110 hf_3 rfl ⟨Nat.le_of_ble_eq_true rfl, Nat.le_of_ble_eq_true rfl⟩ rfl (Nat.le_of_ble_eq_true rfl) ?_
        by_cases hon9 : ¬ X.1 i 3 = -1
        · rw [show ms_b (¬ X.1 i 3 = -1) = 1 from if_pos hon9]
          obtain ⟨own, ho, hpo⟩ := pos_of hW hH hV.2.1 hi hon9
          refine ms_if_eq (tgt := 85) dX6_turnTo_53 (by decide) (fun h9 => absurd h9 (by decide)) (fun _ => ?_)
          refine ms_run (pc' := 57) (lv' := [(4, .int ((nI i) * 8)), (0, .ref m), (1, .int (nI i)), (2, .int (nI g)), (3, .int mo)]) (st' := [.ref m]) _ (ms_deC dX6_turnTo_56 ms_deN) rfl rfl ?_
          refine ms_getf dX6_turnTo_57 fg_X6_33 hf_3 rfl ?_
          refine ms_run (pc' := 62) (lv' := [(4, .int ((nI i) * 8)), (0, .ref m), (1, .int (nI i)), (2, .int (nI g)), (3, .int mo)]) (st' := [.ref m, .int (nI g), .ref am]) _ (ms_deC dX6_turnTo_60 (ms_deC dX6_turnTo_61 ms_deN)) rfl rfl ?_
          refine ms_getf dX6_turnTo_62 fg_X6_20 hf_3 rfl ?_
          refine ms_run (pc' := 67) (lv' := [(4, .int ((nI i) * 8)), (0, .ref m), (1, .int (nI i)), (2, .int (nI g)), (3, .int mo)]) (st' := [.ref m, .int ((nI g) * (nI W)), .ref am]) _ (ms_deC dX6_turnTo_65 (ms_deC dX6_turnTo_66 ms_deN)) rfl rfl ?_
          refine ms_getf dX6_turnTo_67 fg_X6_23 hf_3 rfl ?_
          refine ms_run (pc' := 72) (lv' := [(4, .int ((nI i) * 8)), (0, .ref m), (1, .int (nI i)), (2, .int (nI g)), (3, .int mo)]) (st' := [.ref m, .int (((nI g) * (nI W)) * (nI H)), .ref am]) _ (ms_deC dX6_turnTo_70 (ms_deC dX6_turnTo_71 ms_deN)) rfl rfl ?_
          refine ms_getf dX6_turnTo_72 fg_X6_39 hf_3 rfl ?_
          refine ms_run (pc' := 79) (lv' := [(4, .int ((nI i) * 8)), (0, .ref m), (1, .int (nI i)), (2, .int (nI g)), (3, .int mo)]) (st' := [.int (((nI i) * 8) + 3), .ref ai, .int (((nI g) * (nI W)) * (nI H)), .ref am]) _ (ms_deC dX6_turnTo_75 (ms_deC dX6_turnTo_77 (ms_deC dX6_turnTo_78 ms_deN))) rfl rfl ?_
          refine ms_iaload dX6_turnTo_79 hf_6 (md_in (k := i) (j := 3) (Nat.lt_of_lt_of_le hi hc) (by omega)) ?_
          rw [show it (((nI i) * 8) + 3).toNatClampNeg = X.1 i 3 from md_it (k := i) (j := 3) hit hi hc (by omega)]
          rw [hpo]
          refine ms_run (pc' := 81) (lv' := [(4, .int ((nI i) * 8)), (0, .ref m), (1, .int (nI i)), (2, .int (nI g)), (3, .int mo)]) (st' := [.int ((((nI g) * (nI W)) * (nI H)) + (nI own)), .ref am]) _ (ms_deC dX6_turnTo_80 ms_deN) rfl rfl ?_
          refine ms_zaload dX6_turnTo_81 hf_5 (by rw [mm_a]; exact mm_in hg ho h196) ?_
          rw [mm_a, mm_ld hmm hg ho h196]
          refine ms_if_eq (tgt := 91) dX6_turnTo_82 (by decide) (fun h_82 => ?_) (fun h_82 => ?_)
          · skip
            refine ms_run (pc' := 92) (lv' := [(4, .int ((nI i) * 8)), (0, .ref m), (1, .int (nI i)), (2, .int (nI g)), (3, .int mo)]) (st' := [.ref m]) _ (ms_deC dX6_turnTo_91 ms_deN) rfl rfl ?_
            refine ms_getf dX6_turnTo_92 fg_X6_39 hf_3 rfl ?_
            refine ms_run (pc' := 99) (lv' := [(4, .int ((nI i) * 8)), (0, .ref m), (1, .int (nI i)), (2, .int (nI g)), (3, .int mo)]) (st' := [.int (((nI i) * 8) + 0), .ref ai]) _ (ms_deC dX6_turnTo_95 (ms_deC dX6_turnTo_97 (ms_deC dX6_turnTo_98 ms_deN))) rfl rfl ?_
            refine ms_iaload dX6_turnTo_99 hf_6 (md_in (k := i) (j := 0) (Nat.lt_of_lt_of_le hi hc) (by omega)) ?_
            rw [show it (((nI i) * 8) + 0).toNatClampNeg = X.1 i 0 from md_it (k := i) (j := 0) hit hi hc (by omega)]
            refine ms_run (pc' := 103) (lv' := [(5, .int (X.1 i 0)), (4, .int ((nI i) * 8)), (0, .ref m), (1, .int (nI i)), (2, .int (nI g)), (3, .int mo)]) (st' := [.ref m]) _ (ms_deC dX6_turnTo_100 (ms_deC dX6_turnTo_102 ms_deN)) rfl rfl ?_
            refine ms_getf dX6_turnTo_103 fg_X6_39 hf_3 rfl ?_
            refine ms_run (pc' := 111) (lv' := [(5, .int (X.1 i 0)), (4, .int ((nI i) * 8)), (0, .ref m), (1, .int (nI i)), (2, .int (nI g)), (3, .int mo)]) (st' := [.int (nI g), .int (((nI i) * 8) + 0), .ref ai]) _ (ms_deC dX6_turnTo_106 (ms_deC dX6_turnTo_108 (ms_deC dX6_turnTo_109 (ms_deC dX6_turnTo_110 ms_deN)))) rfl rfl ?_
            refine ms_iastore dX6_turnTo_111 hf_6 (md_in (k := i) (j := 0) (Nat.lt_of_lt_of_le hi hc) (by omega)) ?_
            rw [show (nI i * 8 + 0).toNatClampNeg = i * 8 + 0 from ix8 (j := 0) (Nat.lt_of_lt_of_le hi hc) (by omega)]
            obtain ⟨G_8, eG_8⟩ : ∃ K9 : ms_H, K9 = ms_up G_1 ai (.inl (0, 192, .inl (upd it (i * 8 + 0) (nI g)))) := ⟨_, rfl⟩
            refine ms_W.heq eG_8 ?_
            have hF_9 : ms_fb (E5 m aw am ai ah) n G G_8 := by rw [eG_8]; exact ms_fb.up hF_2 (by first | exact Or.inl (by omega) | exact Or.inr rfl | exact Or.inr (Or.inl rfl) | exact Or.inr (Or.inr (Or.inl rfl)) | exact Or.inr (Or.inr (Or.inr rfl)) | exact Or.inr (Or.inr rfl) | exact Or.inr (Or.inr (Or.inr (Or.inl rfl))) | exact Or.inr (Or.inr (Or.inr (Or.inr (Or.inl rfl)))) | exact Or.inr (Or.inr (Or.inr (Or.inr (Or.inr rfl)))))
            have hf_10 := (congrFun eG_8 m).trans ((ms_up_n G_1 _ (by omega)).trans hf_3)
            have hf_11 := (congrFun eG_8 aw).trans ((ms_up_n G_1 _ (by omega)).trans hf_4)
            have hf_12 := (congrFun eG_8 am).trans ((ms_up_n G_1 _ (by omega)).trans hf_5)
            have hf_13 : G_8 ai = some (.inl (0, 192, .inl (upd it (i * 8 + 0) (nI g)))) := by rw [eG_8]; exact ms_up_s _ _ _
            have hf_14 := (congrFun eG_8 ah).trans ((ms_up_n G_1 _ (by omega)).trans hf_7)
            refine ms_run (pc' := 113) (lv' := [(5, .int (X.1 i 0)), (4, .int ((nI i) * 8)), (0, .ref m), (1, .int (nI i)), (2, .int (nI g)), (3, .int mo)]) (st' := [.ref m]) _ (ms_deC dX6_turnTo_112 ms_deN) rfl rfl ?_
            refine ms_getf dX6_turnTo_113 fg_X6_39 hf_10 rfl ?_
            refine ms_run (pc' := 121) (lv' := [(5, .int (X.1 i 0)), (4, .int ((nI i) * 8)), (0, .ref m), (1, .int (nI i)), (2, .int (nI g)), (3, .int mo)]) (st' := [.int mo, .int (((nI i) * 8) + 2), .ref ai]) _ (ms_deC dX6_turnTo_116 (ms_deC dX6_turnTo_118 (ms_deC dX6_turnTo_119 (ms_deC dX6_turnTo_120 ms_deN)))) rfl rfl ?_
            refine ms_iastore dX6_turnTo_121 hf_13 (md_in (k := i) (j := 2) (Nat.lt_of_lt_of_le hi hc) (by omega)) ?_
            rw [show (nI i * 8 + 2).toNatClampNeg = i * 8 + 2 from ix8 (j := 2) (Nat.lt_of_lt_of_le hi hc) (by omega)]
            obtain ⟨G_15, eG_15⟩ : ∃ K9 : ms_H, K9 = ms_up G_8 ai (.inl (0, 192, .inl (upd (upd it (i * 8 + 0) (nI g)) (i * 8 + 2) mo))) := ⟨_, rfl⟩
            refine ms_W.heq eG_15 ?_
            have hF_16 : ms_fb (E5 m aw am ai ah) n G G_15 := by rw [eG_15]; exact ms_fb.up hF_9 (by first | exact Or.inl (by omega) | exact Or.inr rfl | exact Or.inr (Or.inl rfl) | exact Or.inr (Or.inr (Or.inl rfl)) | exact Or.inr (Or.inr (Or.inr rfl)) | exact Or.inr (Or.inr rfl) | exact Or.inr (Or.inr (Or.inr (Or.inl rfl))) | exact Or.inr (Or.inr (Or.inr (Or.inr (Or.inl rfl)))) | exact Or.inr (Or.inr (Or.inr (Or.inr (Or.inr rfl)))))
            have hf_17 := (congrFun eG_15 m).trans ((ms_up_n G_8 _ (by omega)).trans hf_10)
            have hf_18 := (congrFun eG_15 aw).trans ((ms_up_n G_8 _ (by omega)).trans hf_11)
            have hf_19 := (congrFun eG_15 am).trans ((ms_up_n G_8 _ (by omega)).trans hf_12)
            have hf_20 : G_15 ai = some (.inl (0, 192, .inl (upd (upd it (i * 8 + 0) (nI g)) (i * 8 + 2) mo))) := by rw [eG_15]; exact ms_up_s _ _ _
            have hf_21 := (congrFun eG_15 ah).trans ((ms_up_n G_8 _ (by omega)).trans hf_14)
            refine ms_run (pc' := 124) (lv' := [(5, .int (X.1 i 0)), (4, .int ((nI i) * 8)), (0, .ref m), (1, .int (nI i)), (2, .int (nI g)), (3, .int mo)]) (st' := [.int (X.1 i 0)]) _ (ms_deC dX6_turnTo_122 ms_deN) rfl rfl ?_
            refine ms_reti (st := []) (ty := .int) dX6_turnTo_124 rfl rfl ?_
            exact mq_P.ok (by unfold th_trn; rw [if_neg (by rintro (z9 | z9); exact z9 hpi; exact z9 (gl_isI hg)), if_neg (not_not_intro hmo), nI_clamp (n := i) (by omega), if_neg (by rintro (z9 | z9); exact hon9 z9; rw [hpo] at z9; exact ms_b_0.mp h_82 ((sq_mkI hg ho h196).mp z9))]) (Nat.le_refl n) hF_16 rfl ⟨hf_17, hf_18, hf_19, ⟨_, hf_20, tr_it (a := 0) (b := 2) hit hi (by omega) (by omega)⟩, hf_21⟩
          · skip
            refine ms_run (pc' := 87) (lv' := [(4, .int ((nI i) * 8)), (0, .ref m), (1, .int (nI i)), (2, .int (nI g)), (3, .int mo)]) (st' := [.int 3, .ref m]) _ (ms_deC dX6_turnTo_85 (ms_deC dX6_turnTo_86 ms_deN)) rfl rfl ?_
            refine ms_callV0 (As := [.int 3]) dX6_turnTo_87 (c_X6_no (show md_at G_1 m aw am ai ah W H 0 X.2.2.2 dr pa cnt wl mm X.2.1 X.1 from ⟨hf_3, hf_4, hf_5, ⟨it, hf_6, hit⟩, hf_7⟩) hne9 3) cv_X6_79 hf_3 rfl ⟨Nat.le_of_ble_eq_true rfl, Nat.le_of_ble_eq_true rfl⟩ rfl (Nat.le_of_ble_eq_true rfl) (fun v9 n9 K_no hp9 => ?_)
            obtain ⟨hv9, rfl, hF_no, hM_no⟩ := hp9
            cases hv9
            refine ms_reti (st := []) (ty := .int) dX6_turnTo_90 rfl rfl ?_
            exact mq_P.no (show th_trn W H mk cnt X.1 (nI i) (nI g) mo = some ISE from by unfold th_trn; rw [if_neg (by rintro (z9 | z9); exact z9 hpi; exact z9 (gl_isI hg)), if_neg (not_not_intro hmo), nI_clamp (n := i) (by omega), if_pos (by first | exact Or.inl (Decidable.not_not.mp hon9) | (refine Or.inr ?_; rw [hpo]; exact (sq_mkI hg ho h196).mpr (Decidable.not_not.mp (fun z9 => h_82 (ms_b_0.mpr z9)))))]) (by omega) (ms_fb.trans2 hF_2 (hF_no.mono (fun a h => Or.inl h)) (by omega)) rfl hM_no
        · rw [show ms_b (¬ X.1 i 3 = -1) = 0 from if_neg hon9]
          refine ms_if_eq (tgt := 85) dX6_turnTo_53 (by decide) (fun _ => ?_) (fun h9 => absurd h9 (by decide))
          refine ms_run (pc' := 87) (lv' := [(4, .int ((nI i) * 8)), (0, .ref m), (1, .int (nI i)), (2, .int (nI g)), (3, .int mo)]) (st' := [.int 3, .ref m]) _ (ms_deC dX6_turnTo_85 (ms_deC dX6_turnTo_86 ms_deN)) rfl rfl ?_
          refine ms_callV0 (As := [.int 3]) dX6_turnTo_87 (c_X6_no (show md_at G_1 m aw am ai ah W H 0 X.2.2.2 dr pa cnt wl mm X.2.1 X.1 from ⟨hf_3, hf_4, hf_5, ⟨it, hf_6, hit⟩, hf_7⟩) hne9 3) cv_X6_79 hf_3 rfl ⟨Nat.le_of_ble_eq_true rfl, Nat.le_of_ble_eq_true rfl⟩ rfl (Nat.le_of_ble_eq_true rfl) (fun v9 n9 K_no hp9 => ?_)
          obtain ⟨hv9, rfl, hF_no, hM_no⟩ := hp9
          cases hv9
          refine ms_reti (st := []) (ty := .int) dX6_turnTo_90 rfl rfl ?_
          exact mq_P.no (show th_trn W H mk cnt X.1 (nI i) (nI g) mo = some ISE from by unfold th_trn; rw [if_neg (by rintro (z9 | z9); exact z9 hpi; exact z9 (gl_isI hg)), if_neg (not_not_intro hmo), nI_clamp (n := i) (by omega), if_pos (by first | exact Or.inl (Decidable.not_not.mp hon9) | (refine Or.inr ?_; rw [hpo]; exact (sq_mkI hg ho h196).mpr (Decidable.not_not.mp (fun z9 => h_82 (ms_b_0.mpr z9)))))]) (by omega) (ms_fb.trans2 hF_2 (hF_no.mono (fun a h => Or.inl h)) (by omega)) rfl hM_no
      · rw [show ms_b (0 ≤ mo ∧ mo ≤ 9) = 0 from if_neg hmo]
        refine ms_if_ne (tgt := 42) dX6_turnTo_33 (by decide) (fun h9 => absurd h9 (by decide)) (fun _ => ?_)
        refine ms_run (pc' := 38) (lv' := [(0, .ref m), (1, .int (nI i)), (2, .int (nI g)), (3, .int mo)]) (st' := [.int 2, .ref m]) _ (ms_deC dX6_turnTo_36 (ms_deC dX6_turnTo_37 ms_deN)) rfl rfl ?_
        refine ms_callV0 (As := [.int 2]) dX6_turnTo_38 (c_X6_no (show md_at G_1 m aw am ai ah W H 0 X.2.2.2 dr pa cnt wl mm X.2.1 X.1 from ⟨hf_3, hf_4, hf_5, ⟨it, hf_6, hit⟩, hf_7⟩) hne9 2) cv_X6_79 hf_3 rfl ⟨Nat.le_of_ble_eq_true rfl, Nat.le_of_ble_eq_true rfl⟩ rfl (Nat.le_of_ble_eq_true rfl) (fun v9 n9 K_no hp9 => ?_)
        obtain ⟨hv9, rfl, hF_no, hM_no⟩ := hp9
        cases hv9
        refine ms_reti (st := []) (ty := .int) dX6_turnTo_41 rfl rfl ?_
        exact mq_P.no (show th_trn W H mk cnt X.1 (nI i) (nI g) mo = some IAE from by unfold th_trn; rw [if_neg (by rintro (z9 | z9); exact z9 hpi; exact z9 (gl_isI hg)), if_pos hmo]) (by omega) (ms_fb.trans2 hF_2 (hF_no.mono (fun a h => Or.inl h)) (by omega)) rfl hM_no
    · rw [show ms_b (gl_is gl) = 0 from if_neg hgl]
      refine ms_if_ne (tgt := 26) dX6_turnTo_17 (by decide) (fun h9 => absurd h9 (by decide)) (fun _ => ?_)
      refine ms_run (pc' := 22) (lv' := [(0, .ref m), (1, .int (nI i)), (2, .int gl), (3, .int mo)]) (st' := [.int 1, .ref m]) _ (ms_deC dX6_turnTo_20 (ms_deC dX6_turnTo_21 ms_deN)) rfl rfl ?_
      refine ms_callV0 (As := [.int 1]) dX6_turnTo_22 (c_X6_no (show md_at G_1 m aw am ai ah W H 0 X.2.2.2 dr pa cnt wl mm X.2.1 X.1 from ⟨hf_3, hf_4, hf_5, ⟨it, hf_6, hit⟩, hf_7⟩) hne9 1) cv_X6_79 hf_3 rfl ⟨Nat.le_of_ble_eq_true rfl, Nat.le_of_ble_eq_true rfl⟩ rfl (Nat.le_of_ble_eq_true rfl) (fun v9 n9 K_no hp9 => ?_)
      obtain ⟨hv9, rfl, hF_no, hM_no⟩ := hp9
      cases hv9
      refine ms_reti (st := []) (ty := .int) dX6_turnTo_25 rfl rfl ?_
      exact mq_P.no (show th_trn _ _ _ _ _ _ _ _ = some IOB from if_pos (by first | exact Or.inl hpi | exact Or.inr hgl)) (by omega) (ms_fb.trans2 hF_2 (hF_no.mono (fun a h => Or.inl h)) (by omega)) rfl hM_no
  · rw [show ms_b (pIs (nI cnt) kk) = 0 from if_neg hpi]
    refine ms_if_eq (tgt := 20) dX6_turnTo_10 (by decide) (fun _ => ?_) (fun h9 => absurd h9 (by decide))
    refine ms_run (pc' := 22) (lv' := [(0, .ref m), (1, .int kk), (2, .int gl), (3, .int mo)]) (st' := [.int 1, .ref m]) _ (ms_deC dX6_turnTo_20 (ms_deC dX6_turnTo_21 ms_deN)) rfl rfl ?_
    refine ms_callV0 (As := [.int 1]) dX6_turnTo_22 (c_X6_no (show md_at G_1 m aw am ai ah W H 0 X.2.2.2 dr pa cnt wl mm X.2.1 X.1 from ⟨hf_3, hf_4, hf_5, ⟨it, hf_6, hit⟩, hf_7⟩) hne9 1) cv_X6_79 hf_3 rfl ⟨Nat.le_of_ble_eq_true rfl, Nat.le_of_ble_eq_true rfl⟩ rfl (Nat.le_of_ble_eq_true rfl) (fun v9 n9 K_no hp9 => ?_)
    obtain ⟨hv9, rfl, hF_no, hM_no⟩ := hp9
    cases hv9
    refine ms_reti (st := []) (ty := .int) dX6_turnTo_25 rfl rfl ?_
    exact mq_P.no (show th_trn _ _ _ _ _ _ _ _ = some IOB from if_pos (by first | exact Or.inl hpi | exact Or.inr hgl)) (by omega) (ms_fb.trans2 hF_2 (hF_no.mono (fun a h => Or.inl h)) (by omega)) rfl hM_no

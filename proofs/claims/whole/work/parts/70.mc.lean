/-! the model: calls (1) -/
theorem ins_nat {W H : Nat} (hW : W ≤ 14) (hH : H ≤ 14) {a b : Int32} (h : gr_ins (nI W) (nI H) a b) : ∃ x y, x < W ∧ y < H ∧ a = nI x ∧ b = nI y ∧ gr_num (nI W) (nI H) a b = nI (y * W + x) := by
  obtain ⟨x, hx, rfl⟩ := nI_of (Int32.not_lt.mpr h.1)
  obtain ⟨y, hy, rfl⟩ := nI_of (Int32.not_lt.mpr h.2.2.1)
  have h1 := (nI_ltI hx (by omega)).mp h.2.1
  have h2 := (nI_ltI hy (by omega)).mp h.2.2.2
  exact ⟨x, y, h1, h2, rfl, rfl, gr_numI hW hH h1 h2⟩
theorem ins_no {W H : Nat} {a b : Int32} (h : ¬ gr_ins (nI W) (nI H) a b) : gr_num (nI W) (nI H) a b = -1 := if_neg h
theorem ix_xy {W x y : Nat} : nI y * nI W + nI x = nI (y * W + x) := by rw [pk_mul, nI_add]
set_option maxHeartbeats 1000000 in
set_option maxRecDepth 20000 in
theorem c_X6_set {n m aw am ai ah W H cnt N : Nat} {G : ms_H} {th dr pa : Int32} {wl mm : Nat → Int32} {X : cX} {nr mk ds : Nat → Int32} (hM : md_at G m aw am ai ah W H th X.2.2.2 dr pa cnt wl mm X.2.1 X.1) (hl : md_lt n m aw am ai ah) (hW : W ≤ 14) (hH : H ≤ 14) (hW0 : 0 < W) (hc : cnt ≤ 24) (hne : md_ne m aw am ai ah) (hL : lk_ok W H (W * H) nr) (hmm : mmR (W * H) mk mm) (hds : dsR (W * H) nr wl mk ds) (hd : 0 ≤ dr ∧ dr ≤ 9) (hN : N < 1000000) (hV : wdV W H cnt N X) (a b : Int32) : ms_M m_X6_set [.ref m, .int a, .int b] n G 0 0 (mq_P n G (E5 m aw am ai ah) (th_set a b) (fun _ => 1) (.int dr) (fun t G1 => md_at G1 m aw am ai ah W H t X.2.2.2 dr pa cnt wl mm X.2.1 X.1) (fun G1 => md_at G1 m aw am ai ah W H 0 X.2.2.2 a b cnt wl mm X.2.1 X.1)) := by
  refine ms_M.of (by decide) (Nat.le_of_ble_eq_true rfl) ?_
  show ms_W false m_X6_set _ 0 [(0, .ref m), (1, .int a), (2, .int b)] [] n G 0 0
  have hl9 := hl
  have hne9 := hne
  obtain ⟨hm, hw_, hk_, ⟨it, hi_, hit⟩, hh_⟩ := hM
  obtain ⟨l1, l2, l3, l4, l5⟩ := hl
  obtain ⟨n1, n2, n3, n4, n5, n6, n7, n8, n9, n10⟩ := hne
  have h196 := fd_196 hW hH
  have hF : ms_fb (E5 m aw am ai ah) n G G := ms_fb.rf
  refine ms_run (pc' := 2) (lv' := [(0, .ref m), (1, .int a), (2, .int b)]) (st' := [.int 0, .ref m]) _ (ms_deC dX6_set_0 (ms_deC dX6_set_1 ms_deN)) rfl rfl ?_
  refine ms_putf dX6_set_2 fp_X6_46 hm (Nat.le_of_ble_eq_true rfl) rfl rfl ?_
  obtain ⟨G_1, eG_1⟩ : ∃ K9 : ms_H, K9 = ms_up G m (.inr (6, [.int 0, .int (nI W), .int (nI H), .int X.2.2.2, .int dr, .int pa, .ref aw, .ref am, .int (nI cnt), .ref ai, .ref ah])) := ⟨_, rfl⟩
  refine ms_W.heq eG_1 ?_
  have hF_2 : ms_fb (E5 m aw am ai ah) n G G_1 := by rw [eG_1]; exact ms_fb.up hF (by first | exact Or.inl (by omega) | exact Or.inr rfl | exact Or.inr (Or.inl rfl) | exact Or.inr (Or.inr (Or.inl rfl)) | exact Or.inr (Or.inr (Or.inr rfl)) | exact Or.inr (Or.inr rfl))
  have hf_3 : G_1 m = some (.inr (6, [.int 0, .int (nI W), .int (nI H), .int X.2.2.2, .int dr, .int pa, .ref aw, .ref am, .int (nI cnt), .ref ai, .ref ah])) := by rw [eG_1]; exact ms_up_s _ _ _
  have hf_4 := (congrFun eG_1 aw).trans ((ms_up_n G _ (by omega)).trans hw_)
  have hf_5 := (congrFun eG_1 am).trans ((ms_up_n G _ (by omega)).trans hk_)
  have hf_6 := (congrFun eG_1 ai).trans ((ms_up_n G _ (by omega)).trans hi_)
  have hf_7 := (congrFun eG_1 ah).trans ((ms_up_n G _ (by omega)).trans hh_)
  refine ms_run (pc' := 9) (lv' := [(0, .ref m), (1, .int a), (2, .int b)]) (st' := [.int 9, .int 0, .int a]) _ (ms_deC dX6_set_5 (ms_deC dX6_set_6 (ms_deC dX6_set_7 ms_deN))) rfl rfl ?_
  refine ms_callSp (As := [.int a, .int 0, .int 9]) dX6_set_9 (c_X6_isIn a 0 9) cs_X6_49 rfl ⟨Nat.le_of_ble_eq_true rfl, Nat.le_of_ble_eq_true rfl⟩ rfl (Nat.le_of_ble_eq_true rfl) ?_
  by_cases h1 : 0 ≤ a ∧ a ≤ 9
  · rw [show ms_b (0 ≤ a ∧ a ≤ 9) = 1 from if_pos h1]
    refine ms_if_eq (tgt := 25) dX6_set_12 (by decide) (fun h9 => absurd h9 (by decide)) (fun _ => ?_)
    refine ms_run (pc' := 19) (lv' := [(0, .ref m), (1, .int a), (2, .int b)]) (st' := [.int 20, .int 1, .int b]) _ (ms_deC dX6_set_15 (ms_deC dX6_set_16 (ms_deC dX6_set_17 ms_deN))) rfl rfl ?_
    refine ms_callSp (As := [.int b, .int 1, .int 20]) dX6_set_19 (c_X6_isIn b 1 20) cs_X6_49 rfl ⟨Nat.le_of_ble_eq_true rfl, Nat.le_of_ble_eq_true rfl⟩ rfl (Nat.le_of_ble_eq_true rfl) ?_
    by_cases h2 : 1 ≤ b ∧ b ≤ 20
    · rw [show ms_b (1 ≤ b ∧ b ≤ 20) = 1 from if_pos h2]
      refine ms_if_ne (tgt := 31) dX6_set_22 (by decide) (fun _ => ?_) (fun h9 => absurd h9 (by decide))
      refine ms_run (pc' := 32) (lv' := [(0, .ref m), (1, .int a), (2, .int b)]) (st' := [.ref m]) _ (ms_deC dX6_set_31 ms_deN) rfl rfl ?_
      refine ms_getf dX6_set_32 fg_X6_7 hf_3 rfl ?_
      refine ms_run (pc' := 38) (lv' := [(3, .int dr), (0, .ref m), (1, .int a), (2, .int b)]) (st' := [.int a, .ref m]) _ (ms_deC dX6_set_35 (ms_deC dX6_set_36 (ms_deC dX6_set_37 ms_deN))) rfl rfl ?_
      refine ms_putf dX6_set_38 fp_X6_7 hf_3 (Nat.le_of_ble_eq_true rfl) rfl rfl ?_
      obtain ⟨G_8, eG_8⟩ : ∃ K9 : ms_H, K9 = ms_up G_1 m (.inr (6, [.int 0, .int (nI W), .int (nI H), .int X.2.2.2, .int a, .int pa, .ref aw, .ref am, .int (nI cnt), .ref ai, .ref ah])) := ⟨_, rfl⟩
      refine ms_W.heq eG_8 ?_
      have hF_9 : ms_fb (E5 m aw am ai ah) n G G_8 := by rw [eG_8]; exact ms_fb.up hF_2 (by first | exact Or.inl (by omega) | exact Or.inr rfl | exact Or.inr (Or.inl rfl) | exact Or.inr (Or.inr (Or.inl rfl)) | exact Or.inr (Or.inr (Or.inr rfl)) | exact Or.inr (Or.inr rfl))
      have hf_10 : G_8 m = some (.inr (6, [.int 0, .int (nI W), .int (nI H), .int X.2.2.2, .int a, .int pa, .ref aw, .ref am, .int (nI cnt), .ref ai, .ref ah])) := by rw [eG_8]; exact ms_up_s _ _ _
      have hf_11 := (congrFun eG_8 aw).trans ((ms_up_n G_1 _ (by omega)).trans hf_4)
      have hf_12 := (congrFun eG_8 am).trans ((ms_up_n G_1 _ (by omega)).trans hf_5)
      have hf_13 := (congrFun eG_8 ai).trans ((ms_up_n G_1 _ (by omega)).trans hf_6)
      have hf_14 := (congrFun eG_8 ah).trans ((ms_up_n G_1 _ (by omega)).trans hf_7)
      refine ms_run (pc' := 43) (lv' := [(3, .int dr), (0, .ref m), (1, .int a), (2, .int b)]) (st' := [.int b, .ref m]) _ (ms_deC dX6_set_41 (ms_deC dX6_set_42 ms_deN)) rfl rfl ?_
      refine ms_putf dX6_set_43 fp_X6_13 hf_10 (Nat.le_of_ble_eq_true rfl) rfl rfl ?_
      obtain ⟨G_15, eG_15⟩ : ∃ K9 : ms_H, K9 = ms_up G_8 m (.inr (6, [.int 0, .int (nI W), .int (nI H), .int X.2.2.2, .int a, .int b, .ref aw, .ref am, .int (nI cnt), .ref ai, .ref ah])) := ⟨_, rfl⟩
      refine ms_W.heq eG_15 ?_
      have hF_16 : ms_fb (E5 m aw am ai ah) n G G_15 := by rw [eG_15]; exact ms_fb.up hF_9 (by first | exact Or.inl (by omega) | exact Or.inr rfl | exact Or.inr (Or.inl rfl) | exact Or.inr (Or.inr (Or.inl rfl)) | exact Or.inr (Or.inr (Or.inr rfl)) | exact Or.inr (Or.inr rfl))
      have hf_17 : G_15 m = some (.inr (6, [.int 0, .int (nI W), .int (nI H), .int X.2.2.2, .int a, .int b, .ref aw, .ref am, .int (nI cnt), .ref ai, .ref ah])) := by rw [eG_15]; exact ms_up_s _ _ _
      have hf_18 := (congrFun eG_15 aw).trans ((ms_up_n G_8 _ (by omega)).trans hf_11)
      have hf_19 := (congrFun eG_15 am).trans ((ms_up_n G_8 _ (by omega)).trans hf_12)
      have hf_20 := (congrFun eG_15 ai).trans ((ms_up_n G_8 _ (by omega)).trans hf_13)
      have hf_21 := (congrFun eG_15 ah).trans ((ms_up_n G_8 _ (by omega)).trans hf_14)
      refine ms_run (pc' := 47) (lv' := [(3, .int dr), (0, .ref m), (1, .int a), (2, .int b)]) (st' := [.int dr]) _ (ms_deC dX6_set_46 ms_deN) rfl rfl ?_
      refine ms_reti (st := []) (ty := .int) dX6_set_47 rfl rfl ?_
      exact mq_P.ok (if_neg (by rintro (z9 | z9 | z9 | z9); exact Int32.not_lt.mpr h1.1 z9; exact Int32.not_lt.mpr h1.2 z9; exact Int32.not_lt.mpr h2.1 z9; exact Int32.not_lt.mpr h2.2 z9)) (Nat.le_refl n) hF_16 rfl ⟨hf_17, hf_18, hf_19, ⟨it, hf_20, hit⟩, hf_21⟩
    · rw [show ms_b (1 ≤ b ∧ b ≤ 20) = 0 from if_neg h2]
      refine ms_if_ne (tgt := 31) dX6_set_22 (by decide) (fun h9 => absurd h9 (by decide)) (fun _ => ?_)
      refine ms_run (pc' := 27) (lv' := [(0, .ref m), (1, .int a), (2, .int b)]) (st' := [.int 1, .ref m]) _ (ms_deC dX6_set_25 (ms_deC dX6_set_26 ms_deN)) rfl rfl ?_
      refine ms_callV0 (As := [.int 1]) dX6_set_27 (c_X6_no (show md_at G_1 m aw am ai ah W H 0 X.2.2.2 dr pa cnt wl mm X.2.1 X.1 from ⟨hf_3, hf_4, hf_5, ⟨it, hf_6, hit⟩, hf_7⟩) hne9 1) cv_X6_79 hf_3 rfl ⟨Nat.le_of_ble_eq_true rfl, Nat.le_of_ble_eq_true rfl⟩ rfl (Nat.le_of_ble_eq_true rfl) (fun v9 n9 K_no hp9 => ?_)
      obtain ⟨hv9, rfl, hF_no, hM_no⟩ := hp9
      cases hv9
      refine ms_reti (st := []) (ty := .int) dX6_set_30 rfl rfl ?_
      exact mq_P.no (show th_set a b = some IAE from by unfold th_set; grind) (by omega) (ms_fb.trans2 hF_2 (hF_no.mono (fun a h => Or.inl h)) (by omega)) rfl hM_no
  · rw [show ms_b (0 ≤ a ∧ a ≤ 9) = 0 from if_neg h1]
    refine ms_if_eq (tgt := 25) dX6_set_12 (by decide) (fun _ => ?_) (fun h9 => absurd h9 (by decide))
    refine ms_run (pc' := 27) (lv' := [(0, .ref m), (1, .int a), (2, .int b)]) (st' := [.int 1, .ref m]) _ (ms_deC dX6_set_25 (ms_deC dX6_set_26 ms_deN)) rfl rfl ?_
    refine ms_callV0 (As := [.int 1]) dX6_set_27 (c_X6_no (show md_at G_1 m aw am ai ah W H 0 X.2.2.2 dr pa cnt wl mm X.2.1 X.1 from ⟨hf_3, hf_4, hf_5, ⟨it, hf_6, hit⟩, hf_7⟩) hne9 1) cv_X6_79 hf_3 rfl ⟨Nat.le_of_ble_eq_true rfl, Nat.le_of_ble_eq_true rfl⟩ rfl (Nat.le_of_ble_eq_true rfl) (fun v9 n9 K_no hp9 => ?_)
    obtain ⟨hv9, rfl, hF_no, hM_no⟩ := hp9
    cases hv9
    refine ms_reti (st := []) (ty := .int) dX6_set_30 rfl rfl ?_
    exact mq_P.no (show th_set a b = some IAE from by unfold th_set; grind) (by omega) (ms_fb.trans2 hF_2 (hF_no.mono (fun a h => Or.inl h)) (by omega)) rfl hM_no
set_option maxHeartbeats 1000000 in
set_option maxRecDepth 20000 in
theorem c_X6_far_ {n m aw am ai ah W H cnt N : Nat} {G : ms_H} {th dr pa : Int32} {wl mm : Nat → Int32} {X : cX} {nr mk ds : Nat → Int32} (hM : md_at G m aw am ai ah W H th X.2.2.2 dr pa cnt wl mm X.2.1 X.1) (hl : md_lt n m aw am ai ah) (hW : W ≤ 14) (hH : H ≤ 14) (hW0 : 0 < W) (hc : cnt ≤ 24) (hne : md_ne m aw am ai ah) (hL : lk_ok W H (W * H) nr) (hmm : mmR (W * H) mk mm) (hds : dsR (W * H) nr wl mk ds) (hd : 0 ≤ dr ∧ dr ≤ 9) (hN : N < 1000000) (hV : wdV W H cnt N X) (gl a b : Int32) : ms_M m_X6_far_ [.ref m, .int gl, .int a, .int b] n G 2 392 (mq_P n G (E5 m aw am ai ah) (th_far W H gl a b) (fun _ => 1) (.int (sq_ds (nI (W * H)) ds gl (gr_num (nI W) (nI H) a b))) (fun t G1 => md_at G1 m aw am ai ah W H t X.2.2.2 dr pa cnt wl mm X.2.1 X.1) (fun G1 => md_at G1 m aw am ai ah W H 0 X.2.2.2 dr pa cnt wl mm X.2.1 X.1)) := by
  refine ms_M.of (by decide) (Nat.le_of_ble_eq_true rfl) ?_
  show ms_W false m_X6_far_ _ 0 [(0, .ref m), (1, .int gl), (2, .int a), (3, .int b)] [] n G 2 392
  have hl9 := hl
  have hne9 := hne
  obtain ⟨hm, hw_, hk_, ⟨it, hi_, hit⟩, hh_⟩ := hM
  obtain ⟨l1, l2, l3, l4, l5⟩ := hl
  obtain ⟨n1, n2, n3, n4, n5, n6, n7, n8, n9, n10⟩ := hne
  have h196 := fd_196 hW hH
  have hF : ms_fb (E5 m aw am ai ah) n G G := ms_fb.rf
  refine ms_run (pc' := 2) (lv' := [(0, .ref m), (1, .int gl), (2, .int a), (3, .int b)]) (st' := [.int 0, .ref m]) _ (ms_deC dX6_far__0 (ms_deC dX6_far__1 ms_deN)) rfl rfl ?_
  refine ms_putf dX6_far__2 fp_X6_46 hm (Nat.le_of_ble_eq_true rfl) rfl rfl ?_
  obtain ⟨G_1, eG_1⟩ : ∃ K9 : ms_H, K9 = ms_up G m (.inr (6, [.int 0, .int (nI W), .int (nI H), .int X.2.2.2, .int dr, .int pa, .ref aw, .ref am, .int (nI cnt), .ref ai, .ref ah])) := ⟨_, rfl⟩
  refine ms_W.heq eG_1 ?_
  have hF_2 : ms_fb (E5 m aw am ai ah) n G G_1 := by rw [eG_1]; exact ms_fb.up hF (by first | exact Or.inl (by omega) | exact Or.inr rfl | exact Or.inr (Or.inl rfl) | exact Or.inr (Or.inr (Or.inl rfl)) | exact Or.inr (Or.inr (Or.inr rfl)) | exact Or.inr (Or.inr rfl))
  have hf_3 : G_1 m = some (.inr (6, [.int 0, .int (nI W), .int (nI H), .int X.2.2.2, .int dr, .int pa, .ref aw, .ref am, .int (nI cnt), .ref ai, .ref ah])) := by rw [eG_1]; exact ms_up_s _ _ _
  have hf_4 := (congrFun eG_1 aw).trans ((ms_up_n G _ (by omega)).trans hw_)
  have hf_5 := (congrFun eG_1 am).trans ((ms_up_n G _ (by omega)).trans hk_)
  have hf_6 := (congrFun eG_1 ai).trans ((ms_up_n G _ (by omega)).trans hi_)
  have hf_7 := (congrFun eG_1 ah).trans ((ms_up_n G _ (by omega)).trans hh_)
  refine ms_run (pc' := 6) (lv' := [(0, .ref m), (1, .int gl), (2, .int a), (3, .int b)]) (st' := [.int gl]) _ (ms_deC dX6_far__5 ms_deN) rfl rfl ?_
  refine ms_callSp (As := [.int gl]) dX6_far__6 (c_X6_isGoal gl) cs_X6_91 rfl ⟨Nat.le_of_ble_eq_true rfl, Nat.le_of_ble_eq_true rfl⟩ rfl (Nat.le_of_ble_eq_true rfl) ?_
  by_cases hgl : gl_is gl
  · rw [show ms_b (gl_is gl) = 1 from if_pos hgl]
    obtain ⟨g, hg, hge⟩ := gl_nI hgl
    subst hge
    refine ms_if_eq (tgt := 38) dX6_far__9 (by decide) (fun h9 => absurd h9 (by decide)) (fun _ => ?_)
    refine ms_run (pc' := 15) (lv' := [(0, .ref m), (1, .int (nI g)), (2, .int a), (3, .int b)]) (st' := [.int b, .int a, .ref m]) _ (ms_deC dX6_far__12 (ms_deC dX6_far__13 (ms_deC dX6_far__14 ms_deN))) rfl rfl ?_
    refine ms_callVp (As := [.int a, .int b]) dX6_far__15 (c_X6_isField (show md_at G_1 m aw am ai ah W H 0 X.2.2.2 dr pa cnt wl mm X.2.1 X.1 from ⟨hf_3, hf_4, hf_5, ⟨it, hf_6, hit⟩, hf_7⟩) hW hH hc a b) cv_X6_57 hf_3 rfl ⟨Nat.le_of_ble_eq_true rfl, Nat.le_of_ble_eq_true rfl⟩ rfl (Nat.le_of_ble_eq_true rfl) ?_
    by_cases hins : gr_ins (nI W) (nI H) a b
    · rw [show ms_b (gr_ins (nI W) (nI H) a b) = 1 from if_pos hins]
      obtain ⟨ax, ay, hax, hay, hae, hbe, hfe⟩ := ins_nat hW hH hins
      have hlf : ay * W + ax < W * H := fd_lt hax hay
      refine ms_if_eq (tgt := 38) dX6_far__18 (by decide) (fun h9 => absurd h9 (by decide)) (fun _ => ?_)
      refine ms_run (pc' := 23) (lv' := [(0, .ref m), (1, .int (nI g)), (2, .int a), (3, .int b)]) (st' := [.int (nI g), .ref m]) _ (ms_deC dX6_far__21 (ms_deC dX6_far__22 ms_deN)) rfl rfl ?_
      refine ms_W.room (k2 := 2 + 0) (z2 := 392 + 0) ?_ (by omega) (by omega)
      refine ms_callV (As := [.int (nI g)]) dX6_far__23 (c_X6_far (show md_at G_1 m aw am ai ah W H 0 X.2.2.2 dr pa cnt wl mm X.2.1 X.1 from ⟨hf_3, hf_4, hf_5, ⟨it, hf_6, hit⟩, hf_7⟩) hW hH hc hl9 hW0 hL hmm (gi := g) hg) cv_X6_75 hf_3 rfl ⟨Nat.le_of_ble_eq_true rfl, Nat.le_of_ble_eq_true rfl⟩ rfl (Nat.le_of_ble_eq_true rfl) (fun v9 n9 K_fr hp9 => ?_)
      obtain ⟨hv9, rfl, hF_fr, hrow⟩ := hp9
      cases hv9
      have hM2 := md_at.fb (show md_at G_1 m aw am ai ah W H 0 X.2.2.2 dr pa cnt wl mm X.2.1 X.1 from ⟨hf_3, hf_4, hf_5, ⟨it, hf_6, hit⟩, hf_7⟩) hF_fr hl9
      have hF2 := ms_fb.trans hF_2 hF_fr (Nat.le_refl n)
      obtain ⟨hm2, hw2, hk2, ⟨it2, hi2, hit2⟩, hh2⟩ := id hM2
      refine ms_run (pc' := 28) (lv' := [(0, .ref m), (1, .int (nI g)), (2, .int a), (3, .int b)]) (st' := [.ref m, .int b, .ref n]) _ (ms_deC dX6_far__26 (ms_deC dX6_far__27 ms_deN)) rfl rfl ?_
      refine ms_getf dX6_far__28 fg_X6_20 hm2 rfl ?_
      refine ms_run (pc' := 34) (lv' := [(0, .ref m), (1, .int (nI g)), (2, .int a), (3, .int b)]) (st' := [.int ((b * (nI W)) + a), .ref n]) _ (ms_deC dX6_far__31 (ms_deC dX6_far__32 (ms_deC dX6_far__33 ms_deN))) rfl rfl ?_
      refine ms_iaload dX6_far__34 hrow (by rw [hae, hbe, ix_xy]; exact vp_in_nI hlf (by omega)) ?_
      rw [hae, hbe, ix_xy, nI_clamp (n := ay * W + ax) (by omega), ← hae, ← hbe]
      refine ms_goto (tgt := 43) dX6_far__35 (by decide) ?_
      refine ms_reti (st := []) (ty := .int) dX6_far__43 rfl rfl ?_
      exact mq_P.ok (by unfold th_far; rw [if_neg (by rintro (z9 | z9); exact z9 (gl_isI hg); rw [hfe] at z9; exact nI_m1 (by omega) z9)]) (by omega) hF2 (by rw [hfe, sq_dsI ds rfl h196 hlf hg, hds g hg _ hlf]) hM2
    · rw [show ms_b (gr_ins (nI W) (nI H) a b) = 0 from if_neg hins]
      refine ms_if_eq (tgt := 38) dX6_far__18 (by decide) (fun _ => ?_) (fun h9 => absurd h9 (by decide))
      refine ms_run (pc' := 40) (lv' := [(0, .ref m), (1, .int (nI g)), (2, .int a), (3, .int b)]) (st' := [.int 1, .ref m]) _ (ms_deC dX6_far__38 (ms_deC dX6_far__39 ms_deN)) rfl rfl ?_
      refine ms_callV0 (As := [.int 1]) dX6_far__40 (c_X6_no (show md_at G_1 m aw am ai ah W H 0 X.2.2.2 dr pa cnt wl mm X.2.1 X.1 from ⟨hf_3, hf_4, hf_5, ⟨it, hf_6, hit⟩, hf_7⟩) hne9 1) cv_X6_79 hf_3 rfl ⟨Nat.le_of_ble_eq_true rfl, Nat.le_of_ble_eq_true rfl⟩ rfl (Nat.le_of_ble_eq_true rfl) (fun v9 n9 K_no hp9 => ?_)
      obtain ⟨hv9, rfl, hF_no, hM_no⟩ := hp9
      cases hv9
      refine ms_reti (st := []) (ty := .int) dX6_far__43 rfl rfl ?_
      exact mq_P.no (by unfold th_far; rw [if_pos (by first | exact Or.inl hgl | exact Or.inr (ins_no hins))]) (by omega) (ms_fb.trans2 hF_2 (hF_no.mono (fun a h => Or.inl h)) (by omega)) rfl hM_no
  · rw [show ms_b (gl_is gl) = 0 from if_neg hgl]
    refine ms_if_eq (tgt := 38) dX6_far__9 (by decide) (fun _ => ?_) (fun h9 => absurd h9 (by decide))
    refine ms_run (pc' := 40) (lv' := [(0, .ref m), (1, .int gl), (2, .int a), (3, .int b)]) (st' := [.int 1, .ref m]) _ (ms_deC dX6_far__38 (ms_deC dX6_far__39 ms_deN)) rfl rfl ?_
    refine ms_callV0 (As := [.int 1]) dX6_far__40 (c_X6_no (show md_at G_1 m aw am ai ah W H 0 X.2.2.2 dr pa cnt wl mm X.2.1 X.1 from ⟨hf_3, hf_4, hf_5, ⟨it, hf_6, hit⟩, hf_7⟩) hne9 1) cv_X6_79 hf_3 rfl ⟨Nat.le_of_ble_eq_true rfl, Nat.le_of_ble_eq_true rfl⟩ rfl (Nat.le_of_ble_eq_true rfl) (fun v9 n9 K_no hp9 => ?_)
    obtain ⟨hv9, rfl, hF_no, hM_no⟩ := hp9
    cases hv9
    refine ms_reti (st := []) (ty := .int) dX6_far__43 rfl rfl ?_
    exact mq_P.no (by unfold th_far; rw [if_pos (by first | exact Or.inl hgl | exact Or.inr (ins_no hins))]) (by omega) (ms_fb.trans2 hF_2 (hF_no.mono (fun a h => Or.inl h)) (by omega)) rfl hM_no

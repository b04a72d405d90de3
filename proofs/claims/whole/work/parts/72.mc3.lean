/-! the model: calls (3) -/
set_option maxHeartbeats 2000000 in
set_option maxRecDepth 20000 in
theorem c_X6_fieldNow0 {n m aw am ai ah W H cnt N : Nat} {G : ms_H} {th dr pa : Int32} {wl mm : Nat → Int32} {X : cX} {nr mk ds : Nat → Int32} (hM : md_at G m aw am ai ah W H th X.2.2.2 dr pa cnt wl mm X.2.1 X.1) (hl : md_lt n m aw am ai ah) (hW : W ≤ 14) (hH : H ≤ 14) (hW0 : 0 < W) (hc : cnt ≤ 24) (hne : md_ne m aw am ai ah) (hL : lk_ok W H (W * H) nr) (hmm : mmR (W * H) mk mm) (hds : dsR (W * H) nr wl mk ds) (hd : 0 ≤ dr ∧ dr ≤ 9) (hN : N < 1000000) (hV : wdV W H cnt N X) {f : Nat} (hf : f < W * H) : ms_M m_X6_fieldNow [.ref m, .int (nI f), .int 0] n G 0 0 (ms_p1 (some (.int (ffX (nI (W * H)) nr wl X (nI f) 0))) n G) := by
  refine ms_M.of (by decide) (Nat.le_of_ble_eq_true rfl) ?_
  show ms_W false m_X6_fieldNow _ 0 [(0, .ref m), (1, .int (nI f)), (2, .int 0)] [] n G 0 0
  obtain ⟨hm, hw_, hk_, ⟨it, hi_, hit⟩, hh_⟩ := hM
  obtain ⟨l1, l2, l3, l4, l5⟩ := hl
  obtain ⟨n1, n2, n3, n4, n5, n6, n7, n8, n9, n10⟩ := hne
  have h196 := fd_196 hW hH
  refine ms_run (pc' := 1) (lv' := [(0, .ref m), (1, .int (nI f)), (2, .int 0)]) (st' := [.int 0]) _ (ms_deC dX6_fieldNow_0 ms_deN) rfl rfl ?_
  refine ms_tabIn (off := 27) (tgt := 28) dX6_fieldNow_1 (by decide) (by decide) (by decide) (by decide) ?_
  refine ms_run (pc' := 29) (lv' := [(0, .ref m), (1, .int (nI f)), (2, .int 0)]) (st' := [.ref m]) _ (ms_deC dX6_fieldNow_28 ms_deN) rfl rfl ?_
  refine ms_getf dX6_fieldNow_29 fg_X6_29 hm rfl ?_
  refine ms_run (pc' := 33) (lv' := [(0, .ref m), (1, .int (nI f)), (2, .int 0)]) (st' := [.int (nI f), .ref aw]) _ (ms_deC dX6_fieldNow_32 ms_deN) rfl rfl ?_
  refine ms_zaload dX6_fieldNow_33 hw_ (vp_in_nI hf (by omega)) ?_
  rw [nI_clamp (n := f) (by omega)]
  refine ms_if_eq (tgt := 41) dX6_fieldNow_34 (by decide) (fun h_34 => ?_) (fun h_34 => ?_)
  · skip
    refine ms_run (pc' := 42) (lv' := [(0, .ref m), (1, .int (nI f)), (2, .int 0)]) (st' := [.int 0]) _ (ms_deC dX6_fieldNow_41 ms_deN) rfl rfl ?_
    refine ms_reti (st := []) (ty := .int) dX6_fieldNow_42 rfl rfl ?_
    exact ms_p1.mk (ms_int_eq ((if_pos (show sq_fr (nI (W * H)) wl (nI f) from ⟨gr_hasI rfl hf h196, by rw [nI_clamp (by omega)]; exact h_34⟩)).symm)) rfl
  · skip
    refine ms_run (pc' := 38) (lv' := [(0, .ref m), (1, .int (nI f)), (2, .int 0)]) (st' := [.int 1]) _ (ms_deC dX6_fieldNow_37 ms_deN) rfl rfl ?_
    refine ms_goto (tgt := 42) dX6_fieldNow_38 (by decide) ?_
    refine ms_reti (st := []) (ty := .int) dX6_fieldNow_42 rfl rfl ?_
    exact ms_p1.mk (ms_int_eq ((if_neg (show ¬ sq_fr (nI (W * H)) wl (nI f) from fun z9 => h_34 (by have := z9.2; rw [nI_clamp (by omega)] at this; exact this))).symm)) rfl
set_option maxHeartbeats 2000000 in
set_option maxRecDepth 20000 in
theorem c_X6_fieldNow1 {n m aw am ai ah W H cnt N : Nat} {G : ms_H} {th dr pa : Int32} {wl mm : Nat → Int32} {X : cX} {nr mk ds : Nat → Int32} (hM : md_at G m aw am ai ah W H th X.2.2.2 dr pa cnt wl mm X.2.1 X.1) (hl : md_lt n m aw am ai ah) (hW : W ≤ 14) (hH : H ≤ 14) (hW0 : 0 < W) (hc : cnt ≤ 24) (hne : md_ne m aw am ai ah) (hL : lk_ok W H (W * H) nr) (hmm : mmR (W * H) mk mm) (hds : dsR (W * H) nr wl mk ds) (hd : 0 ≤ dr ∧ dr ≤ 9) (hN : N < 1000000) (hV : wdV W H cnt N X) {f : Nat} (hf : f < W * H) : ms_M m_X6_fieldNow [.ref m, .int (nI f), .int 1] n G 0 0 (ms_p1 (some (.int (ffX (nI (W * H)) nr wl X (nI f) 1))) n G) := by
  refine ms_M.of (by decide) (Nat.le_of_ble_eq_true rfl) ?_
  show ms_W false m_X6_fieldNow _ 0 [(0, .ref m), (1, .int (nI f)), (2, .int 1)] [] n G 0 0
  obtain ⟨hm, hw_, hk_, ⟨it, hi_, hit⟩, hh_⟩ := hM
  obtain ⟨l1, l2, l3, l4, l5⟩ := hl
  obtain ⟨n1, n2, n3, n4, n5, n6, n7, n8, n9, n10⟩ := hne
  have h196 := fd_196 hW hH
  refine ms_run (pc' := 1) (lv' := [(0, .ref m), (1, .int (nI f)), (2, .int 1)]) (st' := [.int 1]) _ (ms_deC dX6_fieldNow_0 ms_deN) rfl rfl ?_
  refine ms_tabIn (off := 42) (tgt := 43) dX6_fieldNow_1 (by decide) (by decide) (by decide) (by decide) ?_
  refine ms_run (pc' := 45) (lv' := [(0, .ref m), (1, .int (nI f)), (2, .int 1)]) (st' := [.int (nI f), .ref m]) _ (ms_deC dX6_fieldNow_43 (ms_deC dX6_fieldNow_44 ms_deN)) rfl rfl ?_
  refine ms_callVp (As := [.int (nI f)]) dX6_fieldNow_45 (c_X6_walkerOn (show md_at G m aw am ai ah W H th X.2.2.2 dr pa cnt wl mm X.2.1 X.1 from ⟨hm, hw_, hk_, ⟨it, hi_, hit⟩, hh_⟩) hW hH hc hV.1 hf) cv_X6_88 hm rfl ⟨Nat.le_of_ble_eq_true rfl, Nat.le_of_ble_eq_true rfl⟩ rfl (Nat.le_of_ble_eq_true rfl) ?_
  refine ms_reti (st := []) (ty := .int) dX6_fieldNow_48 rfl rfl ?_
  exact ms_p1.mk (ms_int_eq (cr_onI X.2.2.1 (by omega)).symm) rfl
set_option maxHeartbeats 2000000 in
set_option maxRecDepth 20000 in
theorem c_X6_fieldNow2 {n m aw am ai ah W H cnt N : Nat} {G : ms_H} {th dr pa : Int32} {wl mm : Nat → Int32} {X : cX} {nr mk ds : Nat → Int32} (hM : md_at G m aw am ai ah W H th X.2.2.2 dr pa cnt wl mm X.2.1 X.1) (hl : md_lt n m aw am ai ah) (hW : W ≤ 14) (hH : H ≤ 14) (hW0 : 0 < W) (hc : cnt ≤ 24) (hne : md_ne m aw am ai ah) (hL : lk_ok W H (W * H) nr) (hmm : mmR (W * H) mk mm) (hds : dsR (W * H) nr wl mk ds) (hd : 0 ≤ dr ∧ dr ≤ 9) (hN : N < 1000000) (hV : wdV W H cnt N X) {f : Nat} (hf : f < W * H) : ms_M m_X6_fieldNow [.ref m, .int (nI f), .int 2] n G 0 0 (ms_p1 (some (.int (ffX (nI (W * H)) nr wl X (nI f) 2))) n G) := by
  refine ms_M.of (by decide) (Nat.le_of_ble_eq_true rfl) ?_
  show ms_W false m_X6_fieldNow _ 0 [(0, .ref m), (1, .int (nI f)), (2, .int 2)] [] n G 0 0
  obtain ⟨hm, hw_, hk_, ⟨it, hi_, hit⟩, hh_⟩ := hM
  obtain ⟨l1, l2, l3, l4, l5⟩ := hl
  obtain ⟨n1, n2, n3, n4, n5, n6, n7, n8, n9, n10⟩ := hne
  have h196 := fd_196 hW hH
  refine ms_run (pc' := 1) (lv' := [(0, .ref m), (1, .int (nI f)), (2, .int 2)]) (st' := [.int 2]) _ (ms_deC dX6_fieldNow_0 ms_deN) rfl rfl ?_
  refine ms_tabIn (off := 48) (tgt := 49) dX6_fieldNow_1 (by decide) (by decide) (by decide) (by decide) ?_
  refine ms_run (pc' := 50) (lv' := [(0, .ref m), (1, .int (nI f)), (2, .int 2)]) (st' := [.ref m]) _ (ms_deC dX6_fieldNow_49 ms_deN) rfl rfl ?_
  refine ms_getf dX6_fieldNow_50 fg_X6_43 hm rfl ?_
  refine ms_run (pc' := 54) (lv' := [(0, .ref m), (1, .int (nI f)), (2, .int 2)]) (st' := [.int (nI f), .ref ah]) _ (ms_deC dX6_fieldNow_53 ms_deN) rfl rfl ?_
  refine ms_iaload dX6_fieldNow_54 hh_ (vp_in_nI hf (by omega)) ?_
  rw [nI_clamp (n := f) (by omega)]
  refine ms_reti (st := []) (ty := .int) dX6_fieldNow_55 rfl rfl ?_
  exact ms_p1.mk (ms_int_eq (cr_htI X.2.1 (by omega)).symm) rfl
set_option maxHeartbeats 2000000 in
set_option maxRecDepth 20000 in
theorem c_X6_fieldNow3 {n m aw am ai ah W H cnt N : Nat} {G : ms_H} {th dr pa : Int32} {wl mm : Nat → Int32} {X : cX} {nr mk ds : Nat → Int32} (hM : md_at G m aw am ai ah W H th X.2.2.2 dr pa cnt wl mm X.2.1 X.1) (hl : md_lt n m aw am ai ah) (hW : W ≤ 14) (hH : H ≤ 14) (hW0 : 0 < W) (hc : cnt ≤ 24) (hne : md_ne m aw am ai ah) (hL : lk_ok W H (W * H) nr) (hmm : mmR (W * H) mk mm) (hds : dsR (W * H) nr wl mk ds) (hd : 0 ≤ dr ∧ dr ≤ 9) (hN : N < 1000000) (hV : wdV W H cnt N X) {f : Nat} (hf : f < W * H) : ms_M m_X6_fieldNow [.ref m, .int (nI f), .int 3] n G 0 0 (ms_p1 (some (.int (ffX (nI (W * H)) nr wl X (nI f) 3))) n G) := by
  refine ms_M.of (by decide) (Nat.le_of_ble_eq_true rfl) ?_
  show ms_W false m_X6_fieldNow _ 0 [(0, .ref m), (1, .int (nI f)), (2, .int 3)] [] n G 0 0
  obtain ⟨hm, hw_, hk_, ⟨it, hi_, hit⟩, hh_⟩ := hM
  obtain ⟨l1, l2, l3, l4, l5⟩ := hl
  obtain ⟨n1, n2, n3, n4, n5, n6, n7, n8, n9, n10⟩ := hne
  have h196 := fd_196 hW hH
  refine ms_run (pc' := 1) (lv' := [(0, .ref m), (1, .int (nI f)), (2, .int 3)]) (st' := [.int 3]) _ (ms_deC dX6_fieldNow_0 ms_deN) rfl rfl ?_
  refine ms_tabOut (tgt := 56) dX6_fieldNow_1 (by decide) (by decide) ?_
  refine ms_run (pc' := 59) (lv' := [(0, .ref m), (1, .int (nI f)), (2, .int 3)]) (st' := [.int (-1), .int (nI f), .ref m]) _ (ms_deC dX6_fieldNow_56 (ms_deC dX6_fieldNow_57 (ms_deC dX6_fieldNow_58 ms_deN))) rfl rfl ?_
  refine ms_callVp (As := [.int (nI f), .int (-1)]) dX6_fieldNow_59 (c_X6_round (show md_at G m aw am ai ah W H th X.2.2.2 dr pa cnt wl mm X.2.1 X.1 from ⟨hm, hw_, hk_, ⟨it, hi_, hit⟩, hh_⟩) hW hH hc hW0 hV.2.1 hf (-1)) cv_X6_94 hm rfl ⟨Nat.le_of_ble_eq_true rfl, Nat.le_of_ble_eq_true rfl⟩ rfl (Nat.le_of_ble_eq_true rfl) ?_
  refine ms_reti (st := []) (ty := .int) dX6_fieldNow_62 rfl rfl ?_
  exact ms_p1.mk (ms_int_eq (cRound_eq hL hW hH hc hV.1 hV.2.1 hf).symm) rfl
theorem c_X6_fieldNow {n m aw am ai ah W H cnt N : Nat} {G : ms_H} {th dr pa : Int32} {wl mm : Nat → Int32} {X : cX} {nr mk ds : Nat → Int32} (hM : md_at G m aw am ai ah W H th X.2.2.2 dr pa cnt wl mm X.2.1 X.1) (hl : md_lt n m aw am ai ah) (hW : W ≤ 14) (hH : H ≤ 14) (hW0 : 0 < W) (hc : cnt ≤ 24) (hne : md_ne m aw am ai ah) (hL : lk_ok W H (W * H) nr) (hmm : mmR (W * H) mk mm) (hds : dsR (W * H) nr wl mk ds) (hd : 0 ≤ dr ∧ dr ≤ 9) (hN : N < 1000000) (hV : wdV W H cnt N X) {f s : Nat} (hf : f < W * H) (hs : s ≤ 3) : ms_M m_X6_fieldNow [.ref m, .int (nI f), .int (nI s)] n G 0 0 (ms_p1 (some (.int (ffX (nI (W * H)) nr wl X (nI f) s))) n G) :=
  match s, hs with
  | 0, _ => c_X6_fieldNow0 hM hl hW hH hW0 hc hne hL hmm hds hd hN hV hf
  | 1, _ => c_X6_fieldNow1 hM hl hW hH hW0 hc hne hL hmm hds hd hN hV hf
  | 2, _ => c_X6_fieldNow2 hM hl hW hH hW0 hc hne hL hmm hds hd hN hV hf
  | 3, _ => c_X6_fieldNow3 hM hl hW hH hW0 hc hne hL hmm hds hd hN hV hf
set_option maxHeartbeats 1000000 in
set_option maxRecDepth 20000 in
theorem c_X6_field {n m aw am ai ah W H cnt N : Nat} {G : ms_H} {th dr pa : Int32} {wl mm : Nat → Int32} {X : cX} {nr mk ds : Nat → Int32} (hM : md_at G m aw am ai ah W H th X.2.2.2 dr pa cnt wl mm X.2.1 X.1) (hl : md_lt n m aw am ai ah) (hW : W ≤ 14) (hH : H ≤ 14) (hW0 : 0 < W) (hc : cnt ≤ 24) (hne : md_ne m aw am ai ah) (hL : lk_ok W H (W * H) nr) (hmm : mmR (W * H) mk mm) (hds : dsR (W * H) nr wl mk ds) (hd : 0 ≤ dr ∧ dr ≤ 9) (hN : N < 1000000) (hV : wdV W H cnt N X) (aa bb wh : Int32) : ms_M m_X6_field [.ref m, .int aa, .int bb, .int wh] n G 0 0 (mq_P n G (E5 m aw am ai ah) (th_fld W H aa bb wh) (fun e => if e = IOB then 1 else 2) (.int (ffX (nI (W * H)) nr wl X (gr_num (nI W) (nI H) aa bb) wh.toNatClampNeg)) (fun t G1 => md_at G1 m aw am ai ah W H t X.2.2.2 dr pa cnt wl mm X.2.1 X.1) (fun G1 => md_at G1 m aw am ai ah W H 0 X.2.2.2 dr pa cnt wl mm X.2.1 X.1)) := by
  refine ms_M.of (by decide) (Nat.le_of_ble_eq_true rfl) ?_
  show ms_W false m_X6_field _ 0 [(0, .ref m), (1, .int aa), (2, .int bb), (3, .int wh)] [] n G 0 0
  have hl9 := hl
  have hne9 := hne
  obtain ⟨hm, hw_, hk_, ⟨it, hi_, hit⟩, hh_⟩ := hM
  obtain ⟨l1, l2, l3, l4, l5⟩ := hl
  obtain ⟨n1, n2, n3, n4, n5, n6, n7, n8, n9, n10⟩ := hne
  have h196 := fd_196 hW hH
  have hF : ms_fb (E5 m aw am ai ah) n G G := ms_fb.rf
  refine ms_run (pc' := 2) (lv' := [(0, .ref m), (1, .int aa), (2, .int bb), (3, .int wh)]) (st' := [.int 0, .ref m]) _ (ms_deC dX6_field_0 (ms_deC dX6_field_1 ms_deN)) rfl rfl ?_
  refine ms_putf dX6_field_2 fp_X6_46 hm (Nat.le_of_ble_eq_true rfl) rfl rfl ?_
  obtain ⟨G_1, eG_1⟩ : ∃ K9 : ms_H, K9 = ms_up G m (.inr (6, [.int 0, .int (nI W), .int (nI H), .int X.2.2.2, .int dr, .int pa, .ref aw, .ref am, .int (nI cnt), .ref ai, .ref ah])) := ⟨_, rfl⟩
  refine ms_W.heq eG_1 ?_
  have hF_2 : ms_fb (E5 m aw am ai ah) n G G_1 := by rw [eG_1]; exact ms_fb.up hF (by first | exact Or.inl (by omega) | exact Or.inr rfl | exact Or.inr (Or.inl rfl) | exact Or.inr (Or.inr (Or.inl rfl)) | exact Or.inr (Or.inr (Or.inr rfl)) | exact Or.inr (Or.inr rfl))
  have hf_3 : G_1 m = some (.inr (6, [.int 0, .int (nI W), .int (nI H), .int X.2.2.2, .int dr, .int pa, .ref aw, .ref am, .int (nI cnt), .ref ai, .ref ah])) := by rw [eG_1]; exact ms_up_s _ _ _
  have hf_4 := (congrFun eG_1 aw).trans ((ms_up_n G _ (by omega)).trans hw_)
  have hf_5 := (congrFun eG_1 am).trans ((ms_up_n G _ (by omega)).trans hk_)
  have hf_6 := (congrFun eG_1 ai).trans ((ms_up_n G _ (by omega)).trans hi_)
  have hf_7 := (congrFun eG_1 ah).trans ((ms_up_n G _ (by omega)).trans hh_)
  refine ms_run (pc' := 8) (lv' := [(0, .ref m), (1, .int aa), (2, .int bb), (3, .int wh)]) (st' := [.int bb, .int aa, .ref m]) _ (ms_deC dX6_field_5 (ms_deC dX6_field_6 (ms_deC dX6_field_7 ms_deN))) rfl rfl ?_
  refine ms_callVp (As := [.int aa, .int bb]) dX6_field_8 (c_X6_isField (show md_at G_1 m aw am ai ah W H 0 X.2.2.2 dr pa cnt wl mm X.2.1 X.1 from ⟨hf_3, hf_4, hf_5, ⟨it, hf_6, hit⟩, hf_7⟩) hW hH hc aa bb) cv_X6_57 hf_3 rfl ⟨Nat.le_of_ble_eq_true rfl, Nat.le_of_ble_eq_true rfl⟩ rfl (Nat.le_of_ble_eq_true rfl) ?_
  by_cases hins : gr_ins (nI W) (nI H) aa bb
  · rw [show ms_b (gr_ins (nI W) (nI H) aa bb) = 1 from if_pos hins]
    obtain ⟨ax, ay, hax, hay, hae, hbe, hfe⟩ := ins_nat hW hH hins
    have hlf : ay * W + ax < W * H := fd_lt hax hay
    refine ms_if_ne (tgt := 20) dX6_field_11 (by decide) (fun _ => ?_) (fun h9 => absurd h9 (by decide))
    refine ms_run (pc' := 23) (lv' := [(0, .ref m), (1, .int aa), (2, .int bb), (3, .int wh)]) (st' := [.int 3, .int 0, .int wh]) _ (ms_deC dX6_field_20 (ms_deC dX6_field_21 (ms_deC dX6_field_22 ms_deN))) rfl rfl ?_
    refine ms_callSp (As := [.int wh, .int 0, .int 3]) dX6_field_23 (c_X6_isIn wh 0 3) cs_X6_49 rfl ⟨Nat.le_of_ble_eq_true rfl, Nat.le_of_ble_eq_true rfl⟩ rfl (Nat.le_of_ble_eq_true rfl) ?_
    by_cases hwh : 0 ≤ wh ∧ wh ≤ 3
    · rw [show ms_b (0 ≤ wh ∧ wh ≤ 3) = 1 from if_pos hwh]
      obtain ⟨s9, hs9, hse⟩ := nI_of2 (M := 3) (n := 3) rfl (Int32.not_lt.mpr hwh.1) hwh.2
      subst hse
      refine ms_if_eq (tgt := 45) dX6_field_26 (by decide) (fun h9 => absurd h9 (by decide)) (fun _ => ?_)
      refine ms_run (pc' := 32) (lv' := [(0, .ref m), (1, .int aa), (2, .int bb), (3, .int (nI s9))]) (st' := [.ref m, .int bb, .ref m]) _ (ms_deC dX6_field_29 (ms_deC dX6_field_30 (ms_deC dX6_field_31 ms_deN))) rfl rfl ?_
      refine ms_getf dX6_field_32 fg_X6_20 hf_3 rfl ?_
      refine ms_run (pc' := 39) (lv' := [(0, .ref m), (1, .int aa), (2, .int bb), (3, .int (nI s9))]) (st' := [.int (nI s9), .int ((bb * (nI W)) + aa), .ref m]) _ (ms_deC dX6_field_35 (ms_deC dX6_field_36 (ms_deC dX6_field_37 (ms_deC dX6_field_38 ms_deN)))) rfl rfl ?_
      rw [show (bb * (nI W)) + aa = nI (ay * W + ax) from by rw [hae, hbe, ix_xy]]
      refine ms_callVp (As := [.int (nI (ay * W + ax)), .int (nI s9)]) dX6_field_39 (c_X6_fieldNow (show md_at G_1 m aw am ai ah W H 0 X.2.2.2 dr pa cnt wl mm X.2.1 X.1 from ⟨hf_3, hf_4, hf_5, ⟨it, hf_6, hit⟩, hf_7⟩) hl9 hW hH hW0 hc hne9 hL hmm hds hd hN hV hlf hs9) cv_X6_97 hf_3 rfl ⟨Nat.le_of_ble_eq_true rfl, Nat.le_of_ble_eq_true rfl⟩ rfl (Nat.le_of_ble_eq_true rfl) ?_
      refine ms_goto (tgt := 50) dX6_field_42 (by decide) ?_
      refine ms_reti (st := []) (ty := .int) dX6_field_50 rfl rfl ?_
      exact mq_P.ok (by unfold th_fld; rw [if_neg (by rw [hfe]; exact nI_m1 (by omega)), if_neg (by rintro (z9 | z9); exact Int32.not_lt.mpr hwh.1 z9; exact Int32.not_lt.mpr hwh.2 z9)]) (Nat.le_refl n) hF_2 (by rw [hfe, nI_clamp (n := s9) (by omega)]) ⟨hf_3, hf_4, hf_5, ⟨it, hf_6, hit⟩, hf_7⟩
    · rw [show ms_b (0 ≤ wh ∧ wh ≤ 3) = 0 from if_neg hwh]
      refine ms_if_eq (tgt := 45) dX6_field_26 (by decide) (fun _ => ?_) (fun h9 => absurd h9 (by decide))
      refine ms_run (pc' := 47) (lv' := [(0, .ref m), (1, .int aa), (2, .int bb), (3, .int wh)]) (st' := [.int 2, .ref m]) _ (ms_deC dX6_field_45 (ms_deC dX6_field_46 ms_deN)) rfl rfl ?_
      refine ms_callV0 (As := [.int 2]) dX6_field_47 (c_X6_no (show md_at G_1 m aw am ai ah W H 0 X.2.2.2 dr pa cnt wl mm X.2.1 X.1 from ⟨hf_3, hf_4, hf_5, ⟨it, hf_6, hit⟩, hf_7⟩) hne9 2) cv_X6_79 hf_3 rfl ⟨Nat.le_of_ble_eq_true rfl, Nat.le_of_ble_eq_true rfl⟩ rfl (Nat.le_of_ble_eq_true rfl) (fun v9 n9 K_no hp9 => ?_)
      obtain ⟨hv9, rfl, hF_no, hM_no⟩ := hp9
      cases hv9
      refine ms_reti (st := []) (ty := .int) dX6_field_50 rfl rfl ?_
      exact mq_P.no (show th_fld W H aa bb wh = some IAE from by unfold th_fld; rw [if_neg (by rw [hfe]; exact nI_m1 (by omega))]; grind) (by omega) (ms_fb.trans2 hF_2 (hF_no.mono (fun a h => Or.inl h)) (by omega)) rfl hM_no
  · rw [show ms_b (gr_ins (nI W) (nI H) aa bb) = 0 from if_neg hins]
    refine ms_if_ne (tgt := 20) dX6_field_11 (by decide) (fun h9 => absurd h9 (by decide)) (fun _ => ?_)
    refine ms_run (pc' := 16) (lv' := [(0, .ref m), (1, .int aa), (2, .int bb), (3, .int wh)]) (st' := [.int 1, .ref m]) _ (ms_deC dX6_field_14 (ms_deC dX6_field_15 ms_deN)) rfl rfl ?_
    refine ms_callV0 (As := [.int 1]) dX6_field_16 (c_X6_no (show md_at G_1 m aw am ai ah W H 0 X.2.2.2 dr pa cnt wl mm X.2.1 X.1 from ⟨hf_3, hf_4, hf_5, ⟨it, hf_6, hit⟩, hf_7⟩) hne9 1) cv_X6_79 hf_3 rfl ⟨Nat.le_of_ble_eq_true rfl, Nat.le_of_ble_eq_true rfl⟩ rfl (Nat.le_of_ble_eq_true rfl) (fun v9 n9 K_no hp9 => ?_)
    obtain ⟨hv9, rfl, hF_no, hM_no⟩ := hp9
    cases hv9
    refine ms_reti (st := []) (ty := .int) dX6_field_19 rfl rfl ?_
    exact mq_P.no (show th_fld W H aa bb wh = some IOB from if_pos (ins_no hins)) (by omega) (ms_fb.trans2 hF_2 (hF_no.mono (fun a h => Or.inl h)) (by omega)) rfl hM_no
set_option maxHeartbeats 2000000 in
set_option maxRecDepth 20000 in
theorem c_X6_ofNow0 {n m aw am ai ah W H cnt N : Nat} {G : ms_H} {th dr pa : Int32} {wl mm : Nat → Int32} {X : cX} {nr mk ds : Nat → Int32} (hM : md_at G m aw am ai ah W H th X.2.2.2 dr pa cnt wl mm X.2.1 X.1) (hl : md_lt n m aw am ai ah) (hW : W ≤ 14) (hH : H ≤ 14) (hW0 : 0 < W) (hc : cnt ≤ 24) (hne : md_ne m aw am ai ah) (hL : lk_ok W H (W * H) nr) (hmm : mmR (W * H) mk mm) (hds : dsR (W * H) nr wl mk ds) (hd : 0 ≤ dr ∧ dr ≤ 9) (hN : N < 1000000) (hV : wdV W H cnt N X) {fr lo hi9 : Nat} (hfa : fa_at G fr lo hi9 (W * H) (dXg (W * H) nr wl mk)) {k : Nat} (hk9 : k < cnt) : ms_M m_X6_ofNow [.ref m, .int (nI k), .int 0, .ref fr] n G 0 0 (ms_p1 (some (.int (cr_fig (nI (W * H)) ds (X.1 k) 0))) n G) := by
  refine ms_M.of (by decide) (Nat.le_of_ble_eq_true rfl) ?_
  show ms_W false m_X6_ofNow _ 0 [(0, .ref m), (1, .int (nI k)), (2, .int 0), (3, .ref fr)] [] n G 0 0
  obtain ⟨hm, hw_, hk_, ⟨it, hi_, hit⟩, hh_⟩ := hM
  obtain ⟨l1, l2, l3, l4, l5⟩ := hl
  obtain ⟨n1, n2, n3, n4, n5, n6, n7, n8, n9, n10⟩ := hne
  have h196 := fd_196 hW hH
  obtain ⟨f9, hf1, hf2⟩ := hfa
  refine ms_run (pc' := 7) (lv' := [(4, .int ((nI k) * 8)), (0, .ref m), (1, .int (nI k)), (2, .int 0), (3, .ref fr)]) (st' := [.int 0]) _ (ms_deC dX6_ofNow_0 (ms_deC dX6_ofNow_1 (ms_deC dX6_ofNow_3 (ms_deC dX6_ofNow_4 (ms_deC dX6_ofNow_6 ms_deN))))) rfl rfl ?_
  refine ms_lookup (off := 70) (tgt := 77) dX6_ofNow_7 (by decide) (by decide) (by decide) ?_
  refine ms_run (pc' := 78) (lv' := [(4, .int ((nI k) * 8)), (0, .ref m), (1, .int (nI k)), (2, .int 0), (3, .ref fr)]) (st' := [.ref m]) _ (ms_deC dX6_ofNow_77 ms_deN) rfl rfl ?_
  refine ms_getf dX6_ofNow_78 fg_X6_39 hm rfl ?_
  refine ms_run (pc' := 85) (lv' := [(4, .int ((nI k) * 8)), (0, .ref m), (1, .int (nI k)), (2, .int 0), (3, .ref fr)]) (st' := [.int (((nI k) * 8) + 0), .ref ai]) _ (ms_deC dX6_ofNow_81 (ms_deC dX6_ofNow_83 (ms_deC dX6_ofNow_84 ms_deN))) rfl rfl ?_
  refine ms_iaload dX6_ofNow_85 hi_ (md_in (k := k) (j := 0) (Nat.lt_of_lt_of_le hk9 hc) (by omega)) ?_
  rw [show it (((nI k) * 8) + 0).toNatClampNeg = X.1 k 0 from md_it (k := k) (j := 0) hit hk9 hc (by omega)]
  refine ms_reti (st := []) (ty := .int) dX6_ofNow_86 rfl rfl ?_
  exact ms_p1.mk rfl rfl
set_option maxHeartbeats 2000000 in
set_option maxRecDepth 20000 in
theorem c_X6_ofNow1 {n m aw am ai ah W H cnt N : Nat} {G : ms_H} {th dr pa : Int32} {wl mm : Nat → Int32} {X : cX} {nr mk ds : Nat → Int32} (hM : md_at G m aw am ai ah W H th X.2.2.2 dr pa cnt wl mm X.2.1 X.1) (hl : md_lt n m aw am ai ah) (hW : W ≤ 14) (hH : H ≤ 14) (hW0 : 0 < W) (hc : cnt ≤ 24) (hne : md_ne m aw am ai ah) (hL : lk_ok W H (W * H) nr) (hmm : mmR (W * H) mk mm) (hds : dsR (W * H) nr wl mk ds) (hd : 0 ≤ dr ∧ dr ≤ 9) (hN : N < 1000000) (hV : wdV W H cnt N X) {fr lo hi9 : Nat} (hfa : fa_at G fr lo hi9 (W * H) (dXg (W * H) nr wl mk)) {k : Nat} (hk9 : k < cnt) : ms_M m_X6_ofNow [.ref m, .int (nI k), .int 1, .ref fr] n G 0 0 (ms_p1 (some (.int (cr_fig (nI (W * H)) ds (X.1 k) 1))) n G) := by
  refine ms_M.of (by decide) (Nat.le_of_ble_eq_true rfl) ?_
  show ms_W false m_X6_ofNow _ 0 [(0, .ref m), (1, .int (nI k)), (2, .int 1), (3, .ref fr)] [] n G 0 0
  obtain ⟨hm, hw_, hk_, ⟨it, hi_, hit⟩, hh_⟩ := hM
  obtain ⟨l1, l2, l3, l4, l5⟩ := hl
  obtain ⟨n1, n2, n3, n4, n5, n6, n7, n8, n9, n10⟩ := hne
  have h196 := fd_196 hW hH
  obtain ⟨f9, hf1, hf2⟩ := hfa
  refine ms_run (pc' := 7) (lv' := [(4, .int ((nI k) * 8)), (0, .ref m), (1, .int (nI k)), (2, .int 1), (3, .ref fr)]) (st' := [.int 1]) _ (ms_deC dX6_ofNow_0 (ms_deC dX6_ofNow_1 (ms_deC dX6_ofNow_3 (ms_deC dX6_ofNow_4 (ms_deC dX6_ofNow_6 ms_deN))))) rfl rfl ?_
  refine ms_lookup (off := 70) (tgt := 77) dX6_ofNow_7 (by decide) (by decide) (by decide) ?_
  refine ms_run (pc' := 78) (lv' := [(4, .int ((nI k) * 8)), (0, .ref m), (1, .int (nI k)), (2, .int 1), (3, .ref fr)]) (st' := [.ref m]) _ (ms_deC dX6_ofNow_77 ms_deN) rfl rfl ?_
  refine ms_getf dX6_ofNow_78 fg_X6_39 hm rfl ?_
  refine ms_run (pc' := 85) (lv' := [(4, .int ((nI k) * 8)), (0, .ref m), (1, .int (nI k)), (2, .int 1), (3, .ref fr)]) (st' := [.int (((nI k) * 8) + 1), .ref ai]) _ (ms_deC dX6_ofNow_81 (ms_deC dX6_ofNow_83 (ms_deC dX6_ofNow_84 ms_deN))) rfl rfl ?_
  refine ms_iaload dX6_ofNow_85 hi_ (md_in (k := k) (j := 1) (Nat.lt_of_lt_of_le hk9 hc) (by omega)) ?_
  rw [show it (((nI k) * 8) + 1).toNatClampNeg = X.1 k 1 from md_it (k := k) (j := 1) hit hk9 hc (by omega)]
  refine ms_reti (st := []) (ty := .int) dX6_ofNow_86 rfl rfl ?_
  exact ms_p1.mk rfl rfl
set_option maxHeartbeats 2000000 in
set_option maxRecDepth 20000 in
theorem c_X6_ofNow2 {n m aw am ai ah W H cnt N : Nat} {G : ms_H} {th dr pa : Int32} {wl mm : Nat → Int32} {X : cX} {nr mk ds : Nat → Int32} (hM : md_at G m aw am ai ah W H th X.2.2.2 dr pa cnt wl mm X.2.1 X.1) (hl : md_lt n m aw am ai ah) (hW : W ≤ 14) (hH : H ≤ 14) (hW0 : 0 < W) (hc : cnt ≤ 24) (hne : md_ne m aw am ai ah) (hL : lk_ok W H (W * H) nr) (hmm : mmR (W * H) mk mm) (hds : dsR (W * H) nr wl mk ds) (hd : 0 ≤ dr ∧ dr ≤ 9) (hN : N < 1000000) (hV : wdV W H cnt N X) {fr lo hi9 : Nat} (hfa : fa_at G fr lo hi9 (W * H) (dXg (W * H) nr wl mk)) {k : Nat} (hk9 : k < cnt) : ms_M m_X6_ofNow [.ref m, .int (nI k), .int 2, .ref fr] n G 0 0 (ms_p1 (some (.int (cr_fig (nI (W * H)) ds (X.1 k) 2))) n G) := by
  refine ms_M.of (by decide) (Nat.le_of_ble_eq_true rfl) ?_
  show ms_W false m_X6_ofNow _ 0 [(0, .ref m), (1, .int (nI k)), (2, .int 2), (3, .ref fr)] [] n G 0 0
  obtain ⟨hm, hw_, hk_, ⟨it, hi_, hit⟩, hh_⟩ := hM
  obtain ⟨l1, l2, l3, l4, l5⟩ := hl
  obtain ⟨n1, n2, n3, n4, n5, n6, n7, n8, n9, n10⟩ := hne
  have h196 := fd_196 hW hH
  obtain ⟨f9, hf1, hf2⟩ := hfa
  refine ms_run (pc' := 7) (lv' := [(4, .int ((nI k) * 8)), (0, .ref m), (1, .int (nI k)), (2, .int 2), (3, .ref fr)]) (st' := [.int 2]) _ (ms_deC dX6_ofNow_0 (ms_deC dX6_ofNow_1 (ms_deC dX6_ofNow_3 (ms_deC dX6_ofNow_4 (ms_deC dX6_ofNow_6 ms_deN))))) rfl rfl ?_
  refine ms_lookup (off := 70) (tgt := 77) dX6_ofNow_7 (by decide) (by decide) (by decide) ?_
  refine ms_run (pc' := 78) (lv' := [(4, .int ((nI k) * 8)), (0, .ref m), (1, .int (nI k)), (2, .int 2), (3, .ref fr)]) (st' := [.ref m]) _ (ms_deC dX6_ofNow_77 ms_deN) rfl rfl ?_
  refine ms_getf dX6_ofNow_78 fg_X6_39 hm rfl ?_
  refine ms_run (pc' := 85) (lv' := [(4, .int ((nI k) * 8)), (0, .ref m), (1, .int (nI k)), (2, .int 2), (3, .ref fr)]) (st' := [.int (((nI k) * 8) + 2), .ref ai]) _ (ms_deC dX6_ofNow_81 (ms_deC dX6_ofNow_83 (ms_deC dX6_ofNow_84 ms_deN))) rfl rfl ?_
  refine ms_iaload dX6_ofNow_85 hi_ (md_in (k := k) (j := 2) (Nat.lt_of_lt_of_le hk9 hc) (by omega)) ?_
  rw [show it (((nI k) * 8) + 2).toNatClampNeg = X.1 k 2 from md_it (k := k) (j := 2) hit hk9 hc (by omega)]
  refine ms_reti (st := []) (ty := .int) dX6_ofNow_86 rfl rfl ?_
  exact ms_p1.mk rfl rfl
set_option maxHeartbeats 2000000 in
set_option maxRecDepth 20000 in
theorem c_X6_ofNow3 {n m aw am ai ah W H cnt N : Nat} {G : ms_H} {th dr pa : Int32} {wl mm : Nat → Int32} {X : cX} {nr mk ds : Nat → Int32} (hM : md_at G m aw am ai ah W H th X.2.2.2 dr pa cnt wl mm X.2.1 X.1) (hl : md_lt n m aw am ai ah) (hW : W ≤ 14) (hH : H ≤ 14) (hW0 : 0 < W) (hc : cnt ≤ 24) (hne : md_ne m aw am ai ah) (hL : lk_ok W H (W * H) nr) (hmm : mmR (W * H) mk mm) (hds : dsR (W * H) nr wl mk ds) (hd : 0 ≤ dr ∧ dr ≤ 9) (hN : N < 1000000) (hV : wdV W H cnt N X) {fr lo hi9 : Nat} (hfa : fa_at G fr lo hi9 (W * H) (dXg (W * H) nr wl mk)) {k : Nat} (hk9 : k < cnt) : ms_M m_X6_ofNow [.ref m, .int (nI k), .int 3, .ref fr] n G 0 0 (ms_p1 (some (.int (cr_fig (nI (W * H)) ds (X.1 k) 3))) n G) := by
  refine ms_M.of (by decide) (Nat.le_of_ble_eq_true rfl) ?_
  show ms_W false m_X6_ofNow _ 0 [(0, .ref m), (1, .int (nI k)), (2, .int 3), (3, .ref fr)] [] n G 0 0
  obtain ⟨hm, hw_, hk_, ⟨it, hi_, hit⟩, hh_⟩ := hM
  obtain ⟨l1, l2, l3, l4, l5⟩ := hl
  obtain ⟨n1, n2, n3, n4, n5, n6, n7, n8, n9, n10⟩ := hne
  have h196 := fd_196 hW hH
  obtain ⟨f9, hf1, hf2⟩ := hfa
  refine ms_run (pc' := 7) (lv' := [(4, .int ((nI k) * 8)), (0, .ref m), (1, .int (nI k)), (2, .int 3), (3, .ref fr)]) (st' := [.int 3]) _ (ms_deC dX6_ofNow_0 (ms_deC dX6_ofNow_1 (ms_deC dX6_ofNow_3 (ms_deC dX6_ofNow_4 (ms_deC dX6_ofNow_6 ms_deN))))) rfl rfl ?_
  refine ms_lookup (off := 70) (tgt := 77) dX6_ofNow_7 (by decide) (by decide) (by decide) ?_
  refine ms_run (pc' := 78) (lv' := [(4, .int ((nI k) * 8)), (0, .ref m), (1, .int (nI k)), (2, .int 3), (3, .ref fr)]) (st' := [.ref m]) _ (ms_deC dX6_ofNow_77 ms_deN) rfl rfl ?_
  refine ms_getf dX6_ofNow_78 fg_X6_39 hm rfl ?_
  refine ms_run (pc' := 85) (lv' := [(4, .int ((nI k) * 8)), (0, .ref m), (1, .int (nI k)), (2, .int 3), (3, .ref fr)]) (st' := [.int (((nI k) * 8) + 3), .ref ai]) _ (ms_deC dX6_ofNow_81 (ms_deC dX6_ofNow_83 (ms_deC dX6_ofNow_84 ms_deN))) rfl rfl ?_
  refine ms_iaload dX6_ofNow_85 hi_ (md_in (k := k) (j := 3) (Nat.lt_of_lt_of_le hk9 hc) (by omega)) ?_
  rw [show it (((nI k) * 8) + 3).toNatClampNeg = X.1 k 3 from md_it (k := k) (j := 3) hit hk9 hc (by omega)]
  refine ms_reti (st := []) (ty := .int) dX6_ofNow_86 rfl rfl ?_
  exact ms_p1.mk rfl rfl
set_option maxHeartbeats 2000000 in
set_option maxRecDepth 20000 in
theorem c_X6_ofNow4 {n m aw am ai ah W H cnt N : Nat} {G : ms_H} {th dr pa : Int32} {wl mm : Nat → Int32} {X : cX} {nr mk ds : Nat → Int32} (hM : md_at G m aw am ai ah W H th X.2.2.2 dr pa cnt wl mm X.2.1 X.1) (hl : md_lt n m aw am ai ah) (hW : W ≤ 14) (hH : H ≤ 14) (hW0 : 0 < W) (hc : cnt ≤ 24) (hne : md_ne m aw am ai ah) (hL : lk_ok W H (W * H) nr) (hmm : mmR (W * H) mk mm) (hds : dsR (W * H) nr wl mk ds) (hd : 0 ≤ dr ∧ dr ≤ 9) (hN : N < 1000000) (hV : wdV W H cnt N X) {fr lo hi9 : Nat} (hfa : fa_at G fr lo hi9 (W * H) (dXg (W * H) nr wl mk)) {k : Nat} (hk9 : k < cnt) : ms_M m_X6_ofNow [.ref m, .int (nI k), .int 4, .ref fr] n G 0 0 (ms_p1 (some (.int (cr_fig (nI (W * H)) ds (X.1 k) 4))) n G) := by
  refine ms_M.of (by decide) (Nat.le_of_ble_eq_true rfl) ?_
  show ms_W false m_X6_ofNow _ 0 [(0, .ref m), (1, .int (nI k)), (2, .int 4), (3, .ref fr)] [] n G 0 0
  obtain ⟨hm, hw_, hk_, ⟨it, hi_, hit⟩, hh_⟩ := hM
  obtain ⟨l1, l2, l3, l4, l5⟩ := hl
  obtain ⟨n1, n2, n3, n4, n5, n6, n7, n8, n9, n10⟩ := hne
  have h196 := fd_196 hW hH
  obtain ⟨f9, hf1, hf2⟩ := hfa
  refine ms_run (pc' := 7) (lv' := [(4, .int ((nI k) * 8)), (0, .ref m), (1, .int (nI k)), (2, .int 4), (3, .ref fr)]) (st' := [.int 4]) _ (ms_deC dX6_ofNow_0 (ms_deC dX6_ofNow_1 (ms_deC dX6_ofNow_3 (ms_deC dX6_ofNow_4 (ms_deC dX6_ofNow_6 ms_deN))))) rfl rfl ?_
  refine ms_lookup (off := 70) (tgt := 77) dX6_ofNow_7 (by decide) (by decide) (by decide) ?_
  refine ms_run (pc' := 78) (lv' := [(4, .int ((nI k) * 8)), (0, .ref m), (1, .int (nI k)), (2, .int 4), (3, .ref fr)]) (st' := [.ref m]) _ (ms_deC dX6_ofNow_77 ms_deN) rfl rfl ?_
  refine ms_getf dX6_ofNow_78 fg_X6_39 hm rfl ?_
  refine ms_run (pc' := 85) (lv' := [(4, .int ((nI k) * 8)), (0, .ref m), (1, .int (nI k)), (2, .int 4), (3, .ref fr)]) (st' := [.int (((nI k) * 8) + 4), .ref ai]) _ (ms_deC dX6_ofNow_81 (ms_deC dX6_ofNow_83 (ms_deC dX6_ofNow_84 ms_deN))) rfl rfl ?_
  refine ms_iaload dX6_ofNow_85 hi_ (md_in (k := k) (j := 4) (Nat.lt_of_lt_of_le hk9 hc) (by omega)) ?_
  rw [show it (((nI k) * 8) + 4).toNatClampNeg = X.1 k 4 from md_it (k := k) (j := 4) hit hk9 hc (by omega)]
  refine ms_reti (st := []) (ty := .int) dX6_ofNow_86 rfl rfl ?_
  exact ms_p1.mk rfl rfl
set_option maxHeartbeats 2000000 in
set_option maxRecDepth 20000 in
theorem c_X6_ofNow5 {n m aw am ai ah W H cnt N : Nat} {G : ms_H} {th dr pa : Int32} {wl mm : Nat → Int32} {X : cX} {nr mk ds : Nat → Int32} (hM : md_at G m aw am ai ah W H th X.2.2.2 dr pa cnt wl mm X.2.1 X.1) (hl : md_lt n m aw am ai ah) (hW : W ≤ 14) (hH : H ≤ 14) (hW0 : 0 < W) (hc : cnt ≤ 24) (hne : md_ne m aw am ai ah) (hL : lk_ok W H (W * H) nr) (hmm : mmR (W * H) mk mm) (hds : dsR (W * H) nr wl mk ds) (hd : 0 ≤ dr ∧ dr ≤ 9) (hN : N < 1000000) (hV : wdV W H cnt N X) {fr lo hi9 : Nat} (hfa : fa_at G fr lo hi9 (W * H) (dXg (W * H) nr wl mk)) {k : Nat} (hk9 : k < cnt) : ms_M m_X6_ofNow [.ref m, .int (nI k), .int 5, .ref fr] n G 0 0 (ms_p1 (some (.int (cr_fig (nI (W * H)) ds (X.1 k) 5))) n G) := by
  refine ms_M.of (by decide) (Nat.le_of_ble_eq_true rfl) ?_
  show ms_W false m_X6_ofNow _ 0 [(0, .ref m), (1, .int (nI k)), (2, .int 5), (3, .ref fr)] [] n G 0 0
  obtain ⟨hm, hw_, hk_, ⟨it, hi_, hit⟩, hh_⟩ := hM
  obtain ⟨l1, l2, l3, l4, l5⟩ := hl
  obtain ⟨n1, n2, n3, n4, n5, n6, n7, n8, n9, n10⟩ := hne
  have h196 := fd_196 hW hH
  obtain ⟨f9, hf1, hf2⟩ := hfa
  refine ms_run (pc' := 7) (lv' := [(4, .int ((nI k) * 8)), (0, .ref m), (1, .int (nI k)), (2, .int 5), (3, .ref fr)]) (st' := [.int 5]) _ (ms_deC dX6_ofNow_0 (ms_deC dX6_ofNow_1 (ms_deC dX6_ofNow_3 (ms_deC dX6_ofNow_4 (ms_deC dX6_ofNow_6 ms_deN))))) rfl rfl ?_
  refine ms_lookup (off := 70) (tgt := 77) dX6_ofNow_7 (by decide) (by decide) (by decide) ?_
  refine ms_run (pc' := 78) (lv' := [(4, .int ((nI k) * 8)), (0, .ref m), (1, .int (nI k)), (2, .int 5), (3, .ref fr)]) (st' := [.ref m]) _ (ms_deC dX6_ofNow_77 ms_deN) rfl rfl ?_
  refine ms_getf dX6_ofNow_78 fg_X6_39 hm rfl ?_
  refine ms_run (pc' := 85) (lv' := [(4, .int ((nI k) * 8)), (0, .ref m), (1, .int (nI k)), (2, .int 5), (3, .ref fr)]) (st' := [.int (((nI k) * 8) + 5), .ref ai]) _ (ms_deC dX6_ofNow_81 (ms_deC dX6_ofNow_83 (ms_deC dX6_ofNow_84 ms_deN))) rfl rfl ?_
  refine ms_iaload dX6_ofNow_85 hi_ (md_in (k := k) (j := 5) (Nat.lt_of_lt_of_le hk9 hc) (by omega)) ?_
  rw [show it (((nI k) * 8) + 5).toNatClampNeg = X.1 k 5 from md_it (k := k) (j := 5) hit hk9 hc (by omega)]
  refine ms_reti (st := []) (ty := .int) dX6_ofNow_86 rfl rfl ?_
  exact ms_p1.mk rfl rfl
set_option maxHeartbeats 2000000 in
set_option maxRecDepth 20000 in
theorem c_X6_ofNow6 {n m aw am ai ah W H cnt N : Nat} {G : ms_H} {th dr pa : Int32} {wl mm : Nat → Int32} {X : cX} {nr mk ds : Nat → Int32} (hM : md_at G m aw am ai ah W H th X.2.2.2 dr pa cnt wl mm X.2.1 X.1) (hl : md_lt n m aw am ai ah) (hW : W ≤ 14) (hH : H ≤ 14) (hW0 : 0 < W) (hc : cnt ≤ 24) (hne : md_ne m aw am ai ah) (hL : lk_ok W H (W * H) nr) (hmm : mmR (W * H) mk mm) (hds : dsR (W * H) nr wl mk ds) (hd : 0 ≤ dr ∧ dr ≤ 9) (hN : N < 1000000) (hV : wdV W H cnt N X) {fr lo hi9 : Nat} (hfa : fa_at G fr lo hi9 (W * H) (dXg (W * H) nr wl mk)) {k : Nat} (hk9 : k < cnt) : ms_M m_X6_ofNow [.ref m, .int (nI k), .int 6, .ref fr] n G 0 0 (ms_p1 (some (.int (cr_fig (nI (W * H)) ds (X.1 k) 6))) n G) := by
  refine ms_M.of (by decide) (Nat.le_of_ble_eq_true rfl) ?_
  show ms_W false m_X6_ofNow _ 0 [(0, .ref m), (1, .int (nI k)), (2, .int 6), (3, .ref fr)] [] n G 0 0
  obtain ⟨hm, hw_, hk_, ⟨it, hi_, hit⟩, hh_⟩ := hM
  obtain ⟨l1, l2, l3, l4, l5⟩ := hl
  obtain ⟨n1, n2, n3, n4, n5, n6, n7, n8, n9, n10⟩ := hne
  have h196 := fd_196 hW hH
  obtain ⟨f9, hf1, hf2⟩ := hfa
  refine ms_run (pc' := 7) (lv' := [(4, .int ((nI k) * 8)), (0, .ref m), (1, .int (nI k)), (2, .int 6), (3, .ref fr)]) (st' := [.int 6]) _ (ms_deC dX6_ofNow_0 (ms_deC dX6_ofNow_1 (ms_deC dX6_ofNow_3 (ms_deC dX6_ofNow_4 (ms_deC dX6_ofNow_6 ms_deN))))) rfl rfl ?_
  refine ms_lookup (off := 70) (tgt := 77) dX6_ofNow_7 (by decide) (by decide) (by decide) ?_
  refine ms_run (pc' := 78) (lv' := [(4, .int ((nI k) * 8)), (0, .ref m), (1, .int (nI k)), (2, .int 6), (3, .ref fr)]) (st' := [.ref m]) _ (ms_deC dX6_ofNow_77 ms_deN) rfl rfl ?_
  refine ms_getf dX6_ofNow_78 fg_X6_39 hm rfl ?_
  refine ms_run (pc' := 85) (lv' := [(4, .int ((nI k) * 8)), (0, .ref m), (1, .int (nI k)), (2, .int 6), (3, .ref fr)]) (st' := [.int (((nI k) * 8) + 6), .ref ai]) _ (ms_deC dX6_ofNow_81 (ms_deC dX6_ofNow_83 (ms_deC dX6_ofNow_84 ms_deN))) rfl rfl ?_
  refine ms_iaload dX6_ofNow_85 hi_ (md_in (k := k) (j := 6) (Nat.lt_of_lt_of_le hk9 hc) (by omega)) ?_
  rw [show it (((nI k) * 8) + 6).toNatClampNeg = X.1 k 6 from md_it (k := k) (j := 6) hit hk9 hc (by omega)]
  refine ms_reti (st := []) (ty := .int) dX6_ofNow_86 rfl rfl ?_
  exact ms_p1.mk rfl rfl
set_option maxHeartbeats 2000000 in
set_option maxRecDepth 20000 in
theorem c_X6_ofNow7 {n m aw am ai ah W H cnt N : Nat} {G : ms_H} {th dr pa : Int32} {wl mm : Nat → Int32} {X : cX} {nr mk ds : Nat → Int32} (hM : md_at G m aw am ai ah W H th X.2.2.2 dr pa cnt wl mm X.2.1 X.1) (hl : md_lt n m aw am ai ah) (hW : W ≤ 14) (hH : H ≤ 14) (hW0 : 0 < W) (hc : cnt ≤ 24) (hne : md_ne m aw am ai ah) (hL : lk_ok W H (W * H) nr) (hmm : mmR (W * H) mk mm) (hds : dsR (W * H) nr wl mk ds) (hd : 0 ≤ dr ∧ dr ≤ 9) (hN : N < 1000000) (hV : wdV W H cnt N X) {fr lo hi9 : Nat} (hfa : fa_at G fr lo hi9 (W * H) (dXg (W * H) nr wl mk)) {k : Nat} (hk9 : k < cnt) : ms_M m_X6_ofNow [.ref m, .int (nI k), .int 7, .ref fr] n G 0 0 (ms_p1 (some (.int (cr_fig (nI (W * H)) ds (X.1 k) 7))) n G) := by
  refine ms_M.of (by decide) (Nat.le_of_ble_eq_true rfl) ?_
  show ms_W false m_X6_ofNow _ 0 [(0, .ref m), (1, .int (nI k)), (2, .int 7), (3, .ref fr)] [] n G 0 0
  obtain ⟨hm, hw_, hk_, ⟨it, hi_, hit⟩, hh_⟩ := hM
  obtain ⟨l1, l2, l3, l4, l5⟩ := hl
  obtain ⟨n1, n2, n3, n4, n5, n6, n7, n8, n9, n10⟩ := hne
  have h196 := fd_196 hW hH
  obtain ⟨f9, hf1, hf2⟩ := hfa
  refine ms_run (pc' := 7) (lv' := [(4, .int ((nI k) * 8)), (0, .ref m), (1, .int (nI k)), (2, .int 7), (3, .ref fr)]) (st' := [.int 7]) _ (ms_deC dX6_ofNow_0 (ms_deC dX6_ofNow_1 (ms_deC dX6_ofNow_3 (ms_deC dX6_ofNow_4 (ms_deC dX6_ofNow_6 ms_deN))))) rfl rfl ?_
  refine ms_lookup (off := 25) (tgt := 32) dX6_ofNow_7 (by decide) (by decide) (by decide) ?_
  refine ms_run (pc' := 34) (lv' := [(4, .int ((nI k) * 8)), (0, .ref m), (1, .int (nI k)), (2, .int 7), (3, .ref fr)]) (st' := [.int (nI k), .ref m]) _ (ms_deC dX6_ofNow_32 (ms_deC dX6_ofNow_33 ms_deN)) rfl rfl ?_
  refine ms_callVp (As := [.int (nI k)]) dX6_ofNow_34 (c_X6_isOnI (show md_at G m aw am ai ah W H th X.2.2.2 dr pa cnt wl mm X.2.1 X.1 from ⟨hm, hw_, hk_, ⟨it, hi_, hit⟩, hh_⟩) hW hH hc hk9) cv_X6_110 hm rfl ⟨Nat.le_of_ble_eq_true rfl, Nat.le_of_ble_eq_true rfl⟩ rfl (Nat.le_of_ble_eq_true rfl) ?_
  by_cases hon9 : ¬ X.1 k 3 = -1
  · rw [show ms_b (¬ X.1 k 3 = -1) = 1 from if_pos hon9]
    obtain ⟨own, ho, hpo⟩ := pos_of hW hH hV.2.1 hk9 hon9
    obtain ⟨g, hg, hgo⟩ := gl_nI (hV.2.2.1 k hk9).1
    refine ms_if_eq (tgt := 64) dX6_ofNow_37 (by decide) (fun h9 => absurd h9 (by decide)) (fun _ => ?_)
    refine ms_run (pc' := 42) (lv' := [(4, .int ((nI k) * 8)), (0, .ref m), (1, .int (nI k)), (2, .int 7), (3, .ref fr)]) (st' := [.ref m, .ref fr]) _ (ms_deC dX6_ofNow_40 (ms_deC dX6_ofNow_41 ms_deN)) rfl rfl ?_
    refine ms_getf dX6_ofNow_42 fg_X6_39 hm rfl ?_
    refine ms_run (pc' := 49) (lv' := [(4, .int ((nI k) * 8)), (0, .ref m), (1, .int (nI k)), (2, .int 7), (3, .ref fr)]) (st' := [.int (((nI k) * 8) + 0), .ref ai, .ref fr]) _ (ms_deC dX6_ofNow_45 (ms_deC dX6_ofNow_47 (ms_deC dX6_ofNow_48 ms_deN))) rfl rfl ?_
    refine ms_iaload dX6_ofNow_49 hi_ (md_in (k := k) (j := 0) (Nat.lt_of_lt_of_le hk9 hc) (by omega)) ?_
    rw [show it (((nI k) * 8) + 0).toNatClampNeg = X.1 k 0 from md_it (k := k) (j := 0) hit hk9 hc (by omega)]
    rw [hgo]
    refine ms_aaloadA dX6_ofNow_50 hf1 (vp_in_nI hg (by omega)) ?_
    rw [nI_clamp (n := g) (by omega)]
    obtain ⟨bb, eb, eb1, eb2, eb3⟩ := hf2 g hg
    rw [eb]
    show ms_W _ _ _ _ _ (.ref bb :: _) _ _ _ _
    refine ms_run (pc' := 52) (lv' := [(4, .int ((nI k) * 8)), (0, .ref m), (1, .int (nI k)), (2, .int 7), (3, .ref fr)]) (st' := [.ref m, .ref bb]) _ (ms_deC dX6_ofNow_51 ms_deN) rfl rfl ?_
    refine ms_getf dX6_ofNow_52 fg_X6_39 hm rfl ?_
    refine ms_run (pc' := 59) (lv' := [(4, .int ((nI k) * 8)), (0, .ref m), (1, .int (nI k)), (2, .int 7), (3, .ref fr)]) (st' := [.int (((nI k) * 8) + 3), .ref ai, .ref bb]) _ (ms_deC dX6_ofNow_55 (ms_deC dX6_ofNow_57 (ms_deC dX6_ofNow_58 ms_deN))) rfl rfl ?_
    refine ms_iaload dX6_ofNow_59 hi_ (md_in (k := k) (j := 3) (Nat.lt_of_lt_of_le hk9 hc) (by omega)) ?_
    rw [show it (((nI k) * 8) + 3).toNatClampNeg = X.1 k 3 from md_it (k := k) (j := 3) hit hk9 hc (by omega)]
    rw [hpo]
    refine ms_iaload dX6_ofNow_60 eb3 (vp_in_nI ho (by omega)) ?_
    rw [nI_clamp (n := own) (by omega)]
    refine ms_goto (tgt := 65) dX6_ofNow_61 (by decide) ?_
    refine ms_reti (st := []) (ty := .int) dX6_ofNow_65 rfl rfl ?_
    exact ms_p1.mk (ms_int_eq (by unfold cr_fig; rw [if_neg (by omega), if_pos rfl, if_neg hon9, hgo, hpo, sq_dsI ds rfl h196 ho hg, hds g hg own ho])) rfl
  · rw [show ms_b (¬ X.1 k 3 = -1) = 0 from if_neg hon9]
    refine ms_if_eq (tgt := 64) dX6_ofNow_37 (by decide) (fun _ => ?_) (fun h9 => absurd h9 (by decide))
    refine ms_run (pc' := 65) (lv' := [(4, .int ((nI k) * 8)), (0, .ref m), (1, .int (nI k)), (2, .int 7), (3, .ref fr)]) (st' := [.int 0]) _ (ms_deC dX6_ofNow_64 ms_deN) rfl rfl ?_
    refine ms_reti (st := []) (ty := .int) dX6_ofNow_65 rfl rfl ?_
    exact ms_p1.mk (ms_int_eq (by unfold cr_fig; rw [if_neg (by omega), if_pos rfl, if_pos (Decidable.not_not.mp hon9)])) rfl
set_option maxHeartbeats 2000000 in
set_option maxRecDepth 20000 in
theorem c_X6_ofNow8 {n m aw am ai ah W H cnt N : Nat} {G : ms_H} {th dr pa : Int32} {wl mm : Nat → Int32} {X : cX} {nr mk ds : Nat → Int32} (hM : md_at G m aw am ai ah W H th X.2.2.2 dr pa cnt wl mm X.2.1 X.1) (hl : md_lt n m aw am ai ah) (hW : W ≤ 14) (hH : H ≤ 14) (hW0 : 0 < W) (hc : cnt ≤ 24) (hne : md_ne m aw am ai ah) (hL : lk_ok W H (W * H) nr) (hmm : mmR (W * H) mk mm) (hds : dsR (W * H) nr wl mk ds) (hd : 0 ≤ dr ∧ dr ≤ 9) (hN : N < 1000000) (hV : wdV W H cnt N X) {fr lo hi9 : Nat} (hfa : fa_at G fr lo hi9 (W * H) (dXg (W * H) nr wl mk)) {k : Nat} (hk9 : k < cnt) : ms_M m_X6_ofNow [.ref m, .int (nI k), .int 8, .ref fr] n G 0 0 (ms_p1 (some (.int (cr_fig (nI (W * H)) ds (X.1 k) 8))) n G) := by
  refine ms_M.of (by decide) (Nat.le_of_ble_eq_true rfl) ?_
  show ms_W false m_X6_ofNow _ 0 [(0, .ref m), (1, .int (nI k)), (2, .int 8), (3, .ref fr)] [] n G 0 0
  obtain ⟨hm, hw_, hk_, ⟨it, hi_, hit⟩, hh_⟩ := hM
  obtain ⟨l1, l2, l3, l4, l5⟩ := hl
  obtain ⟨n1, n2, n3, n4, n5, n6, n7, n8, n9, n10⟩ := hne
  have h196 := fd_196 hW hH
  obtain ⟨f9, hf1, hf2⟩ := hfa
  refine ms_run (pc' := 7) (lv' := [(4, .int ((nI k) * 8)), (0, .ref m), (1, .int (nI k)), (2, .int 8), (3, .ref fr)]) (st' := [.int 8]) _ (ms_deC dX6_ofNow_0 (ms_deC dX6_ofNow_1 (ms_deC dX6_ofNow_3 (ms_deC dX6_ofNow_4 (ms_deC dX6_ofNow_6 ms_deN))))) rfl rfl ?_
  refine ms_lookup (off := 59) (tgt := 66) dX6_ofNow_7 (by decide) (by decide) (by decide) ?_
  refine ms_run (pc' := 67) (lv' := [(4, .int ((nI k) * 8)), (0, .ref m), (1, .int (nI k)), (2, .int 8), (3, .ref fr)]) (st' := [.ref m]) _ (ms_deC dX6_ofNow_66 ms_deN) rfl rfl ?_
  refine ms_getf dX6_ofNow_67 fg_X6_39 hm rfl ?_
  refine ms_run (pc' := 75) (lv' := [(4, .int ((nI k) * 8)), (0, .ref m), (1, .int (nI k)), (2, .int 8), (3, .ref fr)]) (st' := [.int (((nI k) * 8) + 7), .ref ai]) _ (ms_deC dX6_ofNow_70 (ms_deC dX6_ofNow_72 (ms_deC dX6_ofNow_74 ms_deN))) rfl rfl ?_
  refine ms_iaload dX6_ofNow_75 hi_ (md_in (k := k) (j := 7) (Nat.lt_of_lt_of_le hk9 hc) (by omega)) ?_
  rw [show it (((nI k) * 8) + 7).toNatClampNeg = X.1 k 7 from md_it (k := k) (j := 7) hit hk9 hc (by omega)]
  refine ms_reti (st := []) (ty := .int) dX6_ofNow_76 rfl rfl ?_
  exact ms_p1.mk rfl rfl
theorem c_X6_ofNow {n m aw am ai ah W H cnt N : Nat} {G : ms_H} {th dr pa : Int32} {wl mm : Nat → Int32} {X : cX} {nr mk ds : Nat → Int32} (hM : md_at G m aw am ai ah W H th X.2.2.2 dr pa cnt wl mm X.2.1 X.1) (hl : md_lt n m aw am ai ah) (hW : W ≤ 14) (hH : H ≤ 14) (hW0 : 0 < W) (hc : cnt ≤ 24) (hne : md_ne m aw am ai ah) (hL : lk_ok W H (W * H) nr) (hmm : mmR (W * H) mk mm) (hds : dsR (W * H) nr wl mk ds) (hd : 0 ≤ dr ∧ dr ≤ 9) (hN : N < 1000000) (hV : wdV W H cnt N X) {fr lo hi9 : Nat} (hfa : fa_at G fr lo hi9 (W * H) (dXg (W * H) nr wl mk)) {k : Nat} (hk9 : k < cnt) {s : Nat} (hs : s ≤ 8) : ms_M m_X6_ofNow [.ref m, .int (nI k), .int (nI s), .ref fr] n G 0 0 (ms_p1 (some (.int (cr_fig (nI (W * H)) ds (X.1 k) s))) n G) :=
  match s, hs with
  | 0, _ => c_X6_ofNow0 hM hl hW hH hW0 hc hne hL hmm hds hd hN hV hfa hk9
  | 1, _ => c_X6_ofNow1 hM hl hW hH hW0 hc hne hL hmm hds hd hN hV hfa hk9
  | 2, _ => c_X6_ofNow2 hM hl hW hH hW0 hc hne hL hmm hds hd hN hV hfa hk9
  | 3, _ => c_X6_ofNow3 hM hl hW hH hW0 hc hne hL hmm hds hd hN hV hfa hk9
  | 4, _ => c_X6_ofNow4 hM hl hW hH hW0 hc hne hL hmm hds hd hN hV hfa hk9
  | 5, _ => c_X6_ofNow5 hM hl hW hH hW0 hc hne hL hmm hds hd hN hV hfa hk9
  | 6, _ => c_X6_ofNow6 hM hl hW hH hW0 hc hne hL hmm hds hd hN hV hfa hk9
  | 7, _ => c_X6_ofNow7 hM hl hW hH hW0 hc hne hL hmm hds hd hN hV hfa hk9
  | 8, _ => c_X6_ofNow8 hM hl hW hH hW0 hc hne hL hmm hds hd hN hV hfa hk9
set_option maxHeartbeats 1000000 in
set_option maxRecDepth 20000 in
theorem c_X6_ofWalker {n m aw am ai ah W H cnt N : Nat} {G : ms_H} {th dr pa : Int32} {wl mm : Nat → Int32} {X : cX} {nr mk ds : Nat → Int32} (hM : md_at G m aw am ai ah W H th X.2.2.2 dr pa cnt wl mm X.2.1 X.1) (hl : md_lt n m aw am ai ah) (hW : W ≤ 14) (hH : H ≤ 14) (hW0 : 0 < W) (hc : cnt ≤ 24) (hne : md_ne m aw am ai ah) (hL : lk_ok W H (W * H) nr) (hmm : mmR (W * H) mk mm) (hds : dsR (W * H) nr wl mk ds) (hd : 0 ≤ dr ∧ dr ≤ 9) (hN : N < 1000000) (hV : wdV W H cnt N X) (kk wh : Int32) : ms_M m_X6_ofWalker [.ref m, .int kk, .int wh] n G 9 1572 (mq_P n G (E5 m aw am ai ah) (th_ofw cnt kk (wh < 0 ∨ 8 < wh)) (fun e => if e = IOB then 1 else 2) (.int (cr_fig (nI (W * H)) ds (X.1 kk.toNatClampNeg) wh.toNatClampNeg)) (fun t G1 => md_at G1 m aw am ai ah W H t X.2.2.2 dr pa cnt wl mm X.2.1 X.1) (fun G1 => md_at G1 m aw am ai ah W H 0 X.2.2.2 dr pa cnt wl mm X.2.1 X.1)) := by
  refine ms_M.of (by decide) (Nat.le_of_ble_eq_true rfl) ?_
  show ms_W false m_X6_ofWalker _ 0 [(0, .ref m), (1, .int kk), (2, .int wh)] [] n G 9 1572
  have hl9 := hl
  have hne9 := hne
  obtain ⟨hm, hw_, hk_, ⟨it, hi_, hit⟩, hh_⟩ := hM
  obtain ⟨l1, l2, l3, l4, l5⟩ := hl
  obtain ⟨n1, n2, n3, n4, n5, n6, n7, n8, n9, n10⟩ := hne
  have h196 := fd_196 hW hH
  have hF : ms_fb (E5 m aw am ai ah) n G G := ms_fb.rf
  refine ms_run (pc' := 2) (lv' := [(0, .ref m), (1, .int kk), (2, .int wh)]) (st' := [.int 0, .ref m]) _ (ms_deC dX6_ofWalker_0 (ms_deC dX6_ofWalker_1 ms_deN)) rfl rfl ?_
  refine ms_putf dX6_ofWalker_2 fp_X6_46 hm (Nat.le_of_ble_eq_true rfl) rfl rfl ?_
  obtain ⟨G_1, eG_1⟩ : ∃ K9 : ms_H, K9 = ms_up G m (.inr (6, [.int 0, .int (nI W), .int (nI H), .int X.2.2.2, .int dr, .int pa, .ref aw, .ref am, .int (nI cnt), .ref ai, .ref ah])) := ⟨_, rfl⟩
  refine ms_W.heq eG_1 ?_
  have hF_2 : ms_fb (E5 m aw am ai ah) n G G_1 := by rw [eG_1]; exact ms_fb.up hF (by first | exact Or.inl (by omega) | exact Or.inr rfl | exact Or.inr (Or.inl rfl) | exact Or.inr (Or.inr (Or.inl rfl)) | exact Or.inr (Or.inr (Or.inr rfl)) | exact Or.inr (Or.inr rfl))
  have hf_3 : G_1 m = some (.inr (6, [.int 0, .int (nI W), .int (nI H), .int X.2.2.2, .int dr, .int pa, .ref aw, .ref am, .int (nI cnt), .ref ai, .ref ah])) := by rw [eG_1]; exact ms_up_s _ _ _
  have hf_4 := (congrFun eG_1 aw).trans ((ms_up_n G _ (by omega)).trans hw_)
  have hf_5 := (congrFun eG_1 am).trans ((ms_up_n G _ (by omega)).trans hk_)
  have hf_6 := (congrFun eG_1 ai).trans ((ms_up_n G _ (by omega)).trans hi_)
  have hf_7 := (congrFun eG_1 ah).trans ((ms_up_n G _ (by omega)).trans hh_)
  refine ms_run (pc' := 7) (lv' := [(0, .ref m), (1, .int kk), (2, .int wh)]) (st' := [.int kk, .ref m]) _ (ms_deC dX6_ofWalker_5 (ms_deC dX6_ofWalker_6 ms_deN)) rfl rfl ?_
  refine ms_callVp (As := [.int kk]) dX6_ofWalker_7 (c_X6_isWalker (show md_at G_1 m aw am ai ah W H 0 X.2.2.2 dr pa cnt wl mm X.2.1 X.1 from ⟨hf_3, hf_4, hf_5, ⟨it, hf_6, hit⟩, hf_7⟩) hW hH hc kk) cv_X6_53 hf_3 rfl ⟨Nat.le_of_ble_eq_true rfl, Nat.le_of_ble_eq_true rfl⟩ rfl (Nat.le_of_ble_eq_true rfl) ?_
  by_cases hpi : pIs (nI cnt) kk
  · rw [show ms_b (pIs (nI cnt) kk) = 1 from if_pos hpi]
    obtain ⟨i, hi, hki⟩ := pIs_nI hc hpi
    subst hki
    rw [nI_clamp (n := i) (by omega)]
    refine ms_if_ne (tgt := 19) dX6_ofWalker_10 (by decide) (fun _ => ?_) (fun h9 => absurd h9 (by decide))
    refine ms_run (pc' := 23) (lv' := [(0, .ref m), (1, .int (nI i)), (2, .int wh)]) (st' := [.int 8, .int 0, .int wh]) _ (ms_deC dX6_ofWalker_19 (ms_deC dX6_ofWalker_20 (ms_deC dX6_ofWalker_21 ms_deN))) rfl rfl ?_
    refine ms_callSp (As := [.int wh, .int 0, .int 8]) dX6_ofWalker_23 (c_X6_isIn wh 0 8) cs_X6_49 rfl ⟨Nat.le_of_ble_eq_true rfl, Nat.le_of_ble_eq_true rfl⟩ rfl (Nat.le_of_ble_eq_true rfl) ?_
    by_cases hwh : 0 ≤ wh ∧ wh ≤ 8
    · rw [show ms_b (0 ≤ wh ∧ wh ≤ 8) = 1 from if_pos hwh]
      obtain ⟨s9, hs9, hse⟩ := nI_of2 (M := 8) (n := 8) rfl (Int32.not_lt.mpr hwh.1) hwh.2
      subst hse
      refine ms_if_eq (tgt := 42) dX6_ofWalker_26 (by decide) (fun h9 => absurd h9 (by decide)) (fun _ => ?_)
      refine ms_run (pc' := 33) (lv' := [(0, .ref m), (1, .int (nI i)), (2, .int (nI s9))]) (st' := [.ref m, .int (nI s9), .int (nI i), .ref m]) _ (ms_deC dX6_ofWalker_29 (ms_deC dX6_ofWalker_30 (ms_deC dX6_ofWalker_31 (ms_deC dX6_ofWalker_32 ms_deN)))) rfl rfl ?_
      refine ms_W.room (k2 := 9 + 0) (z2 := 1572 + 0) ?_ (by omega) (by omega)
      refine ms_callV (As := []) dX6_ofWalker_33 (c_X6_farAll (show md_at G_1 m aw am ai ah W H 0 X.2.2.2 dr pa cnt wl mm X.2.1 X.1 from ⟨hf_3, hf_4, hf_5, ⟨it, hf_6, hit⟩, hf_7⟩) hW hH hc hl9 hW0 hL hmm) cv_X6_121 hf_3 rfl ⟨Nat.le_of_ble_eq_true rfl, Nat.le_of_ble_eq_true rfl⟩ rfl (Nat.le_of_ble_eq_true rfl) (fun v9 n9 K_fa hp9 => ?_)
      obtain ⟨hv9, rfl, hF_fa, hfa⟩ := hp9
      cases hv9
      have hM2 := md_at.fb (show md_at G_1 m aw am ai ah W H 0 X.2.2.2 dr pa cnt wl mm X.2.1 X.1 from ⟨hf_3, hf_4, hf_5, ⟨it, hf_6, hit⟩, hf_7⟩) hF_fa hl9
      have hl2 : md_lt (n + 9) m aw am ai ah := ⟨by omega, by omega, by omega, by omega, by omega⟩
      have hF2 := ms_fb.trans hF_2 hF_fa (Nat.le_refl n)
      obtain ⟨hm2, hw2, hk2, ⟨it2, hi2, hit2⟩, hh2⟩ := id hM2
      refine ms_callVp (As := [.int (nI i), .int (nI s9), .ref n]) dX6_ofWalker_36 (c_X6_ofNow hM2 hl2 hW hH hW0 hc hne9 hL hmm hds hd hN hV hfa hi hs9) cv_X6_144 hm2 rfl ⟨Nat.le_of_ble_eq_true rfl, Nat.le_of_ble_eq_true rfl⟩ rfl (Nat.le_of_ble_eq_true rfl) ?_
      refine ms_goto (tgt := 47) dX6_ofWalker_39 (by decide) ?_
      refine ms_reti (st := []) (ty := .int) dX6_ofWalker_47 rfl rfl ?_
      exact mq_P.ok (by unfold th_ofw; rw [if_neg (not_not_intro hpi), if_neg (by rintro (z9 | z9); exact Int32.not_lt.mpr hwh.1 z9; exact Int32.not_lt.mpr hwh.2 z9)]) (by omega) hF2 (by rw [nI_clamp (n := s9) (by omega)]) hM2
    · rw [show ms_b (0 ≤ wh ∧ wh ≤ 8) = 0 from if_neg hwh]
      refine ms_if_eq (tgt := 42) dX6_ofWalker_26 (by decide) (fun _ => ?_) (fun h9 => absurd h9 (by decide))
      refine ms_run (pc' := 44) (lv' := [(0, .ref m), (1, .int (nI i)), (2, .int wh)]) (st' := [.int 2, .ref m]) _ (ms_deC dX6_ofWalker_42 (ms_deC dX6_ofWalker_43 ms_deN)) rfl rfl ?_
      refine ms_callV0 (As := [.int 2]) dX6_ofWalker_44 (c_X6_no (show md_at G_1 m aw am ai ah W H 0 X.2.2.2 dr pa cnt wl mm X.2.1 X.1 from ⟨hf_3, hf_4, hf_5, ⟨it, hf_6, hit⟩, hf_7⟩) hne9 2) cv_X6_79 hf_3 rfl ⟨Nat.le_of_ble_eq_true rfl, Nat.le_of_ble_eq_true rfl⟩ rfl (Nat.le_of_ble_eq_true rfl) (fun v9 n9 K_no hp9 => ?_)
      obtain ⟨hv9, rfl, hF_no, hM_no⟩ := hp9
      cases hv9
      refine ms_reti (st := []) (ty := .int) dX6_ofWalker_47 rfl rfl ?_
      exact mq_P.no (show th_ofw cnt (nI i) (wh < 0 ∨ 8 < wh) = some IAE from by unfold th_ofw; rw [if_neg (not_not_intro hpi)]; grind) (by omega) (ms_fb.trans2 hF_2 (hF_no.mono (fun a h => Or.inl h)) (by omega)) rfl hM_no
  · rw [show ms_b (pIs (nI cnt) kk) = 0 from if_neg hpi]
    refine ms_if_ne (tgt := 19) dX6_ofWalker_10 (by decide) (fun h9 => absurd h9 (by decide)) (fun _ => ?_)
    refine ms_run (pc' := 15) (lv' := [(0, .ref m), (1, .int kk), (2, .int wh)]) (st' := [.int 1, .ref m]) _ (ms_deC dX6_ofWalker_13 (ms_deC dX6_ofWalker_14 ms_deN)) rfl rfl ?_
    refine ms_callV0 (As := [.int 1]) dX6_ofWalker_15 (c_X6_no (show md_at G_1 m aw am ai ah W H 0 X.2.2.2 dr pa cnt wl mm X.2.1 X.1 from ⟨hf_3, hf_4, hf_5, ⟨it, hf_6, hit⟩, hf_7⟩) hne9 1) cv_X6_79 hf_3 rfl ⟨Nat.le_of_ble_eq_true rfl, Nat.le_of_ble_eq_true rfl⟩ rfl (Nat.le_of_ble_eq_true rfl) (fun v9 n9 K_no hp9 => ?_)
    obtain ⟨hv9, rfl, hF_no, hM_no⟩ := hp9
    cases hv9
    refine ms_reti (st := []) (ty := .int) dX6_ofWalker_18 rfl rfl ?_
    exact mq_P.no (show th_ofw cnt kk (wh < 0 ∨ 8 < wh) = some IOB from if_pos hpi) (by omega) (ms_fb.trans2 hF_2 (hF_no.mono (fun a h => Or.inl h)) (by omega)) rfl hM_no

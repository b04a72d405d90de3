/-! StarlingSquare: the calls (2) -/
def ct_P (g q2 c2 n cnt : Nat) (dr pa : Int32) (G : ms_H) (wl mk ds : Nat → Int32) (X : cX) : ms_P := fun r n1 G1 => r = .inl none ∧ n1 = n ∧ (∃ qu, sq_at G1 g q2 wl mk ds qu) ∧ cw_at G1 g q2 c2 cnt dr pa X ∧ ms_fr q2 (c2 + 29 - q2) G G1
def isAh (T : Int32) : Prop := 1 ≤ T ∧ T ≤ 60
set_option maxHeartbeats 4000000 in
set_option maxRecDepth 20000 in
theorem c_X5_copyToTrial {n x g q c j q2 c2 W H : Nat} {G : ms_H} {nr wl mk ds : Nat → Int32} {cnt : Nat} {dr pa : Int32} {X : cX} (ho : ox x g q c j q2 c2) (hS : xs_at G x g q c j q2 c2 W H nr wl mk ds cnt dr pa X) (hc : cnt ≤ 24) : ms_M m_X5_copyToTrial [.ref x] n G 0 0 (ct_P g q2 c2 n cnt dr pa G wl mk ds X) := by
  refine ms_M.of (by decide) (Nat.le_of_ble_eq_true rfl) ?_
  show ms_W false m_X5_copyToTrial _ 0 [(0, .ref x)] [] n G 0 0
  obtain ⟨hX, hG, ⟨qu, hQ⟩, ⟨hd, cm, wk, hC, hx, hd1, hd2_, hd3, ha⟩, ⟨cn, wi, jo, sz, quj, hJ⟩, ⟨wl2, mk2, ds2, qu2, hQt⟩, ⟨hd2, on2, ht2, cm2, wk2, hCt⟩⟩ := hS
  obtain ⟨o1, o2, o3, o4, o5, o6⟩ := ho
  have hF : ms_fr q2 (c2 + 29 - q2) G G := ms_fr.rf
  refine ms_run (pc' := 1) (lv' := [(0, .ref x)]) (st' := [.ref x]) _ (ms_deC dX5_copyToTrial_0 ms_deN) rfl rfl ?_
  refine ms_getf dX5_copyToTrial_1 fg_X5_41 hX rfl ?_
  refine ms_run (pc' := 5) (lv' := [(0, .ref x)]) (st' := [.ref x, .ref q2]) _ (ms_deC dX5_copyToTrial_4 ms_deN) rfl rfl ?_
  refine ms_getf dX5_copyToTrial_5 fg_X5_21 hX rfl ?_
  refine ms_callV0 (As := [.ref q]) dX5_copyToTrial_8 (c_X3_copyFrom hQt hQ (by omega)) cv_X5_254 hQt.1 rfl ⟨Nat.le_of_ble_eq_true rfl, Nat.le_of_ble_eq_true rfl⟩ rfl (Nat.le_of_ble_eq_true rfl) (fun v9 n9 K_cs hp9 => ?_)
  obtain ⟨hv9, rfl, ⟨qu9, hQ9⟩, hF_cs⟩ := hp9
  cases hv9
  have hG_1 : gr_at K_cs g (nI (W * H)) (nI W) (nI H) nr := gr_at.fr hG hF_cs (by omega)
  have hQ_2 : sq_at K_cs g q wl mk ds qu := sq_at.fr hQ hF_cs (by omega)
  have hC_3 : cr_at K_cs g q c hd X.2.2.1 X.2.1 cm wk := cr_at.fr hC hF_cs (by omega)
  have hJ_4 : jm_at K_cs j cn wi jo sz quj := jm_at.fr hJ hF_cs (by omega)
  have hCt_5 : cr_at K_cs g q2 c2 hd2 on2 ht2 cm2 wk2 := cr_at.fr hCt hF_cs (by omega)
  have hF_6 : ms_fr q2 (c2 + 29 - q2) G K_cs := ms_fr.trans hF (ms_fr.mono hF_cs (by omega) (by omega))
  have hf_7 := (hF_cs x (by omega)).trans hX
  refine ms_run (pc' := 12) (lv' := [(0, .ref x)]) (st' := [.ref x]) _ (ms_deC dX5_copyToTrial_11 ms_deN) rfl rfl ?_
  refine ms_getf dX5_copyToTrial_12 fg_X5_44 hf_7 rfl ?_
  refine ms_run (pc' := 16) (lv' := [(0, .ref x)]) (st' := [.ref x, .ref c2]) _ (ms_deC dX5_copyToTrial_15 ms_deN) rfl rfl ?_
  refine ms_getf dX5_copyToTrial_16 fg_X5_30 hf_7 rfl ?_
  refine ms_callV0 (As := [.ref c]) dX5_copyToTrial_19 (c_X0_copyFrom (Or.inr (by omega)) hx hc hCt_5 hC_3) cv_X5_280 hCt_5.1 rfl ⟨Nat.le_of_ble_eq_true rfl, Nat.le_of_ble_eq_true rfl⟩ rfl (Nat.le_of_ble_eq_true rfl) (fun v9 n9 K_cc hp9 => ?_)
  obtain ⟨hv9, rfl, ⟨cm9, hC9⟩, hF_cc⟩ := hp9
  cases hv9
  have hG_8 : gr_at K_cc g (nI (W * H)) (nI W) (nI H) nr := gr_at.fr hG_1 hF_cc (by omega)
  have hQ_9 : sq_at K_cc g q wl mk ds qu := sq_at.fr hQ_2 hF_cc (by omega)
  have hC_10 : cr_at K_cc g q c hd X.2.2.1 X.2.1 cm wk := cr_at.fr hC_3 hF_cc (by omega)
  have hJ_11 : jm_at K_cc j cn wi jo sz quj := jm_at.fr hJ_4 hF_cc (by omega)
  have hQ9_12 : sq_at K_cc g q2 wl mk ds qu9 := sq_at.fr hQ9 hF_cc (by omega)
  have hF_13 : ms_fr q2 (c2 + 29 - q2) G K_cc := ms_fr.trans hF_6 (ms_fr.mono hF_cc (by omega) (by omega))
  have hf_14 := (hF_cc x (by omega)).trans hf_7
  refine ms_retv (st := []) dX5_copyToTrial_22 rfl ?_
  exact ⟨rfl, rfl, ⟨_, hQ9_12⟩, ⟨hd, _, _, hC9, hx, hd1, hd2_, hd3, fun k hk j hj => by rw [wcp_get hk hj]; exact ha k hk j hj⟩, hF_13⟩
def th_ahw (cnt : Nat) (k T : Int32) : Option String := if ¬ pIs (nI cnt) k then some IOB else if ¬ (1 ≤ T ∧ T ≤ 60) then some IAE else none
def th_ah (T : Int32) : Option String := if ¬ (1 ≤ T ∧ T ≤ 60) then some IAE else none
def th_ahd (T d : Int32) : Option String := if ¬ (1 ≤ T ∧ T ≤ 60) ∨ d < 0 ∨ 9 < d then some IAE else none
set_option maxHeartbeats 4000000 in
set_option maxRecDepth 20000 in
theorem c_X5_outIn {n x g q c j q2 c2 W H : Nat} {G : ms_H} {nr wl mk ds : Nat → Int32} {cnt : Nat} {dr pa : Int32} {X : cX} (ho : ox x g q c j q2 c2) (hS : xs_at G x g q c j q2 c2 W H nr wl mk ds cnt dr pa X) (hc : cnt ≤ 24) (hv : hvX (nI (W * H)) cnt X.1) (kk tt : Int32) : ms_X m_X5_outIn [.ref x, .int kk, .int tt] n G 1 6 (xq_P n G (th_ahw cnt kk tt) (.int (fst1 (fun t => decide ((stXn (nI (W * H)) nr mk ds cnt dr X t).1 kk.toNatClampNeg 3 = -1)) (fun t => nI t) 0 (tt.toNatClampNeg + 1))) (fun G1 => xs_at G1 x g q c j q2 c2 W H nr wl mk ds cnt dr pa X ∧ ms_fr x (c2 + 29 - x) G G1)) := by
  refine ms_X.of (by decide) (Nat.le_of_ble_eq_true rfl) ?_
  show ms_W true m_X5_outIn _ 0 [(0, .ref x), (1, .int kk), (2, .int tt)] [] n G 1 6
  obtain ⟨hX, hG, ⟨qu, hQ⟩, ⟨hd, cm, wk, hC, hx, hd1, hd2_, hd3, ha⟩, ⟨cn, wi, jo, sz, quj, hJ⟩, ⟨wl2, mk2, ds2, qu2, hQt⟩, ⟨hd2, on2, ht2, cm2, wk2, hCt⟩⟩ := hS
  obtain ⟨o1, o2, o3, o4, o5, o6⟩ := ho
  have hF : ms_fr x (c2 + 29 - x) G G := ms_fr.rf
  refine ms_run (pc' := 1) (lv' := [(0, .ref x), (1, .int kk), (2, .int tt)]) (st' := [.ref x]) _ (ms_deC dX5_outIn_0 ms_deN) rfl rfl ?_
  refine ms_getf dX5_outIn_1 fg_X5_30 hX rfl ?_
  refine ms_run (pc' := 5) (lv' := [(0, .ref x), (1, .int kk), (2, .int tt)]) (st' := [.int kk, .ref c]) _ (ms_deC dX5_outIn_4 ms_deN) rfl rfl ?_
  refine ms_callVp (As := [.int kk]) dX5_outIn_5 (c_X0_get hC kk) cv_X5_109 hC.1 rfl ⟨Nat.le_of_ble_eq_true rfl, Nat.le_of_ble_eq_true rfl⟩ rfl (Nat.le_of_ble_eq_true rfl) ?_
  rw [hx]
  by_cases hpi : pIs (nI cnt) kk
  · rw [show cr_get c (nI cnt) kk = .ref (c + 5 + kk.toNatClampNeg) from if_pos hpi]
    obtain ⟨i, hi, hki⟩ := pIs_nI hc hpi
    subst hki
    rw [nI_clamp (by omega)]
    refine ms_ifnonnull (tgt := 21) dX5_outIn_8 (by decide) ?_
    refine ms_run (pc' := 22) (lv' := [(0, .ref x), (1, .int (nI i)), (2, .int tt)]) (st' := [.int tt]) _ (ms_deC dX5_outIn_21 ms_deN) rfl rfl ?_
    refine ms_callSp (As := [.int tt]) dX5_outIn_22 (c_X5_isAhead tt) cs_X5_238 rfl ⟨Nat.le_of_ble_eq_true rfl, Nat.le_of_ble_eq_true rfl⟩ rfl (Nat.le_of_ble_eq_true rfl) ?_
    by_cases hah : 1 ≤ tt ∧ tt ≤ 60
    · rw [show ms_b (1 ≤ tt ∧ tt ≤ 60) = 1 from if_pos hah]
      obtain ⟨T, hT, hTe⟩ := nI_of2 (M := 60) (n := 60) rfl (Int32.not_lt.mpr (Int32.le_trans (by decide) hah.1)) hah.2
      subst hTe
      rw [nI_clamp (by omega)]
      refine ms_if_ne (tgt := 38) dX5_outIn_25 (by decide) (fun _ => ?_) (fun h9 => absurd h9 (by decide))
      refine ms_run (pc' := 39) (lv' := [(0, .ref x), (1, .int (nI i)), (2, .int (nI T))]) (st' := [.ref x]) _ (ms_deC dX5_outIn_38 ms_deN) rfl rfl ?_
      refine ms_callV0 (As := []) dX5_outIn_39 (c_X5_copyToTrial ⟨o1, o2, o3, o4, o5, o6⟩ ⟨hX, hG, ⟨_, hQ⟩, ⟨hd, cm, wk, hC, hx, hd1, hd2_, hd3, ha⟩, ⟨_, _, _, _, _, hJ⟩, ⟨_, _, _, _, hQt⟩, ⟨_, _, _, _, _, hCt⟩⟩ hc) cv_X5_243 hX rfl ⟨Nat.le_of_ble_eq_true rfl, Nat.le_of_ble_eq_true rfl⟩ rfl (Nat.le_of_ble_eq_true rfl) (fun v9 n9 K_ct hp9 => ?_)
      obtain ⟨hv9, rfl, ⟨qt9, hQt9_ct⟩, hWt_ct, hF_ct⟩ := hp9
      cases hv9
      have hG_1 : gr_at K_ct g (nI (W * H)) (nI W) (nI H) nr := gr_at.fr hG hF_ct (by omega)
      have hQ_2 : sq_at K_ct g q wl mk ds qu := sq_at.fr hQ hF_ct (by omega)
      have hC_3 : cr_at K_ct g q c hd X.2.2.1 X.2.1 cm wk := cr_at.fr hC hF_ct (by omega)
      have hJ_4 : jm_at K_ct j cn wi jo sz quj := jm_at.fr hJ hF_ct (by omega)
      have hF_5 : ms_fr x (c2 + 29 - x) G K_ct := ms_fr.trans hF (ms_fr.mono hF_ct (by omega) (by omega))
      have hf_6 := (hF_ct x (by omega)).trans hX
      have hWx := hWt_ct
      obtain ⟨hd4, cm4, wk4, hCr, -⟩ := hWx
      refine ms_run (pc' := 43) (lv' := [(0, .ref x), (1, .int (nI i)), (2, .int (nI T))]) (st' := [.ref x]) _ (ms_deC dX5_outIn_42 ms_deN) rfl rfl ?_
      refine ms_getf dX5_outIn_43 fg_X5_44 hf_6 rfl ?_
      refine ms_run (pc' := 48) (lv' := [(0, .ref x), (1, .int (nI i)), (2, .int (nI T))]) (st' := [.int (nI T), .int (nI i), .ref c2]) _ (ms_deC dX5_outIn_46 (ms_deC dX5_outIn_47 ms_deN)) rfl rfl ?_
      refine ms_callV0 (As := [.int (nI i), .int (nI T)]) dX5_outIn_48 (c_X0_ticksTillOut (by omega) (by omega) hc hv (by omega) hi hG_1 hQt9_ct hWt_ct) cv_X5_246 hCr.1 rfl ⟨Nat.le_of_ble_eq_true rfl, Nat.le_of_ble_eq_true rfl⟩ rfl (Nat.le_of_ble_eq_true rfl) (fun v9 n9 K_to hp9 => ?_)
      obtain ⟨hv9, rfl, ⟨hd5, on5, ht5, cm5, wk5, hCt5⟩, hF_to⟩ := hp9
      cases hv9
      have hG_7 : gr_at K_to g (nI (W * H)) (nI W) (nI H) nr := gr_at.fr hG_1 hF_to (by omega)
      have hQ_8 : sq_at K_to g q wl mk ds qu := sq_at.fr hQ_2 hF_to (by omega)
      have hC_9 : cr_at K_to g q c hd X.2.2.1 X.2.1 cm wk := cr_at.fr hC_3 hF_to (by omega)
      have hJ_10 : jm_at K_to j cn wi jo sz quj := jm_at.fr hJ_4 hF_to (by omega)
      have hQt9_11 : sq_at K_to g q2 wl mk ds qt9 := sq_at.fr hQt9_ct hF_to (by omega)
      have hF_12 : ms_fr x (c2 + 29 - x) G K_to := ms_fr.trans hF_5 (ms_fr.mono hF_to (by omega) (by omega))
      have hf_13 := (hF_to x (by omega)).trans hf_6
      refine ms_reti (st := []) (ty := .int) dX5_outIn_51 rfl rfl ?_
      exact xq_P.ret (by unfold th_ahw; rw [if_neg (not_not_intro hpi), if_neg (not_not_intro hah)]) rfl ⟨⟨hf_13, hG_7, ⟨_, hQ_8⟩, ⟨hd, cm, wk, hC_9, hx, hd1, hd2_, hd3, ha⟩, ⟨_, _, _, _, _, hJ_10⟩, ⟨_, _, _, _, hQt9_11⟩, ⟨_, _, _, _, _, hCt5⟩⟩, hF_12⟩
    · rw [show ms_b (1 ≤ tt ∧ tt ≤ 60) = 0 from if_neg hah]
      refine ms_if_ne (tgt := 38) dX5_outIn_25 (by decide) (fun h9 => absurd h9 (by decide)) (fun _ => ?_)
      refine ms_throw dX5_outIn_28 dX5_outIn_31 dX5_outIn_32 dX5_outIn_34 dX5_outIn_37 th_X5_51_241_55 ⟨Nat.le_of_ble_eq_true rfl, Nat.le_of_ble_eq_true rfl⟩ (Nat.le_of_ble_eq_true rfl) (by omega) (by omega) (fun n1 hn1 => ?_)
      exact xq_P.thr hn1 (by unfold th_ahw; rw [if_neg (not_not_intro hpi), if_pos hah])
  · rw [show cr_get c (nI cnt) kk = .null from if_neg hpi]
    refine ms_ifnonnullN dX5_outIn_8 ?_
    refine ms_throw dX5_outIn_11 dX5_outIn_14 dX5_outIn_15 dX5_outIn_17 dX5_outIn_20 th_X5_66_208_70 ⟨Nat.le_of_ble_eq_true rfl, Nat.le_of_ble_eq_true rfl⟩ (Nat.le_of_ble_eq_true rfl) (by omega) (by omega) (fun n1 hn1 => ?_)
    exact xq_P.thr hn1 (if_pos hpi)
set_option maxHeartbeats 4000000 in
set_option maxRecDepth 20000 in
theorem c_X5_outWith {n x g q c j q2 c2 W H : Nat} {G : ms_H} {nr wl mk ds : Nat → Int32} {cnt : Nat} {dr pa : Int32} {X : cX} (ho : ox x g q c j q2 c2) (hS : xs_at G x g q c j q2 c2 W H nr wl mk ds cnt dr pa X) (hc : cnt ≤ 24) (hv : hvX (nI (W * H)) cnt X.1) (tt dd : Int32) : ms_X m_X5_outWith [.ref x, .int tt, .int dd] n G 1 6 (xq_P n G (th_ahd tt dd) (.int (nI (ct (pOut (stXn (nI (W * H)) nr mk ds cnt dd X tt.toNatClampNeg).1) cnt))) (fun G1 => xs_at G1 x g q c j q2 c2 W H nr wl mk ds cnt dr pa X ∧ ms_fr x (c2 + 29 - x) G G1)) := by
  refine ms_X.of (by decide) (Nat.le_of_ble_eq_true rfl) ?_
  show ms_W true m_X5_outWith _ 0 [(0, .ref x), (1, .int tt), (2, .int dd)] [] n G 1 6
  obtain ⟨hX, hG, ⟨qu, hQ⟩, ⟨hd, cm, wk, hC, hx, hd1, hd2_, hd3, ha⟩, ⟨cn, wi, jo, sz, quj, hJ⟩, ⟨wl2, mk2, ds2, qu2, hQt⟩, ⟨hd2, on2, ht2, cm2, wk2, hCt⟩⟩ := hS
  obtain ⟨o1, o2, o3, o4, o5, o6⟩ := ho
  have hF : ms_fr x (c2 + 29 - x) G G := ms_fr.rf
  refine ms_run (pc' := 1) (lv' := [(0, .ref x), (1, .int tt), (2, .int dd)]) (st' := [.int tt]) _ (ms_deC dX5_outWith_0 ms_deN) rfl rfl ?_
  refine ms_callSp (As := [.int tt]) dX5_outWith_1 (c_X5_isAhead tt) cs_X5_238 rfl ⟨Nat.le_of_ble_eq_true rfl, Nat.le_of_ble_eq_true rfl⟩ rfl (Nat.le_of_ble_eq_true rfl) ?_
  by_cases hah : 1 ≤ tt ∧ tt ≤ 60
  · rw [show ms_b (1 ≤ tt ∧ tt ≤ 60) = 1 from if_pos hah]
    obtain ⟨T, hT, hTe⟩ := nI_of2 (M := 60) (n := 60) rfl (Int32.not_lt.mpr (Int32.le_trans (by decide) hah.1)) hah.2
    subst hTe
    rw [nI_clamp (by omega)]
    refine ms_if_eq (tgt := 17) dX5_outWith_4 (by decide) (fun h9 => absurd h9 (by decide)) (fun _ => ?_)
    refine ms_run (pc' := 8) (lv' := [(0, .ref x), (1, .int (nI T)), (2, .int dd)]) (st' := [.int dd]) _ (ms_deC dX5_outWith_7 ms_deN) rfl rfl ?_
    refine ms_if_lt (tgt := 17) dX5_outWith_8 (by decide) (fun h_8 => ?_) (fun h_8 => ?_)
    · skip
      refine ms_throw dX5_outWith_17 dX5_outWith_20 dX5_outWith_21 dX5_outWith_23 dX5_outWith_26 th_X5_51_249_55 ⟨Nat.le_of_ble_eq_true rfl, Nat.le_of_ble_eq_true rfl⟩ (Nat.le_of_ble_eq_true rfl) (by omega) (by omega) (fun n1 hn1 => ?_)
      exact xq_P.thr hn1 (if_pos (by first | exact Or.inl hah | exact Or.inr (Or.inl (by assumption)) | exact Or.inr (Or.inr (Int32.not_le.mp (by assumption)))))
    · skip
      refine ms_run (pc' := 14) (lv' := [(0, .ref x), (1, .int (nI T)), (2, .int dd)]) (st' := [.int 9, .int dd]) _ (ms_deC dX5_outWith_11 (ms_deC dX5_outWith_12 ms_deN)) rfl rfl ?_
      refine ms_icmp_le (tgt := 27) dX5_outWith_14 (by decide) (fun h_14 => ?_) (fun h_14 => ?_)
      · skip
        refine ms_run (pc' := 28) (lv' := [(0, .ref x), (1, .int (nI T)), (2, .int dd)]) (st' := [.ref x]) _ (ms_deC dX5_outWith_27 ms_deN) rfl rfl ?_
        refine ms_callV0 (As := []) dX5_outWith_28 (c_X5_copyToTrial ⟨o1, o2, o3, o4, o5, o6⟩ ⟨hX, hG, ⟨_, hQ⟩, ⟨hd, cm, wk, hC, hx, hd1, hd2_, hd3, ha⟩, ⟨_, _, _, _, _, hJ⟩, ⟨_, _, _, _, hQt⟩, ⟨_, _, _, _, _, hCt⟩⟩ hc) cv_X5_243 hX rfl ⟨Nat.le_of_ble_eq_true rfl, Nat.le_of_ble_eq_true rfl⟩ rfl (Nat.le_of_ble_eq_true rfl) (fun v9 n9 K_ct hp9 => ?_)
        obtain ⟨hv9, rfl, ⟨qt9, hQt9_ct⟩, hWt_ct, hF_ct⟩ := hp9
        cases hv9
        have hG_1 : gr_at K_ct g (nI (W * H)) (nI W) (nI H) nr := gr_at.fr hG hF_ct (by omega)
        have hQ_2 : sq_at K_ct g q wl mk ds qu := sq_at.fr hQ hF_ct (by omega)
        have hC_3 : cr_at K_ct g q c hd X.2.2.1 X.2.1 cm wk := cr_at.fr hC hF_ct (by omega)
        have hJ_4 : jm_at K_ct j cn wi jo sz quj := jm_at.fr hJ hF_ct (by omega)
        have hF_5 : ms_fr x (c2 + 29 - x) G K_ct := ms_fr.trans hF (ms_fr.mono hF_ct (by omega) (by omega))
        have hf_6 := (hF_ct x (by omega)).trans hX
        obtain ⟨hd4, cm4, wk4, hCt9, hx4, hd14, hd24, hd34, ha4⟩ := hWt_ct
        refine ms_run (pc' := 32) (lv' := [(0, .ref x), (1, .int (nI T)), (2, .int dd)]) (st' := [.ref x]) _ (ms_deC dX5_outWith_31 ms_deN) rfl rfl ?_
        refine ms_getf dX5_outWith_32 fg_X5_44 hf_6 rfl ?_
        refine ms_run (pc' := 36) (lv' := [(0, .ref x), (1, .int (nI T)), (2, .int dd)]) (st' := [.int dd, .ref c2]) _ (ms_deC dX5_outWith_35 ms_deN) rfl rfl ?_
        refine ms_putf dX5_outWith_36 fp_X5_132 hCt9.1 (Nat.le_of_ble_eq_true rfl) rfl rfl ?_
        obtain ⟨G_7, eG_7⟩ : ∃ K9 : ms_H, K9 = ms_up K_ct c2 (.inr (0, [.int (hd4 0), .int (hd4 1), .int dd, .int (hd4 3), .ref g, .ref q2, .ref (c2 + 1), .ref (c2 + 2), .ref (c2 + 3), .ref (c2 + 4)])) := ⟨_, rfl⟩
        refine ms_W.heq eG_7 ?_
        have hG_8 : gr_at G_7 g (nI (W * H)) (nI W) (nI H) nr := by rw [eG_7]; exact gr_at.up hG_1 (by omega)
        have hQ_9 : sq_at G_7 g q wl mk ds qu := by rw [eG_7]; exact sq_at.up hQ_2 (by omega)
        have hC_10 : cr_at G_7 g q c hd X.2.2.1 X.2.1 cm wk := by rw [eG_7]; exact cr_at.up hC_3 (by omega)
        have hJ_11 : jm_at G_7 j cn wi jo sz quj := by rw [eG_7]; exact jm_at.up hJ_4 (by omega)
        have hQt9_12 : sq_at G_7 g q2 wl mk ds qt9 := by rw [eG_7]; exact sq_at.up hQt9_ct (by omega)
        have hF_13 : ms_fr x (c2 + 29 - x) G G_7 := by rw [eG_7]; exact ms_fr.up hF_5 (by omega)
        have hCt9_14 : cr_at G_7 g q2 c2 (h4 (hd4 0) (hd4 1) dd (hd4 3)) X.2.2.1 X.2.1 cm4 wk4 := by rw [eG_7]; exact cr_at.s_hd hCt9 (hd4 0) (hd4 1) dd (hd4 3)
        have hf_15 := (congrFun eG_7 x).trans ((ms_up_n K_ct _ (by omega)).trans hf_6)
        have hf_16 := (congrFun eG_7 q).trans ((ms_up_n K_ct _ (by omega)).trans hQ_2.1)
        have hf_17 := (congrFun eG_7 q2).trans ((ms_up_n K_ct _ (by omega)).trans hQt9_ct.1)
        refine ms_run (pc' := 40) (lv' := [(0, .ref x), (1, .int (nI T)), (2, .int dd)]) (st' := [.ref x]) _ (ms_deC dX5_outWith_39 ms_deN) rfl rfl ?_
        refine ms_getf dX5_outWith_40 fg_X5_44 hf_15 rfl ?_
        refine ms_run (pc' := 44) (lv' := [(0, .ref x), (1, .int (nI T)), (2, .int dd)]) (st' := [.int (nI T), .ref c2]) _ (ms_deC dX5_outWith_43 ms_deN) rfl rfl ?_
        refine ms_callV0 (As := [.int (nI T)]) dX5_outWith_44 (c_X0_outAfter (by omega) (by omega) hc hv (by omega) hG_8 hQt9_12 ⟨h4 (hd4 0) (hd4 1) dd (hd4 3), cm4, wk4, hCt9_14, hx4, hd14, rfl, hd34, ha4⟩) cv_X5_193 hCt9_14.1 rfl ⟨Nat.le_of_ble_eq_true rfl, Nat.le_of_ble_eq_true rfl⟩ rfl (Nat.le_of_ble_eq_true rfl) (fun v9 n9 K_oa hp9 => ?_)
        obtain ⟨hv9, rfl, hWo_oa, hF_oa⟩ := hp9
        cases hv9
        have hG_18 : gr_at K_oa g (nI (W * H)) (nI W) (nI H) nr := gr_at.fr hG_8 hF_oa (by omega)
        have hQ_19 : sq_at K_oa g q wl mk ds qu := sq_at.fr hQ_9 hF_oa (by omega)
        have hC_20 : cr_at K_oa g q c hd X.2.2.1 X.2.1 cm wk := cr_at.fr hC_10 hF_oa (by omega)
        have hJ_21 : jm_at K_oa j cn wi jo sz quj := jm_at.fr hJ_11 hF_oa (by omega)
        have hQt9_22 : sq_at K_oa g q2 wl mk ds qt9 := sq_at.fr hQt9_12 hF_oa (by omega)
        have hF_23 : ms_fr x (c2 + 29 - x) G K_oa := ms_fr.trans hF_13 (ms_fr.mono hF_oa (by omega) (by omega))
        have hf_24 := (hF_oa x (by omega)).trans hf_15
        have hWy := hWo_oa
        obtain ⟨hd6, cm6, wk6, hC6_oa, -⟩ := hWy
        refine ms_reti (st := []) (ty := .int) dX5_outWith_47 rfl rfl ?_
        exact xq_P.ret (if_neg (by rintro (z | z | z); exact z hah; exact h_8 z; exact (Int32.not_lt.mpr (by first | exact h_14 | exact Int32.not_lt.mp h_14)) z)) rfl ⟨⟨hf_24, hG_18, ⟨_, hQ_19⟩, ⟨hd, cm, wk, hC_20, hx, hd1, hd2_, hd3, ha⟩, ⟨_, _, _, _, _, hJ_21⟩, ⟨_, _, _, _, hQt9_22⟩, ⟨_, _, _, _, _, hC6_oa⟩⟩, hF_23⟩
      · skip
        refine ms_throw dX5_outWith_17 dX5_outWith_20 dX5_outWith_21 dX5_outWith_23 dX5_outWith_26 th_X5_51_249_55 ⟨Nat.le_of_ble_eq_true rfl, Nat.le_of_ble_eq_true rfl⟩ (Nat.le_of_ble_eq_true rfl) (by omega) (by omega) (fun n1 hn1 => ?_)
        exact xq_P.thr hn1 (if_pos (by first | exact Or.inl hah | exact Or.inr (Or.inl (by assumption)) | exact Or.inr (Or.inr (Int32.not_le.mp (by assumption)))))
  · rw [show ms_b (1 ≤ tt ∧ tt ≤ 60) = 0 from if_neg hah]
    refine ms_if_eq (tgt := 17) dX5_outWith_4 (by decide) (fun _ => ?_) (fun h9 => absurd h9 (by decide))
    refine ms_throw dX5_outWith_17 dX5_outWith_20 dX5_outWith_21 dX5_outWith_23 dX5_outWith_26 th_X5_51_249_55 ⟨Nat.le_of_ble_eq_true rfl, Nat.le_of_ble_eq_true rfl⟩ (Nat.le_of_ble_eq_true rfl) (by omega) (by omega) (fun n1 hn1 => ?_)
    exact xq_P.thr hn1 (if_pos (by first | exact Or.inl hah | exact Or.inr (Or.inl (by assumption)) | exact Or.inr (Or.inr (Int32.not_le.mp (by assumption)))))
set_option maxHeartbeats 4000000 in
set_option maxRecDepth 20000 in
theorem c_X5_jamIn {n x g q c j q2 c2 W H : Nat} {G : ms_H} {nr wl mk ds : Nat → Int32} {cnt : Nat} {dr pa : Int32} {X : cX} (ho : ox x g q c j q2 c2) (hS : xs_at G x g q c j q2 c2 W H nr wl mk ds cnt dr pa X) (hc : cnt ≤ 24) (hv : hvX (nI (W * H)) cnt X.1) (tt : Int32) : ms_X m_X5_jamIn [.ref x, .int tt] n G 1 6 (xq_P n G (th_ah tt) (.int (fst1 (fun t => decide (an (fun j => decide (pJam pa ((stXn (nI (W * H)) nr mk ds cnt dr X t).1 j))) cnt = true)) (fun t => nI t) 0 (tt.toNatClampNeg + 1))) (fun G1 => xs_at G1 x g q c j q2 c2 W H nr wl mk ds cnt dr pa X ∧ ms_fr x (c2 + 29 - x) G G1)) := by
  refine ms_X.of (by decide) (Nat.le_of_ble_eq_true rfl) ?_
  show ms_W true m_X5_jamIn _ 0 [(0, .ref x), (1, .int tt)] [] n G 1 6
  obtain ⟨hX, hG, ⟨qu, hQ⟩, ⟨hd, cm, wk, hC, hx, hd1, hd2_, hd3, ha⟩, ⟨cn, wi, jo, sz, quj, hJ⟩, ⟨wl2, mk2, ds2, qu2, hQt⟩, ⟨hd2, on2, ht2, cm2, wk2, hCt⟩⟩ := hS
  obtain ⟨o1, o2, o3, o4, o5, o6⟩ := ho
  have hF : ms_fr x (c2 + 29 - x) G G := ms_fr.rf
  refine ms_run (pc' := 1) (lv' := [(0, .ref x), (1, .int tt)]) (st' := [.int tt]) _ (ms_deC dX5_jamIn_0 ms_deN) rfl rfl ?_
  refine ms_callSp (As := [.int tt]) dX5_jamIn_1 (c_X5_isAhead tt) cs_X5_238 rfl ⟨Nat.le_of_ble_eq_true rfl, Nat.le_of_ble_eq_true rfl⟩ rfl (Nat.le_of_ble_eq_true rfl) ?_
  by_cases hah : 1 ≤ tt ∧ tt ≤ 60
  · rw [show ms_b (1 ≤ tt ∧ tt ≤ 60) = 1 from if_pos hah]
    obtain ⟨T, hT, hTe⟩ := nI_of2 (M := 60) (n := 60) rfl (Int32.not_lt.mpr (Int32.le_trans (by decide) hah.1)) hah.2
    subst hTe
    rw [nI_clamp (by omega)]
    refine ms_if_ne (tgt := 17) dX5_jamIn_4 (by decide) (fun _ => ?_) (fun h9 => absurd h9 (by decide))
    refine ms_run (pc' := 18) (lv' := [(0, .ref x), (1, .int (nI T))]) (st' := [.ref x]) _ (ms_deC dX5_jamIn_17 ms_deN) rfl rfl ?_
    refine ms_callV0 (As := []) dX5_jamIn_18 (c_X5_copyToTrial ⟨o1, o2, o3, o4, o5, o6⟩ ⟨hX, hG, ⟨_, hQ⟩, ⟨hd, cm, wk, hC, hx, hd1, hd2_, hd3, ha⟩, ⟨_, _, _, _, _, hJ⟩, ⟨_, _, _, _, hQt⟩, ⟨_, _, _, _, _, hCt⟩⟩ hc) cv_X5_243 hX rfl ⟨Nat.le_of_ble_eq_true rfl, Nat.le_of_ble_eq_true rfl⟩ rfl (Nat.le_of_ble_eq_true rfl) (fun v9 n9 K_ct hp9 => ?_)
    obtain ⟨hv9, rfl, ⟨qt9, hQt9_ct⟩, hWt_ct, hF_ct⟩ := hp9
    cases hv9
    have hG_1 : gr_at K_ct g (nI (W * H)) (nI W) (nI H) nr := gr_at.fr hG hF_ct (by omega)
    have hQ_2 : sq_at K_ct g q wl mk ds qu := sq_at.fr hQ hF_ct (by omega)
    have hC_3 : cr_at K_ct g q c hd X.2.2.1 X.2.1 cm wk := cr_at.fr hC hF_ct (by omega)
    have hJ_4 : jm_at K_ct j cn wi jo sz quj := jm_at.fr hJ hF_ct (by omega)
    have hF_5 : ms_fr x (c2 + 29 - x) G K_ct := ms_fr.trans hF (ms_fr.mono hF_ct (by omega) (by omega))
    have hf_6 := (hF_ct x (by omega)).trans hX
    have hWx := hWt_ct
    obtain ⟨hd4, cm4, wk4, hCr, -⟩ := hWx
    refine ms_run (pc' := 22) (lv' := [(0, .ref x), (1, .int (nI T))]) (st' := [.ref x]) _ (ms_deC dX5_jamIn_21 ms_deN) rfl rfl ?_
    refine ms_getf dX5_jamIn_22 fg_X5_44 hf_6 rfl ?_
    refine ms_run (pc' := 26) (lv' := [(0, .ref x), (1, .int (nI T))]) (st' := [.int (nI T), .ref c2]) _ (ms_deC dX5_jamIn_25 ms_deN) rfl rfl ?_
    refine ms_callV0 (As := [.int (nI T)]) dX5_jamIn_26 (c_X0_ticksTillJam (by omega) (by omega) hc hv (by omega) hG_1 hQt9_ct hWt_ct) cv_X5_251 hCr.1 rfl ⟨Nat.le_of_ble_eq_true rfl, Nat.le_of_ble_eq_true rfl⟩ rfl (Nat.le_of_ble_eq_true rfl) (fun v9 n9 K_to hp9 => ?_)
    obtain ⟨hv9, rfl, ⟨hd5, on5, ht5, cm5, wk5, hCt5⟩, hF_to⟩ := hp9
    cases hv9
    have hG_7 : gr_at K_to g (nI (W * H)) (nI W) (nI H) nr := gr_at.fr hG_1 hF_to (by omega)
    have hQ_8 : sq_at K_to g q wl mk ds qu := sq_at.fr hQ_2 hF_to (by omega)
    have hC_9 : cr_at K_to g q c hd X.2.2.1 X.2.1 cm wk := cr_at.fr hC_3 hF_to (by omega)
    have hJ_10 : jm_at K_to j cn wi jo sz quj := jm_at.fr hJ_4 hF_to (by omega)
    have hQt9_11 : sq_at K_to g q2 wl mk ds qt9 := sq_at.fr hQt9_ct hF_to (by omega)
    have hF_12 : ms_fr x (c2 + 29 - x) G K_to := ms_fr.trans hF_5 (ms_fr.mono hF_to (by omega) (by omega))
    have hf_13 := (hF_to x (by omega)).trans hf_6
    refine ms_reti (st := []) (ty := .int) dX5_jamIn_29 rfl rfl ?_
    exact xq_P.ret (if_neg (not_not_intro hah)) rfl ⟨⟨hf_13, hG_7, ⟨_, hQ_8⟩, ⟨hd, cm, wk, hC_9, hx, hd1, hd2_, hd3, ha⟩, ⟨_, _, _, _, _, hJ_10⟩, ⟨_, _, _, _, hQt9_11⟩, ⟨_, _, _, _, _, hCt5⟩⟩, hF_12⟩
  · rw [show ms_b (1 ≤ tt ∧ tt ≤ 60) = 0 from if_neg hah]
    refine ms_if_ne (tgt := 17) dX5_jamIn_4 (by decide) (fun h9 => absurd h9 (by decide)) (fun _ => ?_)
    refine ms_throw dX5_jamIn_7 dX5_jamIn_10 dX5_jamIn_11 dX5_jamIn_13 dX5_jamIn_16 th_X5_51_241_55 ⟨Nat.le_of_ble_eq_true rfl, Nat.le_of_ble_eq_true rfl⟩ (Nat.le_of_ble_eq_true rfl) (by omega) (by omega) (fun n1 hn1 => ?_)
    exact xq_P.thr hn1 (if_pos hah)
def th_oby (W H : Nat) (on : Nat → Int32) (a b T : Int32) : Option String := if gr_num (nI W) (nI H) a b = -1 then some IOB else if ¬ (1 ≤ T ∧ T ≤ 60) then some IAE else if ¬ cr_on on (gr_num (nI W) (nI H) a b) = -1 then some ISE else none
/-- the walls, one field's otherwise -/
def wlF (wl : Nat → Int32) (f : Nat) : Nat → Int32 := upd wl f (if wl f = 0 then 1 else 0)
/-- the fields whose distance would be otherwise -/
def pOth (wl d1 d2 : Nat → Int32) (f k : Nat) : Bool := decide (¬ k = f ∧ wl k = 0 ∧ ¬ d1 k = d2 k)
/-! StarlingSquare: the calls (2) -/
def ct_P (g q2 c2 n cnt : Nat) (dr pa : Int32) (G : ms_H) (wl mk ds : Nat → Int32) (X : cX) : ms_P := fun r n1 G1 => r = .inl none ∧ n1 = n ∧ (∃ qu, sq_at G1 g q2 wl mk ds qu) ∧ cw_at G1 g q2 c2 cnt dr pa X ∧ ms_fr q2 (c2 + 29 - q2) G G1
def isAh (T : Int32) : Prop := 1 ≤ T ∧ T ≤ 60
set_option maxHeartbeats 4000000 in
set_option maxRecDepth 20000 in
theorem c_X5_copyToTrial {n x g q c j q2 c2 W H : Nat} {G : ms_H} {nr wl mk ds : Nat → Int32} {cnt : Nat} {dr pa : Int32} {X : cX} (ho : ox x g q c j q2 c2) (hS : xs_at G x g q c j q2 c2 W H nr wl mk ds cnt dr pa X) (hc : cnt ≤ 24) : ms_M m_X5_copyToTrial [.ref x] n G 0 0 (ct_P g q2 c2 n cnt dr pa G wl mk ds X) := by
  refine ms_M.of (by decide) (Nat.le_of_ble_eq_true rfl) ?_
  show ms_W false m_X5_copyToTrial _ 0 [(0, .ref x)] [] n G 0 0
  obtain ⟨hX, hG, ⟨qu, hQ⟩, ⟨hd, cm, wk, hC, hx, hd1, hd2_, hd3, ha⟩, ⟨cn, wi, jo, sz, quj, hJ⟩, ⟨wl2, mk2, ds2, qu2, hQt⟩, ⟨hd2, on2, ht2, cm2, wk2, hCt⟩⟩ := hS
  obtain ⟨o1, o2, o3, o4, o5, o6⟩ := ho
  have hF : ms_fr q2 (c2 + 29 - q2) G G := ms_fr.rf
  refine ms_run (pc' := 1) (lv' := [(0, .ref x)]) (st' := [.ref x]) _ (ms_deC dX5_copyToTrial_0 ms_deN) rfl rfl ?_
  refine ms_getf dX5_copyToTrial_1 fg_X5_41 hX rfl ?_
  refine ms_run (pc' := 5) (lv' := [(0, .ref x)]) (st' := [.ref x, .ref q2]) _ (ms_deC dX5_copyToTrial_4 ms_deN) rfl rfl ?_
  refine ms_getf dX5_copyToTrial_5 fg_X5_21 hX rfl ?_
  refine ms_callV0 (As := [.ref q]) dX5_copyToTrial_8 (c_X3_copyFrom hQt hQ (by omega)) cv_X5_254 hQt.1 rfl ⟨Nat.le_of_ble_eq_true rfl, Nat.le_of_ble_eq_true rfl⟩ rfl (Nat.le_of_ble_eq_true rfl) (fun v9 n9 K_cs hp9 => ?_)
  obtain ⟨hv9, rfl, ⟨qu9, hQ9⟩, hF_cs⟩ := hp9
  cases hv9
  have hG_1 : gr_at K_cs g (nI (W * H)) (nI W) (nI H) nr := gr_at.fr hG hF_cs (by omega)
  have hQ_2 : sq_at K_cs g q wl mk ds qu := sq_at.fr hQ hF_cs (by omega)
  have hC_3 : cr_at K_cs g q c hd X.2.2.1 X.2.1 cm wk := cr_at.fr hC hF_cs (by omega)
  have hJ_4 : jm_at K_cs j cn wi jo sz quj := jm_at.fr hJ hF_cs (by omega)
  have hCt_5 : cr_at K_cs g q2 c2 hd2 on2 ht2 cm2 wk2 := cr_at.fr hCt hF_cs (by omega)
  have hF_6 : ms_fr q2 (c2 + 29 - q2) G K_cs := ms_fr.trans hF (ms_fr.mono hF_cs (by omega) (by omega))
  have hf_7 := (hF_cs x (by omega)).trans hX
  refine ms_run (pc' := 12) (lv' := [(0, .ref x)]) (st' := [.ref x]) _ (ms_deC dX5_copyToTrial_11 ms_deN) rfl rfl ?_
  refine ms_getf dX5_copyToTrial_12 fg_X5_44 hf_7 rfl ?_
  refine ms_run (pc' := 16) (lv' := [(0, .ref x)]) (st' := [.ref x, .ref c2]) _ (ms_deC dX5_copyToTrial_15 ms_deN) rfl rfl ?_
  refine ms_getf dX5_copyToTrial_16 fg_X5_30 hf_7 rfl ?_
  refine ms_callV0 (As := [.ref c]) dX5_copyToTrial_19 (c_X0_copyFrom (Or.inr (by omega)) hx hc hCt_5 hC_3) cv_X5_280 hCt_5.1 rfl ⟨Nat.le_of_ble_eq_true rfl, Nat.le_of_ble_eq_true rfl⟩ rfl (Nat.le_of_ble_eq_true rfl) (fun v9 n9 K_cc hp9 => ?_)
  obtain ⟨hv9, rfl, ⟨cm9, hC9⟩, hF_cc⟩ := hp9
  cases hv9
  have hG_8 : gr_at K_cc g (nI (W * H)) (nI W) (nI H) nr := gr_at.fr hG_1 hF_cc (by omega)
  have hQ_9 : sq_at K_cc g q wl mk ds qu := sq_at.fr hQ_2 hF_cc (by omega)
  have hC_10 : cr_at K_cc g q c hd X.2.2.1 X.2.1 cm wk := cr_at.fr hC_3 hF_cc (by omega)
  have hJ_11 : jm_at K_cc j cn wi jo sz quj := jm_at.fr hJ_4 hF_cc (by omega)
  have hQ9_12 : sq_at K_cc g q2 wl mk ds qu9 := sq_at.fr hQ9 hF_cc (by omega)
  have hF_13 : ms_fr q2 (c2 + 29 - q2) G K_cc := ms_fr.trans hF_6 (ms_fr.mono hF_cc (by omega) (by omega))
  have hf_14 := (hF_cc x (by omega)).trans hf_7
  refine ms_retv (st := []) dX5_copyToTrial_22 rfl ?_
  exact ⟨rfl, rfl, ⟨_, hQ9_12⟩, ⟨hd, _, _, hC9, hx, hd1, hd2_, hd3, fun k hk j hj => by rw [wcp_get hk hj]; exact ha k hk j hj⟩, hF_13⟩
def th_ahw (cnt : Nat) (k T : Int32) : Option String := if ¬ pIs (nI cnt) k then some IOB else if ¬ (1 ≤ T ∧ T ≤ 60) then some IAE else none
def th_ah (T : Int32) : Option String := if ¬ (1 ≤ T ∧ T ≤ 60) then some IAE else none
def th_ahd (T d : Int32) : Option String := if ¬ (1 ≤ T ∧ T ≤ 60) ∨ d < 0 ∨ 9 < d then some IAE else none
set_option maxHeartbeats 4000000 in
set_option maxRecDepth 20000 in
theorem c_X5_outIn {n x g q c j q2 c2 W H : Nat} {G : ms_H} {nr wl mk ds : Nat → Int32} {cnt : Nat} {dr pa : Int32} {X : cX} (ho : ox x g q c j q2 c2) (hS : xs_at G x g q c j q2 c2 W H nr wl mk ds cnt dr pa X) (hc : cnt ≤ 24) (hv : hvX (nI (W * H)) cnt X.1) (kk tt : Int32) : ms_X m_X5_outIn [.ref x, .int kk, .int tt] n G 1 6 (xq_P n G (th_ahw cnt kk tt) (.int (fst1 (fun t => decide ((stXn (nI (W * H)) nr mk ds cnt dr X t).1 kk.toNatClampNeg 3 = -1)) (fun t => nI t) 0 (tt.toNatClampNeg + 1))) (fun G1 => xs_at G1 x g q c j q2 c2 W H nr wl mk ds cnt dr pa X ∧ ms_fr x (c2 + 29 - x) G G1)) := by
  refine ms_X.of (by decide) (Nat.le_of_ble_eq_true rfl) ?_
  show ms_W true m_X5_outIn _ 0 [(0, .ref x), (1, .int kk), (2, .int tt)] [] n G 1 6
  obtain ⟨hX, hG, ⟨qu, hQ⟩, ⟨hd, cm, wk, hC, hx, hd1, hd2_, hd3, ha⟩, ⟨cn, wi, jo, sz, quj, hJ⟩, ⟨wl2, mk2, ds2, qu2, hQt⟩, ⟨hd2, on2, ht2, cm2, wk2, hCt⟩⟩ := hS
  obtain ⟨o1, o2, o3, o4, o5, o6⟩ := ho
  have hF : ms_fr x (c2 + 29 - x) G G := ms_fr.rf
  refine ms_run (pc' := 1) (lv' := [(0, .ref x), (1, .int kk), (2, .int tt)]) (st' := [.ref x]) _ (ms_deC dX5_outIn_0 ms_deN) rfl rfl ?_
  refine ms_getf dX5_outIn_1 fg_X5_30 hX rfl ?_
  refine ms_run (pc' := 5) (lv' := [(0, .ref x), (1, .int kk), (2, .int tt)]) (st' := [.int kk, .ref c]) _ (ms_deC dX5_outIn_4 ms_deN) rfl rfl ?_
  refine ms_callVp (As := [.int kk]) dX5_outIn_5 (c_X0_get hC kk) cv_X5_109 hC.1 rfl ⟨Nat.le_of_ble_eq_true rfl, Nat.le_of_ble_eq_true rfl⟩ rfl (Nat.le_of_ble_eq_true rfl) ?_
  rw [hx]
  by_cases hpi : pIs (nI cnt) kk
  · rw [show cr_get c (nI cnt) kk = .ref (c + 5 + kk.toNatClampNeg) from if_pos hpi]
    obtain ⟨i, hi, hki⟩ := pIs_nI hc hpi
    subst hki
    rw [nI_clamp (by omega)]
    refine ms_ifnonnull (tgt := 21) dX5_outIn_8 (by decide) ?_
    refine ms_run (pc' := 22) (lv' := [(0, .ref x), (1, .int (nI i)), (2, .int tt)]) (st' := [.int tt]) _ (ms_deC dX5_outIn_21 ms_deN) rfl rfl ?_
    refine ms_callSp (As := [.int tt]) dX5_outIn_22 (c_X5_isAhead tt) cs_X5_238 rfl ⟨Nat.le_of_ble_eq_true rfl, Nat.le_of_ble_eq_true rfl⟩ rfl (Nat.le_of_ble_eq_true rfl) ?_
    by_cases hah : 1 ≤ tt ∧ tt ≤ 60
    · rw [show ms_b (1 ≤ tt ∧ tt ≤ 60) = 1 from if_pos hah]
      obtain ⟨T, hT, hTe⟩ := nI_of2 (M := 60) (n := 60) rfl (Int32.not_lt.mpr (Int32.le_trans (by decide) hah.1)) hah.2
      subst hTe
      rw [nI_clamp (by omega)]
      refine ms_if_ne (tgt := 38) dX5_outIn_25 (by decide) (fun _ => ?_) (fun h9 => absurd h9 (by decide))
      refine ms_run (pc' := 39) (lv' := [(0, .ref x), (1, .int (nI i)), (2, .int (nI T))]) (st' := [.ref x]) _ (ms_deC dX5_outIn_38 ms_deN) rfl rfl ?_
      refine ms_callV0 (As := []) dX5_outIn_39 (c_X5_copyToTrial ⟨o1, o2, o3, o4, o5, o6⟩ ⟨hX, hG, ⟨_, hQ⟩, ⟨hd, cm, wk, hC, hx, hd1, hd2_, hd3, ha⟩, ⟨_, _, _, _, _, hJ⟩, ⟨_, _, _, _, hQt⟩, ⟨_, _, _, _, _, hCt⟩⟩ hc) cv_X5_243 hX rfl ⟨Nat.le_of_ble_eq_true rfl, Nat.le_of_ble_eq_true rfl⟩ rfl (Nat.le_of_ble_eq_true rfl) (fun v9 n9 K_ct hp9 => ?_)
      obtain ⟨hv9, rfl, ⟨qt9, hQt9_ct⟩, hWt_ct, hF_ct⟩ := hp9
      cases hv9
      have hG_1 : gr_at K_ct g (nI (W * H)) (nI W) (nI H) nr := gr_at.fr hG hF_ct (by omega)
      have hQ_2 : sq_at K_ct g q wl mk ds qu := sq_at.fr hQ hF_ct (by omega)
      have hC_3 : cr_at K_ct g q c hd X.2.2.1 X.2.1 cm wk := cr_at.fr hC hF_ct (by omega)
      have hJ_4 : jm_at K_ct j cn wi jo sz quj := jm_at.fr hJ hF_ct (by omega)
      have hF_5 : ms_fr x (c2 + 29 - x) G K_ct := ms_fr.trans hF (ms_fr.mono hF_ct (by omega) (by omega))
      have hf_6 := (hF_ct x (by omega)).trans hX
      have hWx := hWt_ct
      obtain ⟨hd4, cm4, wk4, hCr, -⟩ := hWx
      refine ms_run (pc' := 43) (lv' := [(0, .ref x), (1, .int (nI i)), (2, .int (nI T))]) (st' := [.ref x]) _ (ms_deC dX5_outIn_42 ms_deN) rfl rfl ?_
      refine ms_getf dX5_outIn_43 fg_X5_44 hf_6 rfl ?_
      refine ms_run (pc' := 48) (lv' := [(0, .ref x), (1, .int (nI i)), (2, .int (nI T))]) (st' := [.int (nI T), .int (nI i), .ref c2]) _ (ms_deC dX5_outIn_46 (ms_deC dX5_outIn_47 ms_deN)) rfl rfl ?_
      refine ms_callV0 (As := [.int (nI i), .int (nI T)]) dX5_outIn_48 (c_X0_ticksTillOut (by omega) (by omega) hc hv (by omega) hi hG_1 hQt9_ct hWt_ct) cv_X5_246 hCr.1 rfl ⟨Nat.le_of_ble_eq_true rfl, Nat.le_of_ble_eq_true rfl⟩ rfl (Nat.le_of_ble_eq_true rfl) (fun v9 n9 K_to hp9 => ?_)
      obtain ⟨hv9, rfl, ⟨hd5, on5, ht5, cm5, wk5, hCt5⟩, hF_to⟩ := hp9
      cases hv9
      have hG_7 : gr_at K_to g (nI (W * H)) (nI W) (nI H) nr := gr_at.fr hG_1 hF_to (by omega)
      have hQ_8 : sq_at K_to g q wl mk ds qu := sq_at.fr hQ_2 hF_to (by omega)
      have hC_9 : cr_at K_to g q c hd X.2.2.1 X.2.1 cm wk := cr_at.fr hC_3 hF_to (by omega)
      have hJ_10 : jm_at K_to j cn wi jo sz quj := jm_at.fr hJ_4 hF_to (by omega)
      have hQt9_11 : sq_at K_to g q2 wl mk ds qt9 := sq_at.fr hQt9_ct hF_to (by omega)
      have hF_12 : ms_fr x (c2 + 29 - x) G K_to := ms_fr.trans hF_5 (ms_fr.mono hF_to (by omega) (by omega))
      have hf_13 := (hF_to x (by omega)).trans hf_6
      refine ms_reti (st := []) (ty := .int) dX5_outIn_51 rfl rfl ?_
      exact xq_P.ret (by unfold th_ahw; rw [if_neg (not_not_intro hpi), if_neg (not_not_intro hah)]) rfl ⟨⟨hf_13, hG_7, ⟨_, hQ_8⟩, ⟨hd, cm, wk, hC_9, hx, hd1, hd2_, hd3, ha⟩, ⟨_, _, _, _, _, hJ_10⟩, ⟨_, _, _, _, hQt9_11⟩, ⟨_, _, _, _, _, hCt5⟩⟩, hF_12⟩
    · rw [show ms_b (1 ≤ tt ∧ tt ≤ 60) = 0 from if_neg hah]
      refine ms_if_ne (tgt := 38) dX5_outIn_25 (by decide) (fun h9 => absurd h9 (by decide)) (fun _ => ?_)
      refine ms_throw dX5_outIn_28 dX5_outIn_31 dX5_outIn_32 dX5_outIn_34 dX5_outIn_37 th_X5_51_241_55 ⟨Nat.le_of_ble_eq_true rfl, Nat.le_of_ble_eq_true rfl⟩ (Nat.le_of_ble_eq_true rfl) (by omega) (by omega) (fun n1 hn1 => ?_)
      exact xq_P.thr hn1 (by unfold th_ahw; rw [if_neg (not_not_intro hpi), if_pos hah])
  · rw [show cr_get c (nI cnt) kk = .null from if_neg hpi]
    refine ms_ifnonnullN dX5_outIn_8 ?_
    refine ms_throw dX5_outIn_11 dX5_outIn_14 dX5_outIn_15 dX5_outIn_17 dX5_outIn_20 th_X5_66_208_70 ⟨Nat.le_of_ble_eq_true rfl, Nat.le_of_ble_eq_true rfl⟩ (Nat.le_of_ble_eq_true rfl) (by omega) (by omega) (fun n1 hn1 => ?_)
    exact xq_P.thr hn1 (if_pos hpi)
set_option maxHeartbeats 4000000 in
set_option maxRecDepth 20000 in
theorem c_X5_outWith {n x g q c j q2 c2 W H : Nat} {G : ms_H} {nr wl mk ds : Nat → Int32} {cnt : Nat} {dr pa : Int32} {X : cX} (ho : ox x g q c j q2 c2) (hS : xs_at G x g q c j q2 c2 W H nr wl mk ds cnt dr pa X) (hc : cnt ≤ 24) (hv : hvX (nI (W * H)) cnt X.1) (tt dd : Int32) : ms_X m_X5_outWith [.ref x, .int tt, .int dd] n G 1 6 (xq_P n G (th_ahd tt dd) (.int (nI (ct (pOut (stXn (nI (W * H)) nr mk ds cnt dd X tt.toNatClampNeg).1) cnt))) (fun G1 => xs_at G1 x g q c j q2 c2 W H nr wl mk ds cnt dr pa X ∧ ms_fr x (c2 + 29 - x) G G1)) := by
  refine ms_X.of (by decide) (Nat.le_of_ble_eq_true rfl) ?_
  show ms_W true m_X5_outWith _ 0 [(0, .ref x), (1, .int tt), (2, .int dd)] [] n G 1 6
  obtain ⟨hX, hG, ⟨qu, hQ⟩, ⟨hd, cm, wk, hC, hx, hd1, hd2_, hd3, ha⟩, ⟨cn, wi, jo, sz, quj, hJ⟩, ⟨wl2, mk2, ds2, qu2, hQt⟩, ⟨hd2, on2, ht2, cm2, wk2, hCt⟩⟩ := hS
  obtain ⟨o1, o2, o3, o4, o5, o6⟩ := ho
  have hF : ms_fr x (c2 + 29 - x) G G := ms_fr.rf
  refine ms_run (pc' := 1) (lv' := [(0, .ref x), (1, .int tt), (2, .int dd)]) (st' := [.int tt]) _ (ms_deC dX5_outWith_0 ms_deN) rfl rfl ?_
  refine ms_callSp (As := [.int tt]) dX5_outWith_1 (c_X5_isAhead tt) cs_X5_238 rfl ⟨Nat.le_of_ble_eq_true rfl, Nat.le_of_ble_eq_true rfl⟩ rfl (Nat.le_of_ble_eq_true rfl) ?_
  by_cases hah : 1 ≤ tt ∧ tt ≤ 60
  · rw [show ms_b (1 ≤ tt ∧ tt ≤ 60) = 1 from if_pos hah]
    obtain ⟨T, hT, hTe⟩ := nI_of2 (M := 60) (n := 60) rfl (Int32.not_lt.mpr (Int32.le_trans (by decide) hah.1)) hah.2
    subst hTe
    rw [nI_clamp (by omega)]
    refine ms_if_eq (tgt := 17) dX5_outWith_4 (by decide) (fun h9 => absurd h9 (by decide)) (fun _ => ?_)
    refine ms_run (pc' := 8) (lv' := [(0, .ref x), (1, .int (nI T)), (2, .int dd)]) (st' := [.int dd]) _ (ms_deC dX5_outWith_7 ms_deN) rfl rfl ?_
    refine ms_if_lt (tgt := 17) dX5_outWith_8 (by decide) (fun h_8 => ?_) (fun h_8 => ?_)
    · skip
      refine ms_throw dX5_outWith_17 dX5_outWith_20 dX5_outWith_21 dX5_outWith_23 dX5_outWith_26 th_X5_51_249_55 ⟨Nat.le_of_ble_eq_true rfl, Nat.le_of_ble_eq_true rfl⟩ (Nat.le_of_ble_eq_true rfl) (by omega) (by omega) (fun n1 hn1 => ?_)
      exact xq_P.thr hn1 (if_pos (by first | exact Or.inl hah | exact Or.inr (Or.inl (by assumption)) | exact Or.inr (Or.inr (Int32.not_le.mp (by assumption)))))
    · skip
      refine ms_run (pc' := 14) (lv' := [(0, .ref x), (1, .int (nI T)), (2, .int dd)]) (st' := [.int 9, .int dd]) _ (ms_deC dX5_outWith_11 (ms_deC dX5_outWith_12 ms_deN)) rfl rfl ?_
      refine ms_icmp_le (tgt := 27) dX5_outWith_14 (by decide) (fun h_14 => ?_) (fun h_14 => ?_)
      · skip
        refine ms_run (pc' := 28) (lv' := [(0, .ref x), (1, .int (nI T)), (2, .int dd)]) (st' := [.ref x]) _ (ms_deC dX5_outWith_27 ms_deN) rfl rfl ?_
        refine ms_callV0 (As := []) dX5_outWith_28 (c_X5_copyToTrial ⟨o1, o2, o3, o4, o5, o6⟩ ⟨hX, hG, ⟨_, hQ⟩, ⟨hd, cm, wk, hC, hx, hd1, hd2_, hd3, ha⟩, ⟨_, _, _, _, _, hJ⟩, ⟨_, _, _, _, hQt⟩, ⟨_, _, _, _, _, hCt⟩⟩ hc) cv_X5_243 hX rfl ⟨Nat.le_of_ble_eq_true rfl, Nat.le_of_ble_eq_true rfl⟩ rfl (Nat.le_of_ble_eq_true rfl) (fun v9 n9 K_ct hp9 => ?_)
        obtain ⟨hv9, rfl, ⟨qt9, hQt9_ct⟩, hWt_ct, hF_ct⟩ := hp9
        cases hv9
        have hG_1 : gr_at K_ct g (nI (W * H)) (nI W) (nI H) nr := gr_at.fr hG hF_ct (by omega)
        have hQ_2 : sq_at K_ct g q wl mk ds qu := sq_at.fr hQ hF_ct (by omega)
        have hC_3 : cr_at K_ct g q c hd X.2.2.1 X.2.1 cm wk := cr_at.fr hC hF_ct (by omega)
        have hJ_4 : jm_at K_ct j cn wi jo sz quj := jm_at.fr hJ hF_ct (by omega)
        have hF_5 : ms_fr x (c2 + 29 - x) G K_ct := ms_fr.trans hF (ms_fr.mono hF_ct (by omega) (by omega))
        have hf_6 := (hF_ct x (by omega)).trans hX
        obtain ⟨hd4, cm4, wk4, hCt9, hx4, hd14, hd24, hd34, ha4⟩ := hWt_ct
        refine ms_run (pc' := 32) (lv' := [(0, .ref x), (1, .int (nI T)), (2, .int dd)]) (st' := [.ref x]) _ (ms_deC dX5_outWith_31 ms_deN) rfl rfl ?_
        refine ms_getf dX5_outWith_32 fg_X5_44 hf_6 rfl ?_
        refine ms_run (pc' := 36) (lv' := [(0, .ref x), (1, .int (nI T)), (2, .int dd)]) (st' := [.int dd, .ref c2]) _ (ms_deC dX5_outWith_35 ms_deN) rfl rfl ?_
        refine ms_putf dX5_outWith_36 fp_X5_132 hCt9.1 (Nat.le_of_ble_eq_true rfl) rfl rfl ?_
        obtain ⟨G_7, eG_7⟩ : ∃ K9 : ms_H, K9 = ms_up K_ct c2 (.inr (0, [.int (hd4 0), .int (hd4 1), .int dd, .int (hd4 3), .ref g, .ref q2, .ref (c2 + 1), .ref (c2 + 2), .ref (c2 + 3), .ref (c2 + 4)])) := ⟨_, rfl⟩
        refine ms_W.heq eG_7 ?_
        have hG_8 : gr_at G_7 g (nI (W * H)) (nI W) (nI H) nr := by rw [eG_7]; exact gr_at.up hG_1 (by omega)
        have hQ_9 : sq_at G_7 g q wl mk ds qu := by rw [eG_7]; exact sq_at.up hQ_2 (by omega)
        have hC_10 : cr_at G_7 g q c hd X.2.2.1 X.2.1 cm wk := by rw [eG_7]; exact cr_at.up hC_3 (by omega)
        have hJ_11 : jm_at G_7 j cn wi jo sz quj := by rw [eG_7]; exact jm_at.up hJ_4 (by omega)
        have hQt9_12 : sq_at G_7 g q2 wl mk ds qt9 := by rw [eG_7]; exact sq_at.up hQt9_ct (by omega)
        have hF_13 : ms_fr x (c2 + 29 - x) G G_7 := by rw [eG_7]; exact ms_fr.up hF_5 (by omega)
        have hCt9_14 : cr_at G_7 g q2 c2 (h4 (hd4 0) (hd4 1) dd (hd4 3)) X.2.2.1 X.2.1 cm4 wk4 := by rw [eG_7]; exact cr_at.s_hd hCt9 (hd4 0) (hd4 1) dd (hd4 3)
        have hf_15 := (congrFun eG_7 x).trans ((ms_up_n K_ct _ (by omega)).trans hf_6)
        have hf_16 := (congrFun eG_7 q).trans ((ms_up_n K_ct _ (by omega)).trans hQ_2.1)
        have hf_17 := (congrFun eG_7 q2).trans ((ms_up_n K_ct _ (by omega)).trans hQt9_ct.1)
        refine ms_run (pc' := 40) (lv' := [(0, .ref x), (1, .int (nI T)), (2, .int dd)]) (st' := [.ref x]) _ (ms_deC dX5_outWith_39 ms_deN) rfl rfl ?_
        refine ms_getf dX5_outWith_40 fg_X5_44 hf_15 rfl ?_
        refine ms_run (pc' := 44) (lv' := [(0, .ref x), (1, .int (nI T)), (2, .int dd)]) (st' := [.int (nI T), .ref c2]) _ (ms_deC dX5_outWith_43 ms_deN) rfl rfl ?_
        refine ms_callV0 (As := [.int (nI T)]) dX5_outWith_44 (c_X0_outAfter (by omega) (by omega) hc hv (by omega) hG_8 hQt9_12 ⟨h4 (hd4 0) (hd4 1) dd (hd4 3), cm4, wk4, hCt9_14, hx4, hd14, rfl, hd34, ha4⟩) cv_X5_193 hCt9_14.1 rfl ⟨Nat.le_of_ble_eq_true rfl, Nat.le_of_ble_eq_true rfl⟩ rfl (Nat.le_of_ble_eq_true rfl) (fun v9 n9 K_oa hp9 => ?_)
        obtain ⟨hv9, rfl, hWo_oa, hF_oa⟩ := hp9
        cases hv9
        have hG_18 : gr_at K_oa g (nI (W * H)) (nI W) (nI H) nr := gr_at.fr hG_8 hF_oa (by omega)
        have hQ_19 : sq_at K_oa g q wl mk ds qu := sq_at.fr hQ_9 hF_oa (by omega)
        have hC_20 : cr_at K_oa g q c hd X.2.2.1 X.2.1 cm wk := cr_at.fr hC_10 hF_oa (by omega)
        have hJ_21 : jm_at K_oa j cn wi jo sz quj := jm_at.fr hJ_11 hF_oa (by omega)
        have hQt9_22 : sq_at K_oa g q2 wl mk ds qt9 := sq_at.fr hQt9_12 hF_oa (by omega)
        have hF_23 : ms_fr x (c2 + 29 - x) G K_oa := ms_fr.trans hF_13 (ms_fr.mono hF_oa (by omega) (by omega))
        have hf_24 := (hF_oa x (by omega)).trans hf_15
        have hWy := hWo_oa
        obtain ⟨hd6, cm6, wk6, hC6_oa, -⟩ := hWy
        refine ms_reti (st := []) (ty := .int) dX5_outWith_47 rfl rfl ?_
        exact xq_P.ret (if_neg (by rintro (z | z | z); exact z hah; exact h_8 z; exact (Int32.not_lt.mpr (by first | exact h_14 | exact Int32.not_lt.mp h_14)) z)) rfl ⟨⟨hf_24, hG_18, ⟨_, hQ_19⟩, ⟨hd, cm, wk, hC_20, hx, hd1, hd2_, hd3, ha⟩, ⟨_, _, _, _, _, hJ_21⟩, ⟨_, _, _, _, hQt9_22⟩, ⟨_, _, _, _, _, hC6_oa⟩⟩, hF_23⟩
      · skip
        refine ms_throw dX5_outWith_17 dX5_outWith_20 dX5_outWith_21 dX5_outWith_23 dX5_outWith_26 th_X5_51_249_55 ⟨Nat.le_of_ble_eq_true rfl, Nat.le_of_ble_eq_true rfl⟩ (Nat.le_of_ble_eq_true rfl) (by omega) (by omega) (fun n1 hn1 => ?_)
        exact xq_P.thr hn1 (if_pos (by first | exact Or.inl hah | exact Or.inr (Or.inl (by assumption)) | exact Or.inr (Or.inr (Int32.not_le.mp (by assumption)))))
  · rw [show ms_b (1 ≤ tt ∧ tt ≤ 60) = 0 from if_neg hah]
    refine ms_if_eq (tgt := 17) dX5_outWith_4 (by decide) (fun _ => ?_) (fun h9 => absurd h9 (by decide))
    refine ms_throw dX5_outWith_17 dX5_outWith_20 dX5_outWith_21 dX5_outWith_23 dX5_outWith_26 th_X5_51_249_55 ⟨Nat.le_of_ble_eq_true rfl, Nat.le_of_ble_eq_true rfl⟩ (Nat.le_of_ble_eq_true rfl) (by omega) (by omega) (fun n1 hn1 => ?_)
    exact xq_P.thr hn1 (if_pos (by first | exact Or.inl hah | exact Or.inr (Or.inl (by assumption)) | exact Or.inr (Or.inr (Int32.not_le.mp (by assumption)))))
set_option maxHeartbeats 4000000 in
set_option maxRecDepth 20000 in
theorem c_X5_jamIn {n x g q c j q2 c2 W H : Nat} {G : ms_H} {nr wl mk ds : Nat → Int32} {cnt : Nat} {dr pa : Int32} {X : cX} (ho : ox x g q c j q2 c2) (hS : xs_at G x g q c j q2 c2 W H nr wl mk ds cnt dr pa X) (hc : cnt ≤ 24) (hv : hvX (nI (W * H)) cnt X.1) (tt : Int32) : ms_X m_X5_jamIn [.ref x, .int tt] n G 1 6 (xq_P n G (th_ah tt) (.int (fst1 (fun t => decide (an (fun j => decide (pJam pa ((stXn (nI (W * H)) nr mk ds cnt dr X t).1 j))) cnt = true)) (fun t => nI t) 0 (tt.toNatClampNeg + 1))) (fun G1 => xs_at G1 x g q c j q2 c2 W H nr wl mk ds cnt dr pa X ∧ ms_fr x (c2 + 29 - x) G G1)) := by
  refine ms_X.of (by decide) (Nat.le_of_ble_eq_true rfl) ?_
  show ms_W true m_X5_jamIn _ 0 [(0, .ref x), (1, .int tt)] [] n G 1 6
  obtain ⟨hX, hG, ⟨qu, hQ⟩, ⟨hd, cm, wk, hC, hx, hd1, hd2_, hd3, ha⟩, ⟨cn, wi, jo, sz, quj, hJ⟩, ⟨wl2, mk2, ds2, qu2, hQt⟩, ⟨hd2, on2, ht2, cm2, wk2, hCt⟩⟩ := hS
  obtain ⟨o1, o2, o3, o4, o5, o6⟩ := ho
  have hF : ms_fr x (c2 + 29 - x) G G := ms_fr.rf
  refine ms_run (pc' := 1) (lv' := [(0, .ref x), (1, .int tt)]) (st' := [.int tt]) _ (ms_deC dX5_jamIn_0 ms_deN) rfl rfl ?_
  refine ms_callSp (As := [.int tt]) dX5_jamIn_1 (c_X5_isAhead tt) cs_X5_238 rfl ⟨Nat.le_of_ble_eq_true rfl, Nat.le_of_ble_eq_true rfl⟩ rfl (Nat.le_of_ble_eq_true rfl) ?_
  by_cases hah : 1 ≤ tt ∧ tt ≤ 60
  · rw [show ms_b (1 ≤ tt ∧ tt ≤ 60) = 1 from if_pos hah]
    obtain ⟨T, hT, hTe⟩ := nI_of2 (M := 60) (n := 60) rfl (Int32.not_lt.mpr (Int32.le_trans (by decide) hah.1)) hah.2
    subst hTe
    rw [nI_clamp (by omega)]
    refine ms_if_ne (tgt := 17) dX5_jamIn_4 (by decide) (fun _ => ?_) (fun h9 => absurd h9 (by decide))
    refine ms_run (pc' := 18) (lv' := [(0, .ref x), (1, .int (nI T))]) (st' := [.ref x]) _ (ms_deC dX5_jamIn_17 ms_deN) rfl rfl ?_
    refine ms_callV0 (As := []) dX5_jamIn_18 (c_X5_copyToTrial ⟨o1, o2, o3, o4, o5, o6⟩ ⟨hX, hG, ⟨_, hQ⟩, ⟨hd, cm, wk, hC, hx, hd1, hd2_, hd3, ha⟩, ⟨_, _, _, _, _, hJ⟩, ⟨_, _, _, _, hQt⟩, ⟨_, _, _, _, _, hCt⟩⟩ hc) cv_X5_243 hX rfl ⟨Nat.le_of_ble_eq_true rfl, Nat.le_of_ble_eq_true rfl⟩ rfl (Nat.le_of_ble_eq_true rfl) (fun v9 n9 K_ct hp9 => ?_)
    obtain ⟨hv9, rfl, ⟨qt9, hQt9_ct⟩, hWt_ct, hF_ct⟩ := hp9
    cases hv9
    have hG_1 : gr_at K_ct g (nI (W * H)) (nI W) (nI H) nr := gr_at.fr hG hF_ct (by omega)
    have hQ_2 : sq_at K_ct g q wl mk ds qu := sq_at.fr hQ hF_ct (by omega)
    have hC_3 : cr_at K_ct g q c hd X.2.2.1 X.2.1 cm wk := cr_at.fr hC hF_ct (by omega)
    have hJ_4 : jm_at K_ct j cn wi jo sz quj := jm_at.fr hJ hF_ct (by omega)
    have hF_5 : ms_fr x (c2 + 29 - x) G K_ct := ms_fr.trans hF (ms_fr.mono hF_ct (by omega) (by omega))
    have hf_6 := (hF_ct x (by omega)).trans hX
    have hWx := hWt_ct
    obtain ⟨hd4, cm4, wk4, hCr, -⟩ := hWx
    refine ms_run (pc' := 22) (lv' := [(0, .ref x), (1, .int (nI T))]) (st' := [.ref x]) _ (ms_deC dX5_jamIn_21 ms_deN) rfl rfl ?_
    refine ms_getf dX5_jamIn_22 fg_X5_44 hf_6 rfl ?_
    refine ms_run (pc' := 26) (lv' := [(0, .ref x), (1, .int (nI T))]) (st' := [.int (nI T), .ref c2]) _ (ms_deC dX5_jamIn_25 ms_deN) rfl rfl ?_
    refine ms_callV0 (As := [.int (nI T)]) dX5_jamIn_26 (c_X0_ticksTillJam (by omega) (by omega) hc hv (by omega) hG_1 hQt9_ct hWt_ct) cv_X5_251 hCr.1 rfl ⟨Nat.le_of_ble_eq_true rfl, Nat.le_of_ble_eq_true rfl⟩ rfl (Nat.le_of_ble_eq_true rfl) (fun v9 n9 K_to hp9 => ?_)
    obtain ⟨hv9, rfl, ⟨hd5, on5, ht5, cm5, wk5, hCt5⟩, hF_to⟩ := hp9
    cases hv9
    have hG_7 : gr_at K_to g (nI (W * H)) (nI W) (nI H) nr := gr_at.fr hG_1 hF_to (by omega)
    have hQ_8 : sq_at K_to g q wl mk ds qu := sq_at.fr hQ_2 hF_to (by omega)
    have hC_9 : cr_at K_to g q c hd X.2.2.1 X.2.1 cm wk := cr_at.fr hC_3 hF_to (by omega)
    have hJ_10 : jm_at K_to j cn wi jo sz quj := jm_at.fr hJ_4 hF_to (by omega)
    have hQt9_11 : sq_at K_to g q2 wl mk ds qt9 := sq_at.fr hQt9_ct hF_to (by omega)
    have hF_12 : ms_fr x (c2 + 29 - x) G K_to := ms_fr.trans hF_5 (ms_fr.mono hF_to (by omega) (by omega))
    have hf_13 := (hF_to x (by omega)).trans hf_6
    refine ms_reti (st := []) (ty := .int) dX5_jamIn_29 rfl rfl ?_
    exact xq_P.ret (if_neg (not_not_intro hah)) rfl ⟨⟨hf_13, hG_7, ⟨_, hQ_8⟩, ⟨hd, cm, wk, hC_9, hx, hd1, hd2_, hd3, ha⟩, ⟨_, _, _, _, _, hJ_10⟩, ⟨_, _, _, _, hQt9_11⟩, ⟨_, _, _, _, _, hCt5⟩⟩, hF_12⟩
  · rw [show ms_b (1 ≤ tt ∧ tt ≤ 60) = 0 from if_neg hah]
    refine ms_if_ne (tgt := 17) dX5_jamIn_4 (by decide) (fun h9 => absurd h9 (by decide)) (fun _ => ?_)
    refine ms_throw dX5_jamIn_7 dX5_jamIn_10 dX5_jamIn_11 dX5_jamIn_13 dX5_jamIn_16 th_X5_51_241_55 ⟨Nat.le_of_ble_eq_true rfl, Nat.le_of_ble_eq_true rfl⟩ (Nat.le_of_ble_eq_true rfl) (by omega) (by omega) (fun n1 hn1 => ?_)
    exact xq_P.thr hn1 (if_pos hah)
def th_oby (W H : Nat) (on : Nat → Int32) (a b T : Int32) : Option String := if gr_num (nI W) (nI H) a b = -1 then some IOB else if ¬ (1 ≤ T ∧ T ≤ 60) then some IAE else if ¬ cr_on on (gr_num (nI W) (nI H) a b) = -1 then some ISE else none
/-- the walls, one field's otherwise -/
def wlF (wl : Nat → Int32) (f : Nat) : Nat → Int32 := upd wl f (if wl f = 0 then 1 else 0)
set_option maxHeartbeats 4000000 in
set_option maxRecDepth 20000 in
theorem c_X5_outBy {n x g q c j q2 c2 W H : Nat} {G : ms_H} {nr wl mk ds : Nat → Int32} {cnt : Nat} {dr pa : Int32} {X : cX} (ho : ox x g q c j q2 c2) (hS : xs_at G x g q c j q2 c2 W H nr wl mk ds cnt dr pa X) (hc : cnt ≤ 24) (hv : hvX (nI (W * H)) cnt X.1) (hW : W ≤ 14) (hH : H ≤ 14) (aa bb tt : Int32) : ms_X m_X5_outBy [.ref x, .int aa, .int bb, .int tt] n G 1 6 (xq_P n G (th_oby W H X.2.2.1 aa bb tt) (.int (nI (ct (pOut (stXn (nI (W * H)) nr mk (dXa (W * H) nr (wlF wl (gr_num (nI W) (nI H) aa bb).toNatClampNeg) mk ds 4) cnt dr X tt.toNatClampNeg).1) cnt) - nI (ct (pOut (stXn (nI (W * H)) nr mk ds cnt dr X tt.toNatClampNeg).1) cnt))) (fun G1 => xs_at G1 x g q c j q2 c2 W H nr wl mk ds cnt dr pa X ∧ ms_fr x (c2 + 29 - x) G G1)) := by
  refine ms_X.of (by decide) (Nat.le_of_ble_eq_true rfl) ?_
  show ms_W true m_X5_outBy _ 0 [(0, .ref x), (1, .int aa), (2, .int bb), (3, .int tt)] [] n G 1 6
  obtain ⟨hX, hG, ⟨qu, hQ⟩, ⟨hd, cm, wk, hC, hx, hd1, hd2_, hd3, ha⟩, ⟨cn, wi, jo, sz, quj, hJ⟩, ⟨wl2, mk2, ds2, qu2, hQt⟩, ⟨hd2, on2, ht2, cm2, wk2, hCt⟩⟩ := hS
  obtain ⟨o1, o2, o3, o4, o5, o6⟩ := ho
  have hF : ms_fr x (c2 + 29 - x) G G := ms_fr.rf
  refine ms_run (pc' := 1) (lv' := [(0, .ref x), (1, .int aa), (2, .int bb), (3, .int tt)]) (st' := [.ref x]) _ (ms_deC dX5_outBy_0 ms_deN) rfl rfl ?_
  refine ms_getf dX5_outBy_1 fg_X5_10 hX rfl ?_
  refine ms_run (pc' := 6) (lv' := [(0, .ref x), (1, .int aa), (2, .int bb), (3, .int tt)]) (st' := [.int bb, .int aa, .ref g]) _ (ms_deC dX5_outBy_4 (ms_deC dX5_outBy_5 ms_deN)) rfl rfl ?_
  refine ms_callVp (As := [.int aa, .int bb]) dX5_outBy_6 (c_X1_number hG aa bb) cv_X5_62 hG.1 rfl ⟨Nat.le_of_ble_eq_true rfl, Nat.le_of_ble_eq_true rfl⟩ rfl (Nat.le_of_ble_eq_true rfl) ?_
  refine ms_run (pc' := 14) (lv' := [(4, .int (gr_num (nI W) (nI H) aa bb)), (0, .ref x), (1, .int aa), (2, .int bb), (3, .int tt)]) (st' := [.int (-1), .int (gr_num (nI W) (nI H) aa bb)]) _ (ms_deC dX5_outBy_9 (ms_deC dX5_outBy_11 (ms_deC dX5_outBy_13 ms_deN))) rfl rfl ?_
  refine ms_icmp_ne (tgt := 27) dX5_outBy_14 (by decide) (fun h_14 => ?_) (fun h_14 => ?_)
  · skip
    refine ms_run (pc' := 28) (lv' := [(4, .int (gr_num (nI W) (nI H) aa bb)), (0, .ref x), (1, .int aa), (2, .int bb), (3, .int tt)]) (st' := [.int tt]) _ (ms_deC dX5_outBy_27 ms_deN) rfl rfl ?_
    refine ms_callSp (As := [.int tt]) dX5_outBy_28 (c_X5_isAhead tt) cs_X5_238 rfl ⟨Nat.le_of_ble_eq_true rfl, Nat.le_of_ble_eq_true rfl⟩ rfl (Nat.le_of_ble_eq_true rfl) ?_
    by_cases hah : 1 ≤ tt ∧ tt ≤ 60
    · rw [show ms_b (1 ≤ tt ∧ tt ≤ 60) = 1 from if_pos hah]
      obtain ⟨T, hT, hTe⟩ := nI_of2 (M := 60) (n := 60) rfl (Int32.not_lt.mpr (Int32.le_trans (by decide) hah.1)) hah.2
      subst hTe
      rw [nI_clamp (by omega)]
      refine ms_if_ne (tgt := 44) dX5_outBy_31 (by decide) (fun _ => ?_) (fun h9 => absurd h9 (by decide))
      refine ms_run (pc' := 45) (lv' := [(4, .int (gr_num (nI W) (nI H) aa bb)), (0, .ref x), (1, .int aa), (2, .int bb), (3, .int (nI T))]) (st' := [.ref x]) _ (ms_deC dX5_outBy_44 ms_deN) rfl rfl ?_
      refine ms_getf dX5_outBy_45 fg_X5_30 hX rfl ?_
      refine ms_run (pc' := 50) (lv' := [(4, .int (gr_num (nI W) (nI H) aa bb)), (0, .ref x), (1, .int aa), (2, .int bb), (3, .int (nI T))]) (st' := [.int (gr_num (nI W) (nI H) aa bb), .ref c]) _ (ms_deC dX5_outBy_48 ms_deN) rfl rfl ?_
      refine ms_callVp (As := [.int (gr_num (nI W) (nI H) aa bb)]) dX5_outBy_50 (c_X0_numberOn hC (gr_num (nI W) (nI H) aa bb)) cv_X5_105 hC.1 rfl ⟨Nat.le_of_ble_eq_true rfl, Nat.le_of_ble_eq_true rfl⟩ rfl (Nat.le_of_ble_eq_true rfl) ?_
      refine ms_run (pc' := 54) (lv' := [(4, .int (gr_num (nI W) (nI H) aa bb)), (0, .ref x), (1, .int aa), (2, .int bb), (3, .int (nI T))]) (st' := [.int (-1), .int (cr_on X.2.2.1 (gr_num (nI W) (nI H) aa bb))]) _ (ms_deC dX5_outBy_53 ms_deN) rfl rfl ?_
      refine ms_icmp_eq (tgt := 67) dX5_outBy_54 (by decide) (fun h_54 => ?_) (fun h_54 => ?_)
      · skip
        refine ms_run (pc' := 68) (lv' := [(4, .int (gr_num (nI W) (nI H) aa bb)), (0, .ref x), (1, .int aa), (2, .int bb), (3, .int (nI T))]) (st' := [.ref x]) _ (ms_deC dX5_outBy_67 ms_deN) rfl rfl ?_
        refine ms_callV0 (As := []) dX5_outBy_68 (c_X5_copyToTrial ⟨o1, o2, o3, o4, o5, o6⟩ ⟨hX, hG, ⟨_, hQ⟩, ⟨hd, cm, wk, hC, hx, hd1, hd2_, hd3, ha⟩, ⟨_, _, _, _, _, hJ⟩, ⟨_, _, _, _, hQt⟩, ⟨_, _, _, _, _, hCt⟩⟩ hc) cv_X5_243 hX rfl ⟨Nat.le_of_ble_eq_true rfl, Nat.le_of_ble_eq_true rfl⟩ rfl (Nat.le_of_ble_eq_true rfl) (fun v9 n9 K_ct hp9 => ?_)
        obtain ⟨hv9, rfl, ⟨qt9, hQt9_ct⟩, hWt_ct, hF_ct⟩ := hp9
        cases hv9
        have hG_1 : gr_at K_ct g (nI (W * H)) (nI W) (nI H) nr := gr_at.fr hG hF_ct (by omega)
        have hQ_2 : sq_at K_ct g q wl mk ds qu := sq_at.fr hQ hF_ct (by omega)
        have hC_3 : cr_at K_ct g q c hd X.2.2.1 X.2.1 cm wk := cr_at.fr hC hF_ct (by omega)
        have hJ_4 : jm_at K_ct j cn wi jo sz quj := jm_at.fr hJ hF_ct (by omega)
        have hF_5 : ms_fr x (c2 + 29 - x) G K_ct := ms_fr.trans hF (ms_fr.mono hF_ct (by omega) (by omega))
        have hf_6 := (hF_ct x (by omega)).trans hX
        have hWx := hWt_ct
        obtain ⟨hd4, cm4, wk4, hCr, -⟩ := hWx
        refine ms_run (pc' := 72) (lv' := [(4, .int (gr_num (nI W) (nI H) aa bb)), (0, .ref x), (1, .int aa), (2, .int bb), (3, .int (nI T))]) (st' := [.ref x]) _ (ms_deC dX5_outBy_71 ms_deN) rfl rfl ?_
        refine ms_getf dX5_outBy_72 fg_X5_44 hf_6 rfl ?_
        refine ms_run (pc' := 76) (lv' := [(4, .int (gr_num (nI W) (nI H) aa bb)), (0, .ref x), (1, .int aa), (2, .int bb), (3, .int (nI T))]) (st' := [.int (nI T), .ref c2]) _ (ms_deC dX5_outBy_75 ms_deN) rfl rfl ?_
        refine ms_callV0 (As := [.int (nI T)]) dX5_outBy_76 (c_X0_outAfter (by omega) (by omega) hc hv (by omega) hG_1 hQt9_ct hWt_ct) cv_X5_193 hCr.1 rfl ⟨Nat.le_of_ble_eq_true rfl, Nat.le_of_ble_eq_true rfl⟩ rfl (Nat.le_of_ble_eq_true rfl) (fun v9 n9 K_o1 hp9 => ?_)
        obtain ⟨hv9, rfl, hWo_o1, hF_o1⟩ := hp9
        cases hv9
        have hG_7 : gr_at K_o1 g (nI (W * H)) (nI W) (nI H) nr := gr_at.fr hG_1 hF_o1 (by omega)
        have hQ_8 : sq_at K_o1 g q wl mk ds qu := sq_at.fr hQ_2 hF_o1 (by omega)
        have hC_9 : cr_at K_o1 g q c hd X.2.2.1 X.2.1 cm wk := cr_at.fr hC_3 hF_o1 (by omega)
        have hJ_10 : jm_at K_o1 j cn wi jo sz quj := jm_at.fr hJ_4 hF_o1 (by omega)
        have hQt9_11 : sq_at K_o1 g q2 wl mk ds qt9 := sq_at.fr hQt9_ct hF_o1 (by omega)
        have hF_12 : ms_fr x (c2 + 29 - x) G K_o1 := ms_fr.trans hF_5 (ms_fr.mono hF_o1 (by omega) (by omega))
        have hf_13 := (hF_o1 x (by omega)).trans hf_6
        have hWy := hWo_o1
        obtain ⟨hd6, cm6, wk6, hC6_o1, -⟩ := hWy
        refine ms_run (pc' := 82) (lv' := [(5, .int (nI (ct (pOut (stXn (nI (W * H)) nr mk ds cnt dr X T).1) cnt))), (4, .int (gr_num (nI W) (nI H) aa bb)), (0, .ref x), (1, .int aa), (2, .int bb), (3, .int (nI T))]) (st' := [.ref x]) _ (ms_deC dX5_outBy_79 (ms_deC dX5_outBy_81 ms_deN)) rfl rfl ?_
        refine ms_callV0 (As := []) dX5_outBy_82 (c_X5_copyToTrial ⟨o1, o2, o3, o4, o5, o6⟩ ⟨hf_13, hG_7, ⟨_, hQ_8⟩, ⟨hd, cm, wk, hC_9, hx, hd1, hd2_, hd3, ha⟩, ⟨_, _, _, _, _, hJ_10⟩, ⟨_, _, _, _, hQt9_11⟩, ⟨_, _, _, _, _, hC6_o1⟩⟩ hc) cv_X5_243 hf_13 rfl ⟨Nat.le_of_ble_eq_true rfl, Nat.le_of_ble_eq_true rfl⟩ rfl (Nat.le_of_ble_eq_true rfl) (fun v9 n9 K_cu hp9 => ?_)
        obtain ⟨hv9, rfl, ⟨qt9, hQt9_cu⟩, hWt_cu, hF_cu⟩ := hp9
        cases hv9
        have hG_14 : gr_at K_cu g (nI (W * H)) (nI W) (nI H) nr := gr_at.fr hG_7 hF_cu (by omega)
        have hQ_15 : sq_at K_cu g q wl mk ds qu := sq_at.fr hQ_8 hF_cu (by omega)
        have hC_16 : cr_at K_cu g q c hd X.2.2.1 X.2.1 cm wk := cr_at.fr hC_9 hF_cu (by omega)
        have hJ_17 : jm_at K_cu j cn wi jo sz quj := jm_at.fr hJ_10 hF_cu (by omega)
        have hF_18 : ms_fr x (c2 + 29 - x) G K_cu := ms_fr.trans hF_12 (ms_fr.mono hF_cu (by omega) (by omega))
        have hf_19 := (hF_cu x (by omega)).trans hf_13
        have hWx := hWt_cu
        obtain ⟨hd4, cm4, wk4, hCr, -⟩ := hWx
        refine ms_run (pc' := 86) (lv' := [(5, .int (nI (ct (pOut (stXn (nI (W * H)) nr mk ds cnt dr X T).1) cnt))), (4, .int (gr_num (nI W) (nI H) aa bb)), (0, .ref x), (1, .int aa), (2, .int bb), (3, .int (nI T))]) (st' := [.ref x]) _ (ms_deC dX5_outBy_85 ms_deN) rfl rfl ?_
        refine ms_getf dX5_outBy_86 fg_X5_41 hf_19 rfl ?_
        refine ms_run (pc' := 92) (lv' := [(5, .int (nI (ct (pOut (stXn (nI (W * H)) nr mk ds cnt dr X T).1) cnt))), (4, .int (gr_num (nI W) (nI H) aa bb)), (0, .ref x), (1, .int aa), (2, .int bb), (3, .int (nI T))]) (st' := [.ref x, .int (gr_num (nI W) (nI H) aa bb), .ref q2]) _ (ms_deC dX5_outBy_89 (ms_deC dX5_outBy_91 ms_deN)) rfl rfl ?_
        refine ms_getf dX5_outBy_92 fg_X5_21 hf_19 rfl ?_
        refine ms_run (pc' := 97) (lv' := [(5, .int (nI (ct (pOut (stXn (nI (W * H)) nr mk ds cnt dr X T).1) cnt))), (4, .int (gr_num (nI W) (nI H) aa bb)), (0, .ref x), (1, .int aa), (2, .int bb), (3, .int (nI T))]) (st' := [.int (gr_num (nI W) (nI H) aa bb), .ref q, .int (gr_num (nI W) (nI H) aa bb), .ref q2]) _ (ms_deC dX5_outBy_95 ms_deN) rfl rfl ?_
        obtain ⟨x9, y9, hx9, hy9, hae, hbe, hfe⟩ := gr_num_has hW hH h_14
        obtain ⟨f9, hf9⟩ : ∃ f9, f9 = y9 * W + x9 := ⟨_, rfl⟩
        rw [← hf9] at hfe
        have hlf : f9 < W * H := by rw [hf9]; exact fd_lt hx9 hy9
        have hfw : (gr_num (nI W) (nI H) aa bb).toNatClampNeg = f9 := by rw [hfe, nI_clamp (by have := fd_196 hW hH; omega)]
        rw [hfw]
        rw [hfe]
        refine ms_callVp (As := [.int (nI f9)]) dX5_outBy_97 (c_X3_isFreeI hG_14 hQ_15 rfl (fd_196 hW hH) hlf) cv_X5_156 hQ_15.1 rfl ⟨Nat.le_of_ble_eq_true rfl, Nat.le_of_ble_eq_true rfl⟩ rfl (Nat.le_of_ble_eq_true rfl) ?_
        by_cases hfr : wl f9 = 0
        · rw [show ms_b (wl f9 = 0) = 1 from if_pos hfr]
          refine ms_callV0 (As := [.int (nI f9), .int 1]) dX5_outBy_100 (c_X3_build hG_14 hQt9_cu (by omega) (nI f9) 1) cv_X5_88 hQt9_cu.1 rfl ⟨Nat.le_of_ble_eq_true rfl, Nat.le_of_ble_eq_true rfl⟩ rfl (Nat.le_of_ble_eq_true rfl) (fun v9 n9 K_bu hp9 => ?_)
          obtain ⟨hv9, rfl, ⟨qb9, hQt9_bu⟩, hF_bu⟩ := hp9
          cases hv9
          rw [if_pos (gr_hasI rfl hlf (fd_196 hW hH)), nI_clamp (by have := fd_196 hW hH; omega), show upd wl f9 (if (1 : Int32) = 0 then 0 else 1) = wlF wl f9 from by unfold wlF; rw [if_pos hfr]; rfl] at hQt9_bu
          have hG_20 : gr_at K_bu g (nI (W * H)) (nI W) (nI H) nr := gr_at.fr hG_14 hF_bu (by omega)
          have hQ_21 : sq_at K_bu g q wl mk ds qu := sq_at.fr hQ_15 hF_bu (by omega)
          have hC_22 : cr_at K_bu g q c hd X.2.2.1 X.2.1 cm wk := cr_at.fr hC_16 hF_bu (by omega)
          have hJ_23 : jm_at K_bu j cn wi jo sz quj := jm_at.fr hJ_17 hF_bu (by omega)
          have hF_24 : ms_fr x (c2 + 29 - x) G K_bu := ms_fr.trans hF_18 (ms_fr.mono hF_bu (by omega) (by omega))
          have hf_25 := (hF_bu x (by omega)).trans hf_19
          have hf_26 := (hF_bu c2 (by omega)).trans hCr.1
          refine ms_run (pc' := 104) (lv' := [(5, .int (nI (ct (pOut (stXn (nI (W * H)) nr mk ds cnt dr X T).1) cnt))), (4, .int (nI f9)), (0, .ref x), (1, .int aa), (2, .int bb), (3, .int (nI T))]) (st' := [.ref x]) _ (ms_deC dX5_outBy_103 ms_deN) rfl rfl ?_
          refine ms_getf dX5_outBy_104 fg_X5_41 hf_25 rfl ?_
          refine ms_callV0 (As := []) dX5_outBy_107 (c_X3_measureAll (by omega) rfl (fd_196 hW hH) hG_20 hQt9_bu) cv_X5_92 hQt9_bu.1 rfl ⟨Nat.le_of_ble_eq_true rfl, Nat.le_of_ble_eq_true rfl⟩ rfl (Nat.le_of_ble_eq_true rfl) (fun v9 n9 K_ma hp9 => ?_)
          obtain ⟨hv9, rfl, ⟨qm9, hQt9_ma⟩, hF_ma⟩ := hp9
          cases hv9
          have hG_27 : gr_at K_ma g (nI (W * H)) (nI W) (nI H) nr := gr_at.fr hG_20 hF_ma (by omega)
          have hQ_28 : sq_at K_ma g q wl mk ds qu := sq_at.fr hQ_21 hF_ma (by omega)
          have hC_29 : cr_at K_ma g q c hd X.2.2.1 X.2.1 cm wk := cr_at.fr hC_22 hF_ma (by omega)
          have hJ_30 : jm_at K_ma j cn wi jo sz quj := jm_at.fr hJ_23 hF_ma (by omega)
          have hF_31 : ms_fr x (c2 + 29 - x) G K_ma := ms_fr.trans hF_24 (ms_fr.mono hF_ma (by omega) (by omega))
          have hf_32 := (hF_ma x (by omega)).trans hf_25
          have hf_33 := (hF_ma c2 (by omega)).trans hf_26
          refine ms_run (pc' := 111) (lv' := [(5, .int (nI (ct (pOut (stXn (nI (W * H)) nr mk ds cnt dr X T).1) cnt))), (4, .int (nI f9)), (0, .ref x), (1, .int aa), (2, .int bb), (3, .int (nI T))]) (st' := [.ref x]) _ (ms_deC dX5_outBy_110 ms_deN) rfl rfl ?_
          refine ms_getf dX5_outBy_111 fg_X5_44 hf_32 rfl ?_
          refine ms_run (pc' := 115) (lv' := [(5, .int (nI (ct (pOut (stXn (nI (W * H)) nr mk ds cnt dr X T).1) cnt))), (4, .int (nI f9)), (0, .ref x), (1, .int aa), (2, .int bb), (3, .int (nI T))]) (st' := [.int (nI T), .ref c2]) _ (ms_deC dX5_outBy_114 ms_deN) rfl rfl ?_
          refine ms_callV0 (As := [.int (nI T)]) dX5_outBy_115 (c_X0_outAfter (by omega) (by omega) hc hv (by omega) hG_27 hQt9_ma ((hWt_cu.fr hF_bu (by omega)).fr hF_ma (by omega))) cv_X5_193 ((hF_ma c2 (by omega)).trans ((hF_bu c2 (by omega)).trans hCr.1)) rfl ⟨Nat.le_of_ble_eq_true rfl, Nat.le_of_ble_eq_true rfl⟩ rfl (Nat.le_of_ble_eq_true rfl) (fun v9 n9 K_o2 hp9 => ?_)
          obtain ⟨hv9, rfl, hWo_o2, hF_o2⟩ := hp9
          cases hv9
          have hG_34 : gr_at K_o2 g (nI (W * H)) (nI W) (nI H) nr := gr_at.fr hG_27 hF_o2 (by omega)
          have hQ_35 : sq_at K_o2 g q wl mk ds qu := sq_at.fr hQ_28 hF_o2 (by omega)
          have hC_36 : cr_at K_o2 g q c hd X.2.2.1 X.2.1 cm wk := cr_at.fr hC_29 hF_o2 (by omega)
          have hJ_37 : jm_at K_o2 j cn wi jo sz quj := jm_at.fr hJ_30 hF_o2 (by omega)
          have hQt9_38 : sq_at K_o2 g q2 (wlF wl f9) mk (dXa (W * H) nr (wlF wl f9) mk ds 4) qm9 := sq_at.fr hQt9_ma hF_o2 (by omega)
          have hF_39 : ms_fr x (c2 + 29 - x) G K_o2 := ms_fr.trans hF_31 (ms_fr.mono hF_o2 (by omega) (by omega))
          have hf_40 := (hF_o2 x (by omega)).trans hf_32
          have hWy := hWo_o2
          obtain ⟨hd6, cm6, wk6, hC6_o2, -⟩ := hWy
          refine ms_run (pc' := 121) (lv' := [(5, .int (nI (ct (pOut (stXn (nI (W * H)) nr mk ds cnt dr X T).1) cnt))), (4, .int (nI f9)), (0, .ref x), (1, .int aa), (2, .int bb), (3, .int (nI T))]) (st' := [.int ((nI (ct (pOut (stXn (nI (W * H)) nr mk (dXa (W * H) nr (wlF wl f9) mk ds 4) cnt dr X T).1) cnt)) - (nI (ct (pOut (stXn (nI (W * H)) nr mk ds cnt dr X T).1) cnt)))]) _ (ms_deC dX5_outBy_118 (ms_deC dX5_outBy_120 ms_deN)) rfl rfl ?_
          refine ms_reti (st := []) (ty := .int) dX5_outBy_121 rfl rfl ?_
          exact xq_P.ret (by unfold th_oby; rw [if_neg (by rw [hfe]; exact nI_m1 (by have := fd_196 hW hH; omega)), if_neg (not_not_intro hah), if_neg (fun z => z (by first | exact h_54 | (rw [← hfe] at *; assumption)))]) rfl ⟨⟨hf_40, hG_34, ⟨_, hQ_35⟩, ⟨hd, cm, wk, hC_36, hx, hd1, hd2_, hd3, ha⟩, ⟨_, _, _, _, _, hJ_37⟩, ⟨_, _, _, _, hQt9_38⟩, ⟨_, _, _, _, _, hC6_o2⟩⟩, hF_39⟩
        · rw [show ms_b (wl f9 = 0) = 0 from if_neg hfr]
          refine ms_callV0 (As := [.int (nI f9), .int 0]) dX5_outBy_100 (c_X3_build hG_14 hQt9_cu (by omega) (nI f9) 0) cv_X5_88 hQt9_cu.1 rfl ⟨Nat.le_of_ble_eq_true rfl, Nat.le_of_ble_eq_true rfl⟩ rfl (Nat.le_of_ble_eq_true rfl) (fun v9 n9 K_bu hp9 => ?_)
          obtain ⟨hv9, rfl, ⟨qb9, hQt9_bu⟩, hF_bu⟩ := hp9
          cases hv9
          rw [if_pos (gr_hasI rfl hlf (fd_196 hW hH)), nI_clamp (by have := fd_196 hW hH; omega), show upd wl f9 (if (0 : Int32) = 0 then 0 else 1) = wlF wl f9 from by unfold wlF; rw [if_neg hfr]; rfl] at hQt9_bu
          have hG_41 : gr_at K_bu g (nI (W * H)) (nI W) (nI H) nr := gr_at.fr hG_14 hF_bu (by omega)
          have hQ_42 : sq_at K_bu g q wl mk ds qu := sq_at.fr hQ_15 hF_bu (by omega)
          have hC_43 : cr_at K_bu g q c hd X.2.2.1 X.2.1 cm wk := cr_at.fr hC_16 hF_bu (by omega)
          have hJ_44 : jm_at K_bu j cn wi jo sz quj := jm_at.fr hJ_17 hF_bu (by omega)
          have hF_45 : ms_fr x (c2 + 29 - x) G K_bu := ms_fr.trans hF_18 (ms_fr.mono hF_bu (by omega) (by omega))
          have hf_46 := (hF_bu x (by omega)).trans hf_19
          have hf_47 := (hF_bu c2 (by omega)).trans hCr.1
          refine ms_run (pc' := 104) (lv' := [(5, .int (nI (ct (pOut (stXn (nI (W * H)) nr mk ds cnt dr X T).1) cnt))), (4, .int (nI f9)), (0, .ref x), (1, .int aa), (2, .int bb), (3, .int (nI T))]) (st' := [.ref x]) _ (ms_deC dX5_outBy_103 ms_deN) rfl rfl ?_
          refine ms_getf dX5_outBy_104 fg_X5_41 hf_46 rfl ?_
          refine ms_callV0 (As := []) dX5_outBy_107 (c_X3_measureAll (by omega) rfl (fd_196 hW hH) hG_41 hQt9_bu) cv_X5_92 hQt9_bu.1 rfl ⟨Nat.le_of_ble_eq_true rfl, Nat.le_of_ble_eq_true rfl⟩ rfl (Nat.le_of_ble_eq_true rfl) (fun v9 n9 K_ma hp9 => ?_)
          obtain ⟨hv9, rfl, ⟨qm9, hQt9_ma⟩, hF_ma⟩ := hp9
          cases hv9
          have hG_48 : gr_at K_ma g (nI (W * H)) (nI W) (nI H) nr := gr_at.fr hG_41 hF_ma (by omega)
          have hQ_49 : sq_at K_ma g q wl mk ds qu := sq_at.fr hQ_42 hF_ma (by omega)
          have hC_50 : cr_at K_ma g q c hd X.2.2.1 X.2.1 cm wk := cr_at.fr hC_43 hF_ma (by omega)
          have hJ_51 : jm_at K_ma j cn wi jo sz quj := jm_at.fr hJ_44 hF_ma (by omega)
          have hF_52 : ms_fr x (c2 + 29 - x) G K_ma := ms_fr.trans hF_45 (ms_fr.mono hF_ma (by omega) (by omega))
          have hf_53 := (hF_ma x (by omega)).trans hf_46
          have hf_54 := (hF_ma c2 (by omega)).trans hf_47
          refine ms_run (pc' := 111) (lv' := [(5, .int (nI (ct (pOut (stXn (nI (W * H)) nr mk ds cnt dr X T).1) cnt))), (4, .int (nI f9)), (0, .ref x), (1, .int aa), (2, .int bb), (3, .int (nI T))]) (st' := [.ref x]) _ (ms_deC dX5_outBy_110 ms_deN) rfl rfl ?_
          refine ms_getf dX5_outBy_111 fg_X5_44 hf_53 rfl ?_
          refine ms_run (pc' := 115) (lv' := [(5, .int (nI (ct (pOut (stXn (nI (W * H)) nr mk ds cnt dr X T).1) cnt))), (4, .int (nI f9)), (0, .ref x), (1, .int aa), (2, .int bb), (3, .int (nI T))]) (st' := [.int (nI T), .ref c2]) _ (ms_deC dX5_outBy_114 ms_deN) rfl rfl ?_
          refine ms_callV0 (As := [.int (nI T)]) dX5_outBy_115 (c_X0_outAfter (by omega) (by omega) hc hv (by omega) hG_48 hQt9_ma ((hWt_cu.fr hF_bu (by omega)).fr hF_ma (by omega))) cv_X5_193 ((hF_ma c2 (by omega)).trans ((hF_bu c2 (by omega)).trans hCr.1)) rfl ⟨Nat.le_of_ble_eq_true rfl, Nat.le_of_ble_eq_true rfl⟩ rfl (Nat.le_of_ble_eq_true rfl) (fun v9 n9 K_o2 hp9 => ?_)
          obtain ⟨hv9, rfl, hWo_o2, hF_o2⟩ := hp9
          cases hv9
          have hG_55 : gr_at K_o2 g (nI (W * H)) (nI W) (nI H) nr := gr_at.fr hG_48 hF_o2 (by omega)
          have hQ_56 : sq_at K_o2 g q wl mk ds qu := sq_at.fr hQ_49 hF_o2 (by omega)
          have hC_57 : cr_at K_o2 g q c hd X.2.2.1 X.2.1 cm wk := cr_at.fr hC_50 hF_o2 (by omega)
          have hJ_58 : jm_at K_o2 j cn wi jo sz quj := jm_at.fr hJ_51 hF_o2 (by omega)
          have hQt9_59 : sq_at K_o2 g q2 (wlF wl f9) mk (dXa (W * H) nr (wlF wl f9) mk ds 4) qm9 := sq_at.fr hQt9_ma hF_o2 (by omega)
          have hF_60 : ms_fr x (c2 + 29 - x) G K_o2 := ms_fr.trans hF_52 (ms_fr.mono hF_o2 (by omega) (by omega))
          have hf_61 := (hF_o2 x (by omega)).trans hf_53
          have hWy := hWo_o2
          obtain ⟨hd6, cm6, wk6, hC6_o2, -⟩ := hWy
          refine ms_run (pc' := 121) (lv' := [(5, .int (nI (ct (pOut (stXn (nI (W * H)) nr mk ds cnt dr X T).1) cnt))), (4, .int (nI f9)), (0, .ref x), (1, .int aa), (2, .int bb), (3, .int (nI T))]) (st' := [.int ((nI (ct (pOut (stXn (nI (W * H)) nr mk (dXa (W * H) nr (wlF wl f9) mk ds 4) cnt dr X T).1) cnt)) - (nI (ct (pOut (stXn (nI (W * H)) nr mk ds cnt dr X T).1) cnt)))]) _ (ms_deC dX5_outBy_118 (ms_deC dX5_outBy_120 ms_deN)) rfl rfl ?_
          refine ms_reti (st := []) (ty := .int) dX5_outBy_121 rfl rfl ?_
          exact xq_P.ret (by unfold th_oby; rw [if_neg (by rw [hfe]; exact nI_m1 (by have := fd_196 hW hH; omega)), if_neg (not_not_intro hah), if_neg (fun z => z (by first | exact h_54 | (rw [← hfe] at *; assumption)))]) rfl ⟨⟨hf_61, hG_55, ⟨_, hQ_56⟩, ⟨hd, cm, wk, hC_57, hx, hd1, hd2_, hd3, ha⟩, ⟨_, _, _, _, _, hJ_58⟩, ⟨_, _, _, _, hQt9_59⟩, ⟨_, _, _, _, _, hC6_o2⟩⟩, hF_60⟩
      · skip
        refine ms_throw dX5_outBy_57 dX5_outBy_60 dX5_outBy_61 dX5_outBy_63 dX5_outBy_66 th_X5_83_85_87 ⟨Nat.le_of_ble_eq_true rfl, Nat.le_of_ble_eq_true rfl⟩ (Nat.le_of_ble_eq_true rfl) (by omega) (by omega) (fun n1 hn1 => ?_)
        exact xq_P.thr hn1 (by unfold th_oby; rw [if_neg h_14, if_neg (not_not_intro hah), if_pos h_54])
    · rw [show ms_b (1 ≤ tt ∧ tt ≤ 60) = 0 from if_neg hah]
      refine ms_if_ne (tgt := 44) dX5_outBy_31 (by decide) (fun h9 => absurd h9 (by decide)) (fun _ => ?_)
      refine ms_throw dX5_outBy_34 dX5_outBy_37 dX5_outBy_38 dX5_outBy_40 dX5_outBy_43 th_X5_51_241_55 ⟨Nat.le_of_ble_eq_true rfl, Nat.le_of_ble_eq_true rfl⟩ (Nat.le_of_ble_eq_true rfl) (by omega) (by omega) (fun n1 hn1 => ?_)
      exact xq_P.thr hn1 (by unfold th_oby; rw [if_neg h_14, if_pos hah])
  · skip
    refine ms_throw dX5_outBy_17 dX5_outBy_20 dX5_outBy_21 dX5_outBy_23 dX5_outBy_26 th_X5_66_68_70 ⟨Nat.le_of_ble_eq_true rfl, Nat.le_of_ble_eq_true rfl⟩ (Nat.le_of_ble_eq_true rfl) (by omega) (by omega) (fun n1 hn1 => ?_)
    exact xq_P.thr hn1 (if_pos (by first | assumption | exact Decidable.not_not.mp (by assumption)))
/-- the fields whose distance would be otherwise -/
def pOth (wl d1 d2 : Nat → Int32) (f k : Nat) : Bool := decide (¬ k = f ∧ wl k = 0 ∧ ¬ d1 k = d2 k)
set_option maxHeartbeats 2000000 in
set_option maxRecDepth 20000 in
theorem l_X5_countOtherwiseFar {n x g q c j q2 c2 W H : Nat} {G : ms_H} {nr wl mk ds qu wl2 mk2 dt qu2 : Nat → Int32} (hX : G x = some (.inr (5, [.ref g, .ref q, .ref c, .ref j, .ref q2, .ref c2]))) (hG : gr_at G g (nI (W * H)) (nI W) (nI H) nr) (hQ : sq_at G g q wl mk ds qu) (hQt : sq_at G g q2 wl2 mk2 dt qu2) (hW : W ≤ 14) (hH : H ≤ 14) {gi f : Nat} (hg : gi < 4) (hf : f < W * H) : ∀ (r k : Nat), k + r = W * H → ms_W false m_X5_countOtherwiseFar (ms_p1 (some (.int (nI (ct (pOth wl (fun k => ds (gi * 196 + k)) (fun k => dt (gi * 196 + k)) f) (W * H))))) n G) 5 [(0, .ref x), (1, .int (nI gi)), (2, .int (nI f)), (3, .int (nI (ct (pOth wl (fun k => ds (gi * 196 + k)) (fun k => dt (gi * 196 + k)) f) k))), (4, .int (nI k))] [] n G 0 0 := by
  have h196 := fd_196 hW hH
  intro r
  induction r with
  | zero =>
    intro k hk
    have hkN : k = W * H := by omega
    refine ms_run (pc' := 8) (lv' := [(0, .ref x), (1, .int (nI gi)), (2, .int (nI f)), (3, .int (nI (ct (pOth wl (fun k => ds (gi * 196 + k)) (fun k => dt (gi * 196 + k)) f) k))), (4, .int (nI k))]) (st' := [.ref x, .int (nI k)]) _ (ms_deC dX5_countOtherwiseFar_5 (ms_deC dX5_countOtherwiseFar_7 ms_deN)) rfl rfl ?_
    refine ms_getf dX5_countOtherwiseFar_8 fg_X5_10 hX rfl ?_
    refine ms_getf dX5_countOtherwiseFar_11 fg_X5_58 hG.1 rfl ?_
    refine ms_icmp_ge (tgt := 79) dX5_countOtherwiseFar_14 (by decide) (fun h_14 => ?_) (fun h_14 => ?_)
    · skip
      refine ms_run (pc' := 80) (lv' := [(0, .ref x), (1, .int (nI gi)), (2, .int (nI f)), (3, .int (nI (ct (pOth wl (fun k => ds (gi * 196 + k)) (fun k => dt (gi * 196 + k)) f) k))), (4, .int (nI k))]) (st' := [.int (nI (ct (pOth wl (fun k => ds (gi * 196 + k)) (fun k => dt (gi * 196 + k)) f) k))]) _ (ms_deC dX5_countOtherwiseFar_79 ms_deN) rfl rfl ?_
      refine ms_reti (st := []) (ty := .int) dX5_countOtherwiseFar_80 rfl rfl ?_
      exact ms_p1.mk (by rw [hkN]) rfl
    · skip
      exact absurd (by exact nI_le (b := k) (by omega) (by omega)) h_14
  | succ r ih =>
    intro k hk
    have hlt : k < W * H := by omega
    refine ms_run (pc' := 8) (lv' := [(0, .ref x), (1, .int (nI gi)), (2, .int (nI f)), (3, .int (nI (ct (pOth wl (fun k => ds (gi * 196 + k)) (fun k => dt (gi * 196 + k)) f) k))), (4, .int (nI k))]) (st' := [.ref x, .int (nI k)]) _ (ms_deC dX5_countOtherwiseFar_5 (ms_deC dX5_countOtherwiseFar_7 ms_deN)) rfl rfl ?_
    refine ms_getf dX5_countOtherwiseFar_8 fg_X5_10 hX rfl ?_
    refine ms_getf dX5_countOtherwiseFar_11 fg_X5_58 hG.1 rfl ?_
    refine ms_icmp_ge (tgt := 79) dX5_countOtherwiseFar_14 (by decide) (fun h_14 => ?_) (fun h_14 => ?_)
    · skip
      exact absurd h_14 (by exact nI_ge (b := W * H) (by omega) (by omega))
    · skip
      refine ms_run (pc' := 20) (lv' := [(0, .ref x), (1, .int (nI gi)), (2, .int (nI f)), (3, .int (nI (ct (pOth wl (fun k => ds (gi * 196 + k)) (fun k => dt (gi * 196 + k)) f) k))), (4, .int (nI k))]) (st' := [.int (nI f), .int (nI k)]) _ (ms_deC dX5_countOtherwiseFar_17 (ms_deC dX5_countOtherwiseFar_19 ms_deN)) rfl rfl ?_
      refine ms_icmp_eq (tgt := 39) dX5_countOtherwiseFar_20 (by decide) (fun h_20 => ?_) (fun h_20 => ?_)
      · skip
        have hkf : k = f := (nI_eq (by have := fd_196 hW hH; omega) (by have := fd_196 hW hH; omega)).mp h_20
        refine ms_run (pc' := 44) (lv' := [(5, .int 0), (0, .ref x), (1, .int (nI gi)), (2, .int (nI f)), (3, .int (nI (ct (pOth wl (fun k => ds (gi * 196 + k)) (fun k => dt (gi * 196 + k)) f) k))), (4, .int (nI k))]) (st' := [.int 0]) _ (ms_deC dX5_countOtherwiseFar_39 (ms_deC dX5_countOtherwiseFar_40 (ms_deC dX5_countOtherwiseFar_42 ms_deN))) rfl rfl ?_
        refine ms_if_eq (tgt := 73) dX5_countOtherwiseFar_44 (by decide) (fun _ => ?_) (fun h9 => absurd h9 (by decide))
        refine ms_run (pc' := 76) (lv' := [(4, .int ((nI k) + 1)), (5, .int 0), (0, .ref x), (1, .int (nI gi)), (2, .int (nI f)), (3, .int (nI (ct (pOth wl (fun k => ds (gi * 196 + k)) (fun k => dt (gi * 196 + k)) f) k)))]) (st' := []) _ (ms_deC dX5_countOtherwiseFar_73 ms_deN) rfl rfl ?_
        refine ms_goto (tgt := 5) dX5_countOtherwiseFar_76 (by decide) ?_
        rw [ct_f (p := (pOth wl (fun k => ds (gi * 196 + k)) (fun k => dt (gi * 196 + k)) f)) (k := k) (decide_eq_false (by rintro ⟨z1, z2, z3⟩; first | exact z1 hkf | exact hfr z2 | exact z3 h_67))]
        rw [nI_1 k]
        refine ms_W.sub (lv2 := [(0, _), (1, _), (2, _), (3, _), (4, _)]) ?_ [2, 3, 4, 5, 0] rfl
        exact ih (k + 1) (by omega)
      · skip
        have hkf : ¬ k = f := fun z => h_20 (by rw [z])
        refine ms_run (pc' := 24) (lv' := [(0, .ref x), (1, .int (nI gi)), (2, .int (nI f)), (3, .int (nI (ct (pOth wl (fun k => ds (gi * 196 + k)) (fun k => dt (gi * 196 + k)) f) k))), (4, .int (nI k))]) (st' := [.ref x]) _ (ms_deC dX5_countOtherwiseFar_23 ms_deN) rfl rfl ?_
        refine ms_getf dX5_countOtherwiseFar_24 fg_X5_21 hX rfl ?_
        refine ms_run (pc' := 29) (lv' := [(0, .ref x), (1, .int (nI gi)), (2, .int (nI f)), (3, .int (nI (ct (pOth wl (fun k => ds (gi * 196 + k)) (fun k => dt (gi * 196 + k)) f) k))), (4, .int (nI k))]) (st' := [.int (nI k), .ref q]) _ (ms_deC dX5_countOtherwiseFar_27 ms_deN) rfl rfl ?_
        refine ms_callVp (As := [.int (nI k)]) dX5_countOtherwiseFar_29 (c_X3_isFreeI hG hQ rfl (fd_196 hW hH) hlt) cv_X5_156 hQ.1 rfl ⟨Nat.le_of_ble_eq_true rfl, Nat.le_of_ble_eq_true rfl⟩ rfl (Nat.le_of_ble_eq_true rfl) ?_
        by_cases hfr : wl k = 0
        · rw [show ms_b (wl k = 0) = 1 from if_pos hfr]
          refine ms_if_eq (tgt := 39) dX5_countOtherwiseFar_32 (by decide) (fun h9 => absurd h9 (by decide)) (fun _ => ?_)
          refine ms_run (pc' := 36) (lv' := [(0, .ref x), (1, .int (nI gi)), (2, .int (nI f)), (3, .int (nI (ct (pOth wl (fun k => ds (gi * 196 + k)) (fun k => dt (gi * 196 + k)) f) k))), (4, .int (nI k))]) (st' := [.int 1]) _ (ms_deC dX5_countOtherwiseFar_35 ms_deN) rfl rfl ?_
          refine ms_goto (tgt := 40) dX5_countOtherwiseFar_36 (by decide) ?_
          refine ms_run (pc' := 44) (lv' := [(5, .int 1), (0, .ref x), (1, .int (nI gi)), (2, .int (nI f)), (3, .int (nI (ct (pOth wl (fun k => ds (gi * 196 + k)) (fun k => dt (gi * 196 + k)) f) k))), (4, .int (nI k))]) (st' := [.int 1]) _ (ms_deC dX5_countOtherwiseFar_40 (ms_deC dX5_countOtherwiseFar_42 ms_deN)) rfl rfl ?_
          refine ms_if_eq (tgt := 73) dX5_countOtherwiseFar_44 (by decide) (fun h9 => absurd h9 (by decide)) (fun _ => ?_)
          refine ms_run (pc' := 48) (lv' := [(5, .int 1), (0, .ref x), (1, .int (nI gi)), (2, .int (nI f)), (3, .int (nI (ct (pOth wl (fun k => ds (gi * 196 + k)) (fun k => dt (gi * 196 + k)) f) k))), (4, .int (nI k))]) (st' := [.ref x]) _ (ms_deC dX5_countOtherwiseFar_47 ms_deN) rfl rfl ?_
          refine ms_getf dX5_countOtherwiseFar_48 fg_X5_21 hX rfl ?_
          refine ms_run (pc' := 54) (lv' := [(5, .int 1), (0, .ref x), (1, .int (nI gi)), (2, .int (nI f)), (3, .int (nI (ct (pOth wl (fun k => ds (gi * 196 + k)) (fun k => dt (gi * 196 + k)) f) k))), (4, .int (nI k))]) (st' := [.int (nI k), .int (nI gi), .ref q]) _ (ms_deC dX5_countOtherwiseFar_51 (ms_deC dX5_countOtherwiseFar_52 ms_deN)) rfl rfl ?_
          refine ms_callVp (As := [.int (nI gi), .int (nI k)]) dX5_countOtherwiseFar_54 (c_X3_distance hG hQ (nI gi) (nI k)) cv_X5_143 hQ.1 rfl ⟨Nat.le_of_ble_eq_true rfl, Nat.le_of_ble_eq_true rfl⟩ rfl (Nat.le_of_ble_eq_true rfl) ?_
          rw [sq_dsI ds rfl (fd_196 hW hH) hlt hg]
          refine ms_run (pc' := 58) (lv' := [(5, .int 1), (0, .ref x), (1, .int (nI gi)), (2, .int (nI f)), (3, .int (nI (ct (pOth wl (fun k => ds (gi * 196 + k)) (fun k => dt (gi * 196 + k)) f) k))), (4, .int (nI k))]) (st' := [.ref x, .int (ds (gi * 196 + k))]) _ (ms_deC dX5_countOtherwiseFar_57 ms_deN) rfl rfl ?_
          refine ms_getf dX5_countOtherwiseFar_58 fg_X5_41 hX rfl ?_
          refine ms_run (pc' := 64) (lv' := [(5, .int 1), (0, .ref x), (1, .int (nI gi)), (2, .int (nI f)), (3, .int (nI (ct (pOth wl (fun k => ds (gi * 196 + k)) (fun k => dt (gi * 196 + k)) f) k))), (4, .int (nI k))]) (st' := [.int (nI k), .int (nI gi), .ref q2, .int (ds (gi * 196 + k))]) _ (ms_deC dX5_countOtherwiseFar_61 (ms_deC dX5_countOtherwiseFar_62 ms_deN)) rfl rfl ?_
          refine ms_callVp (As := [.int (nI gi), .int (nI k)]) dX5_countOtherwiseFar_64 (c_X3_distance hG hQt (nI gi) (nI k)) cv_X5_143 hQt.1 rfl ⟨Nat.le_of_ble_eq_true rfl, Nat.le_of_ble_eq_true rfl⟩ rfl (Nat.le_of_ble_eq_true rfl) ?_
          rw [sq_dsI dt rfl (fd_196 hW hH) hlt hg]
          refine ms_icmp_eq (tgt := 73) dX5_countOtherwiseFar_67 (by decide) (fun h_67 => ?_) (fun h_67 => ?_)
          · skip
            refine ms_run (pc' := 76) (lv' := [(4, .int ((nI k) + 1)), (5, .int 1), (0, .ref x), (1, .int (nI gi)), (2, .int (nI f)), (3, .int (nI (ct (pOth wl (fun k => ds (gi * 196 + k)) (fun k => dt (gi * 196 + k)) f) k)))]) (st' := []) _ (ms_deC dX5_countOtherwiseFar_73 ms_deN) rfl rfl ?_
            refine ms_goto (tgt := 5) dX5_countOtherwiseFar_76 (by decide) ?_
            rw [ct_f (p := (pOth wl (fun k => ds (gi * 196 + k)) (fun k => dt (gi * 196 + k)) f)) (k := k) (decide_eq_false (by rintro ⟨z1, z2, z3⟩; first | exact z1 hkf | exact hfr z2 | exact z3 h_67))]
            rw [nI_1 k]
            refine ms_W.sub (lv2 := [(0, _), (1, _), (2, _), (3, _), (4, _)]) ?_ [2, 3, 4, 5, 0] rfl
            exact ih (k + 1) (by omega)
          · skip
            refine ms_run (pc' := 76) (lv' := [(4, .int ((nI k) + 1)), (3, .int ((nI (ct (pOth wl (fun k => ds (gi * 196 + k)) (fun k => dt (gi * 196 + k)) f) k)) + 1)), (5, .int 1), (0, .ref x), (1, .int (nI gi)), (2, .int (nI f))]) (st' := []) _ (ms_deC dX5_countOtherwiseFar_70 (ms_deC dX5_countOtherwiseFar_73 ms_deN)) rfl rfl ?_
            refine ms_goto (tgt := 5) dX5_countOtherwiseFar_76 (by decide) ?_
            rw [ct_t (p := (pOth wl (fun k => ds (gi * 196 + k)) (fun k => dt (gi * 196 + k)) f)) (k := k) (decide_eq_true ⟨hkf, hfr, h_67⟩)]
            rw [nI_1 k]
            refine ms_W.sub (lv2 := [(0, _), (1, _), (2, _), (3, _), (4, _)]) ?_ [3, 4, 5, 1, 0] rfl
            exact ih (k + 1) (by omega)
        · rw [show ms_b (wl k = 0) = 0 from if_neg hfr]
          refine ms_if_eq (tgt := 39) dX5_countOtherwiseFar_32 (by decide) (fun _ => ?_) (fun h9 => absurd h9 (by decide))
          refine ms_run (pc' := 44) (lv' := [(5, .int 0), (0, .ref x), (1, .int (nI gi)), (2, .int (nI f)), (3, .int (nI (ct (pOth wl (fun k => ds (gi * 196 + k)) (fun k => dt (gi * 196 + k)) f) k))), (4, .int (nI k))]) (st' := [.int 0]) _ (ms_deC dX5_countOtherwiseFar_39 (ms_deC dX5_countOtherwiseFar_40 (ms_deC dX5_countOtherwiseFar_42 ms_deN))) rfl rfl ?_
          refine ms_if_eq (tgt := 73) dX5_countOtherwiseFar_44 (by decide) (fun _ => ?_) (fun h9 => absurd h9 (by decide))
          refine ms_run (pc' := 76) (lv' := [(4, .int ((nI k) + 1)), (5, .int 0), (0, .ref x), (1, .int (nI gi)), (2, .int (nI f)), (3, .int (nI (ct (pOth wl (fun k => ds (gi * 196 + k)) (fun k => dt (gi * 196 + k)) f) k)))]) (st' := []) _ (ms_deC dX5_countOtherwiseFar_73 ms_deN) rfl rfl ?_
          refine ms_goto (tgt := 5) dX5_countOtherwiseFar_76 (by decide) ?_
          rw [ct_f (p := (pOth wl (fun k => ds (gi * 196 + k)) (fun k => dt (gi * 196 + k)) f)) (k := k) (decide_eq_false (by rintro ⟨z1, z2, z3⟩; first | exact z1 hkf | exact hfr z2 | exact z3 h_67))]
          rw [nI_1 k]
          refine ms_W.sub (lv2 := [(0, _), (1, _), (2, _), (3, _), (4, _)]) ?_ [2, 3, 4, 5, 0] rfl
          exact ih (k + 1) (by omega)
set_option maxHeartbeats 2000000 in
set_option maxRecDepth 20000 in
theorem c_X5_countOtherwiseFar {n x g q c j q2 c2 W H : Nat} {G : ms_H} {nr wl mk ds qu wl2 mk2 dt qu2 : Nat → Int32} (hX : G x = some (.inr (5, [.ref g, .ref q, .ref c, .ref j, .ref q2, .ref c2]))) (hG : gr_at G g (nI (W * H)) (nI W) (nI H) nr) (hQ : sq_at G g q wl mk ds qu) (hQt : sq_at G g q2 wl2 mk2 dt qu2) (hW : W ≤ 14) (hH : H ≤ 14) {gi f : Nat} (hg : gi < 4) (hf : f < W * H) : ms_M m_X5_countOtherwiseFar [.ref x, .int (nI gi), .int (nI f)] n G 0 0 (ms_p1 (some (.int (nI (ct (pOth wl (fun k => ds (gi * 196 + k)) (fun k => dt (gi * 196 + k)) f) (W * H))))) n G) := by
  refine ms_M.of (by decide) (Nat.le_of_ble_eq_true rfl) ?_
  show ms_W false m_X5_countOtherwiseFar _ 0 [(0, .ref x), (1, .int (nI gi)), (2, .int (nI f))] [] n G 0 0
  refine ms_run (pc' := 5) (lv' := [(4, .int 0), (3, .int 0), (0, .ref x), (1, .int (nI gi)), (2, .int (nI f))]) (st' := []) _ (ms_deC dX5_countOtherwiseFar_0 (ms_deC dX5_countOtherwiseFar_1 (ms_deC dX5_countOtherwiseFar_2 (ms_deC dX5_countOtherwiseFar_3 ms_deN)))) rfl rfl ?_
  refine ms_W.sub (lv2 := [(0, _), (1, _), (2, _), (3, _), (4, _)]) ?_ [2, 3, 4, 1, 0] rfl
  exact l_X5_countOtherwiseFar hX hG hQ hQt hW hH hg hf (W * H) 0 (by omega)
set_option maxHeartbeats 4000000 in
set_option maxRecDepth 20000 in
theorem c_X5_farWith {n x g q c j q2 c2 W H : Nat} {G : ms_H} {nr wl mk ds : Nat → Int32} {cnt : Nat} {dr pa : Int32} {X : cX} (ho : ox x g q c j q2 c2) (hS : xs_at G x g q c j q2 c2 W H nr wl mk ds cnt dr pa X) (hW : W ≤ 14) (hH : H ≤ 14) (gl aa bb : Int32) : ms_X m_X5_farWith [.ref x, .int gl, .int aa, .int bb] n G 1 6 (xq_P n G (th_far W H gl aa bb) (.int (nI (ct (pOth wl (fun k => ds (gl.toNatClampNeg * 196 + k)) (fun k => (rq (W * H) ds gl.toNatClampNeg (dXg (W * H) nr (wlF wl (gr_num (nI W) (nI H) aa bb).toNatClampNeg) mk gl.toNatClampNeg)) (gl.toNatClampNeg * 196 + k)) (gr_num (nI W) (nI H) aa bb).toNatClampNeg) (W * H)))) (fun G1 => xs_at G1 x g q c j q2 c2 W H nr wl mk ds cnt dr pa X ∧ ms_fr x (c2 + 29 - x) G G1)) := by
  refine ms_X.of (by decide) (Nat.le_of_ble_eq_true rfl) ?_
  show ms_W true m_X5_farWith _ 0 [(0, .ref x), (1, .int gl), (2, .int aa), (3, .int bb)] [] n G 1 6
  obtain ⟨hX, hG, ⟨qu, hQ⟩, ⟨hd, cm, wk, hC, hx, hd1, hd2_, hd3, ha⟩, ⟨cn, wi, jo, sz, quj, hJ⟩, ⟨wl2, mk2, ds2, qu2, hQt⟩, ⟨hd2, on2, ht2, cm2, wk2, hCt⟩⟩ := hS
  obtain ⟨o1, o2, o3, o4, o5, o6⟩ := ho
  have hF : ms_fr x (c2 + 29 - x) G G := ms_fr.rf
  refine ms_run (pc' := 1) (lv' := [(0, .ref x), (1, .int gl), (2, .int aa), (3, .int bb)]) (st' := [.ref x]) _ (ms_deC dX5_farWith_0 ms_deN) rfl rfl ?_
  refine ms_getf dX5_farWith_1 fg_X5_10 hX rfl ?_
  refine ms_run (pc' := 6) (lv' := [(0, .ref x), (1, .int gl), (2, .int aa), (3, .int bb)]) (st' := [.int bb, .int aa, .ref g]) _ (ms_deC dX5_farWith_4 (ms_deC dX5_farWith_5 ms_deN)) rfl rfl ?_
  refine ms_callVp (As := [.int aa, .int bb]) dX5_farWith_6 (c_X1_number hG aa bb) cv_X5_62 hG.1 rfl ⟨Nat.le_of_ble_eq_true rfl, Nat.le_of_ble_eq_true rfl⟩ rfl (Nat.le_of_ble_eq_true rfl) ?_
  refine ms_run (pc' := 12) (lv' := [(4, .int (gr_num (nI W) (nI H) aa bb)), (0, .ref x), (1, .int gl), (2, .int aa), (3, .int bb)]) (st' := [.int gl]) _ (ms_deC dX5_farWith_9 (ms_deC dX5_farWith_11 ms_deN)) rfl rfl ?_
  refine ms_callSp (As := [.int gl]) dX5_farWith_12 (c_X5_isGoal gl) cs_X5_99 rfl ⟨Nat.le_of_ble_eq_true rfl, Nat.le_of_ble_eq_true rfl⟩ rfl (Nat.le_of_ble_eq_true rfl) ?_
  by_cases hgl : gl_is gl
  · rw [show ms_b (gl_is gl) = 1 from if_pos hgl]
    refine ms_if_eq (tgt := 24) dX5_farWith_15 (by decide) (fun h9 => absurd h9 (by decide)) (fun _ => ?_)
    refine ms_run (pc' := 21) (lv' := [(4, .int (gr_num (nI W) (nI H) aa bb)), (0, .ref x), (1, .int gl), (2, .int aa), (3, .int bb)]) (st' := [.int (-1), .int (gr_num (nI W) (nI H) aa bb)]) _ (ms_deC dX5_farWith_18 (ms_deC dX5_farWith_20 ms_deN)) rfl rfl ?_
    refine ms_icmp_ne (tgt := 34) dX5_farWith_21 (by decide) (fun h_21 => ?_) (fun h_21 => ?_)
    · skip
      refine ms_run (pc' := 35) (lv' := [(4, .int (gr_num (nI W) (nI H) aa bb)), (0, .ref x), (1, .int gl), (2, .int aa), (3, .int bb)]) (st' := [.ref x]) _ (ms_deC dX5_farWith_34 ms_deN) rfl rfl ?_
      refine ms_getf dX5_farWith_35 fg_X5_41 hX rfl ?_
      refine ms_run (pc' := 39) (lv' := [(4, .int (gr_num (nI W) (nI H) aa bb)), (0, .ref x), (1, .int gl), (2, .int aa), (3, .int bb)]) (st' := [.ref x, .ref q2]) _ (ms_deC dX5_farWith_38 ms_deN) rfl rfl ?_
      refine ms_getf dX5_farWith_39 fg_X5_21 hX rfl ?_
      refine ms_callV0 (As := [.ref q]) dX5_farWith_42 (c_X3_copyFrom hQt hQ (by omega)) cv_X5_254 hQt.1 rfl ⟨Nat.le_of_ble_eq_true rfl, Nat.le_of_ble_eq_true rfl⟩ rfl (Nat.le_of_ble_eq_true rfl) (fun v9 n9 K_cf hp9 => ?_)
      obtain ⟨hv9, rfl, ⟨qc9, hQt9_cf⟩, hF_cf⟩ := hp9
      cases hv9
      have hG_1 : gr_at K_cf g (nI (W * H)) (nI W) (nI H) nr := gr_at.fr hG hF_cf (by omega)
      have hQ_2 : sq_at K_cf g q wl mk ds qu := sq_at.fr hQ hF_cf (by omega)
      have hC_3 : cr_at K_cf g q c hd X.2.2.1 X.2.1 cm wk := cr_at.fr hC hF_cf (by omega)
      have hJ_4 : jm_at K_cf j cn wi jo sz quj := jm_at.fr hJ hF_cf (by omega)
      have hCt_5 : cr_at K_cf g q2 c2 hd2 on2 ht2 cm2 wk2 := cr_at.fr hCt hF_cf (by omega)
      have hF_6 : ms_fr x (c2 + 29 - x) G K_cf := ms_fr.trans hF (ms_fr.mono hF_cf (by omega) (by omega))
      have hf_7 := (hF_cf x (by omega)).trans hX
      refine ms_run (pc' := 46) (lv' := [(4, .int (gr_num (nI W) (nI H) aa bb)), (0, .ref x), (1, .int gl), (2, .int aa), (3, .int bb)]) (st' := [.ref x]) _ (ms_deC dX5_farWith_45 ms_deN) rfl rfl ?_
      refine ms_getf dX5_farWith_46 fg_X5_41 hf_7 rfl ?_
      refine ms_run (pc' := 52) (lv' := [(4, .int (gr_num (nI W) (nI H) aa bb)), (0, .ref x), (1, .int gl), (2, .int aa), (3, .int bb)]) (st' := [.ref x, .int (gr_num (nI W) (nI H) aa bb), .ref q2]) _ (ms_deC dX5_farWith_49 (ms_deC dX5_farWith_51 ms_deN)) rfl rfl ?_
      refine ms_getf dX5_farWith_52 fg_X5_21 hf_7 rfl ?_
      refine ms_run (pc' := 57) (lv' := [(4, .int (gr_num (nI W) (nI H) aa bb)), (0, .ref x), (1, .int gl), (2, .int aa), (3, .int bb)]) (st' := [.int (gr_num (nI W) (nI H) aa bb), .ref q, .int (gr_num (nI W) (nI H) aa bb), .ref q2]) _ (ms_deC dX5_farWith_55 ms_deN) rfl rfl ?_
      obtain ⟨gi, hgi, hge⟩ := gl_nI hgl
      subst hge
      rw [nI_clamp (n := gi) (by omega)]
      have h_14 := h_21
      obtain ⟨x9, y9, hx9, hy9, hae, hbe, hfe⟩ := gr_num_has hW hH h_14
      obtain ⟨f9, hf9⟩ : ∃ f9, f9 = y9 * W + x9 := ⟨_, rfl⟩
      rw [← hf9] at hfe
      have hlf : f9 < W * H := by rw [hf9]; exact fd_lt hx9 hy9
      have hfw : (gr_num (nI W) (nI H) aa bb).toNatClampNeg = f9 := by rw [hfe, nI_clamp (by have := fd_196 hW hH; omega)]
      rw [hfw]
      rw [hfe]
      refine ms_callVp (As := [.int (nI f9)]) dX5_farWith_57 (c_X3_isFreeI hG_1 hQ_2 rfl (fd_196 hW hH) hlf) cv_X5_156 hQ_2.1 rfl ⟨Nat.le_of_ble_eq_true rfl, Nat.le_of_ble_eq_true rfl⟩ rfl (Nat.le_of_ble_eq_true rfl) ?_
      by_cases hfr : wl f9 = 0
      · rw [show ms_b (wl f9 = 0) = 1 from if_pos hfr]
        refine ms_callV0 (As := [.int (nI f9), .int 1]) dX5_farWith_60 (c_X3_build hG_1 hQt9_cf (by omega) (nI f9) 1) cv_X5_88 hQt9_cf.1 rfl ⟨Nat.le_of_ble_eq_true rfl, Nat.le_of_ble_eq_true rfl⟩ rfl (Nat.le_of_ble_eq_true rfl) (fun v9 n9 K_bu hp9 => ?_)
        obtain ⟨hv9, rfl, ⟨qb9, hQt9_bu⟩, hF_bu⟩ := hp9
        cases hv9
        rw [if_pos (gr_hasI rfl hlf (fd_196 hW hH)), nI_clamp (by have := fd_196 hW hH; omega), show upd wl f9 (if (1 : Int32) = 0 then 0 else 1) = wlF wl f9 from by unfold wlF; rw [if_pos hfr]; rfl] at hQt9_bu
        have hG_8 : gr_at K_bu g (nI (W * H)) (nI W) (nI H) nr := gr_at.fr hG_1 hF_bu (by omega)
        have hQ_9 : sq_at K_bu g q wl mk ds qu := sq_at.fr hQ_2 hF_bu (by omega)
        have hC_10 : cr_at K_bu g q c hd X.2.2.1 X.2.1 cm wk := cr_at.fr hC_3 hF_bu (by omega)
        have hJ_11 : jm_at K_bu j cn wi jo sz quj := jm_at.fr hJ_4 hF_bu (by omega)
        have hCt_12 : cr_at K_bu g q2 c2 hd2 on2 ht2 cm2 wk2 := cr_at.fr hCt_5 hF_bu (by omega)
        have hF_13 : ms_fr x (c2 + 29 - x) G K_bu := ms_fr.trans hF_6 (ms_fr.mono hF_bu (by omega) (by omega))
        have hf_14 := (hF_bu x (by omega)).trans hf_7
        refine ms_run (pc' := 64) (lv' := [(4, .int (nI f9)), (0, .ref x), (1, .int (nI gi)), (2, .int aa), (3, .int bb)]) (st' := [.ref x]) _ (ms_deC dX5_farWith_63 ms_deN) rfl rfl ?_
        refine ms_getf dX5_farWith_64 fg_X5_41 hf_14 rfl ?_
        refine ms_run (pc' := 68) (lv' := [(4, .int (nI f9)), (0, .ref x), (1, .int (nI gi)), (2, .int aa), (3, .int bb)]) (st' := [.int (nI gi), .ref q2]) _ (ms_deC dX5_farWith_67 ms_deN) rfl rfl ?_
        refine ms_callV0 (As := [.int (nI gi)]) dX5_farWith_68 (c_X3_measure (by omega) rfl (fd_196 hW hH) hgi hG_8 hQt9_bu) cv_X5_123 hQt9_bu.1 rfl ⟨Nat.le_of_ble_eq_true rfl, Nat.le_of_ble_eq_true rfl⟩ rfl (Nat.le_of_ble_eq_true rfl) (fun v9 n9 K_me hp9 => ?_)
        obtain ⟨hv9, rfl, ⟨qm9, hQt9_me⟩, hF_me⟩ := hp9
        cases hv9
        have hG_15 : gr_at K_me g (nI (W * H)) (nI W) (nI H) nr := gr_at.fr hG_8 hF_me (by omega)
        have hQ_16 : sq_at K_me g q wl mk ds qu := sq_at.fr hQ_9 hF_me (by omega)
        have hC_17 : cr_at K_me g q c hd X.2.2.1 X.2.1 cm wk := cr_at.fr hC_10 hF_me (by omega)
        have hJ_18 : jm_at K_me j cn wi jo sz quj := jm_at.fr hJ_11 hF_me (by omega)
        have hCt_19 : cr_at K_me g q2 c2 hd2 on2 ht2 cm2 wk2 := cr_at.fr hCt_12 hF_me (by omega)
        have hF_20 : ms_fr x (c2 + 29 - x) G K_me := ms_fr.trans hF_13 (ms_fr.mono hF_me (by omega) (by omega))
        have hf_21 := (hF_me x (by omega)).trans hf_14
        refine ms_run (pc' := 75) (lv' := [(4, .int (nI f9)), (0, .ref x), (1, .int (nI gi)), (2, .int aa), (3, .int bb)]) (st' := [.int (nI f9), .int (nI gi), .ref x]) _ (ms_deC dX5_farWith_71 (ms_deC dX5_farWith_72 (ms_deC dX5_farWith_73 ms_deN))) rfl rfl ?_
        refine ms_callVp (As := [.int (nI gi), .int (nI f9)]) dX5_farWith_75 (c_X5_countOtherwiseFar hf_21 hG_15 hQ_16 hQt9_me hW hH hgi hlf) cv_X5_258 hf_21 rfl ⟨Nat.le_of_ble_eq_true rfl, Nat.le_of_ble_eq_true rfl⟩ rfl (Nat.le_of_ble_eq_true rfl) ?_
        refine ms_reti (st := []) (ty := .int) dX5_farWith_78 rfl rfl ?_
        exact xq_P.ret (if_neg (by rintro (z | z); exact z hgl; exact h_21 z)) rfl ⟨⟨hf_21, hG_15, ⟨_, hQ_16⟩, ⟨hd, cm, wk, hC_17, hx, hd1, hd2_, hd3, ha⟩, ⟨_, _, _, _, _, hJ_18⟩, ⟨_, _, _, _, hQt9_me⟩, ⟨_, _, _, _, _, hCt_19⟩⟩, hF_20⟩
      · rw [show ms_b (wl f9 = 0) = 0 from if_neg hfr]
        refine ms_callV0 (As := [.int (nI f9), .int 0]) dX5_farWith_60 (c_X3_build hG_1 hQt9_cf (by omega) (nI f9) 0) cv_X5_88 hQt9_cf.1 rfl ⟨Nat.le_of_ble_eq_true rfl, Nat.le_of_ble_eq_true rfl⟩ rfl (Nat.le_of_ble_eq_true rfl) (fun v9 n9 K_bu hp9 => ?_)
        obtain ⟨hv9, rfl, ⟨qb9, hQt9_bu⟩, hF_bu⟩ := hp9
        cases hv9
        rw [if_pos (gr_hasI rfl hlf (fd_196 hW hH)), nI_clamp (by have := fd_196 hW hH; omega), show upd wl f9 (if (0 : Int32) = 0 then 0 else 1) = wlF wl f9 from by unfold wlF; rw [if_neg hfr]; rfl] at hQt9_bu
        have hG_22 : gr_at K_bu g (nI (W * H)) (nI W) (nI H) nr := gr_at.fr hG_1 hF_bu (by omega)
        have hQ_23 : sq_at K_bu g q wl mk ds qu := sq_at.fr hQ_2 hF_bu (by omega)
        have hC_24 : cr_at K_bu g q c hd X.2.2.1 X.2.1 cm wk := cr_at.fr hC_3 hF_bu (by omega)
        have hJ_25 : jm_at K_bu j cn wi jo sz quj := jm_at.fr hJ_4 hF_bu (by omega)
        have hCt_26 : cr_at K_bu g q2 c2 hd2 on2 ht2 cm2 wk2 := cr_at.fr hCt_5 hF_bu (by omega)
        have hF_27 : ms_fr x (c2 + 29 - x) G K_bu := ms_fr.trans hF_6 (ms_fr.mono hF_bu (by omega) (by omega))
        have hf_28 := (hF_bu x (by omega)).trans hf_7
        refine ms_run (pc' := 64) (lv' := [(4, .int (nI f9)), (0, .ref x), (1, .int (nI gi)), (2, .int aa), (3, .int bb)]) (st' := [.ref x]) _ (ms_deC dX5_farWith_63 ms_deN) rfl rfl ?_
        refine ms_getf dX5_farWith_64 fg_X5_41 hf_28 rfl ?_
        refine ms_run (pc' := 68) (lv' := [(4, .int (nI f9)), (0, .ref x), (1, .int (nI gi)), (2, .int aa), (3, .int bb)]) (st' := [.int (nI gi), .ref q2]) _ (ms_deC dX5_farWith_67 ms_deN) rfl rfl ?_
        refine ms_callV0 (As := [.int (nI gi)]) dX5_farWith_68 (c_X3_measure (by omega) rfl (fd_196 hW hH) hgi hG_22 hQt9_bu) cv_X5_123 hQt9_bu.1 rfl ⟨Nat.le_of_ble_eq_true rfl, Nat.le_of_ble_eq_true rfl⟩ rfl (Nat.le_of_ble_eq_true rfl) (fun v9 n9 K_me hp9 => ?_)
        obtain ⟨hv9, rfl, ⟨qm9, hQt9_me⟩, hF_me⟩ := hp9
        cases hv9
        have hG_29 : gr_at K_me g (nI (W * H)) (nI W) (nI H) nr := gr_at.fr hG_22 hF_me (by omega)
        have hQ_30 : sq_at K_me g q wl mk ds qu := sq_at.fr hQ_23 hF_me (by omega)
        have hC_31 : cr_at K_me g q c hd X.2.2.1 X.2.1 cm wk := cr_at.fr hC_24 hF_me (by omega)
        have hJ_32 : jm_at K_me j cn wi jo sz quj := jm_at.fr hJ_25 hF_me (by omega)
        have hCt_33 : cr_at K_me g q2 c2 hd2 on2 ht2 cm2 wk2 := cr_at.fr hCt_26 hF_me (by omega)
        have hF_34 : ms_fr x (c2 + 29 - x) G K_me := ms_fr.trans hF_27 (ms_fr.mono hF_me (by omega) (by omega))
        have hf_35 := (hF_me x (by omega)).trans hf_28
        refine ms_run (pc' := 75) (lv' := [(4, .int (nI f9)), (0, .ref x), (1, .int (nI gi)), (2, .int aa), (3, .int bb)]) (st' := [.int (nI f9), .int (nI gi), .ref x]) _ (ms_deC dX5_farWith_71 (ms_deC dX5_farWith_72 (ms_deC dX5_farWith_73 ms_deN))) rfl rfl ?_
        refine ms_callVp (As := [.int (nI gi), .int (nI f9)]) dX5_farWith_75 (c_X5_countOtherwiseFar hf_35 hG_29 hQ_30 hQt9_me hW hH hgi hlf) cv_X5_258 hf_35 rfl ⟨Nat.le_of_ble_eq_true rfl, Nat.le_of_ble_eq_true rfl⟩ rfl (Nat.le_of_ble_eq_true rfl) ?_
        refine ms_reti (st := []) (ty := .int) dX5_farWith_78 rfl rfl ?_
        exact xq_P.ret (if_neg (by rintro (z | z); exact z hgl; exact h_21 z)) rfl ⟨⟨hf_35, hG_29, ⟨_, hQ_30⟩, ⟨hd, cm, wk, hC_31, hx, hd1, hd2_, hd3, ha⟩, ⟨_, _, _, _, _, hJ_32⟩, ⟨_, _, _, _, hQt9_me⟩, ⟨_, _, _, _, _, hCt_33⟩⟩, hF_34⟩
    · skip
      refine ms_throw dX5_farWith_24 dX5_farWith_27 dX5_farWith_28 dX5_farWith_30 dX5_farWith_33 th_X5_66_103_70 ⟨Nat.le_of_ble_eq_true rfl, Nat.le_of_ble_eq_true rfl⟩ (Nat.le_of_ble_eq_true rfl) (by omega) (by omega) (fun n1 hn1 => ?_)
      exact xq_P.thr hn1 (if_pos (by first | exact Or.inl hgl | exact Or.inr (by assumption)))
  · rw [show ms_b (gl_is gl) = 0 from if_neg hgl]
    refine ms_if_eq (tgt := 24) dX5_farWith_15 (by decide) (fun _ => ?_) (fun h9 => absurd h9 (by decide))
    refine ms_throw dX5_farWith_24 dX5_farWith_27 dX5_farWith_28 dX5_farWith_30 dX5_farWith_33 th_X5_66_103_70 ⟨Nat.le_of_ble_eq_true rfl, Nat.le_of_ble_eq_true rfl⟩ (Nat.le_of_ble_eq_true rfl) (by omega) (by omega) (fun n1 hn1 => ?_)
    exact xq_P.thr hn1 (if_pos (by first | exact Or.inl hgl | exact Or.inr (by assumption)))

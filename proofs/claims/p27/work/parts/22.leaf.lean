/-! leaf methods of Walker, StarlingSquare, Crowd, Square -/
set_option maxHeartbeats 2000000 in
set_option maxRecDepth 20000 in
theorem c_X4_isOut {n w : Nat} {G : ms_H} {u : Nat → Int32} (hw : G w = some (.inr (4, cr_w u))) : ms_M m_X4_isOut [.ref w] n G 0 0 (ms_p1 (some (.int (ms_b (u 3 = -1)))) n G) := by
  refine ms_M.of (by decide) (Nat.le_of_ble_eq_true rfl) ?_
  show ms_W false m_X4_isOut _ 0 [(0, .ref w)] [] n G 0 0
  refine ms_run (pc' := 1) (lv' := [(0, .ref w)]) (st' := [.ref w]) _ (ms_deC dX4_isOut_0 ms_deN) rfl rfl ?_
  refine ms_getf dX4_isOut_1 fg_X4_21 hw rfl ?_
  refine ms_run (pc' := 5) (lv' := [(0, .ref w)]) (st' := [.int (-1), .int (u 3)]) _ (ms_deC dX4_isOut_4 ms_deN) rfl rfl ?_
  refine ms_icmp_ne (tgt := 12) dX4_isOut_5 (by decide) (fun h_5 => ?_) (fun h_5 => ?_)
  · skip
    refine ms_run (pc' := 13) (lv' := [(0, .ref w)]) (st' := [.int 0]) _ (ms_deC dX4_isOut_12 ms_deN) rfl rfl ?_
    refine ms_reti (st := []) (ty := .boolean) dX4_isOut_13 rfl rfl ?_
    exact ms_p1.mk (ms_int_eq (by grind)) rfl
  · skip
    refine ms_run (pc' := 9) (lv' := [(0, .ref w)]) (st' := [.int 1]) _ (ms_deC dX4_isOut_8 ms_deN) rfl rfl ?_
    refine ms_goto (tgt := 13) dX4_isOut_9 (by decide) ?_
    refine ms_reti (st := []) (ty := .boolean) dX4_isOut_13 rfl rfl ?_
    exact ms_p1.mk (ms_int_eq (by grind)) rfl
set_option maxHeartbeats 2000000 in
set_option maxRecDepth 20000 in
theorem c_X4_isTurnAt {n w : Nat} {G : ms_H} {u : Nat → Int32} (hw : G w = some (.inr (4, cr_w u))) (t : Int32) : ms_M m_X4_isTurnAt [.ref w, .int t] n G 0 0 (ms_p1 (some (.int (ms_b (wk_turn u t)))) n G) := by
  refine ms_M.of (by decide) (Nat.le_of_ble_eq_true rfl) ?_
  show ms_W false m_X4_isTurnAt _ 0 [(0, .ref w), (1, .int t)] [] n G 0 0
  refine ms_run (pc' := 1) (lv' := [(0, .ref w), (1, .int t)]) (st' := [.ref w]) _ (ms_deC dX4_isTurnAt_0 ms_deN) rfl rfl ?_
  refine ms_callVp (As := []) dX4_isTurnAt_1 (c_X4_isOut hw) cv_X4_36 hw rfl ⟨Nat.le_of_ble_eq_true rfl, Nat.le_of_ble_eq_true rfl⟩ rfl (Nat.le_of_ble_eq_true rfl) ?_
  by_cases hc_1 : u 3 = -1
  · rw [show ms_b (u 3 = -1) = 1 from if_pos hc_1]
    refine ms_if_ne (tgt := 27) dX4_isTurnAt_4 (by decide) (fun _ => ?_) (fun h9 => absurd h9 (by decide))
    refine ms_run (pc' := 28) (lv' := [(0, .ref w), (1, .int t)]) (st' := [.int 0]) _ (ms_deC dX4_isTurnAt_27 ms_deN) rfl rfl ?_
    refine ms_reti (st := []) (ty := .boolean) dX4_isTurnAt_28 rfl rfl ?_
    exact ms_p1.mk (ms_int_eq (by grind)) rfl
  · rw [show ms_b (u 3 = -1) = 0 from if_neg hc_1]
    refine ms_if_ne (tgt := 27) dX4_isTurnAt_4 (by decide) (fun h9 => absurd h9 (by decide)) (fun _ => ?_)
    refine ms_run (pc' := 8) (lv' := [(0, .ref w), (1, .int t)]) (st' := [.ref w]) _ (ms_deC dX4_isTurnAt_7 ms_deN) rfl rfl ?_
    refine ms_getf dX4_isTurnAt_8 fg_X4_15 hw rfl ?_
    refine ms_if_le (tgt := 27) dX4_isTurnAt_11 (by decide) (fun h_11 => ?_) (fun h_11 => ?_)
    · skip
      refine ms_run (pc' := 28) (lv' := [(0, .ref w), (1, .int t)]) (st' := [.int 0]) _ (ms_deC dX4_isTurnAt_27 ms_deN) rfl rfl ?_
      refine ms_reti (st := []) (ty := .boolean) dX4_isTurnAt_28 rfl rfl ?_
      exact ms_p1.mk (ms_int_eq (by grind)) rfl
    · skip
      refine ms_run (pc' := 16) (lv' := [(0, .ref w), (1, .int t)]) (st' := [.ref w, .int t]) _ (ms_deC dX4_isTurnAt_14 (ms_deC dX4_isTurnAt_15 ms_deN)) rfl rfl ?_
      refine ms_getf dX4_isTurnAt_16 fg_X4_15 hw rfl ?_
      refine ms_irem dX4_isTurnAt_19 (by intro h9; rw [h9] at h_11; exact absurd h_11 (by decide)) ?_
      refine ms_if_ne (tgt := 27) dX4_isTurnAt_20 (by decide) (fun h_20 => ?_) (fun h_20 => ?_)
      · skip
        refine ms_run (pc' := 28) (lv' := [(0, .ref w), (1, .int t)]) (st' := [.int 0]) _ (ms_deC dX4_isTurnAt_27 ms_deN) rfl rfl ?_
        refine ms_reti (st := []) (ty := .boolean) dX4_isTurnAt_28 rfl rfl ?_
        exact ms_p1.mk (ms_int_eq (by grind)) rfl
      · skip
        refine ms_run (pc' := 24) (lv' := [(0, .ref w), (1, .int t)]) (st' := [.int 1]) _ (ms_deC dX4_isTurnAt_23 ms_deN) rfl rfl ?_
        refine ms_goto (tgt := 28) dX4_isTurnAt_24 (by decide) ?_
        refine ms_reti (st := []) (ty := .boolean) dX4_isTurnAt_28 rfl rfl ?_
        exact ms_p1.mk (ms_int_eq (by grind)) rfl
set_option maxHeartbeats 2000000 in
set_option maxRecDepth 20000 in
theorem c_X4_come {n w : Nat} {G : ms_H} {u : Nat → Int32} (hw : G w = some (.inr (4, cr_w u))) (i p m f : Int32) : ms_M m_X4_come [.ref w, .int i, .int p, .int m, .int f] n G 0 0 (ms_p1 none n (ms_up G w (.inr (4, cr_w (wk_come u i p m f))))) := by
  refine ms_M.of (by decide) (Nat.le_of_ble_eq_true rfl) ?_
  show ms_W false m_X4_come _ 0 [(0, .ref w), (1, .int i), (2, .int p), (3, .int m), (4, .int f)] [] n G 0 0
  refine ms_run (pc' := 2) (lv' := [(0, .ref w), (1, .int i), (2, .int p), (3, .int m), (4, .int f)]) (st' := [.int i, .ref w]) _ (ms_deC dX4_come_0 (ms_deC dX4_come_1 ms_deN)) rfl rfl ?_
  refine ms_putf dX4_come_2 fp_X4_9 hw (Nat.le_of_ble_eq_true rfl) rfl rfl ?_
  obtain ⟨G_1, eG_1⟩ : ∃ K : ms_H, K = ms_up G w (.inr (4, [.int i, .int (u 1), .int (u 2), .int (u 3), .int (u 4), .int (u 5), .int (u 6), .int (u 7), .int (u 8), .int (u 9), .int (u 10)])) := ⟨_, rfl⟩
  refine ms_W.heq eG_1 ?_
  have hf_2 : G_1 w = some (.inr (4, [.int i, .int (u 1), .int (u 2), .int (u 3), .int (u 4), .int (u 5), .int (u 6), .int (u 7), .int (u 8), .int (u 9), .int (u 10)])) := by rw [eG_1]; exact ms_up_s _ _ _
  refine ms_run (pc' := 7) (lv' := [(0, .ref w), (1, .int i), (2, .int p), (3, .int m), (4, .int f)]) (st' := [.int p, .ref w]) _ (ms_deC dX4_come_5 (ms_deC dX4_come_6 ms_deN)) rfl rfl ?_
  refine ms_putf dX4_come_7 fp_X4_15 hf_2 (Nat.le_of_ble_eq_true rfl) rfl rfl ?_
  obtain ⟨G_3, eG_3⟩ : ∃ K : ms_H, K = ms_up G_1 w (.inr (4, [.int i, .int p, .int (u 2), .int (u 3), .int (u 4), .int (u 5), .int (u 6), .int (u 7), .int (u 8), .int (u 9), .int (u 10)])) := ⟨_, rfl⟩
  refine ms_W.heq eG_3 ?_
  have hf_4 : G_3 w = some (.inr (4, [.int i, .int p, .int (u 2), .int (u 3), .int (u 4), .int (u 5), .int (u 6), .int (u 7), .int (u 8), .int (u 9), .int (u 10)])) := by rw [eG_3]; exact ms_up_s _ _ _
  refine ms_run (pc' := 12) (lv' := [(0, .ref w), (1, .int i), (2, .int p), (3, .int m), (4, .int f)]) (st' := [.int m, .ref w]) _ (ms_deC dX4_come_10 (ms_deC dX4_come_11 ms_deN)) rfl rfl ?_
  refine ms_putf dX4_come_12 fp_X4_18 hf_4 (Nat.le_of_ble_eq_true rfl) rfl rfl ?_
  obtain ⟨G_5, eG_5⟩ : ∃ K : ms_H, K = ms_up G_3 w (.inr (4, [.int i, .int p, .int m, .int (u 3), .int (u 4), .int (u 5), .int (u 6), .int (u 7), .int (u 8), .int (u 9), .int (u 10)])) := ⟨_, rfl⟩
  refine ms_W.heq eG_5 ?_
  have hf_6 : G_5 w = some (.inr (4, [.int i, .int p, .int m, .int (u 3), .int (u 4), .int (u 5), .int (u 6), .int (u 7), .int (u 8), .int (u 9), .int (u 10)])) := by rw [eG_5]; exact ms_up_s _ _ _
  refine ms_run (pc' := 18) (lv' := [(0, .ref w), (1, .int i), (2, .int p), (3, .int m), (4, .int f)]) (st' := [.int f, .ref w]) _ (ms_deC dX4_come_15 (ms_deC dX4_come_16 ms_deN)) rfl rfl ?_
  refine ms_putf dX4_come_18 fp_X4_21 hf_6 (Nat.le_of_ble_eq_true rfl) rfl rfl ?_
  obtain ⟨G_7, eG_7⟩ : ∃ K : ms_H, K = ms_up G_5 w (.inr (4, [.int i, .int p, .int m, .int f, .int (u 4), .int (u 5), .int (u 6), .int (u 7), .int (u 8), .int (u 9), .int (u 10)])) := ⟨_, rfl⟩
  refine ms_W.heq eG_7 ?_
  have hf_8 : G_7 w = some (.inr (4, [.int i, .int p, .int m, .int f, .int (u 4), .int (u 5), .int (u 6), .int (u 7), .int (u 8), .int (u 9), .int (u 10)])) := by rw [eG_7]; exact ms_up_s _ _ _
  refine ms_run (pc' := 23) (lv' := [(0, .ref w), (1, .int i), (2, .int p), (3, .int m), (4, .int f)]) (st' := [.int 4, .ref w]) _ (ms_deC dX4_come_21 (ms_deC dX4_come_22 ms_deN)) rfl rfl ?_
  refine ms_putf dX4_come_23 fp_X4_24 hf_8 (Nat.le_of_ble_eq_true rfl) rfl rfl ?_
  obtain ⟨G_9, eG_9⟩ : ∃ K : ms_H, K = ms_up G_7 w (.inr (4, [.int i, .int p, .int m, .int f, .int 4, .int (u 5), .int (u 6), .int (u 7), .int (u 8), .int (u 9), .int (u 10)])) := ⟨_, rfl⟩
  refine ms_W.heq eG_9 ?_
  have hf_10 : G_9 w = some (.inr (4, [.int i, .int p, .int m, .int f, .int 4, .int (u 5), .int (u 6), .int (u 7), .int (u 8), .int (u 9), .int (u 10)])) := by rw [eG_9]; exact ms_up_s _ _ _
  refine ms_run (pc' := 28) (lv' := [(0, .ref w), (1, .int i), (2, .int p), (3, .int m), (4, .int f)]) (st' := [.int 0, .ref w]) _ (ms_deC dX4_come_26 (ms_deC dX4_come_27 ms_deN)) rfl rfl ?_
  refine ms_putf dX4_come_28 fp_X4_27 hf_10 (Nat.le_of_ble_eq_true rfl) rfl rfl ?_
  obtain ⟨G_11, eG_11⟩ : ∃ K : ms_H, K = ms_up G_9 w (.inr (4, [.int i, .int p, .int m, .int f, .int 4, .int 0, .int (u 6), .int (u 7), .int (u 8), .int (u 9), .int (u 10)])) := ⟨_, rfl⟩
  refine ms_W.heq eG_11 ?_
  have hf_12 : G_11 w = some (.inr (4, [.int i, .int p, .int m, .int f, .int 4, .int 0, .int (u 6), .int (u 7), .int (u 8), .int (u 9), .int (u 10)])) := by rw [eG_11]; exact ms_up_s _ _ _
  refine ms_run (pc' := 33) (lv' := [(0, .ref w), (1, .int i), (2, .int p), (3, .int m), (4, .int f)]) (st' := [.int 0, .ref w]) _ (ms_deC dX4_come_31 (ms_deC dX4_come_32 ms_deN)) rfl rfl ?_
  refine ms_putf dX4_come_33 fp_X4_30 hf_12 (Nat.le_of_ble_eq_true rfl) rfl rfl ?_
  obtain ⟨G_13, eG_13⟩ : ∃ K : ms_H, K = ms_up G_11 w (.inr (4, [.int i, .int p, .int m, .int f, .int 4, .int 0, .int 0, .int (u 7), .int (u 8), .int (u 9), .int (u 10)])) := ⟨_, rfl⟩
  refine ms_W.heq eG_13 ?_
  have hf_14 : G_13 w = some (.inr (4, [.int i, .int p, .int m, .int f, .int 4, .int 0, .int 0, .int (u 7), .int (u 8), .int (u 9), .int (u 10)])) := by rw [eG_13]; exact ms_up_s _ _ _
  refine ms_run (pc' := 38) (lv' := [(0, .ref w), (1, .int i), (2, .int p), (3, .int m), (4, .int f)]) (st' := [.int (-1), .ref w]) _ (ms_deC dX4_come_36 (ms_deC dX4_come_37 ms_deN)) rfl rfl ?_
  refine ms_putf dX4_come_38 fp_X4_33 hf_14 (Nat.le_of_ble_eq_true rfl) rfl rfl ?_
  obtain ⟨G_15, eG_15⟩ : ∃ K : ms_H, K = ms_up G_13 w (.inr (4, [.int i, .int p, .int m, .int f, .int 4, .int 0, .int 0, .int (-1), .int (u 8), .int (u 9), .int (u 10)])) := ⟨_, rfl⟩
  refine ms_W.heq eG_15 ?_
  have hf_16 : G_15 w = some (.inr (4, [.int i, .int p, .int m, .int f, .int 4, .int 0, .int 0, .int (-1), .int (u 8), .int (u 9), .int (u 10)])) := by rw [eG_15]; exact ms_up_s _ _ _
  refine ms_retv (st := []) dX4_come_41 rfl ?_
  subst eG_15 eG_13 eG_11 eG_9 eG_7 eG_5 eG_3 eG_1
  exact ms_p1.mk rfl (by simp only [ms_up_up]; rfl)
set_option maxHeartbeats 2000000 in
set_option maxRecDepth 20000 in
theorem c_X4_copyFrom {n w : Nat} {G : ms_H} {u : Nat → Int32} (hw : G w = some (.inr (4, cr_w u))) {w2 : Nat} {v : Nat → Int32} (hw2 : G w2 = some (.inr (4, cr_w v))) (hne : w ≠ w2) : ms_M m_X4_copyFrom [.ref w, .ref w2] n G 0 0 (ms_p1 none n (ms_up G w (.inr (4, cr_w (wk_copy u v))))) := by
  refine ms_M.of (by decide) (Nat.le_of_ble_eq_true rfl) ?_
  show ms_W false m_X4_copyFrom _ 0 [(0, .ref w), (1, .ref w2)] [] n G 0 0
  refine ms_run (pc' := 2) (lv' := [(0, .ref w), (1, .ref w2)]) (st' := [.ref w2, .ref w]) _ (ms_deC dX4_copyFrom_0 (ms_deC dX4_copyFrom_1 ms_deN)) rfl rfl ?_
  refine ms_getf dX4_copyFrom_2 fg_X4_9 hw2 rfl ?_
  refine ms_putf dX4_copyFrom_5 fp_X4_9 hw (Nat.le_of_ble_eq_true rfl) rfl rfl ?_
  obtain ⟨G_1, eG_1⟩ : ∃ K : ms_H, K = ms_up G w (.inr (4, [.int (v 0), .int (u 1), .int (u 2), .int (u 3), .int (u 4), .int (u 5), .int (u 6), .int (u 7), .int (u 8), .int (u 9), .int (u 10)])) := ⟨_, rfl⟩
  refine ms_W.heq eG_1 ?_
  have hf_2 : G_1 w = some (.inr (4, [.int (v 0), .int (u 1), .int (u 2), .int (u 3), .int (u 4), .int (u 5), .int (u 6), .int (u 7), .int (u 8), .int (u 9), .int (u 10)])) := by rw [eG_1]; exact ms_up_s _ _ _
  have hf_3 := (congrFun eG_1 w2).trans ((ms_up_n G _ (fun h9 => hne (by first | exact h9 | exact h9.symm))).trans hw2)
  refine ms_run (pc' := 10) (lv' := [(0, .ref w), (1, .ref w2)]) (st' := [.ref w2, .ref w]) _ (ms_deC dX4_copyFrom_8 (ms_deC dX4_copyFrom_9 ms_deN)) rfl rfl ?_
  refine ms_getf dX4_copyFrom_10 fg_X4_15 hf_3 rfl ?_
  refine ms_putf dX4_copyFrom_13 fp_X4_15 hf_2 (Nat.le_of_ble_eq_true rfl) rfl rfl ?_
  obtain ⟨G_4, eG_4⟩ : ∃ K : ms_H, K = ms_up G_1 w (.inr (4, [.int (v 0), .int (v 1), .int (u 2), .int (u 3), .int (u 4), .int (u 5), .int (u 6), .int (u 7), .int (u 8), .int (u 9), .int (u 10)])) := ⟨_, rfl⟩
  refine ms_W.heq eG_4 ?_
  have hf_5 : G_4 w = some (.inr (4, [.int (v 0), .int (v 1), .int (u 2), .int (u 3), .int (u 4), .int (u 5), .int (u 6), .int (u 7), .int (u 8), .int (u 9), .int (u 10)])) := by rw [eG_4]; exact ms_up_s _ _ _
  have hf_6 := (congrFun eG_4 w2).trans ((ms_up_n G_1 _ (fun h9 => hne (by first | exact h9 | exact h9.symm))).trans hf_3)
  refine ms_run (pc' := 18) (lv' := [(0, .ref w), (1, .ref w2)]) (st' := [.ref w2, .ref w]) _ (ms_deC dX4_copyFrom_16 (ms_deC dX4_copyFrom_17 ms_deN)) rfl rfl ?_
  refine ms_getf dX4_copyFrom_18 fg_X4_18 hf_6 rfl ?_
  refine ms_putf dX4_copyFrom_21 fp_X4_18 hf_5 (Nat.le_of_ble_eq_true rfl) rfl rfl ?_
  obtain ⟨G_7, eG_7⟩ : ∃ K : ms_H, K = ms_up G_4 w (.inr (4, [.int (v 0), .int (v 1), .int (v 2), .int (u 3), .int (u 4), .int (u 5), .int (u 6), .int (u 7), .int (u 8), .int (u 9), .int (u 10)])) := ⟨_, rfl⟩
  refine ms_W.heq eG_7 ?_
  have hf_8 : G_7 w = some (.inr (4, [.int (v 0), .int (v 1), .int (v 2), .int (u 3), .int (u 4), .int (u 5), .int (u 6), .int (u 7), .int (u 8), .int (u 9), .int (u 10)])) := by rw [eG_7]; exact ms_up_s _ _ _
  have hf_9 := (congrFun eG_7 w2).trans ((ms_up_n G_4 _ (fun h9 => hne (by first | exact h9 | exact h9.symm))).trans hf_6)
  refine ms_run (pc' := 26) (lv' := [(0, .ref w), (1, .ref w2)]) (st' := [.ref w2, .ref w]) _ (ms_deC dX4_copyFrom_24 (ms_deC dX4_copyFrom_25 ms_deN)) rfl rfl ?_
  refine ms_getf dX4_copyFrom_26 fg_X4_21 hf_9 rfl ?_
  refine ms_putf dX4_copyFrom_29 fp_X4_21 hf_8 (Nat.le_of_ble_eq_true rfl) rfl rfl ?_
  obtain ⟨G_10, eG_10⟩ : ∃ K : ms_H, K = ms_up G_7 w (.inr (4, [.int (v 0), .int (v 1), .int (v 2), .int (v 3), .int (u 4), .int (u 5), .int (u 6), .int (u 7), .int (u 8), .int (u 9), .int (u 10)])) := ⟨_, rfl⟩
  refine ms_W.heq eG_10 ?_
  have hf_11 : G_10 w = some (.inr (4, [.int (v 0), .int (v 1), .int (v 2), .int (v 3), .int (u 4), .int (u 5), .int (u 6), .int (u 7), .int (u 8), .int (u 9), .int (u 10)])) := by rw [eG_10]; exact ms_up_s _ _ _
  have hf_12 := (congrFun eG_10 w2).trans ((ms_up_n G_7 _ (fun h9 => hne (by first | exact h9 | exact h9.symm))).trans hf_9)
  refine ms_run (pc' := 34) (lv' := [(0, .ref w), (1, .ref w2)]) (st' := [.ref w2, .ref w]) _ (ms_deC dX4_copyFrom_32 (ms_deC dX4_copyFrom_33 ms_deN)) rfl rfl ?_
  refine ms_getf dX4_copyFrom_34 fg_X4_24 hf_12 rfl ?_
  refine ms_putf dX4_copyFrom_37 fp_X4_24 hf_11 (Nat.le_of_ble_eq_true rfl) rfl rfl ?_
  obtain ⟨G_13, eG_13⟩ : ∃ K : ms_H, K = ms_up G_10 w (.inr (4, [.int (v 0), .int (v 1), .int (v 2), .int (v 3), .int (v 4), .int (u 5), .int (u 6), .int (u 7), .int (u 8), .int (u 9), .int (u 10)])) := ⟨_, rfl⟩
  refine ms_W.heq eG_13 ?_
  have hf_14 : G_13 w = some (.inr (4, [.int (v 0), .int (v 1), .int (v 2), .int (v 3), .int (v 4), .int (u 5), .int (u 6), .int (u 7), .int (u 8), .int (u 9), .int (u 10)])) := by rw [eG_13]; exact ms_up_s _ _ _
  have hf_15 := (congrFun eG_13 w2).trans ((ms_up_n G_10 _ (fun h9 => hne (by first | exact h9 | exact h9.symm))).trans hf_12)
  refine ms_run (pc' := 42) (lv' := [(0, .ref w), (1, .ref w2)]) (st' := [.ref w2, .ref w]) _ (ms_deC dX4_copyFrom_40 (ms_deC dX4_copyFrom_41 ms_deN)) rfl rfl ?_
  refine ms_getf dX4_copyFrom_42 fg_X4_27 hf_15 rfl ?_
  refine ms_putf dX4_copyFrom_45 fp_X4_27 hf_14 (Nat.le_of_ble_eq_true rfl) rfl rfl ?_
  obtain ⟨G_16, eG_16⟩ : ∃ K : ms_H, K = ms_up G_13 w (.inr (4, [.int (v 0), .int (v 1), .int (v 2), .int (v 3), .int (v 4), .int (v 5), .int (u 6), .int (u 7), .int (u 8), .int (u 9), .int (u 10)])) := ⟨_, rfl⟩
  refine ms_W.heq eG_16 ?_
  have hf_17 : G_16 w = some (.inr (4, [.int (v 0), .int (v 1), .int (v 2), .int (v 3), .int (v 4), .int (v 5), .int (u 6), .int (u 7), .int (u 8), .int (u 9), .int (u 10)])) := by rw [eG_16]; exact ms_up_s _ _ _
  have hf_18 := (congrFun eG_16 w2).trans ((ms_up_n G_13 _ (fun h9 => hne (by first | exact h9 | exact h9.symm))).trans hf_15)
  refine ms_run (pc' := 50) (lv' := [(0, .ref w), (1, .ref w2)]) (st' := [.ref w2, .ref w]) _ (ms_deC dX4_copyFrom_48 (ms_deC dX4_copyFrom_49 ms_deN)) rfl rfl ?_
  refine ms_getf dX4_copyFrom_50 fg_X4_30 hf_18 rfl ?_
  refine ms_putf dX4_copyFrom_53 fp_X4_30 hf_17 (Nat.le_of_ble_eq_true rfl) rfl rfl ?_
  obtain ⟨G_19, eG_19⟩ : ∃ K : ms_H, K = ms_up G_16 w (.inr (4, [.int (v 0), .int (v 1), .int (v 2), .int (v 3), .int (v 4), .int (v 5), .int (v 6), .int (u 7), .int (u 8), .int (u 9), .int (u 10)])) := ⟨_, rfl⟩
  refine ms_W.heq eG_19 ?_
  have hf_20 : G_19 w = some (.inr (4, [.int (v 0), .int (v 1), .int (v 2), .int (v 3), .int (v 4), .int (v 5), .int (v 6), .int (u 7), .int (u 8), .int (u 9), .int (u 10)])) := by rw [eG_19]; exact ms_up_s _ _ _
  have hf_21 := (congrFun eG_19 w2).trans ((ms_up_n G_16 _ (fun h9 => hne (by first | exact h9 | exact h9.symm))).trans hf_18)
  refine ms_run (pc' := 58) (lv' := [(0, .ref w), (1, .ref w2)]) (st' := [.ref w2, .ref w]) _ (ms_deC dX4_copyFrom_56 (ms_deC dX4_copyFrom_57 ms_deN)) rfl rfl ?_
  refine ms_getf dX4_copyFrom_58 fg_X4_33 hf_21 rfl ?_
  refine ms_putf dX4_copyFrom_61 fp_X4_33 hf_20 (Nat.le_of_ble_eq_true rfl) rfl rfl ?_
  obtain ⟨G_22, eG_22⟩ : ∃ K : ms_H, K = ms_up G_19 w (.inr (4, [.int (v 0), .int (v 1), .int (v 2), .int (v 3), .int (v 4), .int (v 5), .int (v 6), .int (v 7), .int (u 8), .int (u 9), .int (u 10)])) := ⟨_, rfl⟩
  refine ms_W.heq eG_22 ?_
  have hf_23 : G_22 w = some (.inr (4, [.int (v 0), .int (v 1), .int (v 2), .int (v 3), .int (v 4), .int (v 5), .int (v 6), .int (v 7), .int (u 8), .int (u 9), .int (u 10)])) := by rw [eG_22]; exact ms_up_s _ _ _
  have hf_24 := (congrFun eG_22 w2).trans ((ms_up_n G_19 _ (fun h9 => hne (by first | exact h9 | exact h9.symm))).trans hf_21)
  refine ms_retv (st := []) dX4_copyFrom_64 rfl ?_
  subst eG_22 eG_19 eG_16 eG_13 eG_10 eG_7 eG_4 eG_1
  exact ms_p1.mk rfl (by simp only [ms_up_up]; rfl)
set_option maxHeartbeats 2000000 in
set_option maxRecDepth 20000 in
theorem c_X5_isGoal {n : Nat} {G : ms_H} (y : Int32) : ms_M m_X5_isGoal [.int y] n G 0 0 (ms_p1 (some (.int (ms_b (gl_is y)))) n G) := by
  refine ms_M.of (by decide) (Nat.le_of_ble_eq_true rfl) ?_
  show ms_W false m_X5_isGoal _ 0 [(0, .int y)] [] n G 0 0
  refine ms_run (pc' := 1) (lv' := [(0, .int y)]) (st' := [.int y]) _ (ms_deC dX5_isGoal_0 ms_deN) rfl rfl ?_
  refine ms_if_lt (tgt := 13) dX5_isGoal_1 (by decide) (fun h_1 => ?_) (fun h_1 => ?_)
  · skip
    refine ms_run (pc' := 14) (lv' := [(0, .int y)]) (st' := [.int 0]) _ (ms_deC dX5_isGoal_13 ms_deN) rfl rfl ?_
    refine ms_reti (st := []) (ty := .boolean) dX5_isGoal_14 rfl rfl ?_
    exact ms_p1.mk (ms_int_eq (by grind)) rfl
  · skip
    refine ms_run (pc' := 6) (lv' := [(0, .int y)]) (st' := [.int 4, .int y]) _ (ms_deC dX5_isGoal_4 (ms_deC dX5_isGoal_5 ms_deN)) rfl rfl ?_
    refine ms_icmp_ge (tgt := 13) dX5_isGoal_6 (by decide) (fun h_6 => ?_) (fun h_6 => ?_)
    · skip
      refine ms_run (pc' := 14) (lv' := [(0, .int y)]) (st' := [.int 0]) _ (ms_deC dX5_isGoal_13 ms_deN) rfl rfl ?_
      refine ms_reti (st := []) (ty := .boolean) dX5_isGoal_14 rfl rfl ?_
      exact ms_p1.mk (ms_int_eq (by grind)) rfl
    · skip
      refine ms_run (pc' := 10) (lv' := [(0, .int y)]) (st' := [.int 1]) _ (ms_deC dX5_isGoal_9 ms_deN) rfl rfl ?_
      refine ms_goto (tgt := 14) dX5_isGoal_10 (by decide) ?_
      refine ms_reti (st := []) (ty := .boolean) dX5_isGoal_14 rfl rfl ?_
      exact ms_p1.mk (ms_int_eq (by grind)) rfl
set_option maxHeartbeats 2000000 in
set_option maxRecDepth 20000 in
theorem c_X5_isMood {n : Nat} {G : ms_H} (y : Int32) : ms_M m_X5_isMood [.int y] n G 0 0 (ms_p1 (some (.int (ms_b (0 ≤ y ∧ y ≤ 9)))) n G) := by
  refine ms_M.of (by decide) (Nat.le_of_ble_eq_true rfl) ?_
  show ms_W false m_X5_isMood _ 0 [(0, .int y)] [] n G 0 0
  refine ms_run (pc' := 1) (lv' := [(0, .int y)]) (st' := [.int y]) _ (ms_deC dX5_isMood_0 ms_deN) rfl rfl ?_
  refine ms_if_lt (tgt := 14) dX5_isMood_1 (by decide) (fun h_1 => ?_) (fun h_1 => ?_)
  · skip
    refine ms_run (pc' := 15) (lv' := [(0, .int y)]) (st' := [.int 0]) _ (ms_deC dX5_isMood_14 ms_deN) rfl rfl ?_
    refine ms_reti (st := []) (ty := .boolean) dX5_isMood_15 rfl rfl ?_
    exact ms_p1.mk (ms_int_eq (by grind)) rfl
  · skip
    refine ms_run (pc' := 7) (lv' := [(0, .int y)]) (st' := [.int 9, .int y]) _ (ms_deC dX5_isMood_4 (ms_deC dX5_isMood_5 ms_deN)) rfl rfl ?_
    refine ms_icmp_gt (tgt := 14) dX5_isMood_7 (by decide) (fun h_7 => ?_) (fun h_7 => ?_)
    · skip
      refine ms_run (pc' := 15) (lv' := [(0, .int y)]) (st' := [.int 0]) _ (ms_deC dX5_isMood_14 ms_deN) rfl rfl ?_
      refine ms_reti (st := []) (ty := .boolean) dX5_isMood_15 rfl rfl ?_
      exact ms_p1.mk (ms_int_eq (by grind)) rfl
    · skip
      refine ms_run (pc' := 11) (lv' := [(0, .int y)]) (st' := [.int 1]) _ (ms_deC dX5_isMood_10 ms_deN) rfl rfl ?_
      refine ms_goto (tgt := 15) dX5_isMood_11 (by decide) ?_
      refine ms_reti (st := []) (ty := .boolean) dX5_isMood_15 rfl rfl ?_
      exact ms_p1.mk (ms_int_eq (by grind)) rfl
set_option maxHeartbeats 2000000 in
set_option maxRecDepth 20000 in
theorem c_X5_isAhead {n : Nat} {G : ms_H} (y : Int32) : ms_M m_X5_isAhead [.int y] n G 0 0 (ms_p1 (some (.int (ms_b (1 ≤ y ∧ y ≤ 60)))) n G) := by
  refine ms_M.of (by decide) (Nat.le_of_ble_eq_true rfl) ?_
  show ms_W false m_X5_isAhead _ 0 [(0, .int y)] [] n G 0 0
  refine ms_run (pc' := 2) (lv' := [(0, .int y)]) (st' := [.int 1, .int y]) _ (ms_deC dX5_isAhead_0 (ms_deC dX5_isAhead_1 ms_deN)) rfl rfl ?_
  refine ms_icmp_lt (tgt := 15) dX5_isAhead_2 (by decide) (fun h_2 => ?_) (fun h_2 => ?_)
  · skip
    refine ms_run (pc' := 16) (lv' := [(0, .int y)]) (st' := [.int 0]) _ (ms_deC dX5_isAhead_15 ms_deN) rfl rfl ?_
    refine ms_reti (st := []) (ty := .boolean) dX5_isAhead_16 rfl rfl ?_
    exact ms_p1.mk (ms_int_eq (by grind)) rfl
  · skip
    refine ms_run (pc' := 8) (lv' := [(0, .int y)]) (st' := [.int 60, .int y]) _ (ms_deC dX5_isAhead_5 (ms_deC dX5_isAhead_6 ms_deN)) rfl rfl ?_
    refine ms_icmp_gt (tgt := 15) dX5_isAhead_8 (by decide) (fun h_8 => ?_) (fun h_8 => ?_)
    · skip
      refine ms_run (pc' := 16) (lv' := [(0, .int y)]) (st' := [.int 0]) _ (ms_deC dX5_isAhead_15 ms_deN) rfl rfl ?_
      refine ms_reti (st := []) (ty := .boolean) dX5_isAhead_16 rfl rfl ?_
      exact ms_p1.mk (ms_int_eq (by grind)) rfl
    · skip
      refine ms_run (pc' := 12) (lv' := [(0, .int y)]) (st' := [.int 1]) _ (ms_deC dX5_isAhead_11 ms_deN) rfl rfl ?_
      refine ms_goto (tgt := 16) dX5_isAhead_12 (by decide) ?_
      refine ms_reti (st := []) (ty := .boolean) dX5_isAhead_16 rfl rfl ?_
      exact ms_p1.mk (ms_int_eq (by grind)) rfl
set_option maxHeartbeats 2000000 in
set_option maxRecDepth 20000 in
theorem c_X0_get {n g q c : Nat} {G : ms_H} {hd on ht cm : Nat → Int32} {wk : Nat → Nat → Int32} (hC : cr_at G g q c hd on ht cm wk) (k : Int32) : ms_M m_X0_get [.ref c, .int k] n G 0 0 (ms_p1 (some (cr_get c (hd 0) k)) n G) := by
  refine ms_M.of (by decide) (Nat.le_of_ble_eq_true rfl) ?_
  show ms_W false m_X0_get _ 0 [(0, .ref c), (1, .int k)] [] n G 0 0
  obtain ⟨fw, hfw, hfc⟩ := hC.2.1
  refine ms_run (pc' := 1) (lv' := [(0, .ref c), (1, .int k)]) (st' := [.int k]) _ (ms_deC dX0_get_0 ms_deN) rfl rfl ?_
  refine ms_if_lt (tgt := 22) dX0_get_1 (by decide) (fun h_1 => ?_) (fun h_1 => ?_)
  · skip
    refine ms_run (pc' := 25) (lv' := [(2, .int 0), (0, .ref c), (1, .int k)]) (st' := [.int 0]) _ (ms_deC dX0_get_22 (ms_deC dX0_get_23 (ms_deC dX0_get_24 ms_deN))) rfl rfl ?_
    refine ms_if_eq (tgt := 37) dX0_get_25 (by decide) (fun _ => ?_) (fun h9 => absurd h9 (by decide))
    refine ms_run (pc' := 38) (lv' := [(2, .int 0), (0, .ref c), (1, .int k)]) (st' := [.null]) _ (ms_deC dX0_get_37 ms_deN) rfl rfl ?_
    refine ms_reta (st := []) (v := .null) dX0_get_38 rfl (Or.inl ⟨_, rfl⟩) (Or.inl rfl) ?_
    exact ms_p1.mk (by unfold cr_get; grind) rfl
  · skip
    refine ms_run (pc' := 6) (lv' := [(0, .ref c), (1, .int k)]) (st' := [.ref c, .int k]) _ (ms_deC dX0_get_4 (ms_deC dX0_get_5 ms_deN)) rfl rfl ?_
    refine ms_getf dX0_get_6 fg_X0_43 hC.1 rfl ?_
    refine ms_icmp_ge (tgt := 22) dX0_get_9 (by decide) (fun h_9 => ?_) (fun h_9 => ?_)
    · skip
      refine ms_run (pc' := 25) (lv' := [(2, .int 0), (0, .ref c), (1, .int k)]) (st' := [.int 0]) _ (ms_deC dX0_get_22 (ms_deC dX0_get_23 (ms_deC dX0_get_24 ms_deN))) rfl rfl ?_
      refine ms_if_eq (tgt := 37) dX0_get_25 (by decide) (fun _ => ?_) (fun h9 => absurd h9 (by decide))
      refine ms_run (pc' := 38) (lv' := [(2, .int 0), (0, .ref c), (1, .int k)]) (st' := [.null]) _ (ms_deC dX0_get_37 ms_deN) rfl rfl ?_
      refine ms_reta (st := []) (v := .null) dX0_get_38 rfl (Or.inl ⟨_, rfl⟩) (Or.inl rfl) ?_
      exact ms_p1.mk (by unfold cr_get; grind) rfl
    · skip
      refine ms_run (pc' := 15) (lv' := [(0, .ref c), (1, .int k)]) (st' := [.int 24, .int k]) _ (ms_deC dX0_get_12 (ms_deC dX0_get_13 ms_deN)) rfl rfl ?_
      refine ms_icmp_ge (tgt := 22) dX0_get_15 (by decide) (fun h_15 => ?_) (fun h_15 => ?_)
      · skip
        refine ms_run (pc' := 25) (lv' := [(2, .int 0), (0, .ref c), (1, .int k)]) (st' := [.int 0]) _ (ms_deC dX0_get_22 (ms_deC dX0_get_23 (ms_deC dX0_get_24 ms_deN))) rfl rfl ?_
        refine ms_if_eq (tgt := 37) dX0_get_25 (by decide) (fun _ => ?_) (fun h9 => absurd h9 (by decide))
        refine ms_run (pc' := 38) (lv' := [(2, .int 0), (0, .ref c), (1, .int k)]) (st' := [.null]) _ (ms_deC dX0_get_37 ms_deN) rfl rfl ?_
        refine ms_reta (st := []) (v := .null) dX0_get_38 rfl (Or.inl ⟨_, rfl⟩) (Or.inl rfl) ?_
        exact ms_p1.mk (by unfold cr_get; grind) rfl
      · skip
        refine ms_run (pc' := 19) (lv' := [(0, .ref c), (1, .int k)]) (st' := [.int 1]) _ (ms_deC dX0_get_18 ms_deN) rfl rfl ?_
        refine ms_goto (tgt := 23) dX0_get_19 (by decide) ?_
        refine ms_run (pc' := 25) (lv' := [(2, .int 1), (0, .ref c), (1, .int k)]) (st' := [.int 1]) _ (ms_deC dX0_get_23 (ms_deC dX0_get_24 ms_deN)) rfl rfl ?_
        refine ms_if_eq (tgt := 37) dX0_get_25 (by decide) (fun h9 => absurd h9 (by decide)) (fun _ => ?_)
        refine ms_run (pc' := 29) (lv' := [(2, .int 1), (0, .ref c), (1, .int k)]) (st' := [.ref c]) _ (ms_deC dX0_get_28 ms_deN) rfl rfl ?_
        refine ms_getf dX0_get_29 fg_X0_20 hC.1 rfl ?_
        refine ms_run (pc' := 33) (lv' := [(2, .int 1), (0, .ref c), (1, .int k)]) (st' := [.int k, .ref (c + 1)]) _ (ms_deC dX0_get_32 ms_deN) rfl rfl ?_
        refine ms_aaload dX0_get_33 hfc (nb_inM (M := 24) rfl (by assumption) (by assumption)) ?_
        rw [show va_rf (fw k.toNatClampNeg) = .ref (c + 5 + k.toNatClampNeg) from by rw [hfw _ (nb_clt (M := 24) rfl (by assumption) (by assumption))]; rfl]
        refine ms_goto (tgt := 38) dX0_get_34 (by decide) ?_
        refine ms_reta (st := []) (v := .ref (c + 5 + k.toNatClampNeg)) dX0_get_38 rfl (Or.inl ⟨_, rfl⟩) (Or.inr ⟨_, rfl⟩) ?_
        exact ms_p1.mk (by unfold cr_get; grind) rfl
set_option maxHeartbeats 2000000 in
set_option maxRecDepth 20000 in
theorem c_X0_numberOn {n g q c : Nat} {G : ms_H} {hd on ht cm : Nat → Int32} {wk : Nat → Nat → Int32} (hC : cr_at G g q c hd on ht cm wk) (k : Int32) : ms_M m_X0_numberOn [.ref c, .int k] n G 0 0 (ms_p1 (some (.int (cr_on on k))) n G) := by
  refine ms_M.of (by decide) (Nat.le_of_ble_eq_true rfl) ?_
  show ms_W false m_X0_numberOn _ 0 [(0, .ref c), (1, .int k)] [] n G 0 0
  refine ms_run (pc' := 1) (lv' := [(0, .ref c), (1, .int k)]) (st' := [.int k]) _ (ms_deC dX0_numberOn_0 ms_deN) rfl rfl ?_
  refine ms_if_lt (tgt := 20) dX0_numberOn_1 (by decide) (fun h_1 => ?_) (fun h_1 => ?_)
  · skip
    refine ms_run (pc' := 21) (lv' := [(0, .ref c), (1, .int k)]) (st' := [.int (-1)]) _ (ms_deC dX0_numberOn_20 ms_deN) rfl rfl ?_
    refine ms_reti (st := []) (ty := .int) dX0_numberOn_21 rfl rfl ?_
    exact ms_p1.mk (ms_int_eq (by unfold cr_on; grind)) rfl
  · skip
    refine ms_run (pc' := 8) (lv' := [(0, .ref c), (1, .int k)]) (st' := [.int 196, .int k]) _ (ms_deC dX0_numberOn_4 (ms_deC dX0_numberOn_5 ms_deN)) rfl rfl ?_
    refine ms_icmp_ge (tgt := 20) dX0_numberOn_8 (by decide) (fun h_8 => ?_) (fun h_8 => ?_)
    · skip
      refine ms_run (pc' := 21) (lv' := [(0, .ref c), (1, .int k)]) (st' := [.int (-1)]) _ (ms_deC dX0_numberOn_20 ms_deN) rfl rfl ?_
      refine ms_reti (st := []) (ty := .int) dX0_numberOn_21 rfl rfl ?_
      exact ms_p1.mk (ms_int_eq (by unfold cr_on; grind)) rfl
    · skip
      refine ms_run (pc' := 12) (lv' := [(0, .ref c), (1, .int k)]) (st' := [.ref c]) _ (ms_deC dX0_numberOn_11 ms_deN) rfl rfl ?_
      refine ms_getf dX0_numberOn_12 fg_X0_24 hC.1 rfl ?_
      refine ms_run (pc' := 16) (lv' := [(0, .ref c), (1, .int k)]) (st' := [.int k, .ref (c + 2)]) _ (ms_deC dX0_numberOn_15 ms_deN) rfl rfl ?_
      refine ms_iaload dX0_numberOn_16 hC.2.2.1 (nb_inM (M := 196) rfl (by assumption) (by assumption)) ?_
      refine ms_goto (tgt := 21) dX0_numberOn_17 (by decide) ?_
      refine ms_reti (st := []) (ty := .int) dX0_numberOn_21 rfl rfl ?_
      exact ms_p1.mk (ms_int_eq (by unfold cr_on; grind)) rfl
set_option maxHeartbeats 2000000 in
set_option maxRecDepth 20000 in
theorem c_X0_heatOf {n g q c : Nat} {G : ms_H} {hd on ht cm : Nat → Int32} {wk : Nat → Nat → Int32} (hC : cr_at G g q c hd on ht cm wk) (k : Int32) : ms_M m_X0_heatOf [.ref c, .int k] n G 0 0 (ms_p1 (some (.int (cr_ht ht k))) n G) := by
  refine ms_M.of (by decide) (Nat.le_of_ble_eq_true rfl) ?_
  show ms_W false m_X0_heatOf _ 0 [(0, .ref c), (1, .int k)] [] n G 0 0
  refine ms_run (pc' := 1) (lv' := [(0, .ref c), (1, .int k)]) (st' := [.int k]) _ (ms_deC dX0_heatOf_0 ms_deN) rfl rfl ?_
  refine ms_if_lt (tgt := 20) dX0_heatOf_1 (by decide) (fun h_1 => ?_) (fun h_1 => ?_)
  · skip
    refine ms_run (pc' := 21) (lv' := [(0, .ref c), (1, .int k)]) (st' := [.int 0]) _ (ms_deC dX0_heatOf_20 ms_deN) rfl rfl ?_
    refine ms_reti (st := []) (ty := .int) dX0_heatOf_21 rfl rfl ?_
    exact ms_p1.mk (ms_int_eq (by unfold cr_ht; grind)) rfl
  · skip
    refine ms_run (pc' := 8) (lv' := [(0, .ref c), (1, .int k)]) (st' := [.int 196, .int k]) _ (ms_deC dX0_heatOf_4 (ms_deC dX0_heatOf_5 ms_deN)) rfl rfl ?_
    refine ms_icmp_ge (tgt := 20) dX0_heatOf_8 (by decide) (fun h_8 => ?_) (fun h_8 => ?_)
    · skip
      refine ms_run (pc' := 21) (lv' := [(0, .ref c), (1, .int k)]) (st' := [.int 0]) _ (ms_deC dX0_heatOf_20 ms_deN) rfl rfl ?_
      refine ms_reti (st := []) (ty := .int) dX0_heatOf_21 rfl rfl ?_
      exact ms_p1.mk (ms_int_eq (by unfold cr_ht; grind)) rfl
    · skip
      refine ms_run (pc' := 12) (lv' := [(0, .ref c), (1, .int k)]) (st' := [.ref c]) _ (ms_deC dX0_heatOf_11 ms_deN) rfl rfl ?_
      refine ms_getf dX0_heatOf_12 fg_X0_28 hC.1 rfl ?_
      refine ms_run (pc' := 16) (lv' := [(0, .ref c), (1, .int k)]) (st' := [.int k, .ref (c + 3)]) _ (ms_deC dX0_heatOf_15 ms_deN) rfl rfl ?_
      refine ms_iaload dX0_heatOf_16 hC.2.2.2.1 (nb_inM (M := 196) rfl (by assumption) (by assumption)) ?_
      refine ms_goto (tgt := 21) dX0_heatOf_17 (by decide) ?_
      refine ms_reti (st := []) (ty := .int) dX0_heatOf_21 rfl rfl ?_
      exact ms_p1.mk (ms_int_eq (by unfold cr_ht; grind)) rfl
set_option maxHeartbeats 2000000 in
set_option maxRecDepth 20000 in
theorem c_X3_isFree {n g q : Nat} {G : ms_H} {fl w h : Int32} {nr : Nat → Int32} (hG : gr_at G g fl w h nr){wl mk ds qu : Nat → Int32} (hQ : sq_at G g q wl mk ds qu) (f : Int32) : ms_M m_X3_isFree [.ref q, .int f] n G 0 0 (ms_p1 (some (.int (ms_b (sq_fr fl wl f)))) n G) := by
  refine ms_M.of (by decide) (Nat.le_of_ble_eq_true rfl) ?_
  show ms_W false m_X3_isFree _ 0 [(0, .ref q), (1, .int f)] [] n G 0 0
  refine ms_run (pc' := 1) (lv' := [(0, .ref q), (1, .int f)]) (st' := [.ref q]) _ (ms_deC dX3_isFree_0 ms_deN) rfl rfl ?_
  refine ms_getf dX3_isFree_1 fg_X3_24 hQ.1 rfl ?_
  refine ms_run (pc' := 5) (lv' := [(0, .ref q), (1, .int f)]) (st' := [.int f, .ref g]) _ (ms_deC dX3_isFree_4 ms_deN) rfl rfl ?_
  refine ms_callVp (As := [.int f]) dX3_isFree_5 (c_X1_has hG f) cv_X3_34 hG.1 rfl ⟨Nat.le_of_ble_eq_true rfl, Nat.le_of_ble_eq_true rfl⟩ rfl (Nat.le_of_ble_eq_true rfl) ?_
  by_cases hc_5 : gr_has fl f
  · rw [show ms_b (gr_has fl f) = 1 from if_pos hc_5]
    refine ms_if_eq (tgt := 24) dX3_isFree_8 (by decide) (fun h9 => absurd h9 (by decide)) (fun _ => ?_)
    refine ms_run (pc' := 12) (lv' := [(0, .ref q), (1, .int f)]) (st' := [.ref q]) _ (ms_deC dX3_isFree_11 ms_deN) rfl rfl ?_
    refine ms_getf dX3_isFree_12 fg_X3_9 hQ.1 rfl ?_
    refine ms_run (pc' := 16) (lv' := [(0, .ref q), (1, .int f)]) (st' := [.int f, .ref (q + 1)]) _ (ms_deC dX3_isFree_15 ms_deN) rfl rfl ?_
    refine ms_iaload dX3_isFree_16 hQ.2.1 (gr_hin (by assumption)) ?_
    refine ms_if_ne (tgt := 24) dX3_isFree_17 (by decide) (fun h_17 => ?_) (fun h_17 => ?_)
    · skip
      refine ms_run (pc' := 25) (lv' := [(0, .ref q), (1, .int f)]) (st' := [.int 0]) _ (ms_deC dX3_isFree_24 ms_deN) rfl rfl ?_
      refine ms_reti (st := []) (ty := .boolean) dX3_isFree_25 rfl rfl ?_
      exact ms_p1.mk (ms_int_eq (by grind)) rfl
    · skip
      refine ms_run (pc' := 21) (lv' := [(0, .ref q), (1, .int f)]) (st' := [.int 1]) _ (ms_deC dX3_isFree_20 ms_deN) rfl rfl ?_
      refine ms_goto (tgt := 25) dX3_isFree_21 (by decide) ?_
      refine ms_reti (st := []) (ty := .boolean) dX3_isFree_25 rfl rfl ?_
      exact ms_p1.mk (ms_int_eq (by grind)) rfl
  · rw [show ms_b (gr_has fl f) = 0 from if_neg hc_5]
    refine ms_if_eq (tgt := 24) dX3_isFree_8 (by decide) (fun _ => ?_) (fun h9 => absurd h9 (by decide))
    refine ms_run (pc' := 25) (lv' := [(0, .ref q), (1, .int f)]) (st' := [.int 0]) _ (ms_deC dX3_isFree_24 ms_deN) rfl rfl ?_
    refine ms_reti (st := []) (ty := .boolean) dX3_isFree_25 rfl rfl ?_
    exact ms_p1.mk (ms_int_eq (by grind)) rfl
set_option maxHeartbeats 2000000 in
set_option maxRecDepth 20000 in
theorem c_X3_isMarked {n g q : Nat} {G : ms_H} {fl w h : Int32} {nr : Nat → Int32} (hG : gr_at G g fl w h nr){wl mk ds qu : Nat → Int32} (hQ : sq_at G g q wl mk ds qu) (i f : Int32) : ms_M m_X3_isMarked [.ref q, .int i, .int f] n G 0 0 (ms_p1 (some (.int (ms_b (sq_mk fl mk i f)))) n G) := by
  refine ms_M.of (by decide) (Nat.le_of_ble_eq_true rfl) ?_
  show ms_W false m_X3_isMarked _ 0 [(0, .ref q), (1, .int i), (2, .int f)] [] n G 0 0
  refine ms_run (pc' := 1) (lv' := [(0, .ref q), (1, .int i), (2, .int f)]) (st' := [.int i]) _ (ms_deC dX3_isMarked_0 ms_deN) rfl rfl ?_
  refine ms_callSNp (As := [.int i]) dX3_isMarked_1 (c_X5_isGoal i) csn_X3_40 rfl ⟨Nat.le_of_ble_eq_true rfl, Nat.le_of_ble_eq_true rfl⟩ rfl (Nat.le_of_ble_eq_true rfl) ?_
  by_cases hc_1 : gl_is i
  · rw [show ms_b (gl_is i) = 1 from if_pos hc_1]
    refine ms_if_eq (tgt := 35) dX3_isMarked_4 (by decide) (fun h9 => absurd h9 (by decide)) (fun _ => ?_)
    refine ms_run (pc' := 8) (lv' := [(0, .ref q), (1, .int i), (2, .int f)]) (st' := [.ref q]) _ (ms_deC dX3_isMarked_7 ms_deN) rfl rfl ?_
    refine ms_getf dX3_isMarked_8 fg_X3_24 hQ.1 rfl ?_
    refine ms_run (pc' := 12) (lv' := [(0, .ref q), (1, .int i), (2, .int f)]) (st' := [.int f, .ref g]) _ (ms_deC dX3_isMarked_11 ms_deN) rfl rfl ?_
    refine ms_callVp (As := [.int f]) dX3_isMarked_12 (c_X1_has hG f) cv_X3_34 hG.1 rfl ⟨Nat.le_of_ble_eq_true rfl, Nat.le_of_ble_eq_true rfl⟩ rfl (Nat.le_of_ble_eq_true rfl) ?_
    by_cases hc_12 : gr_has fl f
    · rw [show ms_b (gr_has fl f) = 1 from if_pos hc_12]
      refine ms_if_eq (tgt := 35) dX3_isMarked_15 (by decide) (fun h9 => absurd h9 (by decide)) (fun _ => ?_)
      refine ms_run (pc' := 19) (lv' := [(0, .ref q), (1, .int i), (2, .int f)]) (st' := [.ref q]) _ (ms_deC dX3_isMarked_18 ms_deN) rfl rfl ?_
      refine ms_getf dX3_isMarked_19 fg_X3_15 hQ.1 rfl ?_
      refine ms_run (pc' := 23) (lv' := [(0, .ref q), (1, .int i), (2, .int f)]) (st' := [.int f, .ref (q + 2)]) _ (ms_deC dX3_isMarked_22 ms_deN) rfl rfl ?_
      refine ms_iaload dX3_isMarked_23 hQ.2.2.1 (gr_hin (by assumption)) ?_
      refine ms_run (pc' := 28) (lv' := [(0, .ref q), (1, .int i), (2, .int f)]) (st' := [.int ((mk f.toNatClampNeg) &&& (1 <<< (i &&& 31)))]) _ (ms_deC dX3_isMarked_24 (ms_deC dX3_isMarked_25 (ms_deC dX3_isMarked_26 (ms_deC dX3_isMarked_27 ms_deN)))) rfl rfl ?_
      refine ms_if_eq (tgt := 35) dX3_isMarked_28 (by decide) (fun h_28 => ?_) (fun h_28 => ?_)
      · skip
        refine ms_run (pc' := 36) (lv' := [(0, .ref q), (1, .int i), (2, .int f)]) (st' := [.int 0]) _ (ms_deC dX3_isMarked_35 ms_deN) rfl rfl ?_
        refine ms_reti (st := []) (ty := .boolean) dX3_isMarked_36 rfl rfl ?_
        exact ms_p1.mk (ms_int_eq (by grind)) rfl
      · skip
        refine ms_run (pc' := 32) (lv' := [(0, .ref q), (1, .int i), (2, .int f)]) (st' := [.int 1]) _ (ms_deC dX3_isMarked_31 ms_deN) rfl rfl ?_
        refine ms_goto (tgt := 36) dX3_isMarked_32 (by decide) ?_
        refine ms_reti (st := []) (ty := .boolean) dX3_isMarked_36 rfl rfl ?_
        exact ms_p1.mk (ms_int_eq (by grind)) rfl
    · rw [show ms_b (gr_has fl f) = 0 from if_neg hc_12]
      refine ms_if_eq (tgt := 35) dX3_isMarked_15 (by decide) (fun _ => ?_) (fun h9 => absurd h9 (by decide))
      refine ms_run (pc' := 36) (lv' := [(0, .ref q), (1, .int i), (2, .int f)]) (st' := [.int 0]) _ (ms_deC dX3_isMarked_35 ms_deN) rfl rfl ?_
      refine ms_reti (st := []) (ty := .boolean) dX3_isMarked_36 rfl rfl ?_
      exact ms_p1.mk (ms_int_eq (by grind)) rfl
  · rw [show ms_b (gl_is i) = 0 from if_neg hc_1]
    refine ms_if_eq (tgt := 35) dX3_isMarked_4 (by decide) (fun _ => ?_) (fun h9 => absurd h9 (by decide))
    refine ms_run (pc' := 36) (lv' := [(0, .ref q), (1, .int i), (2, .int f)]) (st' := [.int 0]) _ (ms_deC dX3_isMarked_35 ms_deN) rfl rfl ?_
    refine ms_reti (st := []) (ty := .boolean) dX3_isMarked_36 rfl rfl ?_
    exact ms_p1.mk (ms_int_eq (by grind)) rfl
set_option maxHeartbeats 2000000 in
set_option maxRecDepth 20000 in
theorem c_X3_distance {n g q : Nat} {G : ms_H} {fl w h : Int32} {nr : Nat → Int32} (hG : gr_at G g fl w h nr){wl mk ds qu : Nat → Int32} (hQ : sq_at G g q wl mk ds qu) (i f : Int32) : ms_M m_X3_distance [.ref q, .int i, .int f] n G 0 0 (ms_p1 (some (.int (sq_ds fl ds i f))) n G) := by
  refine ms_M.of (by decide) (Nat.le_of_ble_eq_true rfl) ?_
  show ms_W false m_X3_distance _ 0 [(0, .ref q), (1, .int i), (2, .int f)] [] n G 0 0
  refine ms_run (pc' := 1) (lv' := [(0, .ref q), (1, .int i), (2, .int f)]) (st' := [.int i]) _ (ms_deC dX3_distance_0 ms_deN) rfl rfl ?_
  refine ms_callSNp (As := [.int i]) dX3_distance_1 (c_X5_isGoal i) csn_X3_40 rfl ⟨Nat.le_of_ble_eq_true rfl, Nat.le_of_ble_eq_true rfl⟩ rfl (Nat.le_of_ble_eq_true rfl) ?_
  by_cases hc_1 : gl_is i
  · rw [show ms_b (gl_is i) = 1 from if_pos hc_1]
    refine ms_if_eq (tgt := 33) dX3_distance_4 (by decide) (fun h9 => absurd h9 (by decide)) (fun _ => ?_)
    refine ms_run (pc' := 8) (lv' := [(0, .ref q), (1, .int i), (2, .int f)]) (st' := [.ref q]) _ (ms_deC dX3_distance_7 ms_deN) rfl rfl ?_
    refine ms_getf dX3_distance_8 fg_X3_24 hQ.1 rfl ?_
    refine ms_run (pc' := 12) (lv' := [(0, .ref q), (1, .int i), (2, .int f)]) (st' := [.int f, .ref g]) _ (ms_deC dX3_distance_11 ms_deN) rfl rfl ?_
    refine ms_callVp (As := [.int f]) dX3_distance_12 (c_X1_has hG f) cv_X3_34 hG.1 rfl ⟨Nat.le_of_ble_eq_true rfl, Nat.le_of_ble_eq_true rfl⟩ rfl (Nat.le_of_ble_eq_true rfl) ?_
    by_cases hc_12 : gr_has fl f
    · rw [show ms_b (gr_has fl f) = 1 from if_pos hc_12]
      refine ms_if_eq (tgt := 33) dX3_distance_15 (by decide) (fun h9 => absurd h9 (by decide)) (fun _ => ?_)
      refine ms_run (pc' := 19) (lv' := [(0, .ref q), (1, .int i), (2, .int f)]) (st' := [.ref q]) _ (ms_deC dX3_distance_18 ms_deN) rfl rfl ?_
      refine ms_getf dX3_distance_19 fg_X3_18 hQ.1 rfl ?_
      refine ms_run (pc' := 29) (lv' := [(0, .ref q), (1, .int i), (2, .int f)]) (st' := [.int ((i * 196) + f), .ref (q + 3)]) _ (ms_deC dX3_distance_22 (ms_deC dX3_distance_23 (ms_deC dX3_distance_26 (ms_deC dX3_distance_27 (ms_deC dX3_distance_28 ms_deN))))) rfl rfl ?_
      refine ms_iaload dX3_distance_29 hQ.2.2.2.1 (sq_din (by assumption) (by assumption)) ?_
      refine ms_goto (tgt := 34) dX3_distance_30 (by decide) ?_
      refine ms_reti (st := []) (ty := .int) dX3_distance_34 rfl rfl ?_
      exact ms_p1.mk (ms_int_eq (by unfold sq_ds; grind)) rfl
    · rw [show ms_b (gr_has fl f) = 0 from if_neg hc_12]
      refine ms_if_eq (tgt := 33) dX3_distance_15 (by decide) (fun _ => ?_) (fun h9 => absurd h9 (by decide))
      refine ms_run (pc' := 34) (lv' := [(0, .ref q), (1, .int i), (2, .int f)]) (st' := [.int (-1)]) _ (ms_deC dX3_distance_33 ms_deN) rfl rfl ?_
      refine ms_reti (st := []) (ty := .int) dX3_distance_34 rfl rfl ?_
      exact ms_p1.mk (ms_int_eq (by unfold sq_ds; grind)) rfl
  · rw [show ms_b (gl_is i) = 0 from if_neg hc_1]
    refine ms_if_eq (tgt := 33) dX3_distance_4 (by decide) (fun _ => ?_) (fun h9 => absurd h9 (by decide))
    refine ms_run (pc' := 34) (lv' := [(0, .ref q), (1, .int i), (2, .int f)]) (st' := [.int (-1)]) _ (ms_deC dX3_distance_33 ms_deN) rfl rfl ?_
    refine ms_reti (st := []) (ty := .int) dX3_distance_34 rfl rfl ?_
    exact ms_p1.mk (ms_int_eq (by unfold sq_ds; grind)) rfl

/-! constructors -/
set_option maxHeartbeats 2000000 in
set_option maxRecDepth 20000 in
theorem c_X4_init {n w : Nat} {G : ms_H} : ms_M m_X4_init [.ref w] n G 0 0 (ms_p1 none n G) := by
  refine ms_M.of (by decide) (Nat.le_of_ble_eq_true rfl) ?_
  show ms_W false m_X4_init _ 0 [(0, .ref w)] [] n G 0 0
  refine ms_run (pc' := 1) (lv' := [(0, .ref w)]) (st' := [.ref w]) _ (ms_deC dX4_init_0 ms_deN) rfl rfl ?_
  refine ms_objInit dX4_init_1 oi_X4_3 ⟨Nat.le_of_ble_eq_true rfl, Nat.le_of_ble_eq_true rfl⟩ (Nat.le_of_ble_eq_true rfl) ?_
  refine ms_retv (st := []) dX4_init_4 rfl ?_
  exact ms_p1.mk rfl rfl
def in_P (lo len n : Nat) (G : ms_H) (Q : ms_H → Prop) : ms_P := fun r n1 G1 => r = .inl none ∧ n1 = n ∧ Q G1 ∧ ms_fr lo len G G1
set_option maxHeartbeats 4000000 in
set_option maxRecDepth 20000 in
theorem c_X1_init {g : Nat} {G : ms_H} (hg : G g = some (.inr (1, [.int 0, .int 0, .int 0, .null]))) : ms_M m_X1_init [.ref g] (g + 1) G 1 1568 (in_P g 2 (g + 2) G (fun G1 => gr_at G1 g 0 0 0 (fun _ => 0))) := by
  refine ms_M.of (by decide) (Nat.le_of_ble_eq_true rfl) ?_
  show ms_W false m_X1_init _ 0 [(0, .ref g)] [] (g + 1) G 1 1568
  have hF : ms_fr g 2 G G := ms_fr.rf
  refine ms_run (pc' := 1) (lv' := [(0, .ref g)]) (st' := [.ref g]) _ (ms_deC dX1_init_0 ms_deN) rfl rfl ?_
  refine ms_objInit dX1_init_1 oi_X1_3 ⟨Nat.le_of_ble_eq_true rfl, Nat.le_of_ble_eq_true rfl⟩ (Nat.le_of_ble_eq_true rfl) ?_
  refine ms_run (pc' := 8) (lv' := [(0, .ref g)]) (st' := [.int 1568, .ref g]) _ (ms_deC dX1_init_4 (ms_deC dX1_init_5 ms_deN)) rfl rfl ?_
  refine ms_W.room (k2 := 1 + 0) (z2 := 1568 + 0) ?_ (by omega) (by omega)
  refine ms_newI (N := 1568) dX1_init_8 aw_int (by decide) (rfl) (Nat.le_of_ble_eq_true rfl) ?_
  obtain ⟨G_1, eG_1⟩ : ∃ K9 : ms_H, K9 = ms_up G (g + 1) (.inl (0, 1568, .inl (fun _ => 0))) := ⟨_, rfl⟩
  refine ms_W.heq eG_1 ?_
  have hF_2 : ms_fr g 2 G G_1 := by rw [eG_1]; exact ms_fr.up hF (by omega)
  have hf_3 := (congrFun eG_1 g).trans ((ms_up_n G _ (by omega)).trans hg)
  have hf_4 : G_1 (g + 1) = some (.inl (0, 1568, .inl (fun _ => 0))) := by rw [eG_1]; exact ms_up_s _ _ _
  refine ms_putF dX1_init_10 fp_X1_9 rfl hf_3 (Nat.le_of_ble_eq_true rfl) rfl rfl ?_
  obtain ⟨G_5, eG_5⟩ : ∃ K9 : ms_H, K9 = ms_up G_1 g (.inr (1, [.int 0, .int 0, .int 0, .ref (g + 1)])) := ⟨_, rfl⟩
  refine ms_W.heq eG_5 ?_
  have hF_6 : ms_fr g 2 G G_5 := by rw [eG_5]; exact ms_fr.up hF_2 (by omega)
  have hf_7 : G_5 g = some (.inr (1, [.int 0, .int 0, .int 0, .ref (g + 1)])) := by rw [eG_5]; exact ms_up_s _ _ _
  have hf_8 := (congrFun eG_5 (g + 1)).trans ((ms_up_n G_1 _ (by omega)).trans hf_4)
  refine ms_retv (st := []) dX1_init_13 rfl ?_
  exact ⟨rfl, rfl, ⟨hf_7, hf_8⟩, hF_6⟩
set_option maxHeartbeats 4000000 in
set_option maxRecDepth 20000 in
theorem c_X2_init {j : Nat} {G : ms_H} (hj : G j = some (.inr (2, [.int 0, .int 0, .null, .null, .null]))) : ms_M m_X2_init [.ref j] (j + 1) G 3 72 (in_P j 4 (j + 4) G (fun G1 => jm_at G1 j 0 0 (fun _ => 0) (fun _ => 0) (fun _ => 0))) := by
  refine ms_M.of (by decide) (Nat.le_of_ble_eq_true rfl) ?_
  show ms_W false m_X2_init _ 0 [(0, .ref j)] [] (j + 1) G 3 72
  have hF : ms_fr j 4 G G := ms_fr.rf
  refine ms_run (pc' := 1) (lv' := [(0, .ref j)]) (st' := [.ref j]) _ (ms_deC dX2_init_0 ms_deN) rfl rfl ?_
  refine ms_objInit dX2_init_1 oi_X2_3 ⟨Nat.le_of_ble_eq_true rfl, Nat.le_of_ble_eq_true rfl⟩ (Nat.le_of_ble_eq_true rfl) ?_
  refine ms_run (pc' := 7) (lv' := [(0, .ref j)]) (st' := [.int 24, .ref j]) _ (ms_deC dX2_init_4 (ms_deC dX2_init_5 ms_deN)) rfl rfl ?_
  refine ms_W.room (k2 := 1 + 2) (z2 := 24 + 48) ?_ (by omega) (by omega)
  refine ms_newI (N := 24) dX2_init_7 aw_int (by decide) (rfl) (Nat.le_of_ble_eq_true rfl) ?_
  obtain ⟨G_1, eG_1⟩ : ∃ K9 : ms_H, K9 = ms_up G (j + 1) (.inl (0, 24, .inl (fun _ => 0))) := ⟨_, rfl⟩
  refine ms_W.heq eG_1 ?_
  have hF_2 : ms_fr j 4 G G_1 := by rw [eG_1]; exact ms_fr.up hF (by omega)
  have hf_3 := (congrFun eG_1 j).trans ((ms_up_n G _ (by omega)).trans hj)
  have hf_4 : G_1 (j + 1) = some (.inl (0, 24, .inl (fun _ => 0))) := by rw [eG_1]; exact ms_up_s _ _ _
  refine ms_putF dX2_init_9 fp_X2_9 rfl hf_3 (Nat.le_of_ble_eq_true rfl) rfl rfl ?_
  obtain ⟨G_5, eG_5⟩ : ∃ K9 : ms_H, K9 = ms_up G_1 j (.inr (2, [.int 0, .int 0, .ref (j + 1), .null, .null])) := ⟨_, rfl⟩
  refine ms_W.heq eG_5 ?_
  have hF_6 : ms_fr j 4 G G_5 := by rw [eG_5]; exact ms_fr.up hF_2 (by omega)
  have hf_7 : G_5 j = some (.inr (2, [.int 0, .int 0, .ref (j + 1), .null, .null])) := by rw [eG_5]; exact ms_up_s _ _ _
  have hf_8 := (congrFun eG_5 (j + 1)).trans ((ms_up_n G_1 _ (by omega)).trans hf_4)
  refine ms_run (pc' := 15) (lv' := [(0, .ref j)]) (st' := [.int 24, .ref j]) _ (ms_deC dX2_init_12 (ms_deC dX2_init_13 ms_deN)) rfl rfl ?_
  refine ms_W.room (k2 := 1 + 1) (z2 := 24 + 24) ?_ (by omega) (by omega)
  refine ms_newI (N := 24) dX2_init_15 aw_int (by decide) (rfl) (Nat.le_of_ble_eq_true rfl) ?_
  obtain ⟨G_9, eG_9⟩ : ∃ K9 : ms_H, K9 = ms_up G_5 (j + 2) (.inl (0, 24, .inl (fun _ => 0))) := ⟨_, rfl⟩
  refine ms_W.heq eG_9 ?_
  have hF_10 : ms_fr j 4 G G_9 := by rw [eG_9]; exact ms_fr.up hF_6 (by omega)
  have hf_11 := (congrFun eG_9 j).trans ((ms_up_n G_5 _ (by omega)).trans hf_7)
  have hf_12 := (congrFun eG_9 (j + 1)).trans ((ms_up_n G_5 _ (by omega)).trans hf_8)
  have hf_13 : G_9 (j + 2) = some (.inl (0, 24, .inl (fun _ => 0))) := by rw [eG_9]; exact ms_up_s _ _ _
  refine ms_putF dX2_init_17 fp_X2_15 rfl hf_11 (Nat.le_of_ble_eq_true rfl) rfl rfl ?_
  obtain ⟨G_14, eG_14⟩ : ∃ K9 : ms_H, K9 = ms_up G_9 j (.inr (2, [.int 0, .int 0, .ref (j + 1), .ref (j + 2), .null])) := ⟨_, rfl⟩
  refine ms_W.heq eG_14 ?_
  have hF_15 : ms_fr j 4 G G_14 := by rw [eG_14]; exact ms_fr.up hF_10 (by omega)
  have hf_16 : G_14 j = some (.inr (2, [.int 0, .int 0, .ref (j + 1), .ref (j + 2), .null])) := by rw [eG_14]; exact ms_up_s _ _ _
  have hf_17 := (congrFun eG_14 (j + 1)).trans ((ms_up_n G_9 _ (by omega)).trans hf_12)
  have hf_18 := (congrFun eG_14 (j + 2)).trans ((ms_up_n G_9 _ (by omega)).trans hf_13)
  refine ms_run (pc' := 23) (lv' := [(0, .ref j)]) (st' := [.int 24, .ref j]) _ (ms_deC dX2_init_20 (ms_deC dX2_init_21 ms_deN)) rfl rfl ?_
  refine ms_W.room (k2 := 1 + 0) (z2 := 24 + 0) ?_ (by omega) (by omega)
  refine ms_newI (N := 24) dX2_init_23 aw_int (by decide) (rfl) (Nat.le_of_ble_eq_true rfl) ?_
  obtain ⟨G_19, eG_19⟩ : ∃ K9 : ms_H, K9 = ms_up G_14 (j + 3) (.inl (0, 24, .inl (fun _ => 0))) := ⟨_, rfl⟩
  refine ms_W.heq eG_19 ?_
  have hF_20 : ms_fr j 4 G G_19 := by rw [eG_19]; exact ms_fr.up hF_15 (by omega)
  have hf_21 := (congrFun eG_19 j).trans ((ms_up_n G_14 _ (by omega)).trans hf_16)
  have hf_22 := (congrFun eG_19 (j + 1)).trans ((ms_up_n G_14 _ (by omega)).trans hf_17)
  have hf_23 := (congrFun eG_19 (j + 2)).trans ((ms_up_n G_14 _ (by omega)).trans hf_18)
  have hf_24 : G_19 (j + 3) = some (.inl (0, 24, .inl (fun _ => 0))) := by rw [eG_19]; exact ms_up_s _ _ _
  refine ms_putF dX2_init_25 fp_X2_18 rfl hf_21 (Nat.le_of_ble_eq_true rfl) rfl rfl ?_
  obtain ⟨G_25, eG_25⟩ : ∃ K9 : ms_H, K9 = ms_up G_19 j (.inr (2, [.int 0, .int 0, .ref (j + 1), .ref (j + 2), .ref (j + 3)])) := ⟨_, rfl⟩
  refine ms_W.heq eG_25 ?_
  have hF_26 : ms_fr j 4 G G_25 := by rw [eG_25]; exact ms_fr.up hF_20 (by omega)
  have hf_27 : G_25 j = some (.inr (2, [.int 0, .int 0, .ref (j + 1), .ref (j + 2), .ref (j + 3)])) := by rw [eG_25]; exact ms_up_s _ _ _
  have hf_28 := (congrFun eG_25 (j + 1)).trans ((ms_up_n G_19 _ (by omega)).trans hf_22)
  have hf_29 := (congrFun eG_25 (j + 2)).trans ((ms_up_n G_19 _ (by omega)).trans hf_23)
  have hf_30 := (congrFun eG_25 (j + 3)).trans ((ms_up_n G_19 _ (by omega)).trans hf_24)
  refine ms_retv (st := []) dX2_init_28 rfl ?_
  exact ⟨rfl, rfl, ⟨hf_27, hf_28, hf_29, hf_30⟩, hF_26⟩
set_option maxHeartbeats 4000000 in
set_option maxRecDepth 20000 in
theorem c_X3_init {g q : Nat} {G : ms_H} (hq : G q = some (.inr (3, [.null, .null, .null, .null, .null]))) : ms_M m_X3_init [.ref q, .ref g] (q + 1) G 4 1372 (in_P q 5 (q + 5) G (fun G1 => sq_at G1 g q (fun _ => 0) (fun _ => 0) (fun _ => 0) (fun _ => 0))) := by
  refine ms_M.of (by decide) (Nat.le_of_ble_eq_true rfl) ?_
  show ms_W false m_X3_init _ 0 [(0, .ref q), (1, .ref g)] [] (q + 1) G 4 1372
  have hF : ms_fr q 5 G G := ms_fr.rf
  refine ms_run (pc' := 1) (lv' := [(0, .ref q), (1, .ref g)]) (st' := [.ref q]) _ (ms_deC dX3_init_0 ms_deN) rfl rfl ?_
  refine ms_objInit dX3_init_1 oi_X3_3 ⟨Nat.le_of_ble_eq_true rfl, Nat.le_of_ble_eq_true rfl⟩ (Nat.le_of_ble_eq_true rfl) ?_
  refine ms_run (pc' := 8) (lv' := [(0, .ref q), (1, .ref g)]) (st' := [.int 196, .ref q]) _ (ms_deC dX3_init_4 (ms_deC dX3_init_5 ms_deN)) rfl rfl ?_
  refine ms_W.room (k2 := 1 + 3) (z2 := 196 + 1176) ?_ (by omega) (by omega)
  refine ms_newI (N := 196) dX3_init_8 aw_int (by decide) (rfl) (Nat.le_of_ble_eq_true rfl) ?_
  obtain ⟨G_1, eG_1⟩ : ∃ K9 : ms_H, K9 = ms_up G (q + 1) (.inl (0, 196, .inl (fun _ => 0))) := ⟨_, rfl⟩
  refine ms_W.heq eG_1 ?_
  have hF_2 : ms_fr q 5 G G_1 := by rw [eG_1]; exact ms_fr.up hF (by omega)
  have hf_3 := (congrFun eG_1 q).trans ((ms_up_n G _ (by omega)).trans hq)
  have hf_4 : G_1 (q + 1) = some (.inl (0, 196, .inl (fun _ => 0))) := by rw [eG_1]; exact ms_up_s _ _ _
  refine ms_putF dX3_init_10 fp_X3_9 rfl hf_3 (Nat.le_of_ble_eq_true rfl) rfl rfl ?_
  obtain ⟨G_5, eG_5⟩ : ∃ K9 : ms_H, K9 = ms_up G_1 q (.inr (3, [.null, .ref (q + 1), .null, .null, .null])) := ⟨_, rfl⟩
  refine ms_W.heq eG_5 ?_
  have hF_6 : ms_fr q 5 G G_5 := by rw [eG_5]; exact ms_fr.up hF_2 (by omega)
  have hf_7 : G_5 q = some (.inr (3, [.null, .ref (q + 1), .null, .null, .null])) := by rw [eG_5]; exact ms_up_s _ _ _
  have hf_8 := (congrFun eG_5 (q + 1)).trans ((ms_up_n G_1 _ (by omega)).trans hf_4)
  refine ms_run (pc' := 17) (lv' := [(0, .ref q), (1, .ref g)]) (st' := [.int 196, .ref q]) _ (ms_deC dX3_init_13 (ms_deC dX3_init_14 ms_deN)) rfl rfl ?_
  refine ms_W.room (k2 := 1 + 2) (z2 := 196 + 980) ?_ (by omega) (by omega)
  refine ms_newI (N := 196) dX3_init_17 aw_int (by decide) (rfl) (Nat.le_of_ble_eq_true rfl) ?_
  obtain ⟨G_9, eG_9⟩ : ∃ K9 : ms_H, K9 = ms_up G_5 (q + 2) (.inl (0, 196, .inl (fun _ => 0))) := ⟨_, rfl⟩
  refine ms_W.heq eG_9 ?_
  have hF_10 : ms_fr q 5 G G_9 := by rw [eG_9]; exact ms_fr.up hF_6 (by omega)
  have hf_11 := (congrFun eG_9 q).trans ((ms_up_n G_5 _ (by omega)).trans hf_7)
  have hf_12 := (congrFun eG_9 (q + 1)).trans ((ms_up_n G_5 _ (by omega)).trans hf_8)
  have hf_13 : G_9 (q + 2) = some (.inl (0, 196, .inl (fun _ => 0))) := by rw [eG_9]; exact ms_up_s _ _ _
  refine ms_putF dX3_init_19 fp_X3_15 rfl hf_11 (Nat.le_of_ble_eq_true rfl) rfl rfl ?_
  obtain ⟨G_14, eG_14⟩ : ∃ K9 : ms_H, K9 = ms_up G_9 q (.inr (3, [.null, .ref (q + 1), .ref (q + 2), .null, .null])) := ⟨_, rfl⟩
  refine ms_W.heq eG_14 ?_
  have hF_15 : ms_fr q 5 G G_14 := by rw [eG_14]; exact ms_fr.up hF_10 (by omega)
  have hf_16 : G_14 q = some (.inr (3, [.null, .ref (q + 1), .ref (q + 2), .null, .null])) := by rw [eG_14]; exact ms_up_s _ _ _
  have hf_17 := (congrFun eG_14 (q + 1)).trans ((ms_up_n G_9 _ (by omega)).trans hf_12)
  have hf_18 := (congrFun eG_14 (q + 2)).trans ((ms_up_n G_9 _ (by omega)).trans hf_13)
  refine ms_run (pc' := 26) (lv' := [(0, .ref q), (1, .ref g)]) (st' := [.int 784, .ref q]) _ (ms_deC dX3_init_22 (ms_deC dX3_init_23 ms_deN)) rfl rfl ?_
  refine ms_W.room (k2 := 1 + 1) (z2 := 784 + 196) ?_ (by omega) (by omega)
  refine ms_newI (N := 784) dX3_init_26 aw_int (by decide) (rfl) (Nat.le_of_ble_eq_true rfl) ?_
  obtain ⟨G_19, eG_19⟩ : ∃ K9 : ms_H, K9 = ms_up G_14 (q + 3) (.inl (0, 784, .inl (fun _ => 0))) := ⟨_, rfl⟩
  refine ms_W.heq eG_19 ?_
  have hF_20 : ms_fr q 5 G G_19 := by rw [eG_19]; exact ms_fr.up hF_15 (by omega)
  have hf_21 := (congrFun eG_19 q).trans ((ms_up_n G_14 _ (by omega)).trans hf_16)
  have hf_22 := (congrFun eG_19 (q + 1)).trans ((ms_up_n G_14 _ (by omega)).trans hf_17)
  have hf_23 := (congrFun eG_19 (q + 2)).trans ((ms_up_n G_14 _ (by omega)).trans hf_18)
  have hf_24 : G_19 (q + 3) = some (.inl (0, 784, .inl (fun _ => 0))) := by rw [eG_19]; exact ms_up_s _ _ _
  refine ms_putF dX3_init_28 fp_X3_18 rfl hf_21 (Nat.le_of_ble_eq_true rfl) rfl rfl ?_
  obtain ⟨G_25, eG_25⟩ : ∃ K9 : ms_H, K9 = ms_up G_19 q (.inr (3, [.null, .ref (q + 1), .ref (q + 2), .ref (q + 3), .null])) := ⟨_, rfl⟩
  refine ms_W.heq eG_25 ?_
  have hF_26 : ms_fr q 5 G G_25 := by rw [eG_25]; exact ms_fr.up hF_20 (by omega)
  have hf_27 : G_25 q = some (.inr (3, [.null, .ref (q + 1), .ref (q + 2), .ref (q + 3), .null])) := by rw [eG_25]; exact ms_up_s _ _ _
  have hf_28 := (congrFun eG_25 (q + 1)).trans ((ms_up_n G_19 _ (by omega)).trans hf_22)
  have hf_29 := (congrFun eG_25 (q + 2)).trans ((ms_up_n G_19 _ (by omega)).trans hf_23)
  have hf_30 := (congrFun eG_25 (q + 3)).trans ((ms_up_n G_19 _ (by omega)).trans hf_24)
  refine ms_run (pc' := 35) (lv' := [(0, .ref q), (1, .ref g)]) (st' := [.int 196, .ref q]) _ (ms_deC dX3_init_31 (ms_deC dX3_init_32 ms_deN)) rfl rfl ?_
  refine ms_W.room (k2 := 1 + 0) (z2 := 196 + 0) ?_ (by omega) (by omega)
  refine ms_newI (N := 196) dX3_init_35 aw_int (by decide) (rfl) (Nat.le_of_ble_eq_true rfl) ?_
  obtain ⟨G_31, eG_31⟩ : ∃ K9 : ms_H, K9 = ms_up G_25 (q + 4) (.inl (0, 196, .inl (fun _ => 0))) := ⟨_, rfl⟩
  refine ms_W.heq eG_31 ?_
  have hF_32 : ms_fr q 5 G G_31 := by rw [eG_31]; exact ms_fr.up hF_26 (by omega)
  have hf_33 := (congrFun eG_31 q).trans ((ms_up_n G_25 _ (by omega)).trans hf_27)
  have hf_34 := (congrFun eG_31 (q + 1)).trans ((ms_up_n G_25 _ (by omega)).trans hf_28)
  have hf_35 := (congrFun eG_31 (q + 2)).trans ((ms_up_n G_25 _ (by omega)).trans hf_29)
  have hf_36 := (congrFun eG_31 (q + 3)).trans ((ms_up_n G_25 _ (by omega)).trans hf_30)
  have hf_37 : G_31 (q + 4) = some (.inl (0, 196, .inl (fun _ => 0))) := by rw [eG_31]; exact ms_up_s _ _ _
  refine ms_putF dX3_init_37 fp_X3_21 rfl hf_33 (Nat.le_of_ble_eq_true rfl) rfl rfl ?_
  obtain ⟨G_38, eG_38⟩ : ∃ K9 : ms_H, K9 = ms_up G_31 q (.inr (3, [.null, .ref (q + 1), .ref (q + 2), .ref (q + 3), .ref (q + 4)])) := ⟨_, rfl⟩
  refine ms_W.heq eG_38 ?_
  have hF_39 : ms_fr q 5 G G_38 := by rw [eG_38]; exact ms_fr.up hF_32 (by omega)
  have hf_40 : G_38 q = some (.inr (3, [.null, .ref (q + 1), .ref (q + 2), .ref (q + 3), .ref (q + 4)])) := by rw [eG_38]; exact ms_up_s _ _ _
  have hf_41 := (congrFun eG_38 (q + 1)).trans ((ms_up_n G_31 _ (by omega)).trans hf_34)
  have hf_42 := (congrFun eG_38 (q + 2)).trans ((ms_up_n G_31 _ (by omega)).trans hf_35)
  have hf_43 := (congrFun eG_38 (q + 3)).trans ((ms_up_n G_31 _ (by omega)).trans hf_36)
  have hf_44 := (congrFun eG_38 (q + 4)).trans ((ms_up_n G_31 _ (by omega)).trans hf_37)
  refine ms_run (pc' := 42) (lv' := [(0, .ref q), (1, .ref g)]) (st' := [.ref g, .ref q]) _ (ms_deC dX3_init_40 (ms_deC dX3_init_41 ms_deN)) rfl rfl ?_
  refine ms_putF dX3_init_42 fp_X3_24 rfl hf_40 (Nat.le_of_ble_eq_true rfl) rfl rfl ?_
  obtain ⟨G_45, eG_45⟩ : ∃ K9 : ms_H, K9 = ms_up G_38 q (.inr (3, [.ref g, .ref (q + 1), .ref (q + 2), .ref (q + 3), .ref (q + 4)])) := ⟨_, rfl⟩
  refine ms_W.heq eG_45 ?_
  have hF_46 : ms_fr q 5 G G_45 := by rw [eG_45]; exact ms_fr.up hF_39 (by omega)
  have hf_47 : G_45 q = some (.inr (3, [.ref g, .ref (q + 1), .ref (q + 2), .ref (q + 3), .ref (q + 4)])) := by rw [eG_45]; exact ms_up_s _ _ _
  have hf_48 := (congrFun eG_45 (q + 1)).trans ((ms_up_n G_38 _ (by omega)).trans hf_41)
  have hf_49 := (congrFun eG_45 (q + 2)).trans ((ms_up_n G_38 _ (by omega)).trans hf_42)
  have hf_50 := (congrFun eG_45 (q + 3)).trans ((ms_up_n G_38 _ (by omega)).trans hf_43)
  have hf_51 := (congrFun eG_45 (q + 4)).trans ((ms_up_n G_38 _ (by omega)).trans hf_44)
  refine ms_retv (st := []) dX3_init_45 rfl ?_
  exact ⟨rfl, rfl, ⟨hf_47, hf_48, hf_49, hf_50, hf_51⟩, hF_46⟩
/-- the first k walkers of the row -/
def fwk (c k : Nat) : Nat → Option Nat := fun i => if i < k then some (c + 5 + i) else none
theorem fwk_s {c k : Nat} : va_up (fwk c k) k (some (c + 5 + k)) = fwk c (k + 1) := by
  funext i
  unfold va_up fwk
  by_cases e : i = k
  · subst e; rw [if_pos rfl, if_pos (Nat.lt_succ_self _)]
  · rw [if_neg e]
    by_cases h : i < k
    · rw [if_pos h, if_pos (show i < k + 1 by omega)]
    · rw [if_neg h, if_neg (show ¬ i < k + 1 by omega)]
set_option maxHeartbeats 4000000 in
set_option maxRecDepth 20000 in
theorem l_X0_init {g q c : Nat} {G : ms_H} : ∀ (r k : Nat), k + r = 24 → ∀ (K : ms_H), K c = some (.inr (0, [.int 0, .int 0, .int 2, .int 3, .ref g, .ref q, .ref (c + 1), .ref (c + 2), .ref (c + 3), .ref (c + 4)])) → K (c + 1) = some (.inl (3, 24, .inr (.inr (.inr (.inr (fwk c k)))))) → K (c + 2) = some (.inl (0, 196, .inl (fun _ => 0))) → K (c + 3) = some (.inl (0, 196, .inl (fun _ => 0))) → K (c + 4) = some (.inl (0, 196, .inl (fun _ => 0))) → (∀ i, i < k → K (c + 5 + i) = some (.inr (4, cr_w (fun _ => 0)))) → ms_fr c 29 G K → ms_W false m_X0_init (in_P c 29 (c + 29) G (fun G1 => cr_at G1 g q c (h4 0 0 2 3) (fun _ => 0) (fun _ => 0) (fun _ => 0) (fun _ _ => 0))) 62 [(0, .ref c), (3, .int (nI k))] [] (c + 5 + k) K r (11 * r) := by
  intro r
  induction r with
  | zero =>
    intro k hk K h1 h2 h3 h4 h5 hwk hF
    have hkN : k = 24 := by omega
    refine ms_run (pc' := 65) (lv' := [(0, .ref c), (3, .int (nI k))]) (st' := [.int 24, .int (nI k)]) _ (ms_deC dX0_init_62 (ms_deC dX0_init_63 ms_deN)) rfl rfl ?_
    refine ms_icmp_ge (tgt := 87) dX0_init_65 (by decide) (fun h_65 => ?_) (fun h_65 => ?_)
    · skip
      refine ms_retv (st := []) dX0_init_87 rfl ?_
      exact ⟨rfl, by omega, ⟨h1, ⟨_, fun i hi => if_pos (by omega), h2⟩, h3, h4, h5, fun i hi => hwk i (by omega)⟩, hF⟩
    · skip
      exact absurd (by show nI 24 ≤ nI k; exact nI_le (b := k) (by omega) (by omega)) h_65
  | succ r ih =>
    intro k hk K h1 h2 h3 h4 h5 hwk hF
    have hlt : k < 24 := by omega
    refine ms_run (pc' := 65) (lv' := [(0, .ref c), (3, .int (nI k))]) (st' := [.int 24, .int (nI k)]) _ (ms_deC dX0_init_62 (ms_deC dX0_init_63 ms_deN)) rfl rfl ?_
    refine ms_icmp_ge (tgt := 87) dX0_init_65 (by decide) (fun h_65 => ?_) (fun h_65 => ?_)
    · skip
      exact absurd h_65 (by show ¬ nI 24 ≤ nI k; exact nI_ge (b := 24) (by omega) (by omega))
    · skip
      refine ms_run (pc' := 69) (lv' := [(0, .ref c), (3, .int (nI k))]) (st' := [.ref c]) _ (ms_deC dX0_init_68 ms_deN) rfl rfl ?_
      refine ms_getf dX0_init_69 fg_X0_20 h1 rfl ?_
      refine ms_run (pc' := 73) (lv' := [(0, .ref c), (3, .int (nI k))]) (st' := [.int (nI k), .ref (c + 1)]) _ (ms_deC dX0_init_72 ms_deN) rfl rfl ?_
      refine ms_W.room (k2 := 1 + r) (z2 := 11 + 11 * r) ?_ (by omega) (by omega)
      refine ms_new (fs := [.int 0, .int 0, .int 0, .int 0, .int 0, .int 0, .int 0, .int 0, .int 0, .int 0, .int 0]) dX0_init_73 nw_X0_18 ?_
      obtain ⟨G_1, eG_1⟩ : ∃ K9 : ms_H, K9 = ms_up K (c + 5 + k) (.inr (4, [.int 0, .int 0, .int 0, .int 0, .int 0, .int 0, .int 0, .int 0, .int 0, .int 0, .int 0])) := ⟨_, rfl⟩
      refine ms_W.heq eG_1 ?_
      have hF_2 : ms_fr c 29 G G_1 := by rw [eG_1]; exact ms_fr.up hF (by omega)
      have hf_3 := (congrFun eG_1 c).trans ((ms_up_n K _ (by omega)).trans h1)
      have hf_4 := (congrFun eG_1 (c + 1)).trans ((ms_up_n K _ (by omega)).trans h2)
      have hf_5 := (congrFun eG_1 (c + 2)).trans ((ms_up_n K _ (by omega)).trans h3)
      have hf_6 := (congrFun eG_1 (c + 3)).trans ((ms_up_n K _ (by omega)).trans h4)
      have hf_7 := (congrFun eG_1 (c + 4)).trans ((ms_up_n K _ (by omega)).trans h5)
      have hf_8 : G_1 (c + 5 + k) = some (.inr (4, [.int 0, .int 0, .int 0, .int 0, .int 0, .int 0, .int 0, .int 0, .int 0, .int 0, .int 0])) := by rw [eG_1]; exact ms_up_s _ _ _
      refine ms_run (pc' := 77) (lv' := [(0, .ref c), (3, .int (nI k))]) (st' := [.ref (c + 5 + k), .ref (c + 5 + k), .int (nI k), .ref (c + 1)]) _ (ms_deC dX0_init_76 ms_deN) rfl rfl ?_
      refine ms_W.room (k2 := 0 + r) (z2 := 0 + 11 * r) ?_ (by omega) (by omega)
      refine ms_callIN (As := []) dX0_init_77 (c_X4_init) cin_X0_42 rfl ⟨Nat.le_of_ble_eq_true rfl, Nat.le_of_ble_eq_true rfl⟩ rfl (Nat.le_of_ble_eq_true rfl) (fun v9 n9 K9 hp9 => ?_)
      obtain ⟨hv9, rfl, e9⟩ := hp9
      cases hv9
      have e8 := e9.symm
      subst e8
      refine ms_aastore dX0_init_80 hf_4 hf_8 (vp_in_nI (by omega) (by omega)) ?_
      rw [nI_clamp (by omega)]
      obtain ⟨G_9, eG_9⟩ : ∃ K9 : ms_H, K9 = ms_up G_1 (c + 1) (.inl (3, 24, .inr (.inr (.inr (.inr (va_up (fwk c k) k (some (c + 5 + k)))))))) := ⟨_, rfl⟩
      refine ms_W.heq eG_9 ?_
      have hF_10 : ms_fr c 29 G G_9 := by rw [eG_9]; exact ms_fr.up hF_2 (by omega)
      have hf_11 := (congrFun eG_9 c).trans ((ms_up_n G_1 _ (by omega)).trans hf_3)
      have hf_12 : G_9 (c + 1) = some (.inl (3, 24, .inr (.inr (.inr (.inr (va_up (fwk c k) k (some (c + 5 + k)))))))) := by rw [eG_9]; exact ms_up_s _ _ _
      have hf_13 := (congrFun eG_9 (c + 2)).trans ((ms_up_n G_1 _ (by omega)).trans hf_5)
      have hf_14 := (congrFun eG_9 (c + 3)).trans ((ms_up_n G_1 _ (by omega)).trans hf_6)
      have hf_15 := (congrFun eG_9 (c + 4)).trans ((ms_up_n G_1 _ (by omega)).trans hf_7)
      have hf_16 := (congrFun eG_9 (c + 5 + k)).trans ((ms_up_n G_1 _ (by omega)).trans hf_8)
      refine ms_run (pc' := 84) (lv' := [(3, .int ((nI k) + 1)), (0, .ref c)]) (st' := []) _ (ms_deC dX0_init_81 ms_deN) rfl rfl ?_
      refine ms_goto (tgt := 62) dX0_init_84 (by decide) ?_
      have hwk9 : ∀ i, i < k + 1 → G_9 (c + 5 + i) = some (.inr (4, cr_w (fun _ => 0))) := fun i hi => by
        by_cases h9 : i = k
        · subst h9; exact hf_16
        · rw [eG_9, ms_up_n _ _ (by omega), eG_1, ms_up_n _ _ (by omega)]; exact hwk i (by omega)
      rw [nI_1 k]
      refine ms_W.sub (lv2 := [(0, _), (3, _)]) ?_ [1, 0] rfl
      exact ih (k + 1) (by omega) G_9 hf_11 (by rw [← fwk_s]; exact hf_12) hf_13 hf_14 hf_15 hwk9 hF_10
set_option maxHeartbeats 4000000 in
set_option maxRecDepth 20000 in
theorem c_X0_init {g q c : Nat} {G : ms_H} (hc : G c = some (.inr (0, [.int 0, .int 0, .int 0, .int 0, .null, .null, .null, .null, .null, .null]))) : ms_M m_X0_init [.ref c, .ref g, .ref q] (c + 1) G 28 876 (in_P c 29 (c + 29) G (fun G1 => cr_at G1 g q c (h4 0 0 2 3) (fun _ => 0) (fun _ => 0) (fun _ => 0) (fun _ _ => 0))) := by
  refine ms_M.of (by decide) (Nat.le_of_ble_eq_true rfl) ?_
  show ms_W false m_X0_init _ 0 [(0, .ref c), (1, .ref g), (2, .ref q)] [] (c + 1) G 28 876
  have hF : ms_fr c 29 G G := ms_fr.rf
  refine ms_run (pc' := 1) (lv' := [(0, .ref c), (1, .ref g), (2, .ref q)]) (st' := [.ref c]) _ (ms_deC dX0_init_0 ms_deN) rfl rfl ?_
  refine ms_objInit dX0_init_1 oi_X0_3 ⟨Nat.le_of_ble_eq_true rfl, Nat.le_of_ble_eq_true rfl⟩ (Nat.le_of_ble_eq_true rfl) ?_
  refine ms_run (pc' := 6) (lv' := [(0, .ref c), (1, .ref g), (2, .ref q)]) (st' := [.int 2, .ref c]) _ (ms_deC dX0_init_4 (ms_deC dX0_init_5 ms_deN)) rfl rfl ?_
  refine ms_putf dX0_init_6 fp_X0_9 hc (Nat.le_of_ble_eq_true rfl) rfl rfl ?_
  obtain ⟨G_1, eG_1⟩ : ∃ K9 : ms_H, K9 = ms_up G c (.inr (0, [.int 0, .int 0, .int 2, .int 0, .null, .null, .null, .null, .null, .null])) := ⟨_, rfl⟩
  refine ms_W.heq eG_1 ?_
  have hF_2 : ms_fr c 29 G G_1 := by rw [eG_1]; exact ms_fr.up hF (by omega)
  have hf_3 : G_1 c = some (.inr (0, [.int 0, .int 0, .int 2, .int 0, .null, .null, .null, .null, .null, .null])) := by rw [eG_1]; exact ms_up_s _ _ _
  refine ms_run (pc' := 11) (lv' := [(0, .ref c), (1, .ref g), (2, .ref q)]) (st' := [.int 3, .ref c]) _ (ms_deC dX0_init_9 (ms_deC dX0_init_10 ms_deN)) rfl rfl ?_
  refine ms_putf dX0_init_11 fp_X0_15 hf_3 (Nat.le_of_ble_eq_true rfl) rfl rfl ?_
  obtain ⟨G_4, eG_4⟩ : ∃ K9 : ms_H, K9 = ms_up G_1 c (.inr (0, [.int 0, .int 0, .int 2, .int 3, .null, .null, .null, .null, .null, .null])) := ⟨_, rfl⟩
  refine ms_W.heq eG_4 ?_
  have hF_5 : ms_fr c 29 G G_4 := by rw [eG_4]; exact ms_fr.up hF_2 (by omega)
  have hf_6 : G_4 c = some (.inr (0, [.int 0, .int 0, .int 2, .int 3, .null, .null, .null, .null, .null, .null])) := by rw [eG_4]; exact ms_up_s _ _ _
  refine ms_run (pc' := 17) (lv' := [(0, .ref c), (1, .ref g), (2, .ref q)]) (st' := [.int 24, .ref c]) _ (ms_deC dX0_init_14 (ms_deC dX0_init_15 ms_deN)) rfl rfl ?_
  refine ms_W.room (k2 := 1 + 27) (z2 := 24 + 852) ?_ (by omega) (by omega)
  refine ms_newQ (N := 24) dX0_init_17 al_X0_18 (by decide) rfl (Nat.le_of_ble_eq_true rfl) ?_
  obtain ⟨G_7, eG_7⟩ : ∃ K9 : ms_H, K9 = ms_up G_4 (c + 1) (.inl (3, 24, .inr (.inr (.inr (.inr (fun _ => none)))))) := ⟨_, rfl⟩
  refine ms_W.heq eG_7 ?_
  have hF_8 : ms_fr c 29 G G_7 := by rw [eG_7]; exact ms_fr.up hF_5 (by omega)
  have hf_9 := (congrFun eG_7 c).trans ((ms_up_n G_4 _ (by omega)).trans hf_6)
  have hf_10 : G_7 (c + 1) = some (.inl (3, 24, .inr (.inr (.inr (.inr (fun _ => none)))))) := by rw [eG_7]; exact ms_up_s _ _ _
  refine ms_putF dX0_init_20 fp_X0_20 rfl hf_9 (Nat.le_of_ble_eq_true rfl) rfl rfl ?_
  obtain ⟨G_11, eG_11⟩ : ∃ K9 : ms_H, K9 = ms_up G_7 c (.inr (0, [.int 0, .int 0, .int 2, .int 3, .null, .null, .ref (c + 1), .null, .null, .null])) := ⟨_, rfl⟩
  refine ms_W.heq eG_11 ?_
  have hF_12 : ms_fr c 29 G G_11 := by rw [eG_11]; exact ms_fr.up hF_8 (by omega)
  have hf_13 : G_11 c = some (.inr (0, [.int 0, .int 0, .int 2, .int 3, .null, .null, .ref (c + 1), .null, .null, .null])) := by rw [eG_11]; exact ms_up_s _ _ _
  have hf_14 := (congrFun eG_11 (c + 1)).trans ((ms_up_n G_7 _ (by omega)).trans hf_10)
  refine ms_run (pc' := 27) (lv' := [(0, .ref c), (1, .ref g), (2, .ref q)]) (st' := [.int 196, .ref c]) _ (ms_deC dX0_init_23 (ms_deC dX0_init_24 ms_deN)) rfl rfl ?_
  refine ms_W.room (k2 := 1 + 26) (z2 := 196 + 656) ?_ (by omega) (by omega)
  refine ms_newI (N := 196) dX0_init_27 aw_int (by decide) (rfl) (Nat.le_of_ble_eq_true rfl) ?_
  obtain ⟨G_15, eG_15⟩ : ∃ K9 : ms_H, K9 = ms_up G_11 (c + 2) (.inl (0, 196, .inl (fun _ => 0))) := ⟨_, rfl⟩
  refine ms_W.heq eG_15 ?_
  have hF_16 : ms_fr c 29 G G_15 := by rw [eG_15]; exact ms_fr.up hF_12 (by omega)
  have hf_17 := (congrFun eG_15 c).trans ((ms_up_n G_11 _ (by omega)).trans hf_13)
  have hf_18 := (congrFun eG_15 (c + 1)).trans ((ms_up_n G_11 _ (by omega)).trans hf_14)
  have hf_19 : G_15 (c + 2) = some (.inl (0, 196, .inl (fun _ => 0))) := by rw [eG_15]; exact ms_up_s _ _ _
  refine ms_putF dX0_init_29 fp_X0_24 rfl hf_17 (Nat.le_of_ble_eq_true rfl) rfl rfl ?_
  obtain ⟨G_20, eG_20⟩ : ∃ K9 : ms_H, K9 = ms_up G_15 c (.inr (0, [.int 0, .int 0, .int 2, .int 3, .null, .null, .ref (c + 1), .ref (c + 2), .null, .null])) := ⟨_, rfl⟩
  refine ms_W.heq eG_20 ?_
  have hF_21 : ms_fr c 29 G G_20 := by rw [eG_20]; exact ms_fr.up hF_16 (by omega)
  have hf_22 : G_20 c = some (.inr (0, [.int 0, .int 0, .int 2, .int 3, .null, .null, .ref (c + 1), .ref (c + 2), .null, .null])) := by rw [eG_20]; exact ms_up_s _ _ _
  have hf_23 := (congrFun eG_20 (c + 1)).trans ((ms_up_n G_15 _ (by omega)).trans hf_18)
  have hf_24 := (congrFun eG_20 (c + 2)).trans ((ms_up_n G_15 _ (by omega)).trans hf_19)
  refine ms_run (pc' := 36) (lv' := [(0, .ref c), (1, .ref g), (2, .ref q)]) (st' := [.int 196, .ref c]) _ (ms_deC dX0_init_32 (ms_deC dX0_init_33 ms_deN)) rfl rfl ?_
  refine ms_W.room (k2 := 1 + 25) (z2 := 196 + 460) ?_ (by omega) (by omega)
  refine ms_newI (N := 196) dX0_init_36 aw_int (by decide) (rfl) (Nat.le_of_ble_eq_true rfl) ?_
  obtain ⟨G_25, eG_25⟩ : ∃ K9 : ms_H, K9 = ms_up G_20 (c + 3) (.inl (0, 196, .inl (fun _ => 0))) := ⟨_, rfl⟩
  refine ms_W.heq eG_25 ?_
  have hF_26 : ms_fr c 29 G G_25 := by rw [eG_25]; exact ms_fr.up hF_21 (by omega)
  have hf_27 := (congrFun eG_25 c).trans ((ms_up_n G_20 _ (by omega)).trans hf_22)
  have hf_28 := (congrFun eG_25 (c + 1)).trans ((ms_up_n G_20 _ (by omega)).trans hf_23)
  have hf_29 := (congrFun eG_25 (c + 2)).trans ((ms_up_n G_20 _ (by omega)).trans hf_24)
  have hf_30 : G_25 (c + 3) = some (.inl (0, 196, .inl (fun _ => 0))) := by rw [eG_25]; exact ms_up_s _ _ _
  refine ms_putF dX0_init_38 fp_X0_28 rfl hf_27 (Nat.le_of_ble_eq_true rfl) rfl rfl ?_
  obtain ⟨G_31, eG_31⟩ : ∃ K9 : ms_H, K9 = ms_up G_25 c (.inr (0, [.int 0, .int 0, .int 2, .int 3, .null, .null, .ref (c + 1), .ref (c + 2), .ref (c + 3), .null])) := ⟨_, rfl⟩
  refine ms_W.heq eG_31 ?_
  have hF_32 : ms_fr c 29 G G_31 := by rw [eG_31]; exact ms_fr.up hF_26 (by omega)
  have hf_33 : G_31 c = some (.inr (0, [.int 0, .int 0, .int 2, .int 3, .null, .null, .ref (c + 1), .ref (c + 2), .ref (c + 3), .null])) := by rw [eG_31]; exact ms_up_s _ _ _
  have hf_34 := (congrFun eG_31 (c + 1)).trans ((ms_up_n G_25 _ (by omega)).trans hf_28)
  have hf_35 := (congrFun eG_31 (c + 2)).trans ((ms_up_n G_25 _ (by omega)).trans hf_29)
  have hf_36 := (congrFun eG_31 (c + 3)).trans ((ms_up_n G_25 _ (by omega)).trans hf_30)
  refine ms_run (pc' := 45) (lv' := [(0, .ref c), (1, .ref g), (2, .ref q)]) (st' := [.int 196, .ref c]) _ (ms_deC dX0_init_41 (ms_deC dX0_init_42 ms_deN)) rfl rfl ?_
  refine ms_W.room (k2 := 1 + 24) (z2 := 196 + 264) ?_ (by omega) (by omega)
  refine ms_newI (N := 196) dX0_init_45 aw_int (by decide) (rfl) (Nat.le_of_ble_eq_true rfl) ?_
  obtain ⟨G_37, eG_37⟩ : ∃ K9 : ms_H, K9 = ms_up G_31 (c + 4) (.inl (0, 196, .inl (fun _ => 0))) := ⟨_, rfl⟩
  refine ms_W.heq eG_37 ?_
  have hF_38 : ms_fr c 29 G G_37 := by rw [eG_37]; exact ms_fr.up hF_32 (by omega)
  have hf_39 := (congrFun eG_37 c).trans ((ms_up_n G_31 _ (by omega)).trans hf_33)
  have hf_40 := (congrFun eG_37 (c + 1)).trans ((ms_up_n G_31 _ (by omega)).trans hf_34)
  have hf_41 := (congrFun eG_37 (c + 2)).trans ((ms_up_n G_31 _ (by omega)).trans hf_35)
  have hf_42 := (congrFun eG_37 (c + 3)).trans ((ms_up_n G_31 _ (by omega)).trans hf_36)
  have hf_43 : G_37 (c + 4) = some (.inl (0, 196, .inl (fun _ => 0))) := by rw [eG_37]; exact ms_up_s _ _ _
  refine ms_putF dX0_init_47 fp_X0_31 rfl hf_39 (Nat.le_of_ble_eq_true rfl) rfl rfl ?_
  obtain ⟨G_44, eG_44⟩ : ∃ K9 : ms_H, K9 = ms_up G_37 c (.inr (0, [.int 0, .int 0, .int 2, .int 3, .null, .null, .ref (c + 1), .ref (c + 2), .ref (c + 3), .ref (c + 4)])) := ⟨_, rfl⟩
  refine ms_W.heq eG_44 ?_
  have hF_45 : ms_fr c 29 G G_44 := by rw [eG_44]; exact ms_fr.up hF_38 (by omega)
  have hf_46 : G_44 c = some (.inr (0, [.int 0, .int 0, .int 2, .int 3, .null, .null, .ref (c + 1), .ref (c + 2), .ref (c + 3), .ref (c + 4)])) := by rw [eG_44]; exact ms_up_s _ _ _
  have hf_47 := (congrFun eG_44 (c + 1)).trans ((ms_up_n G_37 _ (by omega)).trans hf_40)
  have hf_48 := (congrFun eG_44 (c + 2)).trans ((ms_up_n G_37 _ (by omega)).trans hf_41)
  have hf_49 := (congrFun eG_44 (c + 3)).trans ((ms_up_n G_37 _ (by omega)).trans hf_42)
  have hf_50 := (congrFun eG_44 (c + 4)).trans ((ms_up_n G_37 _ (by omega)).trans hf_43)
  refine ms_run (pc' := 52) (lv' := [(0, .ref c), (1, .ref g), (2, .ref q)]) (st' := [.ref g, .ref c]) _ (ms_deC dX0_init_50 (ms_deC dX0_init_51 ms_deN)) rfl rfl ?_
  refine ms_putF dX0_init_52 fp_X0_34 rfl hf_46 (Nat.le_of_ble_eq_true rfl) rfl rfl ?_
  obtain ⟨G_51, eG_51⟩ : ∃ K9 : ms_H, K9 = ms_up G_44 c (.inr (0, [.int 0, .int 0, .int 2, .int 3, .ref g, .null, .ref (c + 1), .ref (c + 2), .ref (c + 3), .ref (c + 4)])) := ⟨_, rfl⟩
  refine ms_W.heq eG_51 ?_
  have hF_52 : ms_fr c 29 G G_51 := by rw [eG_51]; exact ms_fr.up hF_45 (by omega)
  have hf_53 : G_51 c = some (.inr (0, [.int 0, .int 0, .int 2, .int 3, .ref g, .null, .ref (c + 1), .ref (c + 2), .ref (c + 3), .ref (c + 4)])) := by rw [eG_51]; exact ms_up_s _ _ _
  have hf_54 := (congrFun eG_51 (c + 1)).trans ((ms_up_n G_44 _ (by omega)).trans hf_47)
  have hf_55 := (congrFun eG_51 (c + 2)).trans ((ms_up_n G_44 _ (by omega)).trans hf_48)
  have hf_56 := (congrFun eG_51 (c + 3)).trans ((ms_up_n G_44 _ (by omega)).trans hf_49)
  have hf_57 := (congrFun eG_51 (c + 4)).trans ((ms_up_n G_44 _ (by omega)).trans hf_50)
  refine ms_run (pc' := 57) (lv' := [(0, .ref c), (1, .ref g), (2, .ref q)]) (st' := [.ref q, .ref c]) _ (ms_deC dX0_init_55 (ms_deC dX0_init_56 ms_deN)) rfl rfl ?_
  refine ms_putF dX0_init_57 fp_X0_38 rfl hf_53 (Nat.le_of_ble_eq_true rfl) rfl rfl ?_
  obtain ⟨G_58, eG_58⟩ : ∃ K9 : ms_H, K9 = ms_up G_51 c (.inr (0, [.int 0, .int 0, .int 2, .int 3, .ref g, .ref q, .ref (c + 1), .ref (c + 2), .ref (c + 3), .ref (c + 4)])) := ⟨_, rfl⟩
  refine ms_W.heq eG_58 ?_
  have hF_59 : ms_fr c 29 G G_58 := by rw [eG_58]; exact ms_fr.up hF_52 (by omega)
  have hf_60 : G_58 c = some (.inr (0, [.int 0, .int 0, .int 2, .int 3, .ref g, .ref q, .ref (c + 1), .ref (c + 2), .ref (c + 3), .ref (c + 4)])) := by rw [eG_58]; exact ms_up_s _ _ _
  have hf_61 := (congrFun eG_58 (c + 1)).trans ((ms_up_n G_51 _ (by omega)).trans hf_54)
  have hf_62 := (congrFun eG_58 (c + 2)).trans ((ms_up_n G_51 _ (by omega)).trans hf_55)
  have hf_63 := (congrFun eG_58 (c + 3)).trans ((ms_up_n G_51 _ (by omega)).trans hf_56)
  have hf_64 := (congrFun eG_58 (c + 4)).trans ((ms_up_n G_51 _ (by omega)).trans hf_57)
  refine ms_run (pc' := 62) (lv' := [(3, .int 0), (0, .ref c), (1, .ref g), (2, .ref q)]) (st' := []) _ (ms_deC dX0_init_60 (ms_deC dX0_init_61 ms_deN)) rfl rfl ?_
  refine ms_W.sub (lv2 := [(0, _), (3, _)]) ?_ [1, 0] rfl
  exact l_X0_init 24 0 rfl G_58 hf_60 hf_61 hf_62 hf_63 hf_64 (fun i hi => absurd hi (Nat.not_lt_zero i)) hF_59

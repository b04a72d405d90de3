/-! the model: make, reset, the constructor -/
theorem nI_4x {W H : Nat} : 4 * nI W * nI H = nI (4 * (W * H)) := by rw [show (4 : Int32) = nI 4 from rfl, pk_mul, pk_mul, Nat.mul_assoc]
set_option maxHeartbeats 1000000 in
set_option maxRecDepth 20000 in
theorem c_X6_make0 {n m W2 H2 : Nat} {G : ms_H} {th w0 h0 cl dr pa c0 : Int32} (hW2 : W2 ≤ 14) (hH2 : H2 ≤ 14) (hl : m < n) (hm : G m = some (.inr (6, [.int th, .int w0, .int h0, .int cl, .int dr, .int pa, .null, .null, .int c0, .null, .null]))) : ms_M m_X6_make [.ref m, .int (nI W2), .int (nI H2)] n G 4 1368 (fun r9 n1 G1 => r9 = .inl none ∧ n1 = n + 4 ∧ ms_fb (fun a => a = m) n G G1 ∧ ∀ u, md_at G1 m n (n + 1) (n + 2) (n + 3) W2 H2 th 0 dr pa 0 (fun _ => 0) (fun _ => 0) (fun _ => 0) u) := by
  refine ms_M.of (by decide) (Nat.le_of_ble_eq_true rfl) ?_
  show ms_W false m_X6_make _ 0 [(0, .ref m), (1, .int (nI W2)), (2, .int (nI H2))] [] n G 4 1368
  have h196 := fd_196 hW2 hH2
  have hF : ms_fb (fun a => a = m) n G G := ms_fb.rf
  refine ms_run (pc' := 2) (lv' := [(0, .ref m), (1, .int (nI W2)), (2, .int (nI H2))]) (st' := [.int (nI W2), .ref m]) _ (ms_deC dX6_make_0 (ms_deC dX6_make_1 ms_deN)) rfl rfl ?_
  refine ms_putf dX6_make_2 fp_X6_20 hm (Nat.le_of_ble_eq_true rfl) rfl rfl ?_
  obtain ⟨G_1, eG_1⟩ : ∃ K9 : ms_H, K9 = ms_up G m (.inr (6, [.int th, .int (nI W2), .int h0, .int cl, .int dr, .int pa, .null, .null, .int c0, .null, .null])) := ⟨_, rfl⟩
  refine ms_W.heq eG_1 ?_
  have hF_2 : ms_fb (fun a => a = m) n G G_1 := by rw [eG_1]; exact ms_fb.up hF (by first | exact Or.inl (by omega) | exact Or.inr rfl | exact Or.inr (Or.inl rfl) | exact Or.inr (Or.inr (Or.inl rfl)) | exact Or.inr (Or.inr (Or.inr rfl)) | exact Or.inr (Or.inr rfl) | exact Or.inr (Or.inr (Or.inr (Or.inl rfl))) | exact Or.inr (Or.inr (Or.inr (Or.inr (Or.inl rfl)))) | exact Or.inr (Or.inr (Or.inr (Or.inr (Or.inr rfl)))))
  have hf_3 : G_1 m = some (.inr (6, [.int th, .int (nI W2), .int h0, .int cl, .int dr, .int pa, .null, .null, .int c0, .null, .null])) := by rw [eG_1]; exact ms_up_s _ _ _
  refine ms_run (pc' := 7) (lv' := [(0, .ref m), (1, .int (nI W2)), (2, .int (nI H2))]) (st' := [.int (nI H2), .ref m]) _ (ms_deC dX6_make_5 (ms_deC dX6_make_6 ms_deN)) rfl rfl ?_
  refine ms_putf dX6_make_7 fp_X6_23 hf_3 (Nat.le_of_ble_eq_true rfl) rfl rfl ?_
  obtain ⟨G_4, eG_4⟩ : ∃ K9 : ms_H, K9 = ms_up G_1 m (.inr (6, [.int th, .int (nI W2), .int (nI H2), .int cl, .int dr, .int pa, .null, .null, .int c0, .null, .null])) := ⟨_, rfl⟩
  refine ms_W.heq eG_4 ?_
  have hF_5 : ms_fb (fun a => a = m) n G G_4 := by rw [eG_4]; exact ms_fb.up hF_2 (by first | exact Or.inl (by omega) | exact Or.inr rfl | exact Or.inr (Or.inl rfl) | exact Or.inr (Or.inr (Or.inl rfl)) | exact Or.inr (Or.inr (Or.inr rfl)) | exact Or.inr (Or.inr rfl) | exact Or.inr (Or.inr (Or.inr (Or.inl rfl))) | exact Or.inr (Or.inr (Or.inr (Or.inr (Or.inl rfl)))) | exact Or.inr (Or.inr (Or.inr (Or.inr (Or.inr rfl)))))
  have hf_6 : G_4 m = some (.inr (6, [.int th, .int (nI W2), .int (nI H2), .int cl, .int dr, .int pa, .null, .null, .int c0, .null, .null])) := by rw [eG_4]; exact ms_up_s _ _ _
  refine ms_run (pc' := 12) (lv' := [(0, .ref m), (1, .int (nI W2)), (2, .int (nI H2))]) (st' := [.int 0, .ref m]) _ (ms_deC dX6_make_10 (ms_deC dX6_make_11 ms_deN)) rfl rfl ?_
  refine ms_putf dX6_make_12 fp_X6_26 hf_6 (Nat.le_of_ble_eq_true rfl) rfl rfl ?_
  obtain ⟨G_7, eG_7⟩ : ∃ K9 : ms_H, K9 = ms_up G_4 m (.inr (6, [.int th, .int (nI W2), .int (nI H2), .int 0, .int dr, .int pa, .null, .null, .int c0, .null, .null])) := ⟨_, rfl⟩
  refine ms_W.heq eG_7 ?_
  have hF_8 : ms_fb (fun a => a = m) n G G_7 := by rw [eG_7]; exact ms_fb.up hF_5 (by first | exact Or.inl (by omega) | exact Or.inr rfl | exact Or.inr (Or.inl rfl) | exact Or.inr (Or.inr (Or.inl rfl)) | exact Or.inr (Or.inr (Or.inr rfl)) | exact Or.inr (Or.inr rfl) | exact Or.inr (Or.inr (Or.inr (Or.inl rfl))) | exact Or.inr (Or.inr (Or.inr (Or.inr (Or.inl rfl)))) | exact Or.inr (Or.inr (Or.inr (Or.inr (Or.inr rfl)))))
  have hf_9 : G_7 m = some (.inr (6, [.int th, .int (nI W2), .int (nI H2), .int 0, .int dr, .int pa, .null, .null, .int c0, .null, .null])) := by rw [eG_7]; exact ms_up_s _ _ _
  refine ms_run (pc' := 17) (lv' := [(0, .ref m), (1, .int (nI W2)), (2, .int (nI H2))]) (st' := [.ref m, .ref m]) _ (ms_deC dX6_make_15 (ms_deC dX6_make_16 ms_deN)) rfl rfl ?_
  refine ms_getf dX6_make_17 fg_X6_20 hf_9 rfl ?_
  refine ms_run (pc' := 21) (lv' := [(0, .ref m), (1, .int (nI W2)), (2, .int (nI H2))]) (st' := [.ref m, .int (nI W2), .ref m]) _ (ms_deC dX6_make_20 ms_deN) rfl rfl ?_
  refine ms_getf dX6_make_21 fg_X6_23 hf_9 rfl ?_
  refine ms_run (pc' := 25) (lv' := [(0, .ref m), (1, .int (nI W2)), (2, .int (nI H2))]) (st' := [.int ((nI W2) * (nI H2)), .ref m]) _ (ms_deC dX6_make_24 ms_deN) rfl rfl ?_
  rw [show nI W2 * nI H2 = nI (W2 * H2) from pk_mul W2 H2]
  refine ms_W.room (k2 := 1 + 3) (z2 := (W2 * H2) + 1172) ?_ (by omega) (by omega)
  refine ms_newZ (N := (W2 * H2)) dX6_make_25 aw_boolean (nI_pos (by omega)) (nI_clamp (by omega)) (by omega) ?_
  obtain ⟨G_10, eG_10⟩ : ∃ K9 : ms_H, K9 = ms_up G_7 n (.inl (1, (W2 * H2), .inl (fun _ => 0))) := ⟨_, rfl⟩
  refine ms_W.heq eG_10 ?_
  have hF_11 : ms_fb (fun a => a = m) n G G_10 := by rw [eG_10]; exact ms_fb.up hF_8 (by first | exact Or.inl (by omega) | exact Or.inr rfl | exact Or.inr (Or.inl rfl) | exact Or.inr (Or.inr (Or.inl rfl)) | exact Or.inr (Or.inr (Or.inr rfl)) | exact Or.inr (Or.inr rfl) | exact Or.inr (Or.inr (Or.inr (Or.inl rfl))) | exact Or.inr (Or.inr (Or.inr (Or.inr (Or.inl rfl)))) | exact Or.inr (Or.inr (Or.inr (Or.inr (Or.inr rfl)))))
  have hf_12 := (congrFun eG_10 m).trans ((ms_up_n G_7 _ (by omega)).trans hf_9)
  have hf_13 : G_10 n = some (.inl (1, (W2 * H2), .inl (fun _ => 0))) := by rw [eG_10]; exact ms_up_s _ _ _
  refine ms_putf dX6_make_27 fp_X6_29 hf_12 (Nat.le_of_ble_eq_true rfl) rfl rfl ?_
  obtain ⟨G_14, eG_14⟩ : ∃ K9 : ms_H, K9 = ms_up G_10 m (.inr (6, [.int th, .int (nI W2), .int (nI H2), .int 0, .int dr, .int pa, .ref n, .null, .int c0, .null, .null])) := ⟨_, rfl⟩
  refine ms_W.heq eG_14 ?_
  have hF_15 : ms_fb (fun a => a = m) n G G_14 := by rw [eG_14]; exact ms_fb.up hF_11 (by first | exact Or.inl (by omega) | exact Or.inr rfl | exact Or.inr (Or.inl rfl) | exact Or.inr (Or.inr (Or.inl rfl)) | exact Or.inr (Or.inr (Or.inr rfl)) | exact Or.inr (Or.inr rfl) | exact Or.inr (Or.inr (Or.inr (Or.inl rfl))) | exact Or.inr (Or.inr (Or.inr (Or.inr (Or.inl rfl)))) | exact Or.inr (Or.inr (Or.inr (Or.inr (Or.inr rfl)))))
  have hf_16 : G_14 m = some (.inr (6, [.int th, .int (nI W2), .int (nI H2), .int 0, .int dr, .int pa, .ref n, .null, .int c0, .null, .null])) := by rw [eG_14]; exact ms_up_s _ _ _
  have hf_17 := (congrFun eG_14 n).trans ((ms_up_n G_10 _ (by omega)).trans hf_13)
  refine ms_run (pc' := 33) (lv' := [(0, .ref m), (1, .int (nI W2)), (2, .int (nI H2))]) (st' := [.ref m, .int 4, .ref m]) _ (ms_deC dX6_make_30 (ms_deC dX6_make_31 (ms_deC dX6_make_32 ms_deN))) rfl rfl ?_
  refine ms_getf dX6_make_33 fg_X6_20 hf_16 rfl ?_
  refine ms_run (pc' := 38) (lv' := [(0, .ref m), (1, .int (nI W2)), (2, .int (nI H2))]) (st' := [.ref m, .int (4 * (nI W2)), .ref m]) _ (ms_deC dX6_make_36 (ms_deC dX6_make_37 ms_deN)) rfl rfl ?_
  refine ms_getf dX6_make_38 fg_X6_23 hf_16 rfl ?_
  refine ms_run (pc' := 42) (lv' := [(0, .ref m), (1, .int (nI W2)), (2, .int (nI H2))]) (st' := [.int ((4 * (nI W2)) * (nI H2)), .ref m]) _ (ms_deC dX6_make_41 ms_deN) rfl rfl ?_
  rw [nI_4x (W := W2) (H := H2)]
  refine ms_W.room (k2 := 1 + 2) (z2 := (4 * (W2 * H2)) + 388) ?_ (by omega) (by omega)
  refine ms_newZ (N := (4 * (W2 * H2))) dX6_make_42 aw_boolean (nI_pos (by omega)) (nI_clamp (by omega)) (by omega) ?_
  obtain ⟨G_18, eG_18⟩ : ∃ K9 : ms_H, K9 = ms_up G_14 (n + 1) (.inl (1, (4 * (W2 * H2)), .inl (fun _ => 0))) := ⟨_, rfl⟩
  refine ms_W.heq eG_18 ?_
  have hF_19 : ms_fb (fun a => a = m) n G G_18 := by rw [eG_18]; exact ms_fb.up hF_15 (by first | exact Or.inl (by omega) | exact Or.inr rfl | exact Or.inr (Or.inl rfl) | exact Or.inr (Or.inr (Or.inl rfl)) | exact Or.inr (Or.inr (Or.inr rfl)) | exact Or.inr (Or.inr rfl) | exact Or.inr (Or.inr (Or.inr (Or.inl rfl))) | exact Or.inr (Or.inr (Or.inr (Or.inr (Or.inl rfl)))) | exact Or.inr (Or.inr (Or.inr (Or.inr (Or.inr rfl)))))
  have hf_20 := (congrFun eG_18 m).trans ((ms_up_n G_14 _ (by omega)).trans hf_16)
  have hf_21 := (congrFun eG_18 n).trans ((ms_up_n G_14 _ (by omega)).trans hf_17)
  have hf_22 : G_18 (n + 1) = some (.inl (1, (4 * (W2 * H2)), .inl (fun _ => 0))) := by rw [eG_18]; exact ms_up_s _ _ _
  refine ms_putf dX6_make_44 fp_X6_33 hf_20 (Nat.le_of_ble_eq_true rfl) rfl rfl ?_
  obtain ⟨G_23, eG_23⟩ : ∃ K9 : ms_H, K9 = ms_up G_18 m (.inr (6, [.int th, .int (nI W2), .int (nI H2), .int 0, .int dr, .int pa, .ref n, .ref (n + 1), .int c0, .null, .null])) := ⟨_, rfl⟩
  refine ms_W.heq eG_23 ?_
  have hF_24 : ms_fb (fun a => a = m) n G G_23 := by rw [eG_23]; exact ms_fb.up hF_19 (by first | exact Or.inl (by omega) | exact Or.inr rfl | exact Or.inr (Or.inl rfl) | exact Or.inr (Or.inr (Or.inl rfl)) | exact Or.inr (Or.inr (Or.inr rfl)) | exact Or.inr (Or.inr rfl) | exact Or.inr (Or.inr (Or.inr (Or.inl rfl))) | exact Or.inr (Or.inr (Or.inr (Or.inr (Or.inl rfl)))) | exact Or.inr (Or.inr (Or.inr (Or.inr (Or.inr rfl)))))
  have hf_25 : G_23 m = some (.inr (6, [.int th, .int (nI W2), .int (nI H2), .int 0, .int dr, .int pa, .ref n, .ref (n + 1), .int c0, .null, .null])) := by rw [eG_23]; exact ms_up_s _ _ _
  have hf_26 := (congrFun eG_23 n).trans ((ms_up_n G_18 _ (by omega)).trans hf_21)
  have hf_27 := (congrFun eG_23 (n + 1)).trans ((ms_up_n G_18 _ (by omega)).trans hf_22)
  refine ms_run (pc' := 49) (lv' := [(0, .ref m), (1, .int (nI W2)), (2, .int (nI H2))]) (st' := [.int 0, .ref m]) _ (ms_deC dX6_make_47 (ms_deC dX6_make_48 ms_deN)) rfl rfl ?_
  refine ms_putf dX6_make_49 fp_X6_36 hf_25 (Nat.le_of_ble_eq_true rfl) rfl rfl ?_
  obtain ⟨G_28, eG_28⟩ : ∃ K9 : ms_H, K9 = ms_up G_23 m (.inr (6, [.int th, .int (nI W2), .int (nI H2), .int 0, .int dr, .int pa, .ref n, .ref (n + 1), .int 0, .null, .null])) := ⟨_, rfl⟩
  refine ms_W.heq eG_28 ?_
  have hF_29 : ms_fb (fun a => a = m) n G G_28 := by rw [eG_28]; exact ms_fb.up hF_24 (by first | exact Or.inl (by omega) | exact Or.inr rfl | exact Or.inr (Or.inl rfl) | exact Or.inr (Or.inr (Or.inl rfl)) | exact Or.inr (Or.inr (Or.inr rfl)) | exact Or.inr (Or.inr rfl) | exact Or.inr (Or.inr (Or.inr (Or.inl rfl))) | exact Or.inr (Or.inr (Or.inr (Or.inr (Or.inl rfl)))) | exact Or.inr (Or.inr (Or.inr (Or.inr (Or.inr rfl)))))
  have hf_30 : G_28 m = some (.inr (6, [.int th, .int (nI W2), .int (nI H2), .int 0, .int dr, .int pa, .ref n, .ref (n + 1), .int 0, .null, .null])) := by rw [eG_28]; exact ms_up_s _ _ _
  have hf_31 := (congrFun eG_28 n).trans ((ms_up_n G_23 _ (by omega)).trans hf_26)
  have hf_32 := (congrFun eG_28 (n + 1)).trans ((ms_up_n G_23 _ (by omega)).trans hf_27)
  refine ms_run (pc' := 56) (lv' := [(0, .ref m), (1, .int (nI W2)), (2, .int (nI H2))]) (st' := [.int 192, .ref m]) _ (ms_deC dX6_make_52 (ms_deC dX6_make_53 ms_deN)) rfl rfl ?_
  refine ms_W.room (k2 := 1 + 1) (z2 := 192 + 196) ?_ (by omega) (by omega)
  refine ms_newI (N := 192) dX6_make_56 aw_int (by decide) (rfl) (Nat.le_of_ble_eq_true rfl) ?_
  obtain ⟨G_33, eG_33⟩ : ∃ K9 : ms_H, K9 = ms_up G_28 (n + 2) (.inl (0, 192, .inl (fun _ => 0))) := ⟨_, rfl⟩
  refine ms_W.heq eG_33 ?_
  have hF_34 : ms_fb (fun a => a = m) n G G_33 := by rw [eG_33]; exact ms_fb.up hF_29 (by first | exact Or.inl (by omega) | exact Or.inr rfl | exact Or.inr (Or.inl rfl) | exact Or.inr (Or.inr (Or.inl rfl)) | exact Or.inr (Or.inr (Or.inr rfl)) | exact Or.inr (Or.inr rfl) | exact Or.inr (Or.inr (Or.inr (Or.inl rfl))) | exact Or.inr (Or.inr (Or.inr (Or.inr (Or.inl rfl)))) | exact Or.inr (Or.inr (Or.inr (Or.inr (Or.inr rfl)))))
  have hf_35 := (congrFun eG_33 m).trans ((ms_up_n G_28 _ (by omega)).trans hf_30)
  have hf_36 := (congrFun eG_33 n).trans ((ms_up_n G_28 _ (by omega)).trans hf_31)
  have hf_37 := (congrFun eG_33 (n + 1)).trans ((ms_up_n G_28 _ (by omega)).trans hf_32)
  have hf_38 : G_33 (n + 2) = some (.inl (0, 192, .inl (fun _ => 0))) := by rw [eG_33]; exact ms_up_s _ _ _
  refine ms_putf dX6_make_58 fp_X6_39 hf_35 (Nat.le_of_ble_eq_true rfl) rfl rfl ?_
  obtain ⟨G_39, eG_39⟩ : ∃ K9 : ms_H, K9 = ms_up G_33 m (.inr (6, [.int th, .int (nI W2), .int (nI H2), .int 0, .int dr, .int pa, .ref n, .ref (n + 1), .int 0, .ref (n + 2), .null])) := ⟨_, rfl⟩
  refine ms_W.heq eG_39 ?_
  have hF_40 : ms_fb (fun a => a = m) n G G_39 := by rw [eG_39]; exact ms_fb.up hF_34 (by first | exact Or.inl (by omega) | exact Or.inr rfl | exact Or.inr (Or.inl rfl) | exact Or.inr (Or.inr (Or.inl rfl)) | exact Or.inr (Or.inr (Or.inr rfl)) | exact Or.inr (Or.inr rfl) | exact Or.inr (Or.inr (Or.inr (Or.inl rfl))) | exact Or.inr (Or.inr (Or.inr (Or.inr (Or.inl rfl)))) | exact Or.inr (Or.inr (Or.inr (Or.inr (Or.inr rfl)))))
  have hf_41 : G_39 m = some (.inr (6, [.int th, .int (nI W2), .int (nI H2), .int 0, .int dr, .int pa, .ref n, .ref (n + 1), .int 0, .ref (n + 2), .null])) := by rw [eG_39]; exact ms_up_s _ _ _
  have hf_42 := (congrFun eG_39 n).trans ((ms_up_n G_33 _ (by omega)).trans hf_36)
  have hf_43 := (congrFun eG_39 (n + 1)).trans ((ms_up_n G_33 _ (by omega)).trans hf_37)
  have hf_44 := (congrFun eG_39 (n + 2)).trans ((ms_up_n G_33 _ (by omega)).trans hf_38)
  refine ms_run (pc' := 63) (lv' := [(0, .ref m), (1, .int (nI W2)), (2, .int (nI H2))]) (st' := [.ref m, .ref m]) _ (ms_deC dX6_make_61 (ms_deC dX6_make_62 ms_deN)) rfl rfl ?_
  refine ms_getf dX6_make_63 fg_X6_20 hf_41 rfl ?_
  refine ms_run (pc' := 67) (lv' := [(0, .ref m), (1, .int (nI W2)), (2, .int (nI H2))]) (st' := [.ref m, .int (nI W2), .ref m]) _ (ms_deC dX6_make_66 ms_deN) rfl rfl ?_
  refine ms_getf dX6_make_67 fg_X6_23 hf_41 rfl ?_
  refine ms_run (pc' := 71) (lv' := [(0, .ref m), (1, .int (nI W2)), (2, .int (nI H2))]) (st' := [.int ((nI W2) * (nI H2)), .ref m]) _ (ms_deC dX6_make_70 ms_deN) rfl rfl ?_
  rw [show nI W2 * nI H2 = nI (W2 * H2) from pk_mul W2 H2]
  refine ms_W.room (k2 := 1 + 0) (z2 := (W2 * H2) + 0) ?_ (by omega) (by omega)
  refine ms_newI (N := (W2 * H2)) dX6_make_71 aw_int (nI_pos (by omega)) (nI_clamp (by omega)) (by omega) ?_
  obtain ⟨G_45, eG_45⟩ : ∃ K9 : ms_H, K9 = ms_up G_39 (n + 3) (.inl (0, (W2 * H2), .inl (fun _ => 0))) := ⟨_, rfl⟩
  refine ms_W.heq eG_45 ?_
  have hF_46 : ms_fb (fun a => a = m) n G G_45 := by rw [eG_45]; exact ms_fb.up hF_40 (by first | exact Or.inl (by omega) | exact Or.inr rfl | exact Or.inr (Or.inl rfl) | exact Or.inr (Or.inr (Or.inl rfl)) | exact Or.inr (Or.inr (Or.inr rfl)) | exact Or.inr (Or.inr rfl) | exact Or.inr (Or.inr (Or.inr (Or.inl rfl))) | exact Or.inr (Or.inr (Or.inr (Or.inr (Or.inl rfl)))) | exact Or.inr (Or.inr (Or.inr (Or.inr (Or.inr rfl)))))
  have hf_47 := (congrFun eG_45 m).trans ((ms_up_n G_39 _ (by omega)).trans hf_41)
  have hf_48 := (congrFun eG_45 n).trans ((ms_up_n G_39 _ (by omega)).trans hf_42)
  have hf_49 := (congrFun eG_45 (n + 1)).trans ((ms_up_n G_39 _ (by omega)).trans hf_43)
  have hf_50 := (congrFun eG_45 (n + 2)).trans ((ms_up_n G_39 _ (by omega)).trans hf_44)
  have hf_51 : G_45 (n + 3) = some (.inl (0, (W2 * H2), .inl (fun _ => 0))) := by rw [eG_45]; exact ms_up_s _ _ _
  refine ms_putf dX6_make_73 fp_X6_43 hf_47 (Nat.le_of_ble_eq_true rfl) rfl rfl ?_
  obtain ⟨G_52, eG_52⟩ : ∃ K9 : ms_H, K9 = ms_up G_45 m (.inr (6, [.int th, .int (nI W2), .int (nI H2), .int 0, .int dr, .int pa, .ref n, .ref (n + 1), .int 0, .ref (n + 2), .ref (n + 3)])) := ⟨_, rfl⟩
  refine ms_W.heq eG_52 ?_
  have hF_53 : ms_fb (fun a => a = m) n G G_52 := by rw [eG_52]; exact ms_fb.up hF_46 (by first | exact Or.inl (by omega) | exact Or.inr rfl | exact Or.inr (Or.inl rfl) | exact Or.inr (Or.inr (Or.inl rfl)) | exact Or.inr (Or.inr (Or.inr rfl)) | exact Or.inr (Or.inr rfl) | exact Or.inr (Or.inr (Or.inr (Or.inl rfl))) | exact Or.inr (Or.inr (Or.inr (Or.inr (Or.inl rfl)))) | exact Or.inr (Or.inr (Or.inr (Or.inr (Or.inr rfl)))))
  have hf_54 : G_52 m = some (.inr (6, [.int th, .int (nI W2), .int (nI H2), .int 0, .int dr, .int pa, .ref n, .ref (n + 1), .int 0, .ref (n + 2), .ref (n + 3)])) := by rw [eG_52]; exact ms_up_s _ _ _
  have hf_55 := (congrFun eG_52 n).trans ((ms_up_n G_45 _ (by omega)).trans hf_48)
  have hf_56 := (congrFun eG_52 (n + 1)).trans ((ms_up_n G_45 _ (by omega)).trans hf_49)
  have hf_57 := (congrFun eG_52 (n + 2)).trans ((ms_up_n G_45 _ (by omega)).trans hf_50)
  have hf_58 := (congrFun eG_52 (n + 3)).trans ((ms_up_n G_45 _ (by omega)).trans hf_51)
  refine ms_retv (st := []) dX6_make_76 rfl ?_
  exact ⟨rfl, rfl, hF_53, fun u => ⟨hf_54, hf_55, hf_56, ⟨_, hf_57, fun k hk => absurd hk (Nat.not_lt_zero k)⟩, hf_58⟩⟩
set_option maxHeartbeats 1000000 in
set_option maxRecDepth 20000 in
theorem c_X6_make {n m aw am ai ah W2 H2 : Nat} {G : ms_H} {th w0 h0 cl dr pa c0 : Int32} (hW2 : W2 ≤ 14) (hH2 : H2 ≤ 14) (hl : m < n) (hm : G m = some (.inr (6, [.int th, .int w0, .int h0, .int cl, .int dr, .int pa, .ref aw, .ref am, .int c0, .ref ai, .ref ah]))) : ms_M m_X6_make [.ref m, .int (nI W2), .int (nI H2)] n G 4 1368 (fun r9 n1 G1 => r9 = .inl none ∧ n1 = n + 4 ∧ ms_fb (fun a => a = m) n G G1 ∧ ∀ u, md_at G1 m n (n + 1) (n + 2) (n + 3) W2 H2 th 0 dr pa 0 (fun _ => 0) (fun _ => 0) (fun _ => 0) u) := by
  refine ms_M.of (by decide) (Nat.le_of_ble_eq_true rfl) ?_
  show ms_W false m_X6_make _ 0 [(0, .ref m), (1, .int (nI W2)), (2, .int (nI H2))] [] n G 4 1368
  have h196 := fd_196 hW2 hH2
  have hF : ms_fb (fun a => a = m) n G G := ms_fb.rf
  refine ms_run (pc' := 2) (lv' := [(0, .ref m), (1, .int (nI W2)), (2, .int (nI H2))]) (st' := [.int (nI W2), .ref m]) _ (ms_deC dX6_make_0 (ms_deC dX6_make_1 ms_deN)) rfl rfl ?_
  refine ms_putf dX6_make_2 fp_X6_20 hm (Nat.le_of_ble_eq_true rfl) rfl rfl ?_
  obtain ⟨G_1, eG_1⟩ : ∃ K9 : ms_H, K9 = ms_up G m (.inr (6, [.int th, .int (nI W2), .int h0, .int cl, .int dr, .int pa, .ref aw, .ref am, .int c0, .ref ai, .ref ah])) := ⟨_, rfl⟩
  refine ms_W.heq eG_1 ?_
  have hF_2 : ms_fb (fun a => a = m) n G G_1 := by rw [eG_1]; exact ms_fb.up hF (by first | exact Or.inl (by omega) | exact Or.inr rfl | exact Or.inr (Or.inl rfl) | exact Or.inr (Or.inr (Or.inl rfl)) | exact Or.inr (Or.inr (Or.inr rfl)) | exact Or.inr (Or.inr rfl) | exact Or.inr (Or.inr (Or.inr (Or.inl rfl))) | exact Or.inr (Or.inr (Or.inr (Or.inr (Or.inl rfl)))) | exact Or.inr (Or.inr (Or.inr (Or.inr (Or.inr rfl)))))
  have hf_3 : G_1 m = some (.inr (6, [.int th, .int (nI W2), .int h0, .int cl, .int dr, .int pa, .ref aw, .ref am, .int c0, .ref ai, .ref ah])) := by rw [eG_1]; exact ms_up_s _ _ _
  refine ms_run (pc' := 7) (lv' := [(0, .ref m), (1, .int (nI W2)), (2, .int (nI H2))]) (st' := [.int (nI H2), .ref m]) _ (ms_deC dX6_make_5 (ms_deC dX6_make_6 ms_deN)) rfl rfl ?_
  refine ms_putf dX6_make_7 fp_X6_23 hf_3 (Nat.le_of_ble_eq_true rfl) rfl rfl ?_
  obtain ⟨G_4, eG_4⟩ : ∃ K9 : ms_H, K9 = ms_up G_1 m (.inr (6, [.int th, .int (nI W2), .int (nI H2), .int cl, .int dr, .int pa, .ref aw, .ref am, .int c0, .ref ai, .ref ah])) := ⟨_, rfl⟩
  refine ms_W.heq eG_4 ?_
  have hF_5 : ms_fb (fun a => a = m) n G G_4 := by rw [eG_4]; exact ms_fb.up hF_2 (by first | exact Or.inl (by omega) | exact Or.inr rfl | exact Or.inr (Or.inl rfl) | exact Or.inr (Or.inr (Or.inl rfl)) | exact Or.inr (Or.inr (Or.inr rfl)) | exact Or.inr (Or.inr rfl) | exact Or.inr (Or.inr (Or.inr (Or.inl rfl))) | exact Or.inr (Or.inr (Or.inr (Or.inr (Or.inl rfl)))) | exact Or.inr (Or.inr (Or.inr (Or.inr (Or.inr rfl)))))
  have hf_6 : G_4 m = some (.inr (6, [.int th, .int (nI W2), .int (nI H2), .int cl, .int dr, .int pa, .ref aw, .ref am, .int c0, .ref ai, .ref ah])) := by rw [eG_4]; exact ms_up_s _ _ _
  refine ms_run (pc' := 12) (lv' := [(0, .ref m), (1, .int (nI W2)), (2, .int (nI H2))]) (st' := [.int 0, .ref m]) _ (ms_deC dX6_make_10 (ms_deC dX6_make_11 ms_deN)) rfl rfl ?_
  refine ms_putf dX6_make_12 fp_X6_26 hf_6 (Nat.le_of_ble_eq_true rfl) rfl rfl ?_
  obtain ⟨G_7, eG_7⟩ : ∃ K9 : ms_H, K9 = ms_up G_4 m (.inr (6, [.int th, .int (nI W2), .int (nI H2), .int 0, .int dr, .int pa, .ref aw, .ref am, .int c0, .ref ai, .ref ah])) := ⟨_, rfl⟩
  refine ms_W.heq eG_7 ?_
  have hF_8 : ms_fb (fun a => a = m) n G G_7 := by rw [eG_7]; exact ms_fb.up hF_5 (by first | exact Or.inl (by omega) | exact Or.inr rfl | exact Or.inr (Or.inl rfl) | exact Or.inr (Or.inr (Or.inl rfl)) | exact Or.inr (Or.inr (Or.inr rfl)) | exact Or.inr (Or.inr rfl) | exact Or.inr (Or.inr (Or.inr (Or.inl rfl))) | exact Or.inr (Or.inr (Or.inr (Or.inr (Or.inl rfl)))) | exact Or.inr (Or.inr (Or.inr (Or.inr (Or.inr rfl)))))
  have hf_9 : G_7 m = some (.inr (6, [.int th, .int (nI W2), .int (nI H2), .int 0, .int dr, .int pa, .ref aw, .ref am, .int c0, .ref ai, .ref ah])) := by rw [eG_7]; exact ms_up_s _ _ _
  refine ms_run (pc' := 17) (lv' := [(0, .ref m), (1, .int (nI W2)), (2, .int (nI H2))]) (st' := [.ref m, .ref m]) _ (ms_deC dX6_make_15 (ms_deC dX6_make_16 ms_deN)) rfl rfl ?_
  refine ms_getf dX6_make_17 fg_X6_20 hf_9 rfl ?_
  refine ms_run (pc' := 21) (lv' := [(0, .ref m), (1, .int (nI W2)), (2, .int (nI H2))]) (st' := [.ref m, .int (nI W2), .ref m]) _ (ms_deC dX6_make_20 ms_deN) rfl rfl ?_
  refine ms_getf dX6_make_21 fg_X6_23 hf_9 rfl ?_
  refine ms_run (pc' := 25) (lv' := [(0, .ref m), (1, .int (nI W2)), (2, .int (nI H2))]) (st' := [.int ((nI W2) * (nI H2)), .ref m]) _ (ms_deC dX6_make_24 ms_deN) rfl rfl ?_
  rw [show nI W2 * nI H2 = nI (W2 * H2) from pk_mul W2 H2]
  refine ms_W.room (k2 := 1 + 3) (z2 := (W2 * H2) + 1172) ?_ (by omega) (by omega)
  refine ms_newZ (N := (W2 * H2)) dX6_make_25 aw_boolean (nI_pos (by omega)) (nI_clamp (by omega)) (by omega) ?_
  obtain ⟨G_10, eG_10⟩ : ∃ K9 : ms_H, K9 = ms_up G_7 n (.inl (1, (W2 * H2), .inl (fun _ => 0))) := ⟨_, rfl⟩
  refine ms_W.heq eG_10 ?_
  have hF_11 : ms_fb (fun a => a = m) n G G_10 := by rw [eG_10]; exact ms_fb.up hF_8 (by first | exact Or.inl (by omega) | exact Or.inr rfl | exact Or.inr (Or.inl rfl) | exact Or.inr (Or.inr (Or.inl rfl)) | exact Or.inr (Or.inr (Or.inr rfl)) | exact Or.inr (Or.inr rfl) | exact Or.inr (Or.inr (Or.inr (Or.inl rfl))) | exact Or.inr (Or.inr (Or.inr (Or.inr (Or.inl rfl)))) | exact Or.inr (Or.inr (Or.inr (Or.inr (Or.inr rfl)))))
  have hf_12 := (congrFun eG_10 m).trans ((ms_up_n G_7 _ (by omega)).trans hf_9)
  have hf_13 : G_10 n = some (.inl (1, (W2 * H2), .inl (fun _ => 0))) := by rw [eG_10]; exact ms_up_s _ _ _
  refine ms_putf dX6_make_27 fp_X6_29 hf_12 (Nat.le_of_ble_eq_true rfl) rfl rfl ?_
  obtain ⟨G_14, eG_14⟩ : ∃ K9 : ms_H, K9 = ms_up G_10 m (.inr (6, [.int th, .int (nI W2), .int (nI H2), .int 0, .int dr, .int pa, .ref n, .ref am, .int c0, .ref ai, .ref ah])) := ⟨_, rfl⟩
  refine ms_W.heq eG_14 ?_
  have hF_15 : ms_fb (fun a => a = m) n G G_14 := by rw [eG_14]; exact ms_fb.up hF_11 (by first | exact Or.inl (by omega) | exact Or.inr rfl | exact Or.inr (Or.inl rfl) | exact Or.inr (Or.inr (Or.inl rfl)) | exact Or.inr (Or.inr (Or.inr rfl)) | exact Or.inr (Or.inr rfl) | exact Or.inr (Or.inr (Or.inr (Or.inl rfl))) | exact Or.inr (Or.inr (Or.inr (Or.inr (Or.inl rfl)))) | exact Or.inr (Or.inr (Or.inr (Or.inr (Or.inr rfl)))))
  have hf_16 : G_14 m = some (.inr (6, [.int th, .int (nI W2), .int (nI H2), .int 0, .int dr, .int pa, .ref n, .ref am, .int c0, .ref ai, .ref ah])) := by rw [eG_14]; exact ms_up_s _ _ _
  have hf_17 := (congrFun eG_14 n).trans ((ms_up_n G_10 _ (by omega)).trans hf_13)
  refine ms_run (pc' := 33) (lv' := [(0, .ref m), (1, .int (nI W2)), (2, .int (nI H2))]) (st' := [.ref m, .int 4, .ref m]) _ (ms_deC dX6_make_30 (ms_deC dX6_make_31 (ms_deC dX6_make_32 ms_deN))) rfl rfl ?_
  refine ms_getf dX6_make_33 fg_X6_20 hf_16 rfl ?_
  refine ms_run (pc' := 38) (lv' := [(0, .ref m), (1, .int (nI W2)), (2, .int (nI H2))]) (st' := [.ref m, .int (4 * (nI W2)), .ref m]) _ (ms_deC dX6_make_36 (ms_deC dX6_make_37 ms_deN)) rfl rfl ?_
  refine ms_getf dX6_make_38 fg_X6_23 hf_16 rfl ?_
  refine ms_run (pc' := 42) (lv' := [(0, .ref m), (1, .int (nI W2)), (2, .int (nI H2))]) (st' := [.int ((4 * (nI W2)) * (nI H2)), .ref m]) _ (ms_deC dX6_make_41 ms_deN) rfl rfl ?_
  rw [nI_4x (W := W2) (H := H2)]
  refine ms_W.room (k2 := 1 + 2) (z2 := (4 * (W2 * H2)) + 388) ?_ (by omega) (by omega)
  refine ms_newZ (N := (4 * (W2 * H2))) dX6_make_42 aw_boolean (nI_pos (by omega)) (nI_clamp (by omega)) (by omega) ?_
  obtain ⟨G_18, eG_18⟩ : ∃ K9 : ms_H, K9 = ms_up G_14 (n + 1) (.inl (1, (4 * (W2 * H2)), .inl (fun _ => 0))) := ⟨_, rfl⟩
  refine ms_W.heq eG_18 ?_
  have hF_19 : ms_fb (fun a => a = m) n G G_18 := by rw [eG_18]; exact ms_fb.up hF_15 (by first | exact Or.inl (by omega) | exact Or.inr rfl | exact Or.inr (Or.inl rfl) | exact Or.inr (Or.inr (Or.inl rfl)) | exact Or.inr (Or.inr (Or.inr rfl)) | exact Or.inr (Or.inr rfl) | exact Or.inr (Or.inr (Or.inr (Or.inl rfl))) | exact Or.inr (Or.inr (Or.inr (Or.inr (Or.inl rfl)))) | exact Or.inr (Or.inr (Or.inr (Or.inr (Or.inr rfl)))))
  have hf_20 := (congrFun eG_18 m).trans ((ms_up_n G_14 _ (by omega)).trans hf_16)
  have hf_21 := (congrFun eG_18 n).trans ((ms_up_n G_14 _ (by omega)).trans hf_17)
  have hf_22 : G_18 (n + 1) = some (.inl (1, (4 * (W2 * H2)), .inl (fun _ => 0))) := by rw [eG_18]; exact ms_up_s _ _ _
  refine ms_putf dX6_make_44 fp_X6_33 hf_20 (Nat.le_of_ble_eq_true rfl) rfl rfl ?_
  obtain ⟨G_23, eG_23⟩ : ∃ K9 : ms_H, K9 = ms_up G_18 m (.inr (6, [.int th, .int (nI W2), .int (nI H2), .int 0, .int dr, .int pa, .ref n, .ref (n + 1), .int c0, .ref ai, .ref ah])) := ⟨_, rfl⟩
  refine ms_W.heq eG_23 ?_
  have hF_24 : ms_fb (fun a => a = m) n G G_23 := by rw [eG_23]; exact ms_fb.up hF_19 (by first | exact Or.inl (by omega) | exact Or.inr rfl | exact Or.inr (Or.inl rfl) | exact Or.inr (Or.inr (Or.inl rfl)) | exact Or.inr (Or.inr (Or.inr rfl)) | exact Or.inr (Or.inr rfl) | exact Or.inr (Or.inr (Or.inr (Or.inl rfl))) | exact Or.inr (Or.inr (Or.inr (Or.inr (Or.inl rfl)))) | exact Or.inr (Or.inr (Or.inr (Or.inr (Or.inr rfl)))))
  have hf_25 : G_23 m = some (.inr (6, [.int th, .int (nI W2), .int (nI H2), .int 0, .int dr, .int pa, .ref n, .ref (n + 1), .int c0, .ref ai, .ref ah])) := by rw [eG_23]; exact ms_up_s _ _ _
  have hf_26 := (congrFun eG_23 n).trans ((ms_up_n G_18 _ (by omega)).trans hf_21)
  have hf_27 := (congrFun eG_23 (n + 1)).trans ((ms_up_n G_18 _ (by omega)).trans hf_22)
  refine ms_run (pc' := 49) (lv' := [(0, .ref m), (1, .int (nI W2)), (2, .int (nI H2))]) (st' := [.int 0, .ref m]) _ (ms_deC dX6_make_47 (ms_deC dX6_make_48 ms_deN)) rfl rfl ?_
  refine ms_putf dX6_make_49 fp_X6_36 hf_25 (Nat.le_of_ble_eq_true rfl) rfl rfl ?_
  obtain ⟨G_28, eG_28⟩ : ∃ K9 : ms_H, K9 = ms_up G_23 m (.inr (6, [.int th, .int (nI W2), .int (nI H2), .int 0, .int dr, .int pa, .ref n, .ref (n + 1), .int 0, .ref ai, .ref ah])) := ⟨_, rfl⟩
  refine ms_W.heq eG_28 ?_
  have hF_29 : ms_fb (fun a => a = m) n G G_28 := by rw [eG_28]; exact ms_fb.up hF_24 (by first | exact Or.inl (by omega) | exact Or.inr rfl | exact Or.inr (Or.inl rfl) | exact Or.inr (Or.inr (Or.inl rfl)) | exact Or.inr (Or.inr (Or.inr rfl)) | exact Or.inr (Or.inr rfl) | exact Or.inr (Or.inr (Or.inr (Or.inl rfl))) | exact Or.inr (Or.inr (Or.inr (Or.inr (Or.inl rfl)))) | exact Or.inr (Or.inr (Or.inr (Or.inr (Or.inr rfl)))))
  have hf_30 : G_28 m = some (.inr (6, [.int th, .int (nI W2), .int (nI H2), .int 0, .int dr, .int pa, .ref n, .ref (n + 1), .int 0, .ref ai, .ref ah])) := by rw [eG_28]; exact ms_up_s _ _ _
  have hf_31 := (congrFun eG_28 n).trans ((ms_up_n G_23 _ (by omega)).trans hf_26)
  have hf_32 := (congrFun eG_28 (n + 1)).trans ((ms_up_n G_23 _ (by omega)).trans hf_27)
  refine ms_run (pc' := 56) (lv' := [(0, .ref m), (1, .int (nI W2)), (2, .int (nI H2))]) (st' := [.int 192, .ref m]) _ (ms_deC dX6_make_52 (ms_deC dX6_make_53 ms_deN)) rfl rfl ?_
  refine ms_W.room (k2 := 1 + 1) (z2 := 192 + 196) ?_ (by omega) (by omega)
  refine ms_newI (N := 192) dX6_make_56 aw_int (by decide) (rfl) (Nat.le_of_ble_eq_true rfl) ?_
  obtain ⟨G_33, eG_33⟩ : ∃ K9 : ms_H, K9 = ms_up G_28 (n + 2) (.inl (0, 192, .inl (fun _ => 0))) := ⟨_, rfl⟩
  refine ms_W.heq eG_33 ?_
  have hF_34 : ms_fb (fun a => a = m) n G G_33 := by rw [eG_33]; exact ms_fb.up hF_29 (by first | exact Or.inl (by omega) | exact Or.inr rfl | exact Or.inr (Or.inl rfl) | exact Or.inr (Or.inr (Or.inl rfl)) | exact Or.inr (Or.inr (Or.inr rfl)) | exact Or.inr (Or.inr rfl) | exact Or.inr (Or.inr (Or.inr (Or.inl rfl))) | exact Or.inr (Or.inr (Or.inr (Or.inr (Or.inl rfl)))) | exact Or.inr (Or.inr (Or.inr (Or.inr (Or.inr rfl)))))
  have hf_35 := (congrFun eG_33 m).trans ((ms_up_n G_28 _ (by omega)).trans hf_30)
  have hf_36 := (congrFun eG_33 n).trans ((ms_up_n G_28 _ (by omega)).trans hf_31)
  have hf_37 := (congrFun eG_33 (n + 1)).trans ((ms_up_n G_28 _ (by omega)).trans hf_32)
  have hf_38 : G_33 (n + 2) = some (.inl (0, 192, .inl (fun _ => 0))) := by rw [eG_33]; exact ms_up_s _ _ _
  refine ms_putf dX6_make_58 fp_X6_39 hf_35 (Nat.le_of_ble_eq_true rfl) rfl rfl ?_
  obtain ⟨G_39, eG_39⟩ : ∃ K9 : ms_H, K9 = ms_up G_33 m (.inr (6, [.int th, .int (nI W2), .int (nI H2), .int 0, .int dr, .int pa, .ref n, .ref (n + 1), .int 0, .ref (n + 2), .ref ah])) := ⟨_, rfl⟩
  refine ms_W.heq eG_39 ?_
  have hF_40 : ms_fb (fun a => a = m) n G G_39 := by rw [eG_39]; exact ms_fb.up hF_34 (by first | exact Or.inl (by omega) | exact Or.inr rfl | exact Or.inr (Or.inl rfl) | exact Or.inr (Or.inr (Or.inl rfl)) | exact Or.inr (Or.inr (Or.inr rfl)) | exact Or.inr (Or.inr rfl) | exact Or.inr (Or.inr (Or.inr (Or.inl rfl))) | exact Or.inr (Or.inr (Or.inr (Or.inr (Or.inl rfl)))) | exact Or.inr (Or.inr (Or.inr (Or.inr (Or.inr rfl)))))
  have hf_41 : G_39 m = some (.inr (6, [.int th, .int (nI W2), .int (nI H2), .int 0, .int dr, .int pa, .ref n, .ref (n + 1), .int 0, .ref (n + 2), .ref ah])) := by rw [eG_39]; exact ms_up_s _ _ _
  have hf_42 := (congrFun eG_39 n).trans ((ms_up_n G_33 _ (by omega)).trans hf_36)
  have hf_43 := (congrFun eG_39 (n + 1)).trans ((ms_up_n G_33 _ (by omega)).trans hf_37)
  have hf_44 := (congrFun eG_39 (n + 2)).trans ((ms_up_n G_33 _ (by omega)).trans hf_38)
  refine ms_run (pc' := 63) (lv' := [(0, .ref m), (1, .int (nI W2)), (2, .int (nI H2))]) (st' := [.ref m, .ref m]) _ (ms_deC dX6_make_61 (ms_deC dX6_make_62 ms_deN)) rfl rfl ?_
  refine ms_getf dX6_make_63 fg_X6_20 hf_41 rfl ?_
  refine ms_run (pc' := 67) (lv' := [(0, .ref m), (1, .int (nI W2)), (2, .int (nI H2))]) (st' := [.ref m, .int (nI W2), .ref m]) _ (ms_deC dX6_make_66 ms_deN) rfl rfl ?_
  refine ms_getf dX6_make_67 fg_X6_23 hf_41 rfl ?_
  refine ms_run (pc' := 71) (lv' := [(0, .ref m), (1, .int (nI W2)), (2, .int (nI H2))]) (st' := [.int ((nI W2) * (nI H2)), .ref m]) _ (ms_deC dX6_make_70 ms_deN) rfl rfl ?_
  rw [show nI W2 * nI H2 = nI (W2 * H2) from pk_mul W2 H2]
  refine ms_W.room (k2 := 1 + 0) (z2 := (W2 * H2) + 0) ?_ (by omega) (by omega)
  refine ms_newI (N := (W2 * H2)) dX6_make_71 aw_int (nI_pos (by omega)) (nI_clamp (by omega)) (by omega) ?_
  obtain ⟨G_45, eG_45⟩ : ∃ K9 : ms_H, K9 = ms_up G_39 (n + 3) (.inl (0, (W2 * H2), .inl (fun _ => 0))) := ⟨_, rfl⟩
  refine ms_W.heq eG_45 ?_
  have hF_46 : ms_fb (fun a => a = m) n G G_45 := by rw [eG_45]; exact ms_fb.up hF_40 (by first | exact Or.inl (by omega) | exact Or.inr rfl | exact Or.inr (Or.inl rfl) | exact Or.inr (Or.inr (Or.inl rfl)) | exact Or.inr (Or.inr (Or.inr rfl)) | exact Or.inr (Or.inr rfl) | exact Or.inr (Or.inr (Or.inr (Or.inl rfl))) | exact Or.inr (Or.inr (Or.inr (Or.inr (Or.inl rfl)))) | exact Or.inr (Or.inr (Or.inr (Or.inr (Or.inr rfl)))))
  have hf_47 := (congrFun eG_45 m).trans ((ms_up_n G_39 _ (by omega)).trans hf_41)
  have hf_48 := (congrFun eG_45 n).trans ((ms_up_n G_39 _ (by omega)).trans hf_42)
  have hf_49 := (congrFun eG_45 (n + 1)).trans ((ms_up_n G_39 _ (by omega)).trans hf_43)
  have hf_50 := (congrFun eG_45 (n + 2)).trans ((ms_up_n G_39 _ (by omega)).trans hf_44)
  have hf_51 : G_45 (n + 3) = some (.inl (0, (W2 * H2), .inl (fun _ => 0))) := by rw [eG_45]; exact ms_up_s _ _ _
  refine ms_putf dX6_make_73 fp_X6_43 hf_47 (Nat.le_of_ble_eq_true rfl) rfl rfl ?_
  obtain ⟨G_52, eG_52⟩ : ∃ K9 : ms_H, K9 = ms_up G_45 m (.inr (6, [.int th, .int (nI W2), .int (nI H2), .int 0, .int dr, .int pa, .ref n, .ref (n + 1), .int 0, .ref (n + 2), .ref (n + 3)])) := ⟨_, rfl⟩
  refine ms_W.heq eG_52 ?_
  have hF_53 : ms_fb (fun a => a = m) n G G_52 := by rw [eG_52]; exact ms_fb.up hF_46 (by first | exact Or.inl (by omega) | exact Or.inr rfl | exact Or.inr (Or.inl rfl) | exact Or.inr (Or.inr (Or.inl rfl)) | exact Or.inr (Or.inr (Or.inr rfl)) | exact Or.inr (Or.inr rfl) | exact Or.inr (Or.inr (Or.inr (Or.inl rfl))) | exact Or.inr (Or.inr (Or.inr (Or.inr (Or.inl rfl)))) | exact Or.inr (Or.inr (Or.inr (Or.inr (Or.inr rfl)))))
  have hf_54 : G_52 m = some (.inr (6, [.int th, .int (nI W2), .int (nI H2), .int 0, .int dr, .int pa, .ref n, .ref (n + 1), .int 0, .ref (n + 2), .ref (n + 3)])) := by rw [eG_52]; exact ms_up_s _ _ _
  have hf_55 := (congrFun eG_52 n).trans ((ms_up_n G_45 _ (by omega)).trans hf_48)
  have hf_56 := (congrFun eG_52 (n + 1)).trans ((ms_up_n G_45 _ (by omega)).trans hf_49)
  have hf_57 := (congrFun eG_52 (n + 2)).trans ((ms_up_n G_45 _ (by omega)).trans hf_50)
  have hf_58 := (congrFun eG_52 (n + 3)).trans ((ms_up_n G_45 _ (by omega)).trans hf_51)
  refine ms_retv (st := []) dX6_make_76 rfl ?_
  exact ⟨rfl, rfl, hF_53, fun u => ⟨hf_54, hf_55, hf_56, ⟨_, hf_57, fun k hk => absurd hk (Nat.not_lt_zero k)⟩, hf_58⟩⟩
set_option maxHeartbeats 1000000 in
set_option maxRecDepth 20000 in
theorem c_X6_init {n m : Nat} {G : ms_H} (hl : m < n) (hm : G m = some (.inr (6, [.int 0, .int 0, .int 0, .int 0, .int 0, .int 0, .null, .null, .int 0, .null, .null]))) : ms_M m_X6_init [.ref m] n G 4 1368 (fun r9 n1 G1 => r9 = .inl none ∧ n1 = n + 4 ∧ ms_fb (fun a => a = m) n G G1 ∧ ∀ u, md_at G1 m n (n + 1) (n + 2) (n + 3) 10 8 0 0 2 3 0 (fun _ => 0) (fun _ => 0) (fun _ => 0) u) := by
  refine ms_M.of (by decide) (Nat.le_of_ble_eq_true rfl) ?_
  show ms_W false m_X6_init _ 0 [(0, .ref m)] [] n G 4 1368
  have hF : ms_fb (fun a => a = m) n G G := ms_fb.rf
  refine ms_run (pc' := 1) (lv' := [(0, .ref m)]) (st' := [.ref m]) _ (ms_deC dX6_init_0 ms_deN) rfl rfl ?_
  refine ms_objInit dX6_init_1 oi_X6_1 ⟨Nat.le_of_ble_eq_true rfl, Nat.le_of_ble_eq_true rfl⟩ (Nat.le_of_ble_eq_true rfl) ?_
  refine ms_run (pc' := 6) (lv' := [(0, .ref m)]) (st' := [.int 2, .ref m]) _ (ms_deC dX6_init_4 (ms_deC dX6_init_5 ms_deN)) rfl rfl ?_
  refine ms_putf dX6_init_6 fp_X6_7 hm (Nat.le_of_ble_eq_true rfl) rfl rfl ?_
  obtain ⟨G_1, eG_1⟩ : ∃ K9 : ms_H, K9 = ms_up G m (.inr (6, [.int 0, .int 0, .int 0, .int 0, .int 2, .int 0, .null, .null, .int 0, .null, .null])) := ⟨_, rfl⟩
  refine ms_W.heq eG_1 ?_
  have hF_2 : ms_fb (fun a => a = m) n G G_1 := by rw [eG_1]; exact ms_fb.up hF (by first | exact Or.inl (by omega) | exact Or.inr rfl | exact Or.inr (Or.inl rfl) | exact Or.inr (Or.inr (Or.inl rfl)) | exact Or.inr (Or.inr (Or.inr rfl)) | exact Or.inr (Or.inr rfl) | exact Or.inr (Or.inr (Or.inr (Or.inl rfl))) | exact Or.inr (Or.inr (Or.inr (Or.inr (Or.inl rfl)))) | exact Or.inr (Or.inr (Or.inr (Or.inr (Or.inr rfl)))))
  have hf_3 : G_1 m = some (.inr (6, [.int 0, .int 0, .int 0, .int 0, .int 2, .int 0, .null, .null, .int 0, .null, .null])) := by rw [eG_1]; exact ms_up_s _ _ _
  refine ms_run (pc' := 11) (lv' := [(0, .ref m)]) (st' := [.int 3, .ref m]) _ (ms_deC dX6_init_9 (ms_deC dX6_init_10 ms_deN)) rfl rfl ?_
  refine ms_putf dX6_init_11 fp_X6_13 hf_3 (Nat.le_of_ble_eq_true rfl) rfl rfl ?_
  obtain ⟨G_4, eG_4⟩ : ∃ K9 : ms_H, K9 = ms_up G_1 m (.inr (6, [.int 0, .int 0, .int 0, .int 0, .int 2, .int 3, .null, .null, .int 0, .null, .null])) := ⟨_, rfl⟩
  refine ms_W.heq eG_4 ?_
  have hF_5 : ms_fb (fun a => a = m) n G G_4 := by rw [eG_4]; exact ms_fb.up hF_2 (by first | exact Or.inl (by omega) | exact Or.inr rfl | exact Or.inr (Or.inl rfl) | exact Or.inr (Or.inr (Or.inl rfl)) | exact Or.inr (Or.inr (Or.inr rfl)) | exact Or.inr (Or.inr rfl) | exact Or.inr (Or.inr (Or.inr (Or.inl rfl))) | exact Or.inr (Or.inr (Or.inr (Or.inr (Or.inl rfl)))) | exact Or.inr (Or.inr (Or.inr (Or.inr (Or.inr rfl)))))
  have hf_6 : G_4 m = some (.inr (6, [.int 0, .int 0, .int 0, .int 0, .int 2, .int 3, .null, .null, .int 0, .null, .null])) := by rw [eG_4]; exact ms_up_s _ _ _
  refine ms_run (pc' := 19) (lv' := [(0, .ref m)]) (st' := [.int 8, .int 10, .ref m]) _ (ms_deC dX6_init_14 (ms_deC dX6_init_15 (ms_deC dX6_init_17 ms_deN))) rfl rfl ?_
  refine ms_W.room (k2 := 4 + 0) (z2 := 1368 + 0) ?_ (by omega) (by omega)
  refine ms_callV (As := [.int (nI 10), .int (nI 8)]) dX6_init_19 (c_X6_make0 (W2 := 10) (H2 := 8) (by omega) (by omega) hl hf_6) cv_X6_16 hf_6 rfl ⟨Nat.le_of_ble_eq_true rfl, Nat.le_of_ble_eq_true rfl⟩ rfl (Nat.le_of_ble_eq_true rfl) (fun v9 n9 K_mk hp9 => ?_)
  obtain ⟨hv9, rfl, hF_mk, hM_mk⟩ := hp9
  cases hv9
  refine ms_retv (st := []) dX6_init_22 rfl ?_
  exact ⟨rfl, rfl, hF_5.trans2 hF_mk (Nat.le_refl n), hM_mk⟩
set_option maxHeartbeats 1000000 in
set_option maxRecDepth 20000 in
theorem c_X6_reset {n m aw am ai ah W H cnt : Nat} {G : ms_H} {th dr pa : Int32} {wl mm : Nat → Int32} {X : cX} {nr mk ds : Nat → Int32} (hM : md_at G m aw am ai ah W H th X.2.2.2 dr pa cnt wl mm X.2.1 X.1) (hl : md_lt n m aw am ai ah) (hW : W ≤ 14) (hH : H ≤ 14) (hW0 : 0 < W) (hc : cnt ≤ 24) (hne : md_ne m aw am ai ah) (hL : lk_ok W H (W * H) nr) (hmm : mmR (W * H) mk mm) (hds : dsR (W * H) nr wl mk ds) (hd : 0 ≤ dr ∧ dr ≤ 9) (aa bb : Int32) : ms_M m_X6_reset [.ref m, .int aa, .int bb] n G 4 1368 (fun r9 n9 G9 => mq_P n G (E5 m aw am ai ah) (th_reset aa bb) (fun _ => 1) (.int (nI (aa.toNatClampNeg * bb.toNatClampNeg))) (fun t G1 => md_at G1 m aw am ai ah W H t X.2.2.2 dr pa cnt wl mm X.2.1 X.1) (fun G1 => ∀ u, md_at G1 m n (n + 1) (n + 2) (n + 3) aa.toNatClampNeg bb.toNatClampNeg 0 0 dr pa 0 (fun _ => 0) (fun _ => 0) (fun _ => 0) u) r9 n9 G9 ∧ (th_reset aa bb = none → n9 = n + 4)) := by
  refine ms_M.of (by decide) (Nat.le_of_ble_eq_true rfl) ?_
  show ms_W false m_X6_reset _ 0 [(0, .ref m), (1, .int aa), (2, .int bb)] [] n G 4 1368
  have hl9 := hl
  have hne9 := hne
  obtain ⟨hm, hw_, hk_, ⟨it, hi_, hit⟩, hh_⟩ := hM
  obtain ⟨l1, l2, l3, l4, l5⟩ := hl
  obtain ⟨n1, n2, n3, n4, n5, n6, n7, n8, n9, n10⟩ := hne
  have h196 := fd_196 hW hH
  have hF : ms_fb (E5 m aw am ai ah) n G G := ms_fb.rf
  refine ms_run (pc' := 2) (lv' := [(0, .ref m), (1, .int aa), (2, .int bb)]) (st' := [.int 0, .ref m]) _ (ms_deC dX6_reset_0 (ms_deC dX6_reset_1 ms_deN)) rfl rfl ?_
  refine ms_putf dX6_reset_2 fp_X6_46 hm (Nat.le_of_ble_eq_true rfl) rfl rfl ?_
  obtain ⟨G_1, eG_1⟩ : ∃ K9 : ms_H, K9 = ms_up G m (.inr (6, [.int 0, .int (nI W), .int (nI H), .int X.2.2.2, .int dr, .int pa, .ref aw, .ref am, .int (nI cnt), .ref ai, .ref ah])) := ⟨_, rfl⟩
  refine ms_W.heq eG_1 ?_
  have hF_2 : ms_fb (E5 m aw am ai ah) n G G_1 := by rw [eG_1]; exact ms_fb.up hF (by first | exact Or.inl (by omega) | exact Or.inr rfl | exact Or.inr (Or.inl rfl) | exact Or.inr (Or.inr (Or.inl rfl)) | exact Or.inr (Or.inr (Or.inr rfl)) | exact Or.inr (Or.inr rfl) | exact Or.inr (Or.inr (Or.inr (Or.inl rfl))) | exact Or.inr (Or.inr (Or.inr (Or.inr (Or.inl rfl)))) | exact Or.inr (Or.inr (Or.inr (Or.inr (Or.inr rfl)))))
  have hf_3 : G_1 m = some (.inr (6, [.int 0, .int (nI W), .int (nI H), .int X.2.2.2, .int dr, .int pa, .ref aw, .ref am, .int (nI cnt), .ref ai, .ref ah])) := by rw [eG_1]; exact ms_up_s _ _ _
  have hf_4 := (congrFun eG_1 aw).trans ((ms_up_n G _ (by omega)).trans hw_)
  have hf_5 := (congrFun eG_1 am).trans ((ms_up_n G _ (by omega)).trans hk_)
  have hf_6 := (congrFun eG_1 ai).trans ((ms_up_n G _ (by omega)).trans hi_)
  have hf_7 := (congrFun eG_1 ah).trans ((ms_up_n G _ (by omega)).trans hh_)
  refine ms_run (pc' := 9) (lv' := [(0, .ref m), (1, .int aa), (2, .int bb)]) (st' := [.int 14, .int 2, .int aa]) _ (ms_deC dX6_reset_5 (ms_deC dX6_reset_6 (ms_deC dX6_reset_7 ms_deN))) rfl rfl ?_
  refine ms_callSp (As := [.int aa, .int 2, .int 14]) dX6_reset_9 (c_X6_isIn aa 2 14) cs_X6_49 rfl ⟨Nat.le_of_ble_eq_true rfl, Nat.le_of_ble_eq_true rfl⟩ rfl (Nat.le_of_ble_eq_true rfl) ?_
  by_cases h1 : 2 ≤ aa ∧ aa ≤ 14
  · rw [show ms_b (2 ≤ aa ∧ aa ≤ 14) = 1 from if_pos h1]
    refine ms_if_eq (tgt := 25) dX6_reset_12 (by decide) (fun h9 => absurd h9 (by decide)) (fun _ => ?_)
    refine ms_run (pc' := 19) (lv' := [(0, .ref m), (1, .int aa), (2, .int bb)]) (st' := [.int 14, .int 2, .int bb]) _ (ms_deC dX6_reset_15 (ms_deC dX6_reset_16 (ms_deC dX6_reset_17 ms_deN))) rfl rfl ?_
    refine ms_callSp (As := [.int bb, .int 2, .int 14]) dX6_reset_19 (c_X6_isIn bb 2 14) cs_X6_49 rfl ⟨Nat.le_of_ble_eq_true rfl, Nat.le_of_ble_eq_true rfl⟩ rfl (Nat.le_of_ble_eq_true rfl) ?_
    by_cases h2 : 2 ≤ bb ∧ bb ≤ 14
    · rw [show ms_b (2 ≤ bb ∧ bb ≤ 14) = 1 from if_pos h2]
      obtain ⟨W2, hW2, eW2⟩ := nI_of2 (M := 14) (n := 14) rfl (by rw [Int32.not_lt]; exact Int32.le_trans (by decide) h1.1) h1.2
      subst eW2
      rw [nI_clamp (n := W2) (by omega)]
      obtain ⟨H2, hH2, eH2⟩ := nI_of2 (M := 14) (n := 14) rfl (by rw [Int32.not_lt]; exact Int32.le_trans (by decide) h2.1) h2.2
      subst eH2
      rw [nI_clamp (n := H2) (by omega)]
      refine ms_if_ne (tgt := 31) dX6_reset_22 (by decide) (fun _ => ?_) (fun h9 => absurd h9 (by decide))
      refine ms_run (pc' := 34) (lv' := [(0, .ref m), (1, .int (nI W2)), (2, .int (nI H2))]) (st' := [.int (nI H2), .int (nI W2), .ref m]) _ (ms_deC dX6_reset_31 (ms_deC dX6_reset_32 (ms_deC dX6_reset_33 ms_deN))) rfl rfl ?_
      refine ms_W.room (k2 := 4 + 0) (z2 := 1368 + 0) ?_ (by omega) (by omega)
      refine ms_callV (As := [.int (nI W2), .int (nI H2)]) dX6_reset_34 (c_X6_make (W2 := W2) (H2 := H2) hW2 hH2 l1 hf_3) cv_X6_16 hf_3 rfl ⟨Nat.le_of_ble_eq_true rfl, Nat.le_of_ble_eq_true rfl⟩ rfl (Nat.le_of_ble_eq_true rfl) (fun v9 n9 K_mk hp9 => ?_)
      obtain ⟨hv9, rfl, hF_mk, hM_mk⟩ := hp9
      cases hv9
      obtain ⟨hm2, -⟩ := id (hM_mk (fun _ _ => 0))
      refine ms_run (pc' := 38) (lv' := [(0, .ref m), (1, .int (nI W2)), (2, .int (nI H2))]) (st' := [.ref m]) _ (ms_deC dX6_reset_37 ms_deN) rfl rfl ?_
      refine ms_getf dX6_reset_38 fg_X6_20 hm2 rfl ?_
      refine ms_run (pc' := 42) (lv' := [(0, .ref m), (1, .int (nI W2)), (2, .int (nI H2))]) (st' := [.ref m, .int (nI W2)]) _ (ms_deC dX6_reset_41 ms_deN) rfl rfl ?_
      refine ms_getf dX6_reset_42 fg_X6_23 hm2 rfl ?_
      refine ms_run (pc' := 46) (lv' := [(0, .ref m), (1, .int (nI W2)), (2, .int (nI H2))]) (st' := [.int ((nI W2) * (nI H2))]) _ (ms_deC dX6_reset_45 ms_deN) rfl rfl ?_
      refine ms_reti (st := []) (ty := .int) dX6_reset_46 rfl rfl ?_
      exact ⟨mq_P.ok (by unfold th_reset; grind) (by omega) (ms_fb.trans2 hF_2 (hF_mk.mono (fun a h => Or.inl h)) (by omega)) (by rw [pk_mul]) hM_mk, fun _ => rfl⟩
    · rw [show ms_b (2 ≤ bb ∧ bb ≤ 14) = 0 from if_neg h2]
      refine ms_if_ne (tgt := 31) dX6_reset_22 (by decide) (fun h9 => absurd h9 (by decide)) (fun _ => ?_)
      refine ms_run (pc' := 27) (lv' := [(0, .ref m), (1, .int aa), (2, .int bb)]) (st' := [.int 1, .ref m]) _ (ms_deC dX6_reset_25 (ms_deC dX6_reset_26 ms_deN)) rfl rfl ?_
      refine ms_callV0 (As := [.int 1]) dX6_reset_27 (c_X6_no (show md_at G_1 m aw am ai ah W H 0 X.2.2.2 dr pa cnt wl mm X.2.1 X.1 from ⟨hf_3, hf_4, hf_5, ⟨it, hf_6, hit⟩, hf_7⟩) hne9 1) cv_X6_79 hf_3 rfl ⟨Nat.le_of_ble_eq_true rfl, Nat.le_of_ble_eq_true rfl⟩ rfl (Nat.le_of_ble_eq_true rfl) (fun v9 n9 K_no hp9 => ?_)
      obtain ⟨hv9, rfl, hF_no, hM_no⟩ := hp9
      cases hv9
      refine ms_reti (st := []) (ty := .int) dX6_reset_30 rfl rfl ?_
      have hth : th_reset aa bb = some IAE := by unfold th_reset; grind
      exact ⟨mq_P.no hth (by omega) (ms_fb.trans2 hF_2 (hF_no.mono (fun a h => Or.inl h)) (by omega)) rfl hM_no, fun z9 => by rw [hth] at z9; cases z9⟩
  · rw [show ms_b (2 ≤ aa ∧ aa ≤ 14) = 0 from if_neg h1]
    refine ms_if_eq (tgt := 25) dX6_reset_12 (by decide) (fun _ => ?_) (fun h9 => absurd h9 (by decide))
    refine ms_run (pc' := 27) (lv' := [(0, .ref m), (1, .int aa), (2, .int bb)]) (st' := [.int 1, .ref m]) _ (ms_deC dX6_reset_25 (ms_deC dX6_reset_26 ms_deN)) rfl rfl ?_
    refine ms_callV0 (As := [.int 1]) dX6_reset_27 (c_X6_no (show md_at G_1 m aw am ai ah W H 0 X.2.2.2 dr pa cnt wl mm X.2.1 X.1 from ⟨hf_3, hf_4, hf_5, ⟨it, hf_6, hit⟩, hf_7⟩) hne9 1) cv_X6_79 hf_3 rfl ⟨Nat.le_of_ble_eq_true rfl, Nat.le_of_ble_eq_true rfl⟩ rfl (Nat.le_of_ble_eq_true rfl) (fun v9 n9 K_no hp9 => ?_)
    obtain ⟨hv9, rfl, hF_no, hM_no⟩ := hp9
    cases hv9
    refine ms_reti (st := []) (ty := .int) dX6_reset_30 rfl rfl ?_
    have hth : th_reset aa bb = some IAE := by unfold th_reset; grind
    exact ⟨mq_P.no hth (by omega) (ms_fb.trans2 hF_2 (hF_no.mono (fun a h => Or.inl h)) (by omega)) rfl hM_no, fun z9 => by rw [hth] at z9; cases z9⟩

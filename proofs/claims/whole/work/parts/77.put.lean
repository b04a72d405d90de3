/-! the model: putBy, putBack -/
/-- what was, kept in a row of rows -/
def was_at (G : ms_H) (a b ai ah : Nat) (cl dr : Int32) : Prop := (∃ f : Nat → Option Nat, G a = some (.inl (4, 3, .inr (.inr (.inr (.inr f))))) ∧ f 0 = some ai ∧ f 1 = some ah ∧ f 2 = some b) ∧ ∃ g : Nat → Int32, G b = some (.inl (0, 2, .inl g)) ∧ g 0 = cl ∧ g 1 = dr
set_option maxHeartbeats 1000000 in
set_option maxRecDepth 20000 in
theorem c_X6_putBy {n m aw am ai ah W H cnt : Nat} {G : ms_H} {th cl dr pa : Int32} {wl mm ht : Nat → Int32} {u : Nat → Nat → Int32} (hM : md_at G m aw am ai ah W H th cl dr pa cnt wl mm ht u) (hW : W ≤ 14) (hH : H ≤ 14) (hc : cnt ≤ 24) (hl : md_lt n m aw am ai ah) (hne : md_ne m aw am ai ah) : ms_M m_X6_putBy [.ref m] n G 4 393 (fun r9 n1 G1 => r9 = .inl (some (.ref n)) ∧ n1 = n + 4 ∧ ms_fb (fun a => a = m) n G G1 ∧ md_at G1 m aw am (n + 2) (n + 3) W H th cl dr pa cnt wl mm ht u ∧ was_at G1 n (n + 1) ai ah cl dr) := by
  refine ms_M.of (by decide) (Nat.le_of_ble_eq_true rfl) ?_
  show ms_W false m_X6_putBy _ 0 [(0, .ref m)] [] n G 4 393
  obtain ⟨hm, hw_, hk_, ⟨it, hi_, hit⟩, hh_⟩ := hM
  obtain ⟨l1, l2, l3, l4, l5⟩ := hl
  obtain ⟨n1, n2, n3, n4, n5, n6, n7, n8, n9, n10⟩ := hne
  have h196 := fd_196 hW hH
  have hF : ms_fb (fun a => a = m) n G G := ms_fb.rf
  refine ms_run (pc' := 1) (lv' := [(0, .ref m)]) (st' := [.int 3]) _ (ms_deC dX6_putBy_0 ms_deN) rfl rfl ?_
  refine ms_W.room (k2 := 1 + 3) (z2 := 3 + 390) ?_ (by omega) (by omega)
  refine ms_newA (N := 3) dX6_putBy_1 al_X6_74 (by decide) rfl (Nat.le_of_ble_eq_true rfl) ?_
  obtain ⟨G_1, eG_1⟩ : ∃ K9 : ms_H, K9 = ms_up G n (.inl (4, 3, .inr (.inr (.inr (.inr (fun _ => none)))))) := ⟨_, rfl⟩
  refine ms_W.heq eG_1 ?_
  have hF_2 : ms_fb (fun a => a = m) n G G_1 := by rw [eG_1]; exact ms_fb.up hF (by first | exact Or.inl (by omega) | exact Or.inr rfl | exact Or.inr (Or.inl rfl) | exact Or.inr (Or.inr (Or.inl rfl)) | exact Or.inr (Or.inr (Or.inr rfl)) | exact Or.inr (Or.inr rfl) | exact Or.inr (Or.inr (Or.inr (Or.inl rfl))) | exact Or.inr (Or.inr (Or.inr (Or.inr (Or.inl rfl)))) | exact Or.inr (Or.inr (Or.inr (Or.inr (Or.inr rfl)))))
  have hf_3 := (congrFun eG_1 m).trans ((ms_up_n G _ (by omega)).trans hm)
  have hf_4 := (congrFun eG_1 aw).trans ((ms_up_n G _ (by omega)).trans hw_)
  have hf_5 := (congrFun eG_1 am).trans ((ms_up_n G _ (by omega)).trans hk_)
  have hf_6 := (congrFun eG_1 ai).trans ((ms_up_n G _ (by omega)).trans hi_)
  have hf_7 := (congrFun eG_1 ah).trans ((ms_up_n G _ (by omega)).trans hh_)
  have hf_8 : G_1 n = some (.inl (4, 3, .inr (.inr (.inr (.inr (fun _ => none)))))) := by rw [eG_1]; exact ms_up_s _ _ _
  refine ms_run (pc' := 7) (lv' := [(0, .ref m)]) (st' := [.ref m, .int 0, .ref n, .ref n]) _ (ms_deC dX6_putBy_4 (ms_deC dX6_putBy_5 (ms_deC dX6_putBy_6 ms_deN))) rfl rfl ?_
  refine ms_getf dX6_putBy_7 fg_X6_39 hf_3 rfl ?_
  refine ms_aastoreA dX6_putBy_10 hf_8 hf_6 (by unfold vp_in; decide) ?_
  obtain ⟨G_9, eG_9⟩ : ∃ K9 : ms_H, K9 = ms_up G_1 n (.inl (4, 3, .inr (.inr (.inr (.inr (va_up (fun _ => none) (0 : Int32).toNatClampNeg (some ai))))))) := ⟨_, rfl⟩
  refine ms_W.heq eG_9 ?_
  have hF_10 : ms_fb (fun a => a = m) n G G_9 := by rw [eG_9]; exact ms_fb.up hF_2 (by first | exact Or.inl (by omega) | exact Or.inr rfl | exact Or.inr (Or.inl rfl) | exact Or.inr (Or.inr (Or.inl rfl)) | exact Or.inr (Or.inr (Or.inr rfl)) | exact Or.inr (Or.inr rfl) | exact Or.inr (Or.inr (Or.inr (Or.inl rfl))) | exact Or.inr (Or.inr (Or.inr (Or.inr (Or.inl rfl)))) | exact Or.inr (Or.inr (Or.inr (Or.inr (Or.inr rfl)))))
  have hf_11 := (congrFun eG_9 m).trans ((ms_up_n G_1 _ (by omega)).trans hf_3)
  have hf_12 := (congrFun eG_9 aw).trans ((ms_up_n G_1 _ (by omega)).trans hf_4)
  have hf_13 := (congrFun eG_9 am).trans ((ms_up_n G_1 _ (by omega)).trans hf_5)
  have hf_14 := (congrFun eG_9 ai).trans ((ms_up_n G_1 _ (by omega)).trans hf_6)
  have hf_15 := (congrFun eG_9 ah).trans ((ms_up_n G_1 _ (by omega)).trans hf_7)
  have hf_16 : G_9 n = some (.inl (4, 3, .inr (.inr (.inr (.inr (va_up (fun _ => none) (0 : Int32).toNatClampNeg (some ai))))))) := by rw [eG_9]; exact ms_up_s _ _ _
  refine ms_run (pc' := 14) (lv' := [(0, .ref m)]) (st' := [.ref m, .int 1, .ref n, .ref n]) _ (ms_deC dX6_putBy_11 (ms_deC dX6_putBy_12 (ms_deC dX6_putBy_13 ms_deN))) rfl rfl ?_
  refine ms_getf dX6_putBy_14 fg_X6_43 hf_11 rfl ?_
  refine ms_aastoreA dX6_putBy_17 hf_16 hf_15 (by unfold vp_in; decide) ?_
  obtain ⟨G_17, eG_17⟩ : ∃ K9 : ms_H, K9 = ms_up G_9 n (.inl (4, 3, .inr (.inr (.inr (.inr (va_up (va_up (fun _ => none) (0 : Int32).toNatClampNeg (some ai)) (1 : Int32).toNatClampNeg (some ah))))))) := ⟨_, rfl⟩
  refine ms_W.heq eG_17 ?_
  have hF_18 : ms_fb (fun a => a = m) n G G_17 := by rw [eG_17]; exact ms_fb.up hF_10 (by first | exact Or.inl (by omega) | exact Or.inr rfl | exact Or.inr (Or.inl rfl) | exact Or.inr (Or.inr (Or.inl rfl)) | exact Or.inr (Or.inr (Or.inr rfl)) | exact Or.inr (Or.inr rfl) | exact Or.inr (Or.inr (Or.inr (Or.inl rfl))) | exact Or.inr (Or.inr (Or.inr (Or.inr (Or.inl rfl)))) | exact Or.inr (Or.inr (Or.inr (Or.inr (Or.inr rfl)))))
  have hf_19 := (congrFun eG_17 m).trans ((ms_up_n G_9 _ (by omega)).trans hf_11)
  have hf_20 := (congrFun eG_17 aw).trans ((ms_up_n G_9 _ (by omega)).trans hf_12)
  have hf_21 := (congrFun eG_17 am).trans ((ms_up_n G_9 _ (by omega)).trans hf_13)
  have hf_22 := (congrFun eG_17 ai).trans ((ms_up_n G_9 _ (by omega)).trans hf_14)
  have hf_23 := (congrFun eG_17 ah).trans ((ms_up_n G_9 _ (by omega)).trans hf_15)
  have hf_24 : G_17 n = some (.inl (4, 3, .inr (.inr (.inr (.inr (va_up (va_up (fun _ => none) (0 : Int32).toNatClampNeg (some ai)) (1 : Int32).toNatClampNeg (some ah))))))) := by rw [eG_17]; exact ms_up_s _ _ _
  refine ms_run (pc' := 21) (lv' := [(0, .ref m)]) (st' := [.int 2, .int 2, .ref n, .ref n]) _ (ms_deC dX6_putBy_18 (ms_deC dX6_putBy_19 (ms_deC dX6_putBy_20 ms_deN))) rfl rfl ?_
  refine ms_W.room (k2 := 1 + 2) (z2 := 2 + 388) ?_ (by omega) (by omega)
  refine ms_newI (N := 2) dX6_putBy_21 aw_int (by decide) (rfl) (Nat.le_of_ble_eq_true rfl) ?_
  obtain ⟨G_25, eG_25⟩ : ∃ K9 : ms_H, K9 = ms_up G_17 (n + 1) (.inl (0, 2, .inl (fun _ => 0))) := ⟨_, rfl⟩
  refine ms_W.heq eG_25 ?_
  have hF_26 : ms_fb (fun a => a = m) n G G_25 := by rw [eG_25]; exact ms_fb.up hF_18 (by first | exact Or.inl (by omega) | exact Or.inr rfl | exact Or.inr (Or.inl rfl) | exact Or.inr (Or.inr (Or.inl rfl)) | exact Or.inr (Or.inr (Or.inr rfl)) | exact Or.inr (Or.inr rfl) | exact Or.inr (Or.inr (Or.inr (Or.inl rfl))) | exact Or.inr (Or.inr (Or.inr (Or.inr (Or.inl rfl)))) | exact Or.inr (Or.inr (Or.inr (Or.inr (Or.inr rfl)))))
  have hf_27 := (congrFun eG_25 m).trans ((ms_up_n G_17 _ (by omega)).trans hf_19)
  have hf_28 := (congrFun eG_25 aw).trans ((ms_up_n G_17 _ (by omega)).trans hf_20)
  have hf_29 := (congrFun eG_25 am).trans ((ms_up_n G_17 _ (by omega)).trans hf_21)
  have hf_30 := (congrFun eG_25 ai).trans ((ms_up_n G_17 _ (by omega)).trans hf_22)
  have hf_31 := (congrFun eG_25 ah).trans ((ms_up_n G_17 _ (by omega)).trans hf_23)
  have hf_32 := (congrFun eG_25 n).trans ((ms_up_n G_17 _ (by omega)).trans hf_24)
  have hf_33 : G_25 (n + 1) = some (.inl (0, 2, .inl (fun _ => 0))) := by rw [eG_25]; exact ms_up_s _ _ _
  refine ms_run (pc' := 26) (lv' := [(0, .ref m)]) (st' := [.ref m, .int 0, .ref (n + 1), .ref (n + 1), .int 2, .ref n, .ref n]) _ (ms_deC dX6_putBy_23 (ms_deC dX6_putBy_24 (ms_deC dX6_putBy_25 ms_deN))) rfl rfl ?_
  refine ms_getf dX6_putBy_26 fg_X6_26 hf_27 rfl ?_
  refine ms_iastore dX6_putBy_29 hf_33 (by unfold vp_in; decide) ?_
  obtain ⟨G_34, eG_34⟩ : ∃ K9 : ms_H, K9 = ms_up G_25 (n + 1) (.inl (0, 2, .inl (upd (fun _ => 0) (0 : Int32).toNatClampNeg cl))) := ⟨_, rfl⟩
  refine ms_W.heq eG_34 ?_
  have hF_35 : ms_fb (fun a => a = m) n G G_34 := by rw [eG_34]; exact ms_fb.up hF_26 (by first | exact Or.inl (by omega) | exact Or.inr rfl | exact Or.inr (Or.inl rfl) | exact Or.inr (Or.inr (Or.inl rfl)) | exact Or.inr (Or.inr (Or.inr rfl)) | exact Or.inr (Or.inr rfl) | exact Or.inr (Or.inr (Or.inr (Or.inl rfl))) | exact Or.inr (Or.inr (Or.inr (Or.inr (Or.inl rfl)))) | exact Or.inr (Or.inr (Or.inr (Or.inr (Or.inr rfl)))))
  have hf_36 := (congrFun eG_34 m).trans ((ms_up_n G_25 _ (by omega)).trans hf_27)
  have hf_37 := (congrFun eG_34 aw).trans ((ms_up_n G_25 _ (by omega)).trans hf_28)
  have hf_38 := (congrFun eG_34 am).trans ((ms_up_n G_25 _ (by omega)).trans hf_29)
  have hf_39 := (congrFun eG_34 ai).trans ((ms_up_n G_25 _ (by omega)).trans hf_30)
  have hf_40 := (congrFun eG_34 ah).trans ((ms_up_n G_25 _ (by omega)).trans hf_31)
  have hf_41 := (congrFun eG_34 n).trans ((ms_up_n G_25 _ (by omega)).trans hf_32)
  have hf_42 : G_34 (n + 1) = some (.inl (0, 2, .inl (upd (fun _ => 0) (0 : Int32).toNatClampNeg cl))) := by rw [eG_34]; exact ms_up_s _ _ _
  refine ms_run (pc' := 33) (lv' := [(0, .ref m)]) (st' := [.ref m, .int 1, .ref (n + 1), .ref (n + 1), .int 2, .ref n, .ref n]) _ (ms_deC dX6_putBy_30 (ms_deC dX6_putBy_31 (ms_deC dX6_putBy_32 ms_deN))) rfl rfl ?_
  refine ms_getf dX6_putBy_33 fg_X6_7 hf_36 rfl ?_
  refine ms_iastore dX6_putBy_36 hf_42 (by unfold vp_in; decide) ?_
  obtain ⟨G_43, eG_43⟩ : ∃ K9 : ms_H, K9 = ms_up G_34 (n + 1) (.inl (0, 2, .inl (upd (upd (fun _ => 0) (0 : Int32).toNatClampNeg cl) (1 : Int32).toNatClampNeg dr))) := ⟨_, rfl⟩
  refine ms_W.heq eG_43 ?_
  have hF_44 : ms_fb (fun a => a = m) n G G_43 := by rw [eG_43]; exact ms_fb.up hF_35 (by first | exact Or.inl (by omega) | exact Or.inr rfl | exact Or.inr (Or.inl rfl) | exact Or.inr (Or.inr (Or.inl rfl)) | exact Or.inr (Or.inr (Or.inr rfl)) | exact Or.inr (Or.inr rfl) | exact Or.inr (Or.inr (Or.inr (Or.inl rfl))) | exact Or.inr (Or.inr (Or.inr (Or.inr (Or.inl rfl)))) | exact Or.inr (Or.inr (Or.inr (Or.inr (Or.inr rfl)))))
  have hf_45 := (congrFun eG_43 m).trans ((ms_up_n G_34 _ (by omega)).trans hf_36)
  have hf_46 := (congrFun eG_43 aw).trans ((ms_up_n G_34 _ (by omega)).trans hf_37)
  have hf_47 := (congrFun eG_43 am).trans ((ms_up_n G_34 _ (by omega)).trans hf_38)
  have hf_48 := (congrFun eG_43 ai).trans ((ms_up_n G_34 _ (by omega)).trans hf_39)
  have hf_49 := (congrFun eG_43 ah).trans ((ms_up_n G_34 _ (by omega)).trans hf_40)
  have hf_50 := (congrFun eG_43 n).trans ((ms_up_n G_34 _ (by omega)).trans hf_41)
  have hf_51 : G_43 (n + 1) = some (.inl (0, 2, .inl (upd (upd (fun _ => 0) (0 : Int32).toNatClampNeg cl) (1 : Int32).toNatClampNeg dr))) := by rw [eG_43]; exact ms_up_s _ _ _
  refine ms_aastoreA dX6_putBy_37 hf_50 hf_51 (by unfold vp_in; decide) ?_
  obtain ⟨G_52, eG_52⟩ : ∃ K9 : ms_H, K9 = ms_up G_43 n (.inl (4, 3, .inr (.inr (.inr (.inr (va_up (va_up (va_up (fun _ => none) (0 : Int32).toNatClampNeg (some ai)) (1 : Int32).toNatClampNeg (some ah)) (2 : Int32).toNatClampNeg (some (n + 1)))))))) := ⟨_, rfl⟩
  refine ms_W.heq eG_52 ?_
  have hF_53 : ms_fb (fun a => a = m) n G G_52 := by rw [eG_52]; exact ms_fb.up hF_44 (by first | exact Or.inl (by omega) | exact Or.inr rfl | exact Or.inr (Or.inl rfl) | exact Or.inr (Or.inr (Or.inl rfl)) | exact Or.inr (Or.inr (Or.inr rfl)) | exact Or.inr (Or.inr rfl) | exact Or.inr (Or.inr (Or.inr (Or.inl rfl))) | exact Or.inr (Or.inr (Or.inr (Or.inr (Or.inl rfl)))) | exact Or.inr (Or.inr (Or.inr (Or.inr (Or.inr rfl)))))
  have hf_54 := (congrFun eG_52 m).trans ((ms_up_n G_43 _ (by omega)).trans hf_45)
  have hf_55 := (congrFun eG_52 aw).trans ((ms_up_n G_43 _ (by omega)).trans hf_46)
  have hf_56 := (congrFun eG_52 am).trans ((ms_up_n G_43 _ (by omega)).trans hf_47)
  have hf_57 := (congrFun eG_52 ai).trans ((ms_up_n G_43 _ (by omega)).trans hf_48)
  have hf_58 := (congrFun eG_52 ah).trans ((ms_up_n G_43 _ (by omega)).trans hf_49)
  have hf_59 : G_52 n = some (.inl (4, 3, .inr (.inr (.inr (.inr (va_up (va_up (va_up (fun _ => none) (0 : Int32).toNatClampNeg (some ai)) (1 : Int32).toNatClampNeg (some ah)) (2 : Int32).toNatClampNeg (some (n + 1)))))))) := by rw [eG_52]; exact ms_up_s _ _ _
  have hf_60 := (congrFun eG_52 (n + 1)).trans ((ms_up_n G_43 _ (by omega)).trans hf_51)
  refine ms_run (pc' := 43) (lv' := [(1, .ref n), (0, .ref m)]) (st' := [.int 192, .ref m]) _ (ms_deC dX6_putBy_38 (ms_deC dX6_putBy_39 (ms_deC dX6_putBy_40 ms_deN))) rfl rfl ?_
  refine ms_W.room (k2 := 1 + 1) (z2 := 192 + 196) ?_ (by omega) (by omega)
  refine ms_newI (N := 192) dX6_putBy_43 aw_int (by decide) (rfl) (Nat.le_of_ble_eq_true rfl) ?_
  obtain ⟨G_61, eG_61⟩ : ∃ K9 : ms_H, K9 = ms_up G_52 (n + 2) (.inl (0, 192, .inl (fun _ => 0))) := ⟨_, rfl⟩
  refine ms_W.heq eG_61 ?_
  have hF_62 : ms_fb (fun a => a = m) n G G_61 := by rw [eG_61]; exact ms_fb.up hF_53 (by first | exact Or.inl (by omega) | exact Or.inr rfl | exact Or.inr (Or.inl rfl) | exact Or.inr (Or.inr (Or.inl rfl)) | exact Or.inr (Or.inr (Or.inr rfl)) | exact Or.inr (Or.inr rfl) | exact Or.inr (Or.inr (Or.inr (Or.inl rfl))) | exact Or.inr (Or.inr (Or.inr (Or.inr (Or.inl rfl)))) | exact Or.inr (Or.inr (Or.inr (Or.inr (Or.inr rfl)))))
  have hf_63 := (congrFun eG_61 m).trans ((ms_up_n G_52 _ (by omega)).trans hf_54)
  have hf_64 := (congrFun eG_61 aw).trans ((ms_up_n G_52 _ (by omega)).trans hf_55)
  have hf_65 := (congrFun eG_61 am).trans ((ms_up_n G_52 _ (by omega)).trans hf_56)
  have hf_66 := (congrFun eG_61 ai).trans ((ms_up_n G_52 _ (by omega)).trans hf_57)
  have hf_67 := (congrFun eG_61 ah).trans ((ms_up_n G_52 _ (by omega)).trans hf_58)
  have hf_68 := (congrFun eG_61 n).trans ((ms_up_n G_52 _ (by omega)).trans hf_59)
  have hf_69 := (congrFun eG_61 (n + 1)).trans ((ms_up_n G_52 _ (by omega)).trans hf_60)
  have hf_70 : G_61 (n + 2) = some (.inl (0, 192, .inl (fun _ => 0))) := by rw [eG_61]; exact ms_up_s _ _ _
  refine ms_putf dX6_putBy_45 fp_X6_39 hf_63 (Nat.le_of_ble_eq_true rfl) rfl rfl ?_
  obtain ⟨G_71, eG_71⟩ : ∃ K9 : ms_H, K9 = ms_up G_61 m (.inr (6, [.int th, .int (nI W), .int (nI H), .int cl, .int dr, .int pa, .ref aw, .ref am, .int (nI cnt), .ref (n + 2), .ref ah])) := ⟨_, rfl⟩
  refine ms_W.heq eG_71 ?_
  have hF_72 : ms_fb (fun a => a = m) n G G_71 := by rw [eG_71]; exact ms_fb.up hF_62 (by first | exact Or.inl (by omega) | exact Or.inr rfl | exact Or.inr (Or.inl rfl) | exact Or.inr (Or.inr (Or.inl rfl)) | exact Or.inr (Or.inr (Or.inr rfl)) | exact Or.inr (Or.inr rfl) | exact Or.inr (Or.inr (Or.inr (Or.inl rfl))) | exact Or.inr (Or.inr (Or.inr (Or.inr (Or.inl rfl)))) | exact Or.inr (Or.inr (Or.inr (Or.inr (Or.inr rfl)))))
  have hf_73 : G_71 m = some (.inr (6, [.int th, .int (nI W), .int (nI H), .int cl, .int dr, .int pa, .ref aw, .ref am, .int (nI cnt), .ref (n + 2), .ref ah])) := by rw [eG_71]; exact ms_up_s _ _ _
  have hf_74 := (congrFun eG_71 aw).trans ((ms_up_n G_61 _ (by omega)).trans hf_64)
  have hf_75 := (congrFun eG_71 am).trans ((ms_up_n G_61 _ (by omega)).trans hf_65)
  have hf_76 := (congrFun eG_71 ai).trans ((ms_up_n G_61 _ (by omega)).trans hf_66)
  have hf_77 := (congrFun eG_71 ah).trans ((ms_up_n G_61 _ (by omega)).trans hf_67)
  have hf_78 := (congrFun eG_71 n).trans ((ms_up_n G_61 _ (by omega)).trans hf_68)
  have hf_79 := (congrFun eG_71 (n + 1)).trans ((ms_up_n G_61 _ (by omega)).trans hf_69)
  have hf_80 := (congrFun eG_71 (n + 2)).trans ((ms_up_n G_61 _ (by omega)).trans hf_70)
  refine ms_run (pc' := 50) (lv' := [(1, .ref n), (0, .ref m)]) (st' := [.ref m, .ref m]) _ (ms_deC dX6_putBy_48 (ms_deC dX6_putBy_49 ms_deN)) rfl rfl ?_
  refine ms_getf dX6_putBy_50 fg_X6_20 hf_73 rfl ?_
  refine ms_run (pc' := 54) (lv' := [(1, .ref n), (0, .ref m)]) (st' := [.ref m, .int (nI W), .ref m]) _ (ms_deC dX6_putBy_53 ms_deN) rfl rfl ?_
  refine ms_getf dX6_putBy_54 fg_X6_23 hf_73 rfl ?_
  refine ms_run (pc' := 58) (lv' := [(1, .ref n), (0, .ref m)]) (st' := [.int ((nI W) * (nI H)), .ref m]) _ (ms_deC dX6_putBy_57 ms_deN) rfl rfl ?_
  rw [show nI W * nI H = nI (W * H) from pk_mul W H]
  refine ms_W.room (k2 := 1 + 0) (z2 := (W * H) + 0) ?_ (by omega) (by omega)
  refine ms_newI (N := (W * H)) dX6_putBy_58 aw_int (nI_pos (by omega)) (nI_clamp (by omega)) (by omega) ?_
  obtain ⟨G_81, eG_81⟩ : ∃ K9 : ms_H, K9 = ms_up G_71 (n + 3) (.inl (0, (W * H), .inl (fun _ => 0))) := ⟨_, rfl⟩
  refine ms_W.heq eG_81 ?_
  have hF_82 : ms_fb (fun a => a = m) n G G_81 := by rw [eG_81]; exact ms_fb.up hF_72 (by first | exact Or.inl (by omega) | exact Or.inr rfl | exact Or.inr (Or.inl rfl) | exact Or.inr (Or.inr (Or.inl rfl)) | exact Or.inr (Or.inr (Or.inr rfl)) | exact Or.inr (Or.inr rfl) | exact Or.inr (Or.inr (Or.inr (Or.inl rfl))) | exact Or.inr (Or.inr (Or.inr (Or.inr (Or.inl rfl)))) | exact Or.inr (Or.inr (Or.inr (Or.inr (Or.inr rfl)))))
  have hf_83 := (congrFun eG_81 m).trans ((ms_up_n G_71 _ (by omega)).trans hf_73)
  have hf_84 := (congrFun eG_81 aw).trans ((ms_up_n G_71 _ (by omega)).trans hf_74)
  have hf_85 := (congrFun eG_81 am).trans ((ms_up_n G_71 _ (by omega)).trans hf_75)
  have hf_86 := (congrFun eG_81 ai).trans ((ms_up_n G_71 _ (by omega)).trans hf_76)
  have hf_87 := (congrFun eG_81 ah).trans ((ms_up_n G_71 _ (by omega)).trans hf_77)
  have hf_88 := (congrFun eG_81 n).trans ((ms_up_n G_71 _ (by omega)).trans hf_78)
  have hf_89 := (congrFun eG_81 (n + 1)).trans ((ms_up_n G_71 _ (by omega)).trans hf_79)
  have hf_90 := (congrFun eG_81 (n + 2)).trans ((ms_up_n G_71 _ (by omega)).trans hf_80)
  have hf_91 : G_81 (n + 3) = some (.inl (0, (W * H), .inl (fun _ => 0))) := by rw [eG_81]; exact ms_up_s _ _ _
  refine ms_putf dX6_putBy_60 fp_X6_43 hf_83 (Nat.le_of_ble_eq_true rfl) rfl rfl ?_
  obtain ⟨G_92, eG_92⟩ : ∃ K9 : ms_H, K9 = ms_up G_81 m (.inr (6, [.int th, .int (nI W), .int (nI H), .int cl, .int dr, .int pa, .ref aw, .ref am, .int (nI cnt), .ref (n + 2), .ref (n + 3)])) := ⟨_, rfl⟩
  refine ms_W.heq eG_92 ?_
  have hF_93 : ms_fb (fun a => a = m) n G G_92 := by rw [eG_92]; exact ms_fb.up hF_82 (by first | exact Or.inl (by omega) | exact Or.inr rfl | exact Or.inr (Or.inl rfl) | exact Or.inr (Or.inr (Or.inl rfl)) | exact Or.inr (Or.inr (Or.inr rfl)) | exact Or.inr (Or.inr rfl) | exact Or.inr (Or.inr (Or.inr (Or.inl rfl))) | exact Or.inr (Or.inr (Or.inr (Or.inr (Or.inl rfl)))) | exact Or.inr (Or.inr (Or.inr (Or.inr (Or.inr rfl)))))
  have hf_94 : G_92 m = some (.inr (6, [.int th, .int (nI W), .int (nI H), .int cl, .int dr, .int pa, .ref aw, .ref am, .int (nI cnt), .ref (n + 2), .ref (n + 3)])) := by rw [eG_92]; exact ms_up_s _ _ _
  have hf_95 := (congrFun eG_92 aw).trans ((ms_up_n G_81 _ (by omega)).trans hf_84)
  have hf_96 := (congrFun eG_92 am).trans ((ms_up_n G_81 _ (by omega)).trans hf_85)
  have hf_97 := (congrFun eG_92 ai).trans ((ms_up_n G_81 _ (by omega)).trans hf_86)
  have hf_98 := (congrFun eG_92 ah).trans ((ms_up_n G_81 _ (by omega)).trans hf_87)
  have hf_99 := (congrFun eG_92 n).trans ((ms_up_n G_81 _ (by omega)).trans hf_88)
  have hf_100 := (congrFun eG_92 (n + 1)).trans ((ms_up_n G_81 _ (by omega)).trans hf_89)
  have hf_101 := (congrFun eG_92 (n + 2)).trans ((ms_up_n G_81 _ (by omega)).trans hf_90)
  have hf_102 := (congrFun eG_92 (n + 3)).trans ((ms_up_n G_81 _ (by omega)).trans hf_91)
  refine ms_run (pc' := 65) (lv' := [(1, .ref n), (0, .ref m)]) (st' := [.int 0, .ref n]) _ (ms_deC dX6_putBy_63 (ms_deC dX6_putBy_64 ms_deN)) rfl rfl ?_
  refine ms_aaloadA dX6_putBy_65 hf_99 (by unfold vp_in; decide) ?_
  rw [show (va_up (va_up (va_up (fun _ => none) (0 : Int32).toNatClampNeg (some ai)) (1 : Int32).toNatClampNeg (some ah)) (2 : Int32).toNatClampNeg (some (n + 1))) (0 : Int32).toNatClampNeg = some ai from rfl]
  show ms_W _ _ _ _ _ (.ref ai :: _) _ _ _ _
  refine ms_run (pc' := 68) (lv' := [(1, .ref n), (0, .ref m)]) (st' := [.ref m, .int 0, .ref ai]) _ (ms_deC dX6_putBy_66 (ms_deC dX6_putBy_67 ms_deN)) rfl rfl ?_
  refine ms_getf dX6_putBy_68 fg_X6_39 hf_94 rfl ?_
  refine ms_run (pc' := 73) (lv' := [(1, .ref n), (0, .ref m)]) (st' := [.ref m, .int 0, .ref (n + 2), .int 0, .ref ai]) _ (ms_deC dX6_putBy_71 (ms_deC dX6_putBy_72 ms_deN)) rfl rfl ?_
  refine ms_getf dX6_putBy_73 fg_X6_39 hf_94 rfl ?_
  refine ms_alen (kd := 0) (v := nI 192) (ty := fun c => (c, .int)) dX6_putBy_76 hf_101 (by decide) rfl ?_
  refine ms_copyF (N := 192) dX6_putBy_77 ac_X6_104 hf_97 hf_101 (by decide) ⟨Nat.le_of_ble_eq_true rfl, by decide +kernel⟩ (Nat.le_of_ble_eq_true rfl) ?_
  obtain ⟨G_103, eG_103⟩ : ∃ K9 : ms_H, K9 = ms_up G_92 (n + 2) (.inl (0, 192, .inl it)) := ⟨_, rfl⟩
  refine ms_W.heq eG_103 ?_
  have hF_104 : ms_fb (fun a => a = m) n G G_103 := by rw [eG_103]; exact ms_fb.up hF_93 (by first | exact Or.inl (by omega) | exact Or.inr rfl | exact Or.inr (Or.inl rfl) | exact Or.inr (Or.inr (Or.inl rfl)) | exact Or.inr (Or.inr (Or.inr rfl)) | exact Or.inr (Or.inr rfl) | exact Or.inr (Or.inr (Or.inr (Or.inl rfl))) | exact Or.inr (Or.inr (Or.inr (Or.inr (Or.inl rfl)))) | exact Or.inr (Or.inr (Or.inr (Or.inr (Or.inr rfl)))))
  have hf_105 := (congrFun eG_103 m).trans ((ms_up_n G_92 _ (by omega)).trans hf_94)
  have hf_106 := (congrFun eG_103 aw).trans ((ms_up_n G_92 _ (by omega)).trans hf_95)
  have hf_107 := (congrFun eG_103 am).trans ((ms_up_n G_92 _ (by omega)).trans hf_96)
  have hf_108 := (congrFun eG_103 ai).trans ((ms_up_n G_92 _ (by omega)).trans hf_97)
  have hf_109 := (congrFun eG_103 ah).trans ((ms_up_n G_92 _ (by omega)).trans hf_98)
  have hf_110 := (congrFun eG_103 n).trans ((ms_up_n G_92 _ (by omega)).trans hf_99)
  have hf_111 := (congrFun eG_103 (n + 1)).trans ((ms_up_n G_92 _ (by omega)).trans hf_100)
  have hf_112 : G_103 (n + 2) = some (.inl (0, 192, .inl it)) := by rw [eG_103]; exact ms_up_s _ _ _
  have hf_113 := (congrFun eG_103 (n + 3)).trans ((ms_up_n G_92 _ (by omega)).trans hf_102)
  refine ms_run (pc' := 82) (lv' := [(1, .ref n), (0, .ref m)]) (st' := [.int 1, .ref n]) _ (ms_deC dX6_putBy_80 (ms_deC dX6_putBy_81 ms_deN)) rfl rfl ?_
  refine ms_aaloadA dX6_putBy_82 hf_110 (by unfold vp_in; decide) ?_
  rw [show (va_up (va_up (va_up (fun _ => none) (0 : Int32).toNatClampNeg (some ai)) (1 : Int32).toNatClampNeg (some ah)) (2 : Int32).toNatClampNeg (some (n + 1))) (1 : Int32).toNatClampNeg = some ah from rfl]
  show ms_W _ _ _ _ _ (.ref ah :: _) _ _ _ _
  refine ms_run (pc' := 85) (lv' := [(1, .ref n), (0, .ref m)]) (st' := [.ref m, .int 0, .ref ah]) _ (ms_deC dX6_putBy_83 (ms_deC dX6_putBy_84 ms_deN)) rfl rfl ?_
  refine ms_getf dX6_putBy_85 fg_X6_43 hf_105 rfl ?_
  refine ms_run (pc' := 90) (lv' := [(1, .ref n), (0, .ref m)]) (st' := [.ref m, .int 0, .ref (n + 3), .int 0, .ref ah]) _ (ms_deC dX6_putBy_88 (ms_deC dX6_putBy_89 ms_deN)) rfl rfl ?_
  refine ms_getf dX6_putBy_90 fg_X6_43 hf_105 rfl ?_
  refine ms_alen (kd := 0) (v := nI (W * H)) (ty := fun c => (c, .int)) dX6_putBy_93 hf_113 (by decide) rfl ?_
  refine ms_copyF (N := (W * H)) dX6_putBy_94 ac_X6_104 hf_109 hf_113 (⟨nI_clamp (by omega), nI_pos (by omega)⟩) ⟨Nat.le_of_ble_eq_true rfl, by decide +kernel⟩ (Nat.le_of_ble_eq_true rfl) ?_
  obtain ⟨G_114, eG_114⟩ : ∃ K9 : ms_H, K9 = ms_up G_103 (n + 3) (.inl (0, (W * H), .inl ht)) := ⟨_, rfl⟩
  refine ms_W.heq eG_114 ?_
  have hF_115 : ms_fb (fun a => a = m) n G G_114 := by rw [eG_114]; exact ms_fb.up hF_104 (by first | exact Or.inl (by omega) | exact Or.inr rfl | exact Or.inr (Or.inl rfl) | exact Or.inr (Or.inr (Or.inl rfl)) | exact Or.inr (Or.inr (Or.inr rfl)) | exact Or.inr (Or.inr rfl) | exact Or.inr (Or.inr (Or.inr (Or.inl rfl))) | exact Or.inr (Or.inr (Or.inr (Or.inr (Or.inl rfl)))) | exact Or.inr (Or.inr (Or.inr (Or.inr (Or.inr rfl)))))
  have hf_116 := (congrFun eG_114 m).trans ((ms_up_n G_103 _ (by omega)).trans hf_105)
  have hf_117 := (congrFun eG_114 aw).trans ((ms_up_n G_103 _ (by omega)).trans hf_106)
  have hf_118 := (congrFun eG_114 am).trans ((ms_up_n G_103 _ (by omega)).trans hf_107)
  have hf_119 := (congrFun eG_114 ai).trans ((ms_up_n G_103 _ (by omega)).trans hf_108)
  have hf_120 := (congrFun eG_114 ah).trans ((ms_up_n G_103 _ (by omega)).trans hf_109)
  have hf_121 := (congrFun eG_114 n).trans ((ms_up_n G_103 _ (by omega)).trans hf_110)
  have hf_122 := (congrFun eG_114 (n + 1)).trans ((ms_up_n G_103 _ (by omega)).trans hf_111)
  have hf_123 := (congrFun eG_114 (n + 2)).trans ((ms_up_n G_103 _ (by omega)).trans hf_112)
  have hf_124 : G_114 (n + 3) = some (.inl (0, (W * H), .inl ht)) := by rw [eG_114]; exact ms_up_s _ _ _
  refine ms_run (pc' := 98) (lv' := [(1, .ref n), (0, .ref m)]) (st' := [.ref n]) _ (ms_deC dX6_putBy_97 ms_deN) rfl rfl ?_
  refine ms_reta (st := []) (v := .ref n) dX6_putBy_98 rfl (Or.inr ⟨_, rfl⟩) (Or.inr ⟨_, rfl⟩) ?_
  exact ⟨rfl, rfl, hF_115, ⟨hf_116, hf_117, hf_118, ⟨_, hf_123, hit⟩, hf_124⟩, ⟨_, hf_121, rfl, rfl, rfl⟩, ⟨_, hf_122, rfl, rfl⟩⟩
set_option maxHeartbeats 1000000 in
set_option maxRecDepth 20000 in
theorem c_X6_putBack {n m aw am a2 h2 ai ah a b W H cnt : Nat} {G : ms_H} {th cl2 dr2 cl dr pa : Int32} {wl mm ht ht2 it0 : Nat → Int32} {u u2 : Nat → Nat → Int32} (hM : md_at G m aw am a2 h2 W H th cl2 dr2 pa cnt wl mm ht2 u2) (hWs : was_at G a b ai ah cl dr) (hi0 : G ai = some (.inl (0, 192, .inl it0))) (hit0 : ∀ k, k < cnt → ∀ j, j < 8 → it0 (k * 8 + j) = u k j) (hh0 : G ah = some (.inl (0, W * H, .inl ht))) (d1 : m ≠ aw) (d2 : m ≠ am) (d3 : m ≠ ai) (d4 : m ≠ ah) (d5 : m ≠ a) (d6 : m ≠ b) : ms_M m_X6_putBack [.ref m, .ref a] n G 0 0 (fun r9 n1 G1 => r9 = .inl none ∧ n1 = n ∧ ms_fb (fun q => q = m) n G G1 ∧ md_at G1 m aw am ai ah W H th cl dr pa cnt wl mm ht u) := by
  refine ms_M.of (by decide) (Nat.le_of_ble_eq_true rfl) ?_
  show ms_W false m_X6_putBack _ 0 [(0, .ref m), (1, .ref a)] [] n G 0 0
  obtain ⟨hm, hw_, hk_, ⟨it, hi_, hit⟩, hh_⟩ := hM
  obtain ⟨⟨f, hwa, f0, f1, f2⟩, g, hwb, g0, g1⟩ := hWs
  have hF : ms_fb (fun q => q = m) n G G := ms_fb.rf
  refine ms_run (pc' := 3) (lv' := [(0, .ref m), (1, .ref a)]) (st' := [.int 0, .ref a, .ref m]) _ (ms_deC dX6_putBack_0 (ms_deC dX6_putBack_1 (ms_deC dX6_putBack_2 ms_deN))) rfl rfl ?_
  refine ms_aaloadA dX6_putBack_3 hwa (by unfold vp_in; decide) ?_
  rw [show f (0 : Int32).toNatClampNeg = some ai from f0]
  show ms_W _ _ _ _ _ (.ref ai :: _) _ _ _ _
  refine ms_putf dX6_putBack_4 fp_X6_39 hm (Nat.le_of_ble_eq_true rfl) rfl rfl ?_
  obtain ⟨G_1, eG_1⟩ : ∃ K9 : ms_H, K9 = ms_up G m (.inr (6, [.int th, .int (nI W), .int (nI H), .int cl2, .int dr2, .int pa, .ref aw, .ref am, .int (nI cnt), .ref ai, .ref h2])) := ⟨_, rfl⟩
  refine ms_W.heq eG_1 ?_
  have hF_2 : ms_fb (fun q => q = m) n G G_1 := by rw [eG_1]; exact ms_fb.up hF (by first | exact Or.inl (by omega) | exact Or.inr rfl | exact Or.inr (Or.inl rfl) | exact Or.inr (Or.inr (Or.inl rfl)) | exact Or.inr (Or.inr (Or.inr rfl)) | exact Or.inr (Or.inr rfl) | exact Or.inr (Or.inr (Or.inr (Or.inl rfl))) | exact Or.inr (Or.inr (Or.inr (Or.inr (Or.inl rfl)))) | exact Or.inr (Or.inr (Or.inr (Or.inr (Or.inr rfl)))))
  have hf_3 : G_1 m = some (.inr (6, [.int th, .int (nI W), .int (nI H), .int cl2, .int dr2, .int pa, .ref aw, .ref am, .int (nI cnt), .ref ai, .ref h2])) := by rw [eG_1]; exact ms_up_s _ _ _
  have hf_4 := (congrFun eG_1 aw).trans ((ms_up_n G _ (by omega)).trans hw_)
  have hf_5 := (congrFun eG_1 am).trans ((ms_up_n G _ (by omega)).trans hk_)
  have hf_6 := (congrFun eG_1 ai).trans ((ms_up_n G _ (by omega)).trans hi0)
  have hf_7 := (congrFun eG_1 ah).trans ((ms_up_n G _ (by omega)).trans hh0)
  have hf_8 := (congrFun eG_1 a).trans ((ms_up_n G _ (by omega)).trans hwa)
  have hf_9 := (congrFun eG_1 b).trans ((ms_up_n G _ (by omega)).trans hwb)
  refine ms_run (pc' := 10) (lv' := [(0, .ref m), (1, .ref a)]) (st' := [.int 1, .ref a, .ref m]) _ (ms_deC dX6_putBack_7 (ms_deC dX6_putBack_8 (ms_deC dX6_putBack_9 ms_deN))) rfl rfl ?_
  refine ms_aaloadA dX6_putBack_10 hf_8 (by unfold vp_in; decide) ?_
  rw [show f (1 : Int32).toNatClampNeg = some ah from f1]
  show ms_W _ _ _ _ _ (.ref ah :: _) _ _ _ _
  refine ms_putf dX6_putBack_11 fp_X6_43 hf_3 (Nat.le_of_ble_eq_true rfl) rfl rfl ?_
  obtain ⟨G_10, eG_10⟩ : ∃ K9 : ms_H, K9 = ms_up G_1 m (.inr (6, [.int th, .int (nI W), .int (nI H), .int cl2, .int dr2, .int pa, .ref aw, .ref am, .int (nI cnt), .ref ai, .ref ah])) := ⟨_, rfl⟩
  refine ms_W.heq eG_10 ?_
  have hF_11 : ms_fb (fun q => q = m) n G G_10 := by rw [eG_10]; exact ms_fb.up hF_2 (by first | exact Or.inl (by omega) | exact Or.inr rfl | exact Or.inr (Or.inl rfl) | exact Or.inr (Or.inr (Or.inl rfl)) | exact Or.inr (Or.inr (Or.inr rfl)) | exact Or.inr (Or.inr rfl) | exact Or.inr (Or.inr (Or.inr (Or.inl rfl))) | exact Or.inr (Or.inr (Or.inr (Or.inr (Or.inl rfl)))) | exact Or.inr (Or.inr (Or.inr (Or.inr (Or.inr rfl)))))
  have hf_12 : G_10 m = some (.inr (6, [.int th, .int (nI W), .int (nI H), .int cl2, .int dr2, .int pa, .ref aw, .ref am, .int (nI cnt), .ref ai, .ref ah])) := by rw [eG_10]; exact ms_up_s _ _ _
  have hf_13 := (congrFun eG_10 aw).trans ((ms_up_n G_1 _ (by omega)).trans hf_4)
  have hf_14 := (congrFun eG_10 am).trans ((ms_up_n G_1 _ (by omega)).trans hf_5)
  have hf_15 := (congrFun eG_10 ai).trans ((ms_up_n G_1 _ (by omega)).trans hf_6)
  have hf_16 := (congrFun eG_10 ah).trans ((ms_up_n G_1 _ (by omega)).trans hf_7)
  have hf_17 := (congrFun eG_10 a).trans ((ms_up_n G_1 _ (by omega)).trans hf_8)
  have hf_18 := (congrFun eG_10 b).trans ((ms_up_n G_1 _ (by omega)).trans hf_9)
  refine ms_run (pc' := 17) (lv' := [(0, .ref m), (1, .ref a)]) (st' := [.int 2, .ref a, .ref m]) _ (ms_deC dX6_putBack_14 (ms_deC dX6_putBack_15 (ms_deC dX6_putBack_16 ms_deN))) rfl rfl ?_
  refine ms_aaloadA dX6_putBack_17 hf_17 (by unfold vp_in; decide) ?_
  rw [show f (2 : Int32).toNatClampNeg = some b from f2]
  show ms_W _ _ _ _ _ (.ref b :: _) _ _ _ _
  refine ms_run (pc' := 19) (lv' := [(0, .ref m), (1, .ref a)]) (st' := [.int 0, .ref b, .ref m]) _ (ms_deC dX6_putBack_18 ms_deN) rfl rfl ?_
  refine ms_iaload dX6_putBack_19 hf_18 (by unfold vp_in; decide) ?_
  rw [show g (0 : Int32).toNatClampNeg = cl from g0]
  refine ms_putf dX6_putBack_20 fp_X6_26 hf_12 (Nat.le_of_ble_eq_true rfl) rfl rfl ?_
  obtain ⟨G_19, eG_19⟩ : ∃ K9 : ms_H, K9 = ms_up G_10 m (.inr (6, [.int th, .int (nI W), .int (nI H), .int cl, .int dr2, .int pa, .ref aw, .ref am, .int (nI cnt), .ref ai, .ref ah])) := ⟨_, rfl⟩
  refine ms_W.heq eG_19 ?_
  have hF_20 : ms_fb (fun q => q = m) n G G_19 := by rw [eG_19]; exact ms_fb.up hF_11 (by first | exact Or.inl (by omega) | exact Or.inr rfl | exact Or.inr (Or.inl rfl) | exact Or.inr (Or.inr (Or.inl rfl)) | exact Or.inr (Or.inr (Or.inr rfl)) | exact Or.inr (Or.inr rfl) | exact Or.inr (Or.inr (Or.inr (Or.inl rfl))) | exact Or.inr (Or.inr (Or.inr (Or.inr (Or.inl rfl)))) | exact Or.inr (Or.inr (Or.inr (Or.inr (Or.inr rfl)))))
  have hf_21 : G_19 m = some (.inr (6, [.int th, .int (nI W), .int (nI H), .int cl, .int dr2, .int pa, .ref aw, .ref am, .int (nI cnt), .ref ai, .ref ah])) := by rw [eG_19]; exact ms_up_s _ _ _
  have hf_22 := (congrFun eG_19 aw).trans ((ms_up_n G_10 _ (by omega)).trans hf_13)
  have hf_23 := (congrFun eG_19 am).trans ((ms_up_n G_10 _ (by omega)).trans hf_14)
  have hf_24 := (congrFun eG_19 ai).trans ((ms_up_n G_10 _ (by omega)).trans hf_15)
  have hf_25 := (congrFun eG_19 ah).trans ((ms_up_n G_10 _ (by omega)).trans hf_16)
  have hf_26 := (congrFun eG_19 a).trans ((ms_up_n G_10 _ (by omega)).trans hf_17)
  have hf_27 := (congrFun eG_19 b).trans ((ms_up_n G_10 _ (by omega)).trans hf_18)
  refine ms_run (pc' := 26) (lv' := [(0, .ref m), (1, .ref a)]) (st' := [.int 2, .ref a, .ref m]) _ (ms_deC dX6_putBack_23 (ms_deC dX6_putBack_24 (ms_deC dX6_putBack_25 ms_deN))) rfl rfl ?_
  refine ms_aaloadA dX6_putBack_26 hf_26 (by unfold vp_in; decide) ?_
  rw [show f (2 : Int32).toNatClampNeg = some b from f2]
  show ms_W _ _ _ _ _ (.ref b :: _) _ _ _ _
  refine ms_run (pc' := 28) (lv' := [(0, .ref m), (1, .ref a)]) (st' := [.int 1, .ref b, .ref m]) _ (ms_deC dX6_putBack_27 ms_deN) rfl rfl ?_
  refine ms_iaload dX6_putBack_28 hf_27 (by unfold vp_in; decide) ?_
  rw [show g (1 : Int32).toNatClampNeg = dr from g1]
  refine ms_putf dX6_putBack_29 fp_X6_7 hf_21 (Nat.le_of_ble_eq_true rfl) rfl rfl ?_
  obtain ⟨G_28, eG_28⟩ : ∃ K9 : ms_H, K9 = ms_up G_19 m (.inr (6, [.int th, .int (nI W), .int (nI H), .int cl, .int dr, .int pa, .ref aw, .ref am, .int (nI cnt), .ref ai, .ref ah])) := ⟨_, rfl⟩
  refine ms_W.heq eG_28 ?_
  have hF_29 : ms_fb (fun q => q = m) n G G_28 := by rw [eG_28]; exact ms_fb.up hF_20 (by first | exact Or.inl (by omega) | exact Or.inr rfl | exact Or.inr (Or.inl rfl) | exact Or.inr (Or.inr (Or.inl rfl)) | exact Or.inr (Or.inr (Or.inr rfl)) | exact Or.inr (Or.inr rfl) | exact Or.inr (Or.inr (Or.inr (Or.inl rfl))) | exact Or.inr (Or.inr (Or.inr (Or.inr (Or.inl rfl)))) | exact Or.inr (Or.inr (Or.inr (Or.inr (Or.inr rfl)))))
  have hf_30 : G_28 m = some (.inr (6, [.int th, .int (nI W), .int (nI H), .int cl, .int dr, .int pa, .ref aw, .ref am, .int (nI cnt), .ref ai, .ref ah])) := by rw [eG_28]; exact ms_up_s _ _ _
  have hf_31 := (congrFun eG_28 aw).trans ((ms_up_n G_19 _ (by omega)).trans hf_22)
  have hf_32 := (congrFun eG_28 am).trans ((ms_up_n G_19 _ (by omega)).trans hf_23)
  have hf_33 := (congrFun eG_28 ai).trans ((ms_up_n G_19 _ (by omega)).trans hf_24)
  have hf_34 := (congrFun eG_28 ah).trans ((ms_up_n G_19 _ (by omega)).trans hf_25)
  have hf_35 := (congrFun eG_28 a).trans ((ms_up_n G_19 _ (by omega)).trans hf_26)
  have hf_36 := (congrFun eG_28 b).trans ((ms_up_n G_19 _ (by omega)).trans hf_27)
  refine ms_retv (st := []) dX6_putBack_32 rfl ?_
  exact ⟨rfl, rfl, hF_29, hf_30, hf_31, hf_32, ⟨_, hf_33, hit0⟩, hf_34⟩

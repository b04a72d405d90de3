/-! StarlingSquare: the constructor -/
theorem nI_lit10 : (10 : Int32) = nI 10 := rfl
theorem nI_lit8 : (8 : Int32) = nI 8 := rfl
def X00 : cX := (fun _ _ => 0, fun _ => 0, fun _ => -1, 0)
set_option maxHeartbeats 4000000 in
set_option maxRecDepth 20000 in
theorem c_X5_init {x g q c j q2 c2 : Nat} {G : ms_H} (eg : g = x + 1) (eq9 : q = g + 2) (ec : c = q + 5) (ej : j = c + 29) (eq2 : q2 = j + 4) (ec2 : c2 = q2 + 5) (hX : G x = some (.inr (5, [.null, .null, .null, .null, .null, .null]))) : ms_M m_X5_init [.ref x] g G 74 6175 (fun r n1 G1 => r = .inl none ∧ n1 = c2 + 29 ∧ ms_fr x (c2 + 29 - x) G G1 ∧ ∃ nr, xs_at G1 x g q c j q2 c2 10 8 nr (fun _ => 0) (fun _ => 0) (fun _ => -1) 0 2 3 X00 ∧ lk_ok 10 8 80 nr) := by
  refine ms_M.of (by decide) (Nat.le_of_ble_eq_true rfl) ?_
  show ms_W false m_X5_init _ 0 [(0, .ref x)] [] g G 74 6175
  have hF : ms_fr x (c2 + 29 - x) G G := ms_fr.rf
  refine ms_run (pc' := 1) (lv' := [(0, .ref x)]) (st' := [.ref x]) _ (ms_deC dX5_init_0 ms_deN) rfl rfl ?_
  refine ms_objInit dX5_init_1 oi_X5_1 ⟨Nat.le_of_ble_eq_true rfl, Nat.le_of_ble_eq_true rfl⟩ (Nat.le_of_ble_eq_true rfl) ?_
  refine ms_run (pc' := 5) (lv' := [(0, .ref x)]) (st' := [.ref x]) _ (ms_deC dX5_init_4 ms_deN) rfl rfl ?_
  refine ms_W.room (k2 := 1 + 73) (z2 := 4 + 6171) ?_ (by omega) (by omega)
  refine ms_new (fs := [.int 0, .int 0, .int 0, .null]) dX5_init_5 nw_X5_7 ?_
  obtain ⟨G_1, eG_1⟩ : ∃ K9 : ms_H, K9 = ms_up G g (.inr (1, [.int 0, .int 0, .int 0, .null])) := ⟨_, rfl⟩
  refine ms_W.heq eG_1 ?_
  have hF_2 : ms_fr x (c2 + 29 - x) G G_1 := by rw [eG_1]; exact ms_fr.up hF (by omega)
  have hf_3 := (congrFun eG_1 x).trans ((ms_up_n G _ (by omega)).trans hX)
  have hf_4 : G_1 g = some (.inr (1, [.int 0, .int 0, .int 0, .null])) := by rw [eG_1]; exact ms_up_s _ _ _
  refine ms_run (pc' := 9) (lv' := [(0, .ref x)]) (st' := [.ref g, .ref g, .ref x]) _ (ms_deC dX5_init_8 ms_deN) rfl rfl ?_
  refine ms_W.room (k2 := 1 + 72) (z2 := 1568 + 4603) ?_ (by omega) (by omega)
  refine ms_callIN (As := []) dX5_init_9 (c_X1_init hf_4) cin_X5_9 rfl ⟨Nat.le_of_ble_eq_true rfl, Nat.le_of_ble_eq_true rfl⟩ rfl (Nat.le_of_ble_eq_true rfl) (fun v9 n9 K_gr hp9 => ?_)
  obtain ⟨hv9, rfl, hG, hF_gr⟩ := hp9
  cases hv9
  rw [← eq9]
  have hF_5 : ms_fr x (c2 + 29 - x) G K_gr := ms_fr.trans hF_2 (ms_fr.mono hF_gr (by omega) (by omega))
  have hf_6 := (hF_gr x (by omega)).trans hf_3
  refine ms_putF dX5_init_12 fp_X5_10 rfl hf_6 (Nat.le_of_ble_eq_true rfl) rfl rfl ?_
  obtain ⟨G_7, eG_7⟩ : ∃ K9 : ms_H, K9 = ms_up K_gr x (.inr (5, [.ref g, .null, .null, .null, .null, .null])) := ⟨_, rfl⟩
  refine ms_W.heq eG_7 ?_
  have hF_8 : ms_fr x (c2 + 29 - x) G G_7 := by rw [eG_7]; exact ms_fr.up hF_5 (by omega)
  have hG_9 : gr_at G_7 g 0 0 0 (fun _ => 0) := by rw [eG_7]; exact gr_at.up hG (by omega)
  have hf_10 : G_7 x = some (.inr (5, [.ref g, .null, .null, .null, .null, .null])) := by rw [eG_7]; exact ms_up_s _ _ _
  refine ms_run (pc' := 16) (lv' := [(0, .ref x)]) (st' := [.ref x]) _ (ms_deC dX5_init_15 ms_deN) rfl rfl ?_
  refine ms_W.room (k2 := 1 + 71) (z2 := 5 + 4598) ?_ (by omega) (by omega)
  refine ms_new (fs := [.null, .null, .null, .null, .null]) dX5_init_16 nw_X5_16 ?_
  obtain ⟨G_11, eG_11⟩ : ∃ K9 : ms_H, K9 = ms_up G_7 q (.inr (3, [.null, .null, .null, .null, .null])) := ⟨_, rfl⟩
  refine ms_W.heq eG_11 ?_
  have hF_12 : ms_fr x (c2 + 29 - x) G G_11 := by rw [eG_11]; exact ms_fr.up hF_8 (by omega)
  have hG_13 : gr_at G_11 g 0 0 0 (fun _ => 0) := by rw [eG_11]; exact gr_at.up hG_9 (by omega)
  have hf_14 := (congrFun eG_11 x).trans ((ms_up_n G_7 _ (by omega)).trans hf_10)
  have hf_15 : G_11 q = some (.inr (3, [.null, .null, .null, .null, .null])) := by rw [eG_11]; exact ms_up_s _ _ _
  refine ms_run (pc' := 21) (lv' := [(0, .ref x)]) (st' := [.ref x, .ref q, .ref q, .ref x]) _ (ms_deC dX5_init_19 (ms_deC dX5_init_20 ms_deN)) rfl rfl ?_
  refine ms_getf dX5_init_21 fg_X5_10 hf_14 rfl ?_
  refine ms_W.room (k2 := 4 + 67) (z2 := 1372 + 3226) ?_ (by omega) (by omega)
  refine ms_callI (As := [.ref g]) dX5_init_24 (c_X3_init (g := g) hf_15) ci_X5_18 rfl ⟨Nat.le_of_ble_eq_true rfl, Nat.le_of_ble_eq_true rfl⟩ rfl (Nat.le_of_ble_eq_true rfl) (fun v9 n9 K_q hp9 => ?_)
  obtain ⟨hv9, rfl, hQ, hF_q⟩ := hp9
  cases hv9
  rw [← ec]
  have hF_16 : ms_fr x (c2 + 29 - x) G K_q := ms_fr.trans hF_12 (ms_fr.mono hF_q (by omega) (by omega))
  have hG_17 : gr_at K_q g 0 0 0 (fun _ => 0) := gr_at.fr hG_13 hF_q (by omega)
  have hf_18 := (hF_q x (by omega)).trans hf_14
  refine ms_putF dX5_init_27 fp_X5_21 rfl hf_18 (Nat.le_of_ble_eq_true rfl) rfl rfl ?_
  obtain ⟨G_19, eG_19⟩ : ∃ K9 : ms_H, K9 = ms_up K_q x (.inr (5, [.ref g, .ref q, .null, .null, .null, .null])) := ⟨_, rfl⟩
  refine ms_W.heq eG_19 ?_
  have hF_20 : ms_fr x (c2 + 29 - x) G G_19 := by rw [eG_19]; exact ms_fr.up hF_16 (by omega)
  have hG_21 : gr_at G_19 g 0 0 0 (fun _ => 0) := by rw [eG_19]; exact gr_at.up hG_17 (by omega)
  have hQ_22 : sq_at G_19 g q (fun _ => 0) (fun _ => 0) (fun _ => 0) (fun _ => 0) := by rw [eG_19]; exact sq_at.up hQ (by omega)
  have hf_23 : G_19 x = some (.inr (5, [.ref g, .ref q, .null, .null, .null, .null])) := by rw [eG_19]; exact ms_up_s _ _ _
  have hf_24 := (congrFun eG_19 q).trans ((ms_up_n K_q _ (by omega)).trans hQ.1)
  refine ms_run (pc' := 31) (lv' := [(0, .ref x)]) (st' := [.ref x]) _ (ms_deC dX5_init_30 ms_deN) rfl rfl ?_
  refine ms_W.room (k2 := 1 + 66) (z2 := 10 + 3216) ?_ (by omega) (by omega)
  refine ms_new (fs := [.int 0, .int 0, .int 0, .int 0, .null, .null, .null, .null, .null, .null]) dX5_init_31 nw_X5_25 ?_
  obtain ⟨G_25, eG_25⟩ : ∃ K9 : ms_H, K9 = ms_up G_19 c (.inr (0, [.int 0, .int 0, .int 0, .int 0, .null, .null, .null, .null, .null, .null])) := ⟨_, rfl⟩
  refine ms_W.heq eG_25 ?_
  have hF_26 : ms_fr x (c2 + 29 - x) G G_25 := by rw [eG_25]; exact ms_fr.up hF_20 (by omega)
  have hG_27 : gr_at G_25 g 0 0 0 (fun _ => 0) := by rw [eG_25]; exact gr_at.up hG_21 (by omega)
  have hQ_28 : sq_at G_25 g q (fun _ => 0) (fun _ => 0) (fun _ => 0) (fun _ => 0) := by rw [eG_25]; exact sq_at.up hQ_22 (by omega)
  have hf_29 := (congrFun eG_25 x).trans ((ms_up_n G_19 _ (by omega)).trans hf_23)
  have hf_30 := (congrFun eG_25 q).trans ((ms_up_n G_19 _ (by omega)).trans hQ_22.1)
  have hf_31 : G_25 c = some (.inr (0, [.int 0, .int 0, .int 0, .int 0, .null, .null, .null, .null, .null, .null])) := by rw [eG_25]; exact ms_up_s _ _ _
  refine ms_run (pc' := 36) (lv' := [(0, .ref x)]) (st' := [.ref x, .ref c, .ref c, .ref x]) _ (ms_deC dX5_init_34 (ms_deC dX5_init_35 ms_deN)) rfl rfl ?_
  refine ms_getf dX5_init_36 fg_X5_10 hf_29 rfl ?_
  refine ms_run (pc' := 40) (lv' := [(0, .ref x)]) (st' := [.ref x, .ref g, .ref c, .ref c, .ref x]) _ (ms_deC dX5_init_39 ms_deN) rfl rfl ?_
  refine ms_getf dX5_init_40 fg_X5_21 hf_29 rfl ?_
  refine ms_W.room (k2 := 28 + 38) (z2 := 876 + 2340) ?_ (by omega) (by omega)
  refine ms_callI (As := [.ref g, .ref q]) dX5_init_43 (c_X0_init (g := g) (q := q) hf_31) ci_X5_27 rfl ⟨Nat.le_of_ble_eq_true rfl, Nat.le_of_ble_eq_true rfl⟩ rfl (Nat.le_of_ble_eq_true rfl) (fun v9 n9 K_c hp9 => ?_)
  obtain ⟨hv9, rfl, hC, hF_c⟩ := hp9
  cases hv9
  rw [← ej]
  have hF_32 : ms_fr x (c2 + 29 - x) G K_c := ms_fr.trans hF_26 (ms_fr.mono hF_c (by omega) (by omega))
  have hG_33 : gr_at K_c g 0 0 0 (fun _ => 0) := gr_at.fr hG_27 hF_c (by omega)
  have hQ_34 : sq_at K_c g q (fun _ => 0) (fun _ => 0) (fun _ => 0) (fun _ => 0) := sq_at.fr hQ_28 hF_c (by omega)
  have hf_35 := (hF_c x (by omega)).trans hf_29
  refine ms_putF dX5_init_46 fp_X5_30 rfl hf_35 (Nat.le_of_ble_eq_true rfl) rfl rfl ?_
  obtain ⟨G_36, eG_36⟩ : ∃ K9 : ms_H, K9 = ms_up K_c x (.inr (5, [.ref g, .ref q, .ref c, .null, .null, .null])) := ⟨_, rfl⟩
  refine ms_W.heq eG_36 ?_
  have hF_37 : ms_fr x (c2 + 29 - x) G G_36 := by rw [eG_36]; exact ms_fr.up hF_32 (by omega)
  have hG_38 : gr_at G_36 g 0 0 0 (fun _ => 0) := by rw [eG_36]; exact gr_at.up hG_33 (by omega)
  have hQ_39 : sq_at G_36 g q (fun _ => 0) (fun _ => 0) (fun _ => 0) (fun _ => 0) := by rw [eG_36]; exact sq_at.up hQ_34 (by omega)
  have hC_40 : cr_at G_36 g q c (h4 0 0 2 3) (fun _ => 0) (fun _ => 0) (fun _ => 0) (fun _ _ => 0) := by rw [eG_36]; exact cr_at.up hC (by omega)
  have hf_41 : G_36 x = some (.inr (5, [.ref g, .ref q, .ref c, .null, .null, .null])) := by rw [eG_36]; exact ms_up_s _ _ _
  have hf_42 := (congrFun eG_36 q).trans ((ms_up_n K_c _ (by omega)).trans hQ_34.1)
  refine ms_run (pc' := 50) (lv' := [(0, .ref x)]) (st' := [.ref x]) _ (ms_deC dX5_init_49 ms_deN) rfl rfl ?_
  refine ms_W.room (k2 := 1 + 37) (z2 := 5 + 2335) ?_ (by omega) (by omega)
  refine ms_new (fs := [.int 0, .int 0, .null, .null, .null]) dX5_init_50 nw_X5_34 ?_
  obtain ⟨G_43, eG_43⟩ : ∃ K9 : ms_H, K9 = ms_up G_36 j (.inr (2, [.int 0, .int 0, .null, .null, .null])) := ⟨_, rfl⟩
  refine ms_W.heq eG_43 ?_
  have hF_44 : ms_fr x (c2 + 29 - x) G G_43 := by rw [eG_43]; exact ms_fr.up hF_37 (by omega)
  have hG_45 : gr_at G_43 g 0 0 0 (fun _ => 0) := by rw [eG_43]; exact gr_at.up hG_38 (by omega)
  have hQ_46 : sq_at G_43 g q (fun _ => 0) (fun _ => 0) (fun _ => 0) (fun _ => 0) := by rw [eG_43]; exact sq_at.up hQ_39 (by omega)
  have hC_47 : cr_at G_43 g q c (h4 0 0 2 3) (fun _ => 0) (fun _ => 0) (fun _ => 0) (fun _ _ => 0) := by rw [eG_43]; exact cr_at.up hC_40 (by omega)
  have hf_48 := (congrFun eG_43 x).trans ((ms_up_n G_36 _ (by omega)).trans hf_41)
  have hf_49 := (congrFun eG_43 q).trans ((ms_up_n G_36 _ (by omega)).trans hQ_39.1)
  have hf_50 : G_43 j = some (.inr (2, [.int 0, .int 0, .null, .null, .null])) := by rw [eG_43]; exact ms_up_s _ _ _
  refine ms_run (pc' := 54) (lv' := [(0, .ref x)]) (st' := [.ref j, .ref j, .ref x]) _ (ms_deC dX5_init_53 ms_deN) rfl rfl ?_
  refine ms_W.room (k2 := 3 + 34) (z2 := 72 + 2263) ?_ (by omega) (by omega)
  refine ms_callIN (As := []) dX5_init_54 (c_X2_init hf_50) cin_X5_36 rfl ⟨Nat.le_of_ble_eq_true rfl, Nat.le_of_ble_eq_true rfl⟩ rfl (Nat.le_of_ble_eq_true rfl) (fun v9 n9 K_j hp9 => ?_)
  obtain ⟨hv9, rfl, hJ, hF_j⟩ := hp9
  cases hv9
  rw [← eq2]
  have hF_51 : ms_fr x (c2 + 29 - x) G K_j := ms_fr.trans hF_44 (ms_fr.mono hF_j (by omega) (by omega))
  have hG_52 : gr_at K_j g 0 0 0 (fun _ => 0) := gr_at.fr hG_45 hF_j (by omega)
  have hQ_53 : sq_at K_j g q (fun _ => 0) (fun _ => 0) (fun _ => 0) (fun _ => 0) := sq_at.fr hQ_46 hF_j (by omega)
  have hC_54 : cr_at K_j g q c (h4 0 0 2 3) (fun _ => 0) (fun _ => 0) (fun _ => 0) (fun _ _ => 0) := cr_at.fr hC_47 hF_j (by omega)
  have hf_55 := (hF_j x (by omega)).trans hf_48
  refine ms_putF dX5_init_57 fp_X5_37 rfl hf_55 (Nat.le_of_ble_eq_true rfl) rfl rfl ?_
  obtain ⟨G_56, eG_56⟩ : ∃ K9 : ms_H, K9 = ms_up K_j x (.inr (5, [.ref g, .ref q, .ref c, .ref j, .null, .null])) := ⟨_, rfl⟩
  refine ms_W.heq eG_56 ?_
  have hF_57 : ms_fr x (c2 + 29 - x) G G_56 := by rw [eG_56]; exact ms_fr.up hF_51 (by omega)
  have hG_58 : gr_at G_56 g 0 0 0 (fun _ => 0) := by rw [eG_56]; exact gr_at.up hG_52 (by omega)
  have hQ_59 : sq_at G_56 g q (fun _ => 0) (fun _ => 0) (fun _ => 0) (fun _ => 0) := by rw [eG_56]; exact sq_at.up hQ_53 (by omega)
  have hC_60 : cr_at G_56 g q c (h4 0 0 2 3) (fun _ => 0) (fun _ => 0) (fun _ => 0) (fun _ _ => 0) := by rw [eG_56]; exact cr_at.up hC_54 (by omega)
  have hJ_61 : jm_at G_56 j 0 0 (fun _ => 0) (fun _ => 0) (fun _ => 0) := by rw [eG_56]; exact jm_at.up hJ (by omega)
  have hf_62 : G_56 x = some (.inr (5, [.ref g, .ref q, .ref c, .ref j, .null, .null])) := by rw [eG_56]; exact ms_up_s _ _ _
  have hf_63 := (congrFun eG_56 q).trans ((ms_up_n K_j _ (by omega)).trans hQ_53.1)
  refine ms_run (pc' := 61) (lv' := [(0, .ref x)]) (st' := [.ref x]) _ (ms_deC dX5_init_60 ms_deN) rfl rfl ?_
  refine ms_W.room (k2 := 1 + 33) (z2 := 5 + 2258) ?_ (by omega) (by omega)
  refine ms_new (fs := [.null, .null, .null, .null, .null]) dX5_init_61 nw_X5_16 ?_
  obtain ⟨G_64, eG_64⟩ : ∃ K9 : ms_H, K9 = ms_up G_56 q2 (.inr (3, [.null, .null, .null, .null, .null])) := ⟨_, rfl⟩
  refine ms_W.heq eG_64 ?_
  have hF_65 : ms_fr x (c2 + 29 - x) G G_64 := by rw [eG_64]; exact ms_fr.up hF_57 (by omega)
  have hG_66 : gr_at G_64 g 0 0 0 (fun _ => 0) := by rw [eG_64]; exact gr_at.up hG_58 (by omega)
  have hQ_67 : sq_at G_64 g q (fun _ => 0) (fun _ => 0) (fun _ => 0) (fun _ => 0) := by rw [eG_64]; exact sq_at.up hQ_59 (by omega)
  have hC_68 : cr_at G_64 g q c (h4 0 0 2 3) (fun _ => 0) (fun _ => 0) (fun _ => 0) (fun _ _ => 0) := by rw [eG_64]; exact cr_at.up hC_60 (by omega)
  have hJ_69 : jm_at G_64 j 0 0 (fun _ => 0) (fun _ => 0) (fun _ => 0) := by rw [eG_64]; exact jm_at.up hJ_61 (by omega)
  have hf_70 := (congrFun eG_64 x).trans ((ms_up_n G_56 _ (by omega)).trans hf_62)
  have hf_71 := (congrFun eG_64 q).trans ((ms_up_n G_56 _ (by omega)).trans hQ_59.1)
  have hf_72 : G_64 q2 = some (.inr (3, [.null, .null, .null, .null, .null])) := by rw [eG_64]; exact ms_up_s _ _ _
  refine ms_run (pc' := 66) (lv' := [(0, .ref x)]) (st' := [.ref x, .ref q2, .ref q2, .ref x]) _ (ms_deC dX5_init_64 (ms_deC dX5_init_65 ms_deN)) rfl rfl ?_
  refine ms_getf dX5_init_66 fg_X5_10 hf_70 rfl ?_
  refine ms_W.room (k2 := 4 + 29) (z2 := 1372 + 886) ?_ (by omega) (by omega)
  refine ms_callI (As := [.ref g]) dX5_init_69 (c_X3_init (g := g) hf_72) ci_X5_18 rfl ⟨Nat.le_of_ble_eq_true rfl, Nat.le_of_ble_eq_true rfl⟩ rfl (Nat.le_of_ble_eq_true rfl) (fun v9 n9 K_q2 hp9 => ?_)
  obtain ⟨hv9, rfl, hQt, hF_q2⟩ := hp9
  cases hv9
  rw [← ec2]
  have hF_73 : ms_fr x (c2 + 29 - x) G K_q2 := ms_fr.trans hF_65 (ms_fr.mono hF_q2 (by omega) (by omega))
  have hG_74 : gr_at K_q2 g 0 0 0 (fun _ => 0) := gr_at.fr hG_66 hF_q2 (by omega)
  have hQ_75 : sq_at K_q2 g q (fun _ => 0) (fun _ => 0) (fun _ => 0) (fun _ => 0) := sq_at.fr hQ_67 hF_q2 (by omega)
  have hC_76 : cr_at K_q2 g q c (h4 0 0 2 3) (fun _ => 0) (fun _ => 0) (fun _ => 0) (fun _ _ => 0) := cr_at.fr hC_68 hF_q2 (by omega)
  have hJ_77 : jm_at K_q2 j 0 0 (fun _ => 0) (fun _ => 0) (fun _ => 0) := jm_at.fr hJ_69 hF_q2 (by omega)
  have hf_78 := (hF_q2 x (by omega)).trans hf_70
  refine ms_putF dX5_init_72 fp_X5_41 rfl hf_78 (Nat.le_of_ble_eq_true rfl) rfl rfl ?_
  obtain ⟨G_79, eG_79⟩ : ∃ K9 : ms_H, K9 = ms_up K_q2 x (.inr (5, [.ref g, .ref q, .ref c, .ref j, .ref q2, .null])) := ⟨_, rfl⟩
  refine ms_W.heq eG_79 ?_
  have hF_80 : ms_fr x (c2 + 29 - x) G G_79 := by rw [eG_79]; exact ms_fr.up hF_73 (by omega)
  have hG_81 : gr_at G_79 g 0 0 0 (fun _ => 0) := by rw [eG_79]; exact gr_at.up hG_74 (by omega)
  have hQ_82 : sq_at G_79 g q (fun _ => 0) (fun _ => 0) (fun _ => 0) (fun _ => 0) := by rw [eG_79]; exact sq_at.up hQ_75 (by omega)
  have hC_83 : cr_at G_79 g q c (h4 0 0 2 3) (fun _ => 0) (fun _ => 0) (fun _ => 0) (fun _ _ => 0) := by rw [eG_79]; exact cr_at.up hC_76 (by omega)
  have hJ_84 : jm_at G_79 j 0 0 (fun _ => 0) (fun _ => 0) (fun _ => 0) := by rw [eG_79]; exact jm_at.up hJ_77 (by omega)
  have hQt_85 : sq_at G_79 g q2 (fun _ => 0) (fun _ => 0) (fun _ => 0) (fun _ => 0) := by rw [eG_79]; exact sq_at.up hQt (by omega)
  have hf_86 : G_79 x = some (.inr (5, [.ref g, .ref q, .ref c, .ref j, .ref q2, .null])) := by rw [eG_79]; exact ms_up_s _ _ _
  have hf_87 := (congrFun eG_79 q).trans ((ms_up_n K_q2 _ (by omega)).trans hQ_75.1)
  have hf_88 := (congrFun eG_79 q2).trans ((ms_up_n K_q2 _ (by omega)).trans hQt.1)
  refine ms_run (pc' := 76) (lv' := [(0, .ref x)]) (st' := [.ref x]) _ (ms_deC dX5_init_75 ms_deN) rfl rfl ?_
  refine ms_W.room (k2 := 1 + 28) (z2 := 10 + 876) ?_ (by omega) (by omega)
  refine ms_new (fs := [.int 0, .int 0, .int 0, .int 0, .null, .null, .null, .null, .null, .null]) dX5_init_76 nw_X5_25 ?_
  obtain ⟨G_89, eG_89⟩ : ∃ K9 : ms_H, K9 = ms_up G_79 c2 (.inr (0, [.int 0, .int 0, .int 0, .int 0, .null, .null, .null, .null, .null, .null])) := ⟨_, rfl⟩
  refine ms_W.heq eG_89 ?_
  have hF_90 : ms_fr x (c2 + 29 - x) G G_89 := by rw [eG_89]; exact ms_fr.up hF_80 (by omega)
  have hG_91 : gr_at G_89 g 0 0 0 (fun _ => 0) := by rw [eG_89]; exact gr_at.up hG_81 (by omega)
  have hQ_92 : sq_at G_89 g q (fun _ => 0) (fun _ => 0) (fun _ => 0) (fun _ => 0) := by rw [eG_89]; exact sq_at.up hQ_82 (by omega)
  have hC_93 : cr_at G_89 g q c (h4 0 0 2 3) (fun _ => 0) (fun _ => 0) (fun _ => 0) (fun _ _ => 0) := by rw [eG_89]; exact cr_at.up hC_83 (by omega)
  have hJ_94 : jm_at G_89 j 0 0 (fun _ => 0) (fun _ => 0) (fun _ => 0) := by rw [eG_89]; exact jm_at.up hJ_84 (by omega)
  have hQt_95 : sq_at G_89 g q2 (fun _ => 0) (fun _ => 0) (fun _ => 0) (fun _ => 0) := by rw [eG_89]; exact sq_at.up hQt_85 (by omega)
  have hf_96 := (congrFun eG_89 x).trans ((ms_up_n G_79 _ (by omega)).trans hf_86)
  have hf_97 := (congrFun eG_89 q).trans ((ms_up_n G_79 _ (by omega)).trans hQ_82.1)
  have hf_98 := (congrFun eG_89 q2).trans ((ms_up_n G_79 _ (by omega)).trans hQt_85.1)
  have hf_99 : G_89 c2 = some (.inr (0, [.int 0, .int 0, .int 0, .int 0, .null, .null, .null, .null, .null, .null])) := by rw [eG_89]; exact ms_up_s _ _ _
  refine ms_run (pc' := 81) (lv' := [(0, .ref x)]) (st' := [.ref x, .ref c2, .ref c2, .ref x]) _ (ms_deC dX5_init_79 (ms_deC dX5_init_80 ms_deN)) rfl rfl ?_
  refine ms_getf dX5_init_81 fg_X5_10 hf_96 rfl ?_
  refine ms_run (pc' := 85) (lv' := [(0, .ref x)]) (st' := [.ref x, .ref g, .ref c2, .ref c2, .ref x]) _ (ms_deC dX5_init_84 ms_deN) rfl rfl ?_
  refine ms_getf dX5_init_85 fg_X5_41 hf_96 rfl ?_
  refine ms_W.room (k2 := 28 + 0) (z2 := 876 + 0) ?_ (by omega) (by omega)
  refine ms_callI (As := [.ref g, .ref q2]) dX5_init_88 (c_X0_init (g := g) (q := q2) hf_99) ci_X5_27 rfl ⟨Nat.le_of_ble_eq_true rfl, Nat.le_of_ble_eq_true rfl⟩ rfl (Nat.le_of_ble_eq_true rfl) (fun v9 n9 K_c2 hp9 => ?_)
  obtain ⟨hv9, rfl, hCt, hF_c2⟩ := hp9
  cases hv9
  have hF_100 : ms_fr x (c2 + 29 - x) G K_c2 := ms_fr.trans hF_90 (ms_fr.mono hF_c2 (by omega) (by omega))
  have hG_101 : gr_at K_c2 g 0 0 0 (fun _ => 0) := gr_at.fr hG_91 hF_c2 (by omega)
  have hQ_102 : sq_at K_c2 g q (fun _ => 0) (fun _ => 0) (fun _ => 0) (fun _ => 0) := sq_at.fr hQ_92 hF_c2 (by omega)
  have hC_103 : cr_at K_c2 g q c (h4 0 0 2 3) (fun _ => 0) (fun _ => 0) (fun _ => 0) (fun _ _ => 0) := cr_at.fr hC_93 hF_c2 (by omega)
  have hJ_104 : jm_at K_c2 j 0 0 (fun _ => 0) (fun _ => 0) (fun _ => 0) := jm_at.fr hJ_94 hF_c2 (by omega)
  have hQt_105 : sq_at K_c2 g q2 (fun _ => 0) (fun _ => 0) (fun _ => 0) (fun _ => 0) := sq_at.fr hQt_95 hF_c2 (by omega)
  have hf_106 := (hF_c2 x (by omega)).trans hf_96
  refine ms_putF dX5_init_91 fp_X5_44 rfl hf_106 (Nat.le_of_ble_eq_true rfl) rfl rfl ?_
  obtain ⟨G_107, eG_107⟩ : ∃ K9 : ms_H, K9 = ms_up K_c2 x (.inr (5, [.ref g, .ref q, .ref c, .ref j, .ref q2, .ref c2])) := ⟨_, rfl⟩
  refine ms_W.heq eG_107 ?_
  have hF_108 : ms_fr x (c2 + 29 - x) G G_107 := by rw [eG_107]; exact ms_fr.up hF_100 (by omega)
  have hG_109 : gr_at G_107 g 0 0 0 (fun _ => 0) := by rw [eG_107]; exact gr_at.up hG_101 (by omega)
  have hQ_110 : sq_at G_107 g q (fun _ => 0) (fun _ => 0) (fun _ => 0) (fun _ => 0) := by rw [eG_107]; exact sq_at.up hQ_102 (by omega)
  have hC_111 : cr_at G_107 g q c (h4 0 0 2 3) (fun _ => 0) (fun _ => 0) (fun _ => 0) (fun _ _ => 0) := by rw [eG_107]; exact cr_at.up hC_103 (by omega)
  have hJ_112 : jm_at G_107 j 0 0 (fun _ => 0) (fun _ => 0) (fun _ => 0) := by rw [eG_107]; exact jm_at.up hJ_104 (by omega)
  have hQt_113 : sq_at G_107 g q2 (fun _ => 0) (fun _ => 0) (fun _ => 0) (fun _ => 0) := by rw [eG_107]; exact sq_at.up hQt_105 (by omega)
  have hCt_114 : cr_at G_107 g q2 c2 (h4 0 0 2 3) (fun _ => 0) (fun _ => 0) (fun _ => 0) (fun _ _ => 0) := by rw [eG_107]; exact cr_at.up hCt (by omega)
  have hf_115 : G_107 x = some (.inr (5, [.ref g, .ref q, .ref c, .ref j, .ref q2, .ref c2])) := by rw [eG_107]; exact ms_up_s _ _ _
  have hf_116 := (congrFun eG_107 q).trans ((ms_up_n K_c2 _ (by omega)).trans hQ_102.1)
  have hf_117 := (congrFun eG_107 q2).trans ((ms_up_n K_c2 _ (by omega)).trans hQt_105.1)
  refine ms_run (pc' := 99) (lv' := [(0, .ref x)]) (st' := [.int 8, .int 10, .ref x]) _ (ms_deC dX5_init_94 (ms_deC dX5_init_95 (ms_deC dX5_init_97 ms_deN))) rfl rfl ?_
  refine ms_callV0 (As := [.int (nI 10), .int (nI 8)]) dX5_init_99 (c_X5_makeNew (W := 10) (H := 8) ⟨by omega, by omega, by omega, by omega, by omega, by omega⟩ hf_115 hG_109 hQ_110 hC_111 (by omega) (by omega)) cv_X5_47 hf_115 rfl ⟨Nat.le_of_ble_eq_true rfl, Nat.le_of_ble_eq_true rfl⟩ rfl (Nat.le_of_ble_eq_true rfl) (fun v9 n9 K_mn hp9 => ?_)
  obtain ⟨hv9, rfl, ⟨nr, hG9, hL9⟩, ⟨qu9, hQ9⟩, ⟨cm9, hC9⟩, hF_mn⟩ := hp9
  cases hv9
  have hF_118 : ms_fr x (c2 + 29 - x) G K_mn := ms_fr.trans hF_108 (ms_fr.mono hF_mn (by omega) (by omega))
  have hJ_119 : jm_at K_mn j 0 0 (fun _ => 0) (fun _ => 0) (fun _ => 0) := jm_at.fr hJ_112 hF_mn (by omega)
  have hQt_120 : sq_at K_mn g q2 (fun _ => 0) (fun _ => 0) (fun _ => 0) (fun _ => 0) := sq_at.fr hQt_113 hF_mn (by omega)
  have hCt_121 : cr_at K_mn g q2 c2 (h4 0 0 2 3) (fun _ => 0) (fun _ => 0) (fun _ => 0) (fun _ _ => 0) := cr_at.fr hCt_114 hF_mn (by omega)
  have hf_122 := (hF_mn x (by omega)).trans hf_115
  refine ms_retv (st := []) dX5_init_102 rfl ?_
  exact ⟨rfl, rfl, hF_118, nr, ⟨hf_122, hG9, ⟨_, hQ9⟩, ⟨_, _, _, hC9, rfl, rfl, rfl, rfl, fun k hk => absurd hk (Nat.not_lt_zero k)⟩, ⟨_, _, _, _, _, hJ_119⟩, ⟨_, _, _, _, hQt_120⟩, ⟨_, _, _, _, _, hCt_121⟩⟩, hL9⟩

/-! Flock: the constructor, reset -/
theorem mn_G3_lo {G : ms_H} {n N M K a : Nat} (h : a < n) : mn_G3 G n N M K a = G a := by
  unfold mn_G3
  rw [if_neg (by omega), if_neg (by omega)]
theorem mn_G3_F {G : ms_H} {n W H : Nat} : fk_F (mn_G3 G n W H 6) n W H (fun _ _ => 0) := by
  refine ⟨⟨_, fun i hi => if_pos hi, if_pos rfl⟩, fun i hi => ⟨fun q => if q < H then some (mn_ad n H i + 1 + q) else none, fun j hj => if_pos hj, ?_⟩, fun i hi j hj => ⟨fun _ => 0, fun _ _ => rfl, ?_⟩⟩
  · have h1 := mn_ad_lt (h := n) (M := H) hi
    have h2 := ad_fa (fa := n) (H := H) (i := i)
    have h3 : mn_ad n H i - (n + 1) = i * (1 + H) := by unfold mn_ad; omega
    unfold mn_G3
    rw [if_neg (by omega), if_pos ⟨h2, by omega⟩, h3, if_pos (Nat.mul_mod_left _ _)]
  · have h1 := mn_ad_lt (h := n) (M := H) hi
    have h2 := ad_fa (fa := n) (H := H) (i := i)
    have h3 : mn_ad n H i + 1 + j - (n + 1) = i * (1 + H) + (1 + j) := by unfold mn_ad; omega
    unfold mn_G3
    rw [if_neg (by omega), if_pos ⟨by omega, by omega⟩, h3, if_neg]
    rw [Nat.add_comm, Nat.add_mul_mod_self_right, Nat.mod_eq_of_lt (by omega)]
    omega
set_option maxHeartbeats 1000000 in
set_option maxRecDepth 20000 in
theorem c_X6_init {o x g q c j q2 c2 sb d : Nat} {G : ms_H} (ex9 : x = o + 1) (eg : g = x + 1) (eq9 : q = g + 2) (ec : c = q + 5) (ej : j = c + 29) (eq2 : q2 = j + 4) (ec2 : c2 = q2 + 5) (hO : G o = some (.inr (6, [.null, .null, .int 0, .int 0, .int 0, .int 0, .int 0, .int 0, .null, .null]))) : ms_M m_X6_init [.ref o, .ref sb, .int (nI d)] x G 168 6751 (fun r n1 G1 => r = .inl none ∧ n1 = mn_ad (c2 + 29) 8 10 + 1 ∧ (∀ a, a < o → G1 a = G a) ∧ G1 o = some (.inr (6, [.ref x, .ref sb, .int (nI d), .int (nI 10), .int (nI 8), .int 0, .int 2, .int 3, .ref (c2 + 29), .ref (mn_ad (c2 + 29) 8 10)])) ∧ ∃ nr, xs_at G1 x g q c j q2 c2 10 8 nr (fun _ => 0) (fun _ => 0) (fun _ => -1) 0 2 3 X00) := by
  refine ms_M.of (by decide) (Nat.le_of_ble_eq_true rfl) ?_
  show ms_W false m_X6_init _ 0 [(0, .ref o), (1, .ref sb), (2, .int (nI d))] [] x G 168 6751
  have had0 := ad_fa (fa := c2 + 29) (H := 8) (i := 10)
  refine ms_run (pc' := 1) (lv' := [(0, .ref o), (1, .ref sb), (2, .int (nI d))]) (st' := [.ref o]) _ (ms_deC dX6_init_0 ms_deN) rfl rfl ?_
  refine ms_objInit dX6_init_1 oi_X6_1 ⟨Nat.le_of_ble_eq_true rfl, Nat.le_of_ble_eq_true rfl⟩ (Nat.le_of_ble_eq_true rfl) ?_
  refine ms_run (pc' := 5) (lv' := [(0, .ref o), (1, .ref sb), (2, .int (nI d))]) (st' := [.ref o]) _ (ms_deC dX6_init_4 ms_deN) rfl rfl ?_
  refine ms_W.room (k2 := 1 + (74 + 92)) (z2 := 6 + (6175 + 570)) ?_ (by omega) (by omega)
  refine ms_new (fs := [.null, .null, .null, .null, .null, .null]) dX6_init_5 nw_X6_7 ?_
  obtain ⟨G_1, eG_1⟩ : ∃ K9 : ms_H, K9 = ms_up G x (.inr (5, [.null, .null, .null, .null, .null, .null])) := ⟨_, rfl⟩
  refine ms_W.heq eG_1 ?_
  have hf_2 := (congrFun eG_1 o).trans ((ms_up_n G _ (by omega)).trans hO)
  have hf_3 : G_1 x = some (.inr (5, [.null, .null, .null, .null, .null, .null])) := by rw [eG_1]; exact ms_up_s _ _ _
  refine ms_run (pc' := 9) (lv' := [(0, .ref o), (1, .ref sb), (2, .int (nI d))]) (st' := [.ref x, .ref x, .ref o]) _ (ms_deC dX6_init_8 ms_deN) rfl rfl ?_
  rw [show x + 1 = g from eg.symm]
  refine ms_W.room (k2 := 74 + 92) (z2 := 6175 + 570) ?_ (by omega) (by omega)
  refine ms_callI (As := []) dX6_init_9 (c_X5_init eg eq9 ec ej eq2 ec2 hf_3) ci_X6_9 rfl ⟨Nat.le_of_ble_eq_true rfl, Nat.le_of_ble_eq_true rfl⟩ rfl (Nat.le_of_ble_eq_true rfl) (fun v9 n9 KS hp9 => ?_)
  obtain ⟨hv9, rfl, hF9, nr, hX9, -⟩ := hp9
  cases hv9
  have hO9 := (hF9 o (by omega)).trans hf_2
  have hlo9 : ∀ a, a < o → KS a = G a := fun a ha => (hF9 a (by omega)).trans ((congrFun eG_1 a).trans ((ms_up_n _ _ (by omega)).trans (rfl)))
  refine ms_putF dX6_init_12 fp_X6_10 rfl hO9 (Nat.le_of_ble_eq_true rfl) rfl rfl ?_
  obtain ⟨G_4, eG_4⟩ : ∃ K9 : ms_H, K9 = ms_up KS o (.inr (6, [.ref x, .null, .int 0, .int 0, .int 0, .int 0, .int 0, .int 0, .null, .null])) := ⟨_, rfl⟩
  refine ms_W.heq eG_4 ?_
  have hf_5 : G_4 o = some (.inr (6, [.ref x, .null, .int 0, .int 0, .int 0, .int 0, .int 0, .int 0, .null, .null])) := by rw [eG_4]; exact ms_up_s _ _ _
  refine ms_run (pc' := 18) (lv' := [(0, .ref o), (1, .ref sb), (2, .int (nI d))]) (st' := [.int 10, .ref o]) _ (ms_deC dX6_init_15 (ms_deC dX6_init_16 ms_deN)) rfl rfl ?_
  refine ms_putf dX6_init_18 fp_X6_16 hf_5 (Nat.le_of_ble_eq_true rfl) rfl rfl ?_
  obtain ⟨G_6, eG_6⟩ : ∃ K9 : ms_H, K9 = ms_up G_4 o (.inr (6, [.ref x, .null, .int 0, .int 10, .int 0, .int 0, .int 0, .int 0, .null, .null])) := ⟨_, rfl⟩
  refine ms_W.heq eG_6 ?_
  have hf_7 : G_6 o = some (.inr (6, [.ref x, .null, .int 0, .int 10, .int 0, .int 0, .int 0, .int 0, .null, .null])) := by rw [eG_6]; exact ms_up_s _ _ _
  refine ms_run (pc' := 24) (lv' := [(0, .ref o), (1, .ref sb), (2, .int (nI d))]) (st' := [.int 8, .ref o]) _ (ms_deC dX6_init_21 (ms_deC dX6_init_22 ms_deN)) rfl rfl ?_
  refine ms_putf dX6_init_24 fp_X6_20 hf_7 (Nat.le_of_ble_eq_true rfl) rfl rfl ?_
  obtain ⟨G_8, eG_8⟩ : ∃ K9 : ms_H, K9 = ms_up G_6 o (.inr (6, [.ref x, .null, .int 0, .int 10, .int 8, .int 0, .int 0, .int 0, .null, .null])) := ⟨_, rfl⟩
  refine ms_W.heq eG_8 ?_
  have hf_9 : G_8 o = some (.inr (6, [.ref x, .null, .int 0, .int 10, .int 8, .int 0, .int 0, .int 0, .null, .null])) := by rw [eG_8]; exact ms_up_s _ _ _
  refine ms_run (pc' := 29) (lv' := [(0, .ref o), (1, .ref sb), (2, .int (nI d))]) (st' := [.int 2, .ref o]) _ (ms_deC dX6_init_27 (ms_deC dX6_init_28 ms_deN)) rfl rfl ?_
  refine ms_putf dX6_init_29 fp_X6_23 hf_9 (Nat.le_of_ble_eq_true rfl) rfl rfl ?_
  obtain ⟨G_10, eG_10⟩ : ∃ K9 : ms_H, K9 = ms_up G_8 o (.inr (6, [.ref x, .null, .int 0, .int 10, .int 8, .int 0, .int 2, .int 0, .null, .null])) := ⟨_, rfl⟩
  refine ms_W.heq eG_10 ?_
  have hf_11 : G_10 o = some (.inr (6, [.ref x, .null, .int 0, .int 10, .int 8, .int 0, .int 2, .int 0, .null, .null])) := by rw [eG_10]; exact ms_up_s _ _ _
  refine ms_run (pc' := 34) (lv' := [(0, .ref o), (1, .ref sb), (2, .int (nI d))]) (st' := [.int 3, .ref o]) _ (ms_deC dX6_init_32 (ms_deC dX6_init_33 ms_deN)) rfl rfl ?_
  refine ms_putf dX6_init_34 fp_X6_26 hf_11 (Nat.le_of_ble_eq_true rfl) rfl rfl ?_
  obtain ⟨G_12, eG_12⟩ : ∃ K9 : ms_H, K9 = ms_up G_10 o (.inr (6, [.ref x, .null, .int 0, .int 10, .int 8, .int 0, .int 2, .int 3, .null, .null])) := ⟨_, rfl⟩
  refine ms_W.heq eG_12 ?_
  have hf_13 : G_12 o = some (.inr (6, [.ref x, .null, .int 0, .int 10, .int 8, .int 0, .int 2, .int 3, .null, .null])) := by rw [eG_12]; exact ms_up_s _ _ _
  refine ms_run (pc' := 44) (lv' := [(0, .ref o), (1, .ref sb), (2, .int (nI d))]) (st' := [.int 6, .int 8, .int 10, .ref o]) _ (ms_deC dX6_init_37 (ms_deC dX6_init_38 (ms_deC dX6_init_40 (ms_deC dX6_init_42 ms_deN)))) rfl rfl ?_
  refine ms_W.room (k2 := 1 + 10 * (1 + 8) + 1) (z2 := 10 + 10 * (8 + 8 * 6) + 0) ?_ (by omega) (by omega)
  refine ms_mna3 (N := 10) (M := 8) (K := 6) dX6_init_44 al_X6_29 aw_int (by decide) (by decide) (by decide) rfl rfl rfl (by omega) (by omega) (by omega) ?_
  obtain ⟨K1, eK1⟩ : ∃ K9 : ms_H, K9 = mn_G3 G_12 (c2 + 29) 10 8 6 := ⟨_, rfl⟩
  refine ms_W.heq eK1 ?_
  have hfF : fk_F K1 (c2 + 29) 10 8 (fun _ _ => 0) := by rw [eK1]; exact mn_G3_F
  have hf_14 := (congrFun eK1 o).trans ((mn_G3_lo (by omega)).trans hf_13)
  refine ms_putf dX6_init_48 fp_X6_31 hf_14 (Nat.le_of_ble_eq_true rfl) rfl rfl ?_
  obtain ⟨G_15, eG_15⟩ : ∃ K9 : ms_H, K9 = ms_up K1 o (.inr (6, [.ref x, .null, .int 0, .int 10, .int 8, .int 0, .int 2, .int 3, .ref (c2 + 29), .null])) := ⟨_, rfl⟩
  refine ms_W.heq eG_15 ?_
  have hf_16 : G_15 o = some (.inr (6, [.ref x, .null, .int 0, .int 10, .int 8, .int 0, .int 2, .int 3, .ref (c2 + 29), .null])) := by rw [eG_15]; exact ms_up_s _ _ _
  refine ms_run (pc' := 53) (lv' := [(0, .ref o), (1, .ref sb), (2, .int (nI d))]) (st' := [.int 0, .ref o]) _ (ms_deC dX6_init_51 (ms_deC dX6_init_52 ms_deN)) rfl rfl ?_
  refine ms_W.room (k2 := 1 + 0) (z2 := 0 + 0) ?_ (by omega) (by omega)
  refine ms_newA (N := 0) dX6_init_53 al_X6_34 (by decide) rfl (Nat.le_of_ble_eq_true rfl) ?_
  obtain ⟨G_17, eG_17⟩ : ∃ K9 : ms_H, K9 = ms_up G_15 (mn_ad (c2 + 29) 8 10) (.inl (4, 0, .inr (.inr (.inr (.inr (fun _ => none)))))) := ⟨_, rfl⟩
  refine ms_W.heq eG_17 ?_
  have hf_18 := (congrFun eG_17 o).trans ((ms_up_n G_15 _ (by omega)).trans hf_16)
  have hf_19 : G_17 (mn_ad (c2 + 29) 8 10) = some (.inl (4, 0, .inr (.inr (.inr (.inr (fun _ => none)))))) := by rw [eG_17]; exact ms_up_s _ _ _
  refine ms_putf dX6_init_56 fp_X6_36 hf_18 (Nat.le_of_ble_eq_true rfl) rfl rfl ?_
  obtain ⟨G_20, eG_20⟩ : ∃ K9 : ms_H, K9 = ms_up G_17 o (.inr (6, [.ref x, .null, .int 0, .int 10, .int 8, .int 0, .int 2, .int 3, .ref (c2 + 29), .ref (mn_ad (c2 + 29) 8 10)])) := ⟨_, rfl⟩
  refine ms_W.heq eG_20 ?_
  have hf_21 : G_20 o = some (.inr (6, [.ref x, .null, .int 0, .int 10, .int 8, .int 0, .int 2, .int 3, .ref (c2 + 29), .ref (mn_ad (c2 + 29) 8 10)])) := by rw [eG_20]; exact ms_up_s _ _ _
  have hf_22 := (congrFun eG_20 (mn_ad (c2 + 29) 8 10)).trans ((ms_up_n G_17 _ (by omega)).trans hf_19)
  refine ms_run (pc' := 61) (lv' := [(0, .ref o), (1, .ref sb), (2, .int (nI d))]) (st' := [.ref sb, .ref o]) _ (ms_deC dX6_init_59 (ms_deC dX6_init_60 ms_deN)) rfl rfl ?_
  refine ms_putF dX6_init_61 fp_X6_40 rfl hf_21 (Nat.le_of_ble_eq_true rfl) rfl rfl ?_
  obtain ⟨G_23, eG_23⟩ : ∃ K9 : ms_H, K9 = ms_up G_20 o (.inr (6, [.ref x, .ref sb, .int 0, .int 10, .int 8, .int 0, .int 2, .int 3, .ref (c2 + 29), .ref (mn_ad (c2 + 29) 8 10)])) := ⟨_, rfl⟩
  refine ms_W.heq eG_23 ?_
  have hf_24 : G_23 o = some (.inr (6, [.ref x, .ref sb, .int 0, .int 10, .int 8, .int 0, .int 2, .int 3, .ref (c2 + 29), .ref (mn_ad (c2 + 29) 8 10)])) := by rw [eG_23]; exact ms_up_s _ _ _
  have hf_25 := (congrFun eG_23 (mn_ad (c2 + 29) 8 10)).trans ((ms_up_n G_20 _ (by omega)).trans hf_22)
  refine ms_run (pc' := 66) (lv' := [(0, .ref o), (1, .ref sb), (2, .int (nI d))]) (st' := [.int (nI d), .ref o]) _ (ms_deC dX6_init_64 (ms_deC dX6_init_65 ms_deN)) rfl rfl ?_
  refine ms_putf dX6_init_66 fp_X6_43 hf_24 (Nat.le_of_ble_eq_true rfl) rfl rfl ?_
  obtain ⟨G_26, eG_26⟩ : ∃ K9 : ms_H, K9 = ms_up G_23 o (.inr (6, [.ref x, .ref sb, .int (nI d), .int 10, .int 8, .int 0, .int 2, .int 3, .ref (c2 + 29), .ref (mn_ad (c2 + 29) 8 10)])) := ⟨_, rfl⟩
  refine ms_W.heq eG_26 ?_
  have hf_27 : G_26 o = some (.inr (6, [.ref x, .ref sb, .int (nI d), .int 10, .int 8, .int 0, .int 2, .int 3, .ref (c2 + 29), .ref (mn_ad (c2 + 29) 8 10)])) := by rw [eG_26]; exact ms_up_s _ _ _
  have hf_28 := (congrFun eG_26 (mn_ad (c2 + 29) 8 10)).trans ((ms_up_n G_23 _ (by omega)).trans hf_25)
  refine ms_retv (st := []) dX6_init_69 rfl ?_
  have hfin : ∀ a, a < c2 + 29 → ¬ a = o → G_26 a = KS a := fun a ha ha2 => (congrFun eG_26 a).trans ((ms_up_n _ _ (by omega)).trans ((congrFun eG_23 a).trans ((ms_up_n _ _ (by omega)).trans ((congrFun eG_20 a).trans ((ms_up_n _ _ (by omega)).trans ((congrFun eG_17 a).trans ((ms_up_n _ _ (by omega)).trans ((congrFun eG_15 a).trans ((ms_up_n _ _ (by omega)).trans ((congrFun eK1 a).trans ((mn_G3_lo (by omega)).trans ((congrFun eG_12 a).trans ((ms_up_n _ _ (by omega)).trans ((congrFun eG_10 a).trans ((ms_up_n _ _ (by omega)).trans ((congrFun eG_8 a).trans ((ms_up_n _ _ (by omega)).trans ((congrFun eG_6 a).trans ((ms_up_n _ _ (by omega)).trans ((congrFun eG_4 a).trans ((ms_up_n _ _ (by omega)).trans (rfl))))))))))))))))))))))
  exact ⟨rfl, rfl, fun a ha => (hfin a (by omega) (by omega)).trans (hlo9 a ha), hf_27, nr, hX9.cx ⟨by omega, by omega, by omega, by omega, by omega, by omega⟩ (fun a h1 h2 => hfin a h2 (by omega))⟩
set_option maxHeartbeats 1000000 in
set_option maxRecDepth 20000 in
theorem c_X6_reset {n o x g q c j q2 c2 sb L d W0 H0 cnt fa wa : Nat} {xs : Nat → Int32} {G : ms_H} {wv hv cl dr pa : Int32} {X : cX} {nr wl mk ds : Nat → Int32} (ho : ox x g q c j q2 c2) (hox : o < x) (hn : c2 + 29 ≤ n) (hLb : L < 1000) (hd : d < 800) (hX : xs_at G x g q c j q2 c2 W0 H0 nr wl mk ds cnt dr pa X) (hO : G o = some (.inr (6, [.ref x, .ref sb, .int (nI d), .int wv, .int hv, .int cl, .int dr, .int pa, .ref fa, .ref wa]))) (hd9 : 0 ≤ dr ∧ dr ≤ 9) (hpp : ∃ p, 1 ≤ p ∧ p ≤ 4 ∧ pa = nI p) : ms_X (ms_S (sb, L, xs) m_X6_reset) [.ref o] n G 45 258 (fun r n1 G1 => r = .inl (some (.int 1)) ∧ n ≤ n1 ∧ fE o x g q c j q2 c2 sb n1 (d + 2) 0 G1) := by
  refine ms_X.of (show plainName m_X6_reset.1.cls = true from by decide) (Nat.le_of_ble_eq_true rfl) ?_
  show ms_W true (ms_S (sb, L, xs) m_X6_reset) _ 0 [(0, .ref o)] [] n G 45 258
  refine ms_run (pc' := 4) (lv' := [(0, .ref o)]) (st' := [.int 5, .ref o, .int 3, .ref o]) _ (ms_deC dX6_reset_0 (ms_deC dX6_reset_1 (ms_deC dX6_reset_2 (ms_deC dX6_reset_3 ms_deN)))) rfl rfl ?_
  refine ms_callV0 (As := [.int 5]) dX6_reset_4 (c_X6_draw (n := n) (L := L) (xs := xs) (d := d) (N := 5) hO (by omega) hLb (by omega) (by omega)) cv_X6_56 hO rfl ⟨Nat.le_of_ble_eq_true rfl, Nat.le_of_ble_eq_true rfl⟩ rfl (Nat.le_of_ble_eq_true rfl) (fun v9 n9 K1 hp9 => ?_)
  obtain ⟨v1, hv1, hr9, hnn9, eK1⟩ := hp9
  cases hr9
  rw [hnn9]
  have hO1 : K1 o = some (.inr (6, [.ref x, .ref sb, .int (nI (d + 1)), .int wv, .int hv, .int cl, .int dr, .int pa, .ref fa, .ref wa])) := by rw [eK1]; exact ms_up_s _ _ _
  refine ms_run (pc' := 8) (lv' := [(0, .ref o)]) (st' := [.int (3 + (nI v1)), .ref o]) _ (ms_deC dX6_reset_7 ms_deN) rfl rfl ?_
  obtain ⟨W, hWe⟩ : ∃ W, W = 3 + v1 := ⟨_, rfl⟩
  rw [show (3 : Int32) + nI v1 = nI W from (nI_add 3 v1).trans (congrArg nI hWe.symm)]
  refine ms_putf dX6_reset_8 fp_X6_16 hO1 (Nat.le_of_ble_eq_true rfl) rfl rfl ?_
  obtain ⟨G_1, eG_1⟩ : ∃ K9 : ms_H, K9 = ms_up K1 o (.inr (6, [.ref x, .ref sb, .int (nI (d + 1)), .int (nI W), .int hv, .int cl, .int dr, .int pa, .ref fa, .ref wa])) := ⟨_, rfl⟩
  refine ms_W.heq eG_1 ?_
  have hf_2 : G_1 o = some (.inr (6, [.ref x, .ref sb, .int (nI (d + 1)), .int (nI W), .int hv, .int cl, .int dr, .int pa, .ref fa, .ref wa])) := by rw [eG_1]; exact ms_up_s _ _ _
  refine ms_run (pc' := 15) (lv' := [(0, .ref o)]) (st' := [.int 4, .ref o, .int 2, .ref o]) _ (ms_deC dX6_reset_11 (ms_deC dX6_reset_12 (ms_deC dX6_reset_13 (ms_deC dX6_reset_14 ms_deN)))) rfl rfl ?_
  refine ms_callV0 (As := [.int 4]) dX6_reset_15 (c_X6_draw (n := n) (L := L) (xs := xs) (d := (d + 1)) (N := 4) hf_2 (by omega) hLb (by omega) (by omega)) cv_X6_56 hf_2 rfl ⟨Nat.le_of_ble_eq_true rfl, Nat.le_of_ble_eq_true rfl⟩ rfl (Nat.le_of_ble_eq_true rfl) (fun v9 n9 K2 hp9 => ?_)
  obtain ⟨v2, hv2, hr9, hnn9, eK2⟩ := hp9
  cases hr9
  rw [hnn9]
  have hO2 : K2 o = some (.inr (6, [.ref x, .ref sb, .int (nI (d + 2)), .int (nI W), .int hv, .int cl, .int dr, .int pa, .ref fa, .ref wa])) := by rw [eK2]; exact ms_up_s _ _ _
  refine ms_run (pc' := 19) (lv' := [(0, .ref o)]) (st' := [.int (2 + (nI v2)), .ref o]) _ (ms_deC dX6_reset_18 ms_deN) rfl rfl ?_
  obtain ⟨H, hHe⟩ : ∃ H, H = 2 + v2 := ⟨_, rfl⟩
  rw [show (2 : Int32) + nI v2 = nI H from (nI_add 2 v2).trans (congrArg nI hHe.symm)]
  have hWH : W * (1 + H) ≤ 7 * 6 := Nat.mul_le_mul (show W ≤ 7 by omega) (by omega)
  have hWS : W * (H + H * 6) ≤ 7 * 35 := Nat.mul_le_mul (show W ≤ 7 by omega) (by omega)
  have hW14 : W ≤ 14 := by omega
  have hW0 : 0 < W := by omega
  have had0 := ad_fa (fa := n) (H := H) (i := W)
  refine ms_putf dX6_reset_19 fp_X6_20 hO2 (Nat.le_of_ble_eq_true rfl) rfl rfl ?_
  obtain ⟨G_3, eG_3⟩ : ∃ K9 : ms_H, K9 = ms_up K2 o (.inr (6, [.ref x, .ref sb, .int (nI (d + 2)), .int (nI W), .int (nI H), .int cl, .int dr, .int pa, .ref fa, .ref wa])) := ⟨_, rfl⟩
  refine ms_W.heq eG_3 ?_
  have hf_4 : G_3 o = some (.inr (6, [.ref x, .ref sb, .int (nI (d + 2)), .int (nI W), .int (nI H), .int cl, .int dr, .int pa, .ref fa, .ref wa])) := by rw [eG_3]; exact ms_up_s _ _ _
  refine ms_run (pc' := 24) (lv' := [(0, .ref o)]) (st' := [.int 0, .ref o]) _ (ms_deC dX6_reset_22 (ms_deC dX6_reset_23 ms_deN)) rfl rfl ?_
  refine ms_putf dX6_reset_24 fp_X6_60 hf_4 (Nat.le_of_ble_eq_true rfl) rfl rfl ?_
  obtain ⟨G_5, eG_5⟩ : ∃ K9 : ms_H, K9 = ms_up G_3 o (.inr (6, [.ref x, .ref sb, .int (nI (d + 2)), .int (nI W), .int (nI H), .int 0, .int dr, .int pa, .ref fa, .ref wa])) := ⟨_, rfl⟩
  refine ms_W.heq eG_5 ?_
  have hf_6 : G_5 o = some (.inr (6, [.ref x, .ref sb, .int (nI (d + 2)), .int (nI W), .int (nI H), .int 0, .int dr, .int pa, .ref fa, .ref wa])) := by rw [eG_5]; exact ms_up_s _ _ _
  refine ms_run (pc' := 29) (lv' := [(0, .ref o)]) (st' := [.ref o, .ref o]) _ (ms_deC dX6_reset_27 (ms_deC dX6_reset_28 ms_deN)) rfl rfl ?_
  refine ms_getf dX6_reset_29 fg_X6_16 hf_6 rfl ?_
  refine ms_run (pc' := 33) (lv' := [(0, .ref o)]) (st' := [.ref o, .int (nI W), .ref o]) _ (ms_deC dX6_reset_32 ms_deN) rfl rfl ?_
  refine ms_getf dX6_reset_33 fg_X6_20 hf_6 rfl ?_
  refine ms_run (pc' := 38) (lv' := [(0, .ref o)]) (st' := [.int 6, .int (nI H), .int (nI W), .ref o]) _ (ms_deC dX6_reset_36 ms_deN) rfl rfl ?_
  refine ms_W.room (k2 := 1 + W * (1 + H) + 2) (z2 := W + W * (H + H * 6) + 6) ?_ (by omega) (by omega)
  refine ms_mna3 (N := W) (M := H) (K := 6) dX6_reset_38 al_X6_29 aw_int (nI_pos (by omega)) (nI_pos (by omega)) (by decide) (nI_clamp (by omega)) (nI_clamp (by omega)) rfl (by omega) (by omega) (by omega) ?_
  obtain ⟨K3, eK3⟩ : ∃ K9 : ms_H, K9 = mn_G3 G_5 n W H 6 := ⟨_, rfl⟩
  refine ms_W.heq eK3 ?_
  have hfF : fk_F K3 n W H (fun _ _ => 0) := by rw [eK3]; exact mn_G3_F
  have hf_7 := (congrFun eK3 o).trans ((mn_G3_lo (by omega)).trans hf_6)
  refine ms_putf dX6_reset_42 fp_X6_31 hf_7 (Nat.le_of_ble_eq_true rfl) rfl rfl ?_
  obtain ⟨G_8, eG_8⟩ : ∃ K9 : ms_H, K9 = ms_up K3 o (.inr (6, [.ref x, .ref sb, .int (nI (d + 2)), .int (nI W), .int (nI H), .int 0, .int dr, .int pa, .ref n, .ref wa])) := ⟨_, rfl⟩
  refine ms_W.heq eG_8 ?_
  have hf_9 : G_8 o = some (.inr (6, [.ref x, .ref sb, .int (nI (d + 2)), .int (nI W), .int (nI H), .int 0, .int dr, .int pa, .ref n, .ref wa])) := by rw [eG_8]; exact ms_up_s _ _ _
  refine ms_run (pc' := 47) (lv' := [(0, .ref o)]) (st' := [.int 0, .ref o]) _ (ms_deC dX6_reset_45 (ms_deC dX6_reset_46 ms_deN)) rfl rfl ?_
  refine ms_W.room (k2 := 1 + 1) (z2 := 0 + 6) ?_ (by omega) (by omega)
  refine ms_newA (N := 0) dX6_reset_47 al_X6_34 (by decide) rfl (Nat.le_of_ble_eq_true rfl) ?_
  obtain ⟨G_10, eG_10⟩ : ∃ K9 : ms_H, K9 = ms_up G_8 (mn_ad n H W) (.inl (4, 0, .inr (.inr (.inr (.inr (fun _ => none)))))) := ⟨_, rfl⟩
  refine ms_W.heq eG_10 ?_
  have hf_11 := (congrFun eG_10 o).trans ((ms_up_n G_8 _ (by omega)).trans hf_9)
  have hf_12 : G_10 (mn_ad n H W) = some (.inl (4, 0, .inr (.inr (.inr (.inr (fun _ => none)))))) := by rw [eG_10]; exact ms_up_s _ _ _
  refine ms_putf dX6_reset_50 fp_X6_36 hf_11 (Nat.le_of_ble_eq_true rfl) rfl rfl ?_
  obtain ⟨G_13, eG_13⟩ : ∃ K9 : ms_H, K9 = ms_up G_10 o (.inr (6, [.ref x, .ref sb, .int (nI (d + 2)), .int (nI W), .int (nI H), .int 0, .int dr, .int pa, .ref n, .ref (mn_ad n H W)])) := ⟨_, rfl⟩
  refine ms_W.heq eG_13 ?_
  have hf_14 : G_13 o = some (.inr (6, [.ref x, .ref sb, .int (nI (d + 2)), .int (nI W), .int (nI H), .int 0, .int dr, .int pa, .ref n, .ref (mn_ad n H W)])) := by rw [eG_13]; exact ms_up_s _ _ _
  have hf_15 := (congrFun eG_13 (mn_ad n H W)).trans ((ms_up_n G_10 _ (by omega)).trans hf_12)
  refine ms_run (pc' := 54) (lv' := [(0, .ref o)]) (st' := [.ref o]) _ (ms_deC dX6_reset_53 ms_deN) rfl rfl ?_
  refine ms_getf dX6_reset_54 fg_X6_10 hf_14 rfl ?_
  refine ms_run (pc' := 58) (lv' := [(0, .ref o)]) (st' := [.ref o, .ref x]) _ (ms_deC dX6_reset_57 ms_deN) rfl rfl ?_
  refine ms_getf dX6_reset_58 fg_X6_16 hf_14 rfl ?_
  refine ms_run (pc' := 62) (lv' := [(0, .ref o)]) (st' := [.ref o, .int (nI W), .ref x]) _ (ms_deC dX6_reset_61 ms_deN) rfl rfl ?_
  refine ms_getf dX6_reset_62 fg_X6_20 hf_14 rfl ?_
  have hfin : ∀ a, a < n → ¬ a = o → G_13 a = G a := fun a ha ha2 => (congrFun eG_13 a).trans ((ms_up_n _ _ (by omega)).trans ((congrFun eG_10 a).trans ((ms_up_n _ _ (by omega)).trans ((congrFun eG_8 a).trans ((ms_up_n _ _ (by omega)).trans ((congrFun eK3 a).trans ((mn_G3_lo (by omega)).trans ((congrFun eG_5 a).trans ((ms_up_n _ _ (by omega)).trans ((congrFun eG_3 a).trans ((ms_up_n _ _ (by omega)).trans ((congrFun eK2 a).trans ((ms_up_n _ _ (by omega)).trans ((congrFun eG_1 a).trans ((ms_up_n _ _ (by omega)).trans ((congrFun eK1 a).trans ((ms_up_n _ _ (by omega)).trans (rfl))))))))))))))))))
  have hf2 : ∀ a, n ≤ a → a < mn_ad n H W → G_13 a = K3 a := fun a h1 h2 => (congrFun eG_13 a).trans ((ms_up_n _ _ (by omega)).trans ((congrFun eG_10 a).trans ((ms_up_n _ _ (by omega)).trans ((congrFun eG_8 a).trans ((ms_up_n _ _ (by omega)).trans (rfl))))))
  have hXr : xs_at G_13 x g q c j q2 c2 W0 H0 nr wl mk ds cnt dr pa X := hX.cx ho (fun a h1 h2 => hfin a (by omega) (by omega))
  have ly : fk_ly o n W H (mn_ad n H W) 0 (fun _ => 0) := ⟨by omega, Nat.le_refl _, fun k hk => absurd hk (Nat.not_lt_zero k)⟩
  have hcf : c2 + 29 ≤ n := hn
  have hMr : fk_at G_13 o x sb (nI (d + 2)) W H 0 dr pa n (mn_ad n H W) 0 (fun _ => 0) (fun _ _ => 0) (fun _ _ => 0) := ⟨hf_14, hfF.fr hf2 hW0, ⟨⟨_, fun k hk => absurd hk (Nat.not_lt_zero k), hf_15⟩, fun k hk => absurd hk (Nat.not_lt_zero k), fun i k hi => absurd hi (Nat.not_lt_zero i)⟩⟩
  have hct := c_X5_reset (n := (mn_ad n H W + 1)) ho hXr (nI W) (nI H)
  rw [nI_clamp (n := W) (by omega), nI_clamp (n := H) (by omega)] at hct
  refine ms_W.room (k2 := 1 + 0) (z2 := 6 + 0) ?_ (by omega) (by omega)
  have hth4 : th_reset (nI W) (nI H) = none := if_neg (fun z => by rcases z with z | z | z | z; exact absurd ((nI_ltI (b := 2) (by omega) (by omega)).mp z) (by omega); exact absurd ((nI_ltI (a := 14) (by omega) (by omega)).mp z) (by omega); exact absurd ((nI_ltI (b := 2) (by omega) (by omega)).mp z) (by omega); exact absurd ((nI_ltI (a := 14) (by omega) (by omega)).mp z) (by omega))
  refine ms_callVX (As := [.int (nI W), .int (nI H)]) dX6_reset_65 (hct) cv_X6_63 hXr.1 rfl ⟨Nat.le_of_ble_eq_true rfl, Nat.le_of_ble_eq_true rfl⟩ rfl (Nat.le_of_ble_eq_true rfl) (fun v9 n4 K4 hp9 => ?_) (fun E9 n4 K4 q9 hp9 => ?_)
  · skip
    obtain ⟨-, hv9, hQ4, hn4⟩ := xq_P.val hp9
    cases hv9
    obtain ⟨nr9, hL9, hX4, hF4⟩ := hQ4
    have hM4 : fk_at K4 o x sb (nI (d + 2)) W H 0 dr pa n (mn_ad n H W) 0 (fun _ => 0) (fun _ _ => 0) (fun _ _ => 0) := hMr.cf (n := n) ly hW0 hox hcf hF4
    refine ms_run (pc' := 69) (lv' := [(0, .ref o)]) (st' := [.ref o, .int (nI (W * H))]) _ (ms_deC dX6_reset_68 ms_deN) rfl rfl ?_
    refine ms_getf dX6_reset_69 fg_X6_16 hM4.O rfl ?_
    refine ms_run (pc' := 73) (lv' := [(0, .ref o)]) (st' := [.ref o, .int (nI W), .int (nI (W * H))]) _ (ms_deC dX6_reset_72 ms_deN) rfl rfl ?_
    refine ms_getf dX6_reset_73 fg_X6_20 hM4.O rfl ?_
    refine ms_run (pc' := 77) (lv' := [(0, .ref o)]) (st' := [.int ((nI W) * (nI H)), .int (nI (W * H))]) _ (ms_deC dX6_reset_76 ms_deN) rfl rfl ?_
    refine ms_icmp_ne (tgt := 84) dX6_reset_77 (by decide) (fun h_77 => ?_) (fun h_77 => ?_)
    · skip
      exact absurd (by rw [pk_mul]) h_77
    · skip
      refine ms_run (pc' := 81) (lv' := [(0, .ref o)]) (st' := [.int 1]) _ (ms_deC dX6_reset_80 ms_deN) rfl rfl ?_
      refine ms_goto (tgt := 85) dX6_reset_81 (by decide) ?_
      refine ms_reti (st := []) (ty := .boolean) dX6_reset_85 rfl rfl ?_
      exact ⟨rfl, by omega, W, H, 0, n, mn_ad n H W, dr, pa, ((fun _ _ => 0), (fun _ => 0), (fun _ => -1), 0), nr9, (fun _ => 0), (fun _ => 0), (fun _ => -1), (fun _ => 0), (fun _ _ => 0), hX4, hM4, ⟨by omega, by omega, by omega, fun k hk => absurd hk (Nat.not_lt_zero k)⟩, ly, hcf, fK.reset ⟨by omega, by omega, by omega, by omega⟩ hL9 hd9 hpp⟩
  · skip
    exact absurd ((xq_P.thw hp9).1.symm.trans hth4) (fun z => by cases z)

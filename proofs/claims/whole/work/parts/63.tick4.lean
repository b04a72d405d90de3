/-! the model: tickNow -/
theorem mto_val {W H cnt k : Nat} {nr ds on : Nat → Int32} {dr t : Int32} {u : Nat → Nat → Int32} (hL : lk_ok W H (W * H) nr) (hW : W ≤ 14) (hH : H ≤ 14) (hv : hvX (nI (W * H)) cnt u) (hk : k < cnt) : mto u (sdX (nI (W * H)) nr ds cnt dr on u t) (fun k => amT nr (u k) (sdX (nI (W * H)) nr ds cnt dr on u t k)) t k = -1 ∨ ∃ o, o < W * H ∧ mto u (sdX (nI (W * H)) nr ds cnt dr on u t) (fun k => amT nr (u k) (sdX (nI (W * H)) nr ds cnt dr on u t k)) t k = nI o := by
  unfold mto
  by_cases h : wk_turn (u k) t
  · obtain ⟨own, ho, hpo⟩ := pos_of hW hH hv hk h.1
    rw [if_pos h]
    by_cases h4 : sdX (nI (W * H)) nr ds cnt dr on u t k = 4
    · rw [if_pos h4]; exact Or.inr ⟨own, ho, hpo⟩
    · rw [if_neg h4]
      show amT nr (u k) (sdX (nI (W * H)) nr ds cnt dr on u t k) = -1 ∨ ∃ o, o < W * H ∧ amT nr (u k) (sdX (nI (W * H)) nr ds cnt dr on u t k) = nI o
      unfold amT
      rw [if_neg h4, hpo]
      obtain ⟨s, hs, e⟩ : ∃ s, s ≤ 4 ∧ sdX (nI (W * H)) nr ds cnt dr on u t k = nI s := by
        unfold sdX
        rw [if_pos h]
        exact bsX_val
      rw [e]
      exact nbX_val hL ho hW hH (by omega)
  · rw [if_neg h]; exact Or.inl rfl
theorem gv_first {to sd : Nat → Int32} {u : Nat → Nat → Int32} {i c : Nat} (h : ¬ gv to sd u i c = 0) : ¬ to i = -1 ∧ ¬ sd i = 4 := by
  have h0 : ¬ gv to sd u i 0 = 0 := fun z => h (by have := gv_0 z c; rw [Nat.zero_add] at this; exact this)
  exact Decidable.not_not.mp (fun z => h0 (ms_b_0.mpr z))
set_option maxHeartbeats 1000000 in
set_option maxRecDepth 20000 in
theorem c_X6_tickNow {n m aw am ai ah W H cnt : Nat} {G : ms_H} {th cl dr pa : Int32} {wl mm ht : Nat → Int32} {u : Nat → Nat → Int32} (hM : md_at G m aw am ai ah W H th cl dr pa cnt wl mm ht u) (hW : W ≤ 14) (hH : H ≤ 14) (hc : cnt ≤ 24) (hl : md_lt n m aw am ai ah) (hne : md_ne m aw am ai ah) (hW0 : 0 < W) {nr mk on ds : Nat → Int32} (hL : lk_ok W H (W * H) nr) (hon : onV (W * H) cnt u on) (hv : hvX (nI (W * H)) cnt u) (hwk : wkV cnt u) (hd : 0 ≤ dr ∧ dr ≤ 9) (hds : dsR (W * H) nr wl mk ds) {fr lo hi9 : Nat} (hfa : fa_at G fr lo hi9 (W * H) (dXg (W * H) nr wl mk)) (hlo : m < lo ∧ ai < lo ∧ ah < lo) (hfr : lo ≤ fr ∧ fr < n) (hhi : hi9 ≤ n) (hmm : mmR (W * H) mk mm) : ms_M m_X6_tickNow [.ref m, .ref fr] n G 3 72 (fun r9 n1 G1 => r9 = .inl (some (.int (nI (ct (pGo (nI (W * H)) mk (mto u (sdX (nI (W * H)) nr ds cnt dr on u (cl + 1)) (fun k => amT nr (u k) ((sdX (nI (W * H)) nr ds cnt dr on u (cl + 1)) k)) (cl + 1)) (fun j => gv (mto u (sdX (nI (W * H)) nr ds cnt dr on u (cl + 1)) (fun k => amT nr (u k) ((sdX (nI (W * H)) nr ds cnt dr on u (cl + 1)) k)) (cl + 1)) (msd u (sdX (nI (W * H)) nr ds cnt dr on u (cl + 1)) (cl + 1)) u j cnt) u) cnt)))) ∧ n1 = n + 3 ∧ ms_fb (E3 m ai ah) n G G1 ∧ md_at G1 m aw am ai ah W H th (cl + 1) dr pa cnt wl mm (mht (mto u (sdX (nI (W * H)) nr ds cnt dr on u (cl + 1)) (fun k => amT nr (u k) ((sdX (nI (W * H)) nr ds cnt dr on u (cl + 1)) k)) (cl + 1)) (fun j => gv (mto u (sdX (nI (W * H)) nr ds cnt dr on u (cl + 1)) (fun k => amT nr (u k) ((sdX (nI (W * H)) nr ds cnt dr on u (cl + 1)) k)) (cl + 1)) (msd u (sdX (nI (W * H)) nr ds cnt dr on u (cl + 1)) (cl + 1)) u j cnt) ht cnt) (uw (mnu (nI (W * H)) mk (mto u (sdX (nI (W * H)) nr ds cnt dr on u (cl + 1)) (fun k => amT nr (u k) ((sdX (nI (W * H)) nr ds cnt dr on u (cl + 1)) k)) (cl + 1)) (msd u (sdX (nI (W * H)) nr ds cnt dr on u (cl + 1)) (cl + 1)) (fun j => gv (mto u (sdX (nI (W * H)) nr ds cnt dr on u (cl + 1)) (fun k => amT nr (u k) ((sdX (nI (W * H)) nr ds cnt dr on u (cl + 1)) k)) (cl + 1)) (msd u (sdX (nI (W * H)) nr ds cnt dr on u (cl + 1)) (cl + 1)) u j cnt) (cl + 1) u) u cnt)) := by
  refine ms_M.of (by decide) (Nat.le_of_ble_eq_true rfl) ?_
  show ms_W false m_X6_tickNow _ 0 [(0, .ref m), (1, .ref fr)] [] n G 3 72
  obtain ⟨hm, hw_, hk_, ⟨it, hi_, hit⟩, hh_⟩ := hM
  have hl9 := hl
  have hne9 := hne
  obtain ⟨l1, l2, l3, l4, l5⟩ := hl
  obtain ⟨n1, n2, n3, n4, n5, n6, n7, n8, n9, n10⟩ := hne
  have h196 := fd_196 hW hH
  have hF : ms_fb (E3 m ai ah) n G G := ms_fb.rf
  refine ms_run (pc' := 2) (lv' := [(0, .ref m), (1, .ref fr)]) (st' := [.ref m, .ref m]) _ (ms_deC dX6_tickNow_0 (ms_deC dX6_tickNow_1 ms_deN)) rfl rfl ?_
  refine ms_getf dX6_tickNow_2 fg_X6_26 hm rfl ?_
  refine ms_run (pc' := 7) (lv' := [(0, .ref m), (1, .ref fr)]) (st' := [.int (cl + 1), .ref m]) _ (ms_deC dX6_tickNow_5 (ms_deC dX6_tickNow_6 ms_deN)) rfl rfl ?_
  refine ms_putf dX6_tickNow_7 fp_X6_26 hm (Nat.le_of_ble_eq_true rfl) rfl rfl ?_
  obtain ⟨G_1, eG_1⟩ : ∃ K9 : ms_H, K9 = ms_up G m (.inr (6, [.int th, .int (nI W), .int (nI H), .int (cl + 1), .int dr, .int pa, .ref aw, .ref am, .int (nI cnt), .ref ai, .ref ah])) := ⟨_, rfl⟩
  refine ms_W.heq eG_1 ?_
  have hF_2 : ms_fb (E3 m ai ah) n G G_1 := by rw [eG_1]; exact ms_fb.up hF (by first | exact Or.inl (by omega) | exact Or.inr rfl | exact Or.inr (Or.inl rfl) | exact Or.inr (Or.inr (Or.inl rfl)) | exact Or.inr (Or.inr (Or.inr rfl)) | exact Or.inr (Or.inr rfl))
  have hf_3 : G_1 m = some (.inr (6, [.int th, .int (nI W), .int (nI H), .int (cl + 1), .int dr, .int pa, .ref aw, .ref am, .int (nI cnt), .ref ai, .ref ah])) := by rw [eG_1]; exact ms_up_s _ _ _
  have hf_4 := (congrFun eG_1 aw).trans ((ms_up_n G _ (by omega)).trans hw_)
  have hf_5 := (congrFun eG_1 am).trans ((ms_up_n G _ (by omega)).trans hk_)
  have hf_6 := (congrFun eG_1 ai).trans ((ms_up_n G _ (by omega)).trans hi_)
  have hf_7 := (congrFun eG_1 ah).trans ((ms_up_n G _ (by omega)).trans hh_)
  refine ms_run (pc' := 12) (lv' := [(0, .ref m), (1, .ref fr)]) (st' := [.int 24]) _ (ms_deC dX6_tickNow_10 ms_deN) rfl rfl ?_
  refine ms_W.room (k2 := 1 + 2) (z2 := 24 + 48) ?_ (by omega) (by omega)
  refine ms_newI (N := 24) dX6_tickNow_12 aw_int (by decide) (rfl) (Nat.le_of_ble_eq_true rfl) ?_
  obtain ⟨G_8, eG_8⟩ : ∃ K9 : ms_H, K9 = ms_up G_1 n (.inl (0, 24, .inl (fun _ => 0))) := ⟨_, rfl⟩
  refine ms_W.heq eG_8 ?_
  have hF_9 : ms_fb (E3 m ai ah) n G G_8 := by rw [eG_8]; exact ms_fb.up hF_2 (by first | exact Or.inl (by omega) | exact Or.inr rfl | exact Or.inr (Or.inl rfl) | exact Or.inr (Or.inr (Or.inl rfl)) | exact Or.inr (Or.inr (Or.inr rfl)) | exact Or.inr (Or.inr rfl))
  have hf_10 := (congrFun eG_8 m).trans ((ms_up_n G_1 _ (by omega)).trans hf_3)
  have hf_11 := (congrFun eG_8 aw).trans ((ms_up_n G_1 _ (by omega)).trans hf_4)
  have hf_12 := (congrFun eG_8 am).trans ((ms_up_n G_1 _ (by omega)).trans hf_5)
  have hf_13 := (congrFun eG_8 ai).trans ((ms_up_n G_1 _ (by omega)).trans hf_6)
  have hf_14 := (congrFun eG_8 ah).trans ((ms_up_n G_1 _ (by omega)).trans hf_7)
  have hf_15 : G_8 n = some (.inl (0, 24, .inl (fun _ => 0))) := by rw [eG_8]; exact ms_up_s _ _ _
  refine ms_run (pc' := 17) (lv' := [(2, .ref n), (0, .ref m), (1, .ref fr)]) (st' := [.int 24]) _ (ms_deC dX6_tickNow_14 (ms_deC dX6_tickNow_15 ms_deN)) rfl rfl ?_
  refine ms_W.room (k2 := 1 + 1) (z2 := 24 + 24) ?_ (by omega) (by omega)
  refine ms_newI (N := 24) dX6_tickNow_17 aw_int (by decide) (rfl) (Nat.le_of_ble_eq_true rfl) ?_
  obtain ⟨G_16, eG_16⟩ : ∃ K9 : ms_H, K9 = ms_up G_8 (n + 1) (.inl (0, 24, .inl (fun _ => 0))) := ⟨_, rfl⟩
  refine ms_W.heq eG_16 ?_
  have hF_17 : ms_fb (E3 m ai ah) n G G_16 := by rw [eG_16]; exact ms_fb.up hF_9 (by first | exact Or.inl (by omega) | exact Or.inr rfl | exact Or.inr (Or.inl rfl) | exact Or.inr (Or.inr (Or.inl rfl)) | exact Or.inr (Or.inr (Or.inr rfl)) | exact Or.inr (Or.inr rfl))
  have hf_18 := (congrFun eG_16 m).trans ((ms_up_n G_8 _ (by omega)).trans hf_10)
  have hf_19 := (congrFun eG_16 aw).trans ((ms_up_n G_8 _ (by omega)).trans hf_11)
  have hf_20 := (congrFun eG_16 am).trans ((ms_up_n G_8 _ (by omega)).trans hf_12)
  have hf_21 := (congrFun eG_16 ai).trans ((ms_up_n G_8 _ (by omega)).trans hf_13)
  have hf_22 := (congrFun eG_16 ah).trans ((ms_up_n G_8 _ (by omega)).trans hf_14)
  have hf_23 := (congrFun eG_16 n).trans ((ms_up_n G_8 _ (by omega)).trans hf_15)
  have hf_24 : G_16 (n + 1) = some (.inl (0, 24, .inl (fun _ => 0))) := by rw [eG_16]; exact ms_up_s _ _ _
  refine ms_run (pc' := 23) (lv' := [(4, .int 0), (3, .ref (n + 1)), (2, .ref n), (0, .ref m), (1, .ref fr)]) (st' := []) _ (ms_deC dX6_tickNow_19 (ms_deC dX6_tickNow_20 (ms_deC dX6_tickNow_21 ms_deN))) rfl rfl ?_
  have hM1 : md_at G_16 m aw am ai ah W H th (cl + 1) dr pa cnt wl mm ht u := ⟨hf_18, hf_19, hf_20, ⟨it, hf_21, hit⟩, hf_22⟩
  refine ms_W.sub (lv2 := [(0, _), (1, _), (2, _), (3, _), (4, _)]) ?_ [3, 4, 2, 1, 0] rfl
  refine l1_X6_tickNow hW hH hc hl9 hne9 hW0 hL hon hv hwk hd hds hfa hlo hfr hhi cnt 0 (by omega) G_16 hM1 hF_17 (by rw [fl2_0]; exact hf_23) (by rw [fl2_0]; exact hf_24) (fun K1 k1 k2 k3 k4 => ?_)
  clear hit
  obtain ⟨hm1, hw1, hk1, ⟨it1, hi1, hit1⟩, hh1⟩ := k1
  refine ms_run (pc' := 148) (lv' := [(0, .ref m), (1, .ref fr), (2, .ref n), (3, .ref (n + 1))]) (st' := [.int 24]) _ (ms_deC dX6_tickNow_146 ms_deN) rfl rfl ?_
  refine ms_W.room (k2 := 1 + 0) (z2 := 24 + 0) ?_ (by omega) (by omega)
  refine ms_newZ (N := 24) dX6_tickNow_148 aw_boolean (by decide) (rfl) (Nat.le_of_ble_eq_true rfl) ?_
  obtain ⟨G_525, eG_525⟩ : ∃ K9 : ms_H, K9 = ms_up K1 (n + 2) (.inl (1, 24, .inl (fun _ => 0))) := ⟨_, rfl⟩
  refine ms_W.heq eG_525 ?_
  have k2_526 : ms_fb (E3 m ai ah) n G G_525 := by rw [eG_525]; exact ms_fb.up k2 (by first | exact Or.inl (by omega) | exact Or.inr rfl | exact Or.inr (Or.inl rfl) | exact Or.inr (Or.inr (Or.inl rfl)) | exact Or.inr (Or.inr (Or.inr rfl)) | exact Or.inr (Or.inr rfl))
  have hf_527 := (congrFun eG_525 m).trans ((ms_up_n K1 _ (by omega)).trans hm1)
  have hf_528 := (congrFun eG_525 aw).trans ((ms_up_n K1 _ (by omega)).trans hw1)
  have hf_529 := (congrFun eG_525 am).trans ((ms_up_n K1 _ (by omega)).trans hk1)
  have hf_530 := (congrFun eG_525 ai).trans ((ms_up_n K1 _ (by omega)).trans hi1)
  have hf_531 := (congrFun eG_525 ah).trans ((ms_up_n K1 _ (by omega)).trans hh1)
  have hf_532 := (congrFun eG_525 n).trans ((ms_up_n K1 _ (by omega)).trans k3)
  have hf_533 := (congrFun eG_525 (n + 1)).trans ((ms_up_n K1 _ (by omega)).trans k4)
  have hf_534 : G_525 (n + 2) = some (.inl (1, 24, .inl (fun _ => 0))) := by rw [eG_525]; exact ms_up_s _ _ _
  refine ms_run (pc' := 155) (lv' := [(5, .int 0), (4, .ref (n + 2)), (0, .ref m), (1, .ref fr), (2, .ref n), (3, .ref (n + 1))]) (st' := []) _ (ms_deC dX6_tickNow_150 (ms_deC dX6_tickNow_152 (ms_deC dX6_tickNow_153 ms_deN))) rfl rfl ?_
  refine ms_W.sub (lv2 := [(0, _), (1, _), (2, _), (3, _), (4, _), (5, _)]) ?_ [2, 3, 4, 5, 1, 0] rfl
  refine l2_X6_tickNow (to := (mto u (sdX (nI (W * H)) nr ds cnt dr on u (cl + 1)) (fun k => amT nr (u k) ((sdX (nI (W * H)) nr ds cnt dr on u (cl + 1)) k)) (cl + 1))) (sd := (msd u (sdX (nI (W * H)) nr ds cnt dr on u (cl + 1)) (cl + 1))) hl9 hW hH hc cnt 0 (by omega) G_525 ⟨hf_527, hf_528, hf_529, ⟨it1, hf_530, hit1⟩, hf_531⟩ k2_526 hf_532 hf_533 (by rw [fl2_0]; exact hf_534) (fun K2 j1 j2 j3 j4 j5 => ?_)
  refine ms_run (pc' := 311) (lv' := [(6, .int 0), (5, .int 0), (0, .ref m), (1, .ref fr), (2, .ref n), (3, .ref (n + 1)), (4, .ref (n + 2))]) (st' := []) _ (ms_deC dX6_tickNow_305 (ms_deC dX6_tickNow_306 (ms_deC dX6_tickNow_308 (ms_deC dX6_tickNow_309 ms_deN)))) rfl rfl ?_
  refine ms_W.sub (lv2 := [(0, _), (1, _), (2, _), (3, _), (4, _), (5, _), (6, _)]) ?_ [2, 3, 4, 5, 6, 1, 0] rfl
  exact l4_X6_tickNow (to := (mto u (sdX (nI (W * H)) nr ds cnt dr on u (cl + 1)) (fun k => amT nr (u k) ((sdX (nI (W * H)) nr ds cnt dr on u (cl + 1)) k)) (cl + 1))) (sd := (msd u (sdX (nI (W * H)) nr ds cnt dr on u (cl + 1)) (cl + 1))) (go := (fun j => gv (mto u (sdX (nI (W * H)) nr ds cnt dr on u (cl + 1)) (fun k => amT nr (u k) ((sdX (nI (W * H)) nr ds cnt dr on u (cl + 1)) k)) (cl + 1)) (msd u (sdX (nI (W * H)) nr ds cnt dr on u (cl + 1)) (cl + 1)) u j cnt)) hl9 hne9 hW hH hc hmm (fun k hk hg => (mto_val hL hW hH hv hk).resolve_left (gv_first hg).1) (fun k hk => (hwk k hk).1) cnt 0 (by omega) K2 (by rw [uw_0]; exact j1) j2 j3 j4 j5

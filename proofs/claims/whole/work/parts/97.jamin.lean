/-! the model: jamIn -/
set_option maxHeartbeats 1000000 in
set_option maxRecDepth 20000 in
theorem l_X6_jamIn {nn m aw am ai ah W H cnt N : Nat} {G : ms_H} {th dr pa : Int32} {wl mm : Nat → Int32} {X : cX} {nr mk ds : Nat → Int32} (hl : md_lt nn m aw am ai ah) (hW : W ≤ 14) (hH : H ≤ 14) (hW0 : 0 < W) (hc : cnt ≤ 24) (hne : md_ne m aw am ai ah) (hL : lk_ok W H (W * H) nr) (hmm : mmR (W * H) mk mm) (hds : dsR (W * H) nr wl mk ds) (hd : 0 ≤ dr ∧ dr ≤ 9) (hN : N < 1000000) (hV : wdV W H cnt N X) {T : Nat} (hT : N + T + 1 < 1000000) (hT2 : T < 100) {fr lo hi9 : Nat} (hfa : fa_at G fr lo hi9 (W * H) (dXg (W * H) nr wl mk)) (hlo : m < lo ∧ ai < lo ∧ ah < lo) (hfr : lo ≤ fr ∧ fr < nn) (hhi : hi9 ≤ nn) {was : Nat} {P : ms_P} {V : Int32} : ∀ (r k : Nat), k + r = T + 1 → ∀ (K : ms_H), md_at K m aw am ai ah W H th (stXn (nI (W * H)) nr mk ds cnt dr X k).2.2.2 dr pa cnt wl mm (stXn (nI (W * H)) nr mk ds cnt dr X k).2.1 (stXn (nI (W * H)) nr mk ds cnt dr X k).1 → ms_fb (E3 m ai ah) nn G K → V = fst1 (fun t => decide (an (fun j => decide (pJam pa ((stXn (nI (W * H)) nr mk ds cnt dr X t).1 j))) cnt = true)) (fun t => nI t) k r → (∀ (K : ms_H) (j n9 : Nat), j ≤ T + 1 → nn ≤ n9 → md_at K m aw am ai ah W H th (stXn (nI (W * H)) nr mk ds cnt dr X j).2.2.2 dr pa cnt wl mm (stXn (nI (W * H)) nr mk ds cnt dr X j).2.1 (stXn (nI (W * H)) nr mk ds cnt dr X j).1 → ms_fb (E3 m ai ah) nn G K → V = (if T < j then -1 else nI j) → ms_W false m_X6_jamIn P 67 [(0, .ref m), (1, .int (nI T)), (2, .ref was), (4, .int (nI j))] [] n9 K 0 0) →  ms_W false m_X6_jamIn (P) 34 [(0, .ref m), (1, .int (nI T)), (2, .ref was), (3, .ref fr), (4, .int (nI k))] [] (nn + 4 * k) K (4 * r + 1) (96 * r + 24) := by
  obtain ⟨l1, l2, l3, l4, l5⟩ := hl
  intro r
  induction r with
  | zero =>
    intro k hk K hM9 hF hV0 kk
    have hkN : k = T + 1 := by omega
    have hM8 := hM9
    obtain ⟨hm, hw_, hk_, ⟨it, hi_, hit⟩, hh_⟩ := hM8
    refine ms_run (pc' := 35) (lv' := [(0, .ref m), (1, .int (nI T)), (2, .ref was), (3, .ref fr), (4, .int (nI k))]) (st' := [.ref m]) _ (ms_deC dX6_jamIn_34 ms_deN) rfl rfl ?_
    refine ms_W.room (k2 := 1 + 0) (z2 := 24 + 0) ?_ (by omega) (by omega)
    have hV9 := wdV.n (mk := mk) (dr := dr) (nr := nr) (ds := ds) hL hW hH hc hV k (by omega)
    refine ms_callV (As := []) dX6_jamIn_35 (c_X6_jams hM9 ⟨by omega, by omega, by omega, by omega, by omega⟩ hW hH hW0 hc hne hL hmm hds hd (show N + k < 1000000 by omega) hV9) cv_X6_136 hm rfl ⟨Nat.le_of_ble_eq_true rfl, Nat.le_of_ble_eq_true rfl⟩ rfl (Nat.le_of_ble_eq_true rfl) (fun v9 n9 K_jm hp9 => ?_)
    obtain ⟨hv9, rfl, hF_jm, fj, Lj, hrow, hjL, hjF⟩ := hp9
    cases hv9
    have hM7 := md_at.fb hM9 hF_jm ⟨by omega, by omega, by omega, by omega, by omega⟩
    have hF7 := ms_fb.trans hF hF_jm (by omega)
    obtain ⟨hm7, -⟩ := id hM7
    have hno := jam_none hc hjL hjF
    refine ms_run (pc' := 39) (lv' := [(0, .ref m), (1, .int (nI T)), (2, .ref was), (3, .ref fr), (4, .int (nI k))]) (st' := [.int (-1), .ref (nn + 4 * k)]) _ (ms_deC dX6_jamIn_38 ms_deN) rfl rfl ?_
    refine ms_callSp (As := [.ref (nn + 4 * k), .int (-1)]) dX6_jamIn_39 (c_X6_count hrow (by omega) (-1)) cs_X6_132 rfl ⟨Nat.le_of_ble_eq_true rfl, Nat.le_of_ble_eq_true rfl⟩ rfl (Nat.le_of_ble_eq_true rfl) ?_
    refine ms_run (pc' := 43) (lv' := [(0, .ref m), (1, .int (nI T)), (2, .ref was), (3, .ref fr), (4, .int (nI k))]) (st' := [.ref m, .int (nI (ct (fun j => decide (fj j = -1)) cnt))]) _ (ms_deC dX6_jamIn_42 ms_deN) rfl rfl ?_
    refine ms_getf dX6_jamIn_43 fg_X6_36 hm7 rfl ?_
    refine ms_icmp_ne (tgt := 67) dX6_jamIn_46 (by decide) (fun h_46 => ?_) (fun h_46 => ?_)
    · skip
      refine ms_W.room (k2 := 0) (z2 := 0) ?_ (by omega) (by omega)
      refine ms_W.sub (lv2 := [(0, _), (1, _), (2, _), (4, _)]) ?_ [0, 1, 2, 4] rfl
      exact kk K_jm k _ (by omega) (by omega) hM7 hF7 (hV0.trans (if_pos (show T < k by omega)).symm)
    · skip
      refine ms_run (pc' := 52) (lv' := [(0, .ref m), (1, .int (nI T)), (2, .ref was), (3, .ref fr), (4, .int (nI k))]) (st' := [.int (nI T), .int (nI k)]) _ (ms_deC dX6_jamIn_49 (ms_deC dX6_jamIn_51 ms_deN)) rfl rfl ?_
      refine ms_icmp_gt (tgt := 67) dX6_jamIn_52 (by decide) (fun h_52 => ?_) (fun h_52 => ?_)
      · skip
        refine ms_W.room (k2 := 0) (z2 := 0) ?_ (by omega) (by omega)
        refine ms_W.sub (lv2 := [(0, _), (1, _), (2, _), (4, _)]) ?_ [0, 1, 2, 4] rfl
        exact kk K_jm k _ (by omega) (by omega) hM7 hF7 (hV0.trans (if_pos (show T < k by omega)).symm)
      · skip
        exact absurd (show nI T < nI k from nI_lt (by omega) (by omega)) h_52
  | succ r ih =>
    intro k hk K hM9 hF hV0 kk
    have hlt : k < T + 1 := by omega
    have hM8 := hM9
    obtain ⟨hm, hw_, hk_, ⟨it, hi_, hit⟩, hh_⟩ := hM8
    refine ms_run (pc' := 35) (lv' := [(0, .ref m), (1, .int (nI T)), (2, .ref was), (3, .ref fr), (4, .int (nI k))]) (st' := [.ref m]) _ (ms_deC dX6_jamIn_34 ms_deN) rfl rfl ?_
    refine ms_W.room (k2 := 1 + (4 * r + 4)) (z2 := 24 + (96 * r + 96)) ?_ (by omega) (by omega)
    have hV9 := wdV.n (mk := mk) (dr := dr) (nr := nr) (ds := ds) hL hW hH hc hV k (by omega)
    refine ms_callV (As := []) dX6_jamIn_35 (c_X6_jams hM9 ⟨by omega, by omega, by omega, by omega, by omega⟩ hW hH hW0 hc hne hL hmm hds hd (show N + k < 1000000 by omega) hV9) cv_X6_136 hm rfl ⟨Nat.le_of_ble_eq_true rfl, Nat.le_of_ble_eq_true rfl⟩ rfl (Nat.le_of_ble_eq_true rfl) (fun v9 n9 K_jm hp9 => ?_)
    obtain ⟨hv9, rfl, hF_jm, fj, Lj, hrow, hjL, hjF⟩ := hp9
    cases hv9
    have hM7 := md_at.fb hM9 hF_jm ⟨by omega, by omega, by omega, by omega, by omega⟩
    have hF7 := ms_fb.trans hF hF_jm (by omega)
    obtain ⟨hm7, -⟩ := id hM7
    have hno := jam_none hc hjL hjF
    refine ms_run (pc' := 39) (lv' := [(0, .ref m), (1, .int (nI T)), (2, .ref was), (3, .ref fr), (4, .int (nI k))]) (st' := [.int (-1), .ref (nn + 4 * k)]) _ (ms_deC dX6_jamIn_38 ms_deN) rfl rfl ?_
    refine ms_callSp (As := [.ref (nn + 4 * k), .int (-1)]) dX6_jamIn_39 (c_X6_count hrow (by omega) (-1)) cs_X6_132 rfl ⟨Nat.le_of_ble_eq_true rfl, Nat.le_of_ble_eq_true rfl⟩ rfl (Nat.le_of_ble_eq_true rfl) ?_
    refine ms_run (pc' := 43) (lv' := [(0, .ref m), (1, .int (nI T)), (2, .ref was), (3, .ref fr), (4, .int (nI k))]) (st' := [.ref m, .int (nI (ct (fun j => decide (fj j = -1)) cnt))]) _ (ms_deC dX6_jamIn_42 ms_deN) rfl rfl ?_
    refine ms_getf dX6_jamIn_43 fg_X6_36 hm7 rfl ?_
    refine ms_icmp_ne (tgt := 67) dX6_jamIn_46 (by decide) (fun h_46 => ?_) (fun h_46 => ?_)
    · skip
      refine ms_W.room (k2 := 0) (z2 := 0) ?_ (by omega) (by omega)
      refine ms_W.sub (lv2 := [(0, _), (1, _), (2, _), (4, _)]) ?_ [0, 1, 2, 4] rfl
      exact kk K_jm k _ (by omega) (by omega) hM7 hF7 ((hV0.trans (if_pos (decide_eq_true (Decidable.not_not.mp (fun z9 => h_46 (hno.mpr z9)))))).trans (if_neg (show ¬ T < k by omega)).symm)
    · skip
      refine ms_run (pc' := 52) (lv' := [(0, .ref m), (1, .int (nI T)), (2, .ref was), (3, .ref fr), (4, .int (nI k))]) (st' := [.int (nI T), .int (nI k)]) _ (ms_deC dX6_jamIn_49 (ms_deC dX6_jamIn_51 ms_deN)) rfl rfl ?_
      refine ms_icmp_gt (tgt := 67) dX6_jamIn_52 (by decide) (fun h_52 => ?_) (fun h_52 => ?_)
      · skip
        exact absurd h_52 (show ¬ nI T < nI k from nI_nlt (by omega) (by omega))
      · skip
        refine ms_run (pc' := 57) (lv' := [(0, .ref m), (1, .int (nI T)), (2, .ref was), (3, .ref fr), (4, .int (nI k))]) (st' := [.ref fr, .ref m]) _ (ms_deC dX6_jamIn_55 (ms_deC dX6_jamIn_56 ms_deN)) rfl rfl ?_
        refine ms_W.room (k2 := 3 + (4 * r + 1)) (z2 := 72 + (96 * r + 24)) ?_ (by omega) (by omega)
        refine ms_callV (As := [.ref fr]) dX6_jamIn_57 (c_X6_step hM7 ⟨by omega, by omega, by omega, by omega, by omega⟩ hW hH hW0 hc hne hL hmm hds hd (show N + k < 1000000 by omega) hV9 (hfa.fb hF7 hhi (by omega) (fun b h1 h2 => by rintro (z9 | z9 | z9) <;> omega) (by rintro (z9 | z9 | z9) <;> omega)) hlo ⟨hfr.1, by omega⟩ (by omega)) cv_X6_125 hm7 rfl ⟨Nat.le_of_ble_eq_true rfl, Nat.le_of_ble_eq_true rfl⟩ rfl (Nat.le_of_ble_eq_true rfl) (fun v9 n9 K_st hp9 => ?_)
        obtain ⟨hv9, rfl, hF_st, hM_st⟩ := hp9
        cases hv9
        refine ms_run (pc' := 64) (lv' := [(4, .int ((nI k) + 1)), (0, .ref m), (1, .int (nI T)), (2, .ref was), (3, .ref fr)]) (st' := []) _ (ms_deC dX6_jamIn_60 (ms_deC dX6_jamIn_61 ms_deN)) rfl rfl ?_
        refine ms_goto (tgt := 34) dX6_jamIn_64 (by decide) ?_
        rw [nI_1 k]
        rw [show nn + 4 * k + 1 + 3 = nn + 4 * (k + 1) from by omega]
        refine ms_W.sub (lv2 := [(0, _), (1, _), (2, _), (3, _), (4, _)]) ?_ [1, 2, 3, 4, 0] rfl
        refine ms_W.room (k2 := 4 * r + 1) (z2 := 96 * r + 24) ?_ (by omega) (by omega)
        exact ih (k + 1) (by omega) K_st hM_st (hF7.trans2 hF_st (by omega)) (hV0.trans (if_neg (by intro z9; exact (hno.mp h_46) (of_decide_eq_true z9)))) kk
set_option maxHeartbeats 1000000 in
set_option maxRecDepth 20000 in
theorem c_X6_jamIn {n m aw am ai ah W H cnt N : Nat} {G : ms_H} {th dr pa : Int32} {wl mm : Nat → Int32} {X : cX} {nr mk ds : Nat → Int32} (hM : md_at G m aw am ai ah W H th X.2.2.2 dr pa cnt wl mm X.2.1 X.1) (hl : md_lt n m aw am ai ah) (hW : W ≤ 14) (hH : H ≤ 14) (hW0 : 0 < W) (hc : cnt ≤ 24) (hne : md_ne m aw am ai ah) (hL : lk_ok W H (W * H) nr) (hmm : mmR (W * H) mk mm) (hds : dsR (W * H) nr wl mk ds) (hd : 0 ≤ dr ∧ dr ≤ 9) (hN : N < 1000000) (hV : wdV W H cnt N X) (hN2 : N < 100000) (tt : Int32) : ms_M m_X6_jamIn [.ref m, .int tt] n G 258 7845 (mq_P n G (E5 m aw am ai ah) (th_ah tt) (fun _ => 1) (.int (fst1 (fun t => decide (an (fun j => decide (pJam pa ((stXn (nI (W * H)) nr mk ds cnt dr X t).1 j))) cnt = true)) (fun t => nI t) 0 (tt.toNatClampNeg + 1))) (fun t G1 => md_at G1 m aw am ai ah W H t X.2.2.2 dr pa cnt wl mm X.2.1 X.1) (fun G1 => md_at G1 m aw am ai ah W H 0 X.2.2.2 dr pa cnt wl mm X.2.1 X.1)) := by
  refine ms_M.of (by decide) (Nat.le_of_ble_eq_true rfl) ?_
  show ms_W false m_X6_jamIn _ 0 [(0, .ref m), (1, .int tt)] [] n G 258 7845
  have hl9 := hl
  have hne9 := hne
  obtain ⟨hm, hw_, hk_, ⟨it, hi_, hit⟩, hh_⟩ := hM
  obtain ⟨l1, l2, l3, l4, l5⟩ := hl
  obtain ⟨n1, n2, n3, n4, n5, n6, n7, n8, n9, n10⟩ := hne
  have h196 := fd_196 hW hH
  have hF : ms_fb (E5 m aw am ai ah) n G G := ms_fb.rf
  refine ms_run (pc' := 2) (lv' := [(0, .ref m), (1, .int tt)]) (st' := [.int 0, .ref m]) _ (ms_deC dX6_jamIn_0 (ms_deC dX6_jamIn_1 ms_deN)) rfl rfl ?_
  refine ms_putf dX6_jamIn_2 fp_X6_46 hm (Nat.le_of_ble_eq_true rfl) rfl rfl ?_
  obtain ⟨G_1, eG_1⟩ : ∃ K9 : ms_H, K9 = ms_up G m (.inr (6, [.int 0, .int (nI W), .int (nI H), .int X.2.2.2, .int dr, .int pa, .ref aw, .ref am, .int (nI cnt), .ref ai, .ref ah])) := ⟨_, rfl⟩
  refine ms_W.heq eG_1 ?_
  have hF_2 : ms_fb (E5 m aw am ai ah) n G G_1 := by rw [eG_1]; exact ms_fb.up hF (by first | exact Or.inl (by omega) | exact Or.inr rfl | exact Or.inr (Or.inl rfl) | exact Or.inr (Or.inr (Or.inl rfl)) | exact Or.inr (Or.inr (Or.inr rfl)) | exact Or.inr (Or.inr rfl) | exact Or.inr (Or.inr (Or.inr (Or.inl rfl))) | exact Or.inr (Or.inr (Or.inr (Or.inr (Or.inl rfl)))) | exact Or.inr (Or.inr (Or.inr (Or.inr (Or.inr rfl)))))
  have hf_3 : G_1 m = some (.inr (6, [.int 0, .int (nI W), .int (nI H), .int X.2.2.2, .int dr, .int pa, .ref aw, .ref am, .int (nI cnt), .ref ai, .ref ah])) := by rw [eG_1]; exact ms_up_s _ _ _
  have hf_4 := (congrFun eG_1 aw).trans ((ms_up_n G _ (by omega)).trans hw_)
  have hf_5 := (congrFun eG_1 am).trans ((ms_up_n G _ (by omega)).trans hk_)
  have hf_6 := (congrFun eG_1 ai).trans ((ms_up_n G _ (by omega)).trans hi_)
  have hf_7 := (congrFun eG_1 ah).trans ((ms_up_n G _ (by omega)).trans hh_)
  refine ms_run (pc' := 9) (lv' := [(0, .ref m), (1, .int tt)]) (st' := [.int 60, .int 1, .int tt]) _ (ms_deC dX6_jamIn_5 (ms_deC dX6_jamIn_6 (ms_deC dX6_jamIn_7 ms_deN))) rfl rfl ?_
  refine ms_callSp (As := [.int tt, .int 1, .int 60]) dX6_jamIn_9 (c_X6_isIn tt 1 60) cs_X6_49 rfl ⟨Nat.le_of_ble_eq_true rfl, Nat.le_of_ble_eq_true rfl⟩ rfl (Nat.le_of_ble_eq_true rfl) ?_
  by_cases hah : 1 ≤ tt ∧ tt ≤ 60
  · rw [show ms_b (1 ≤ tt ∧ tt ≤ 60) = 1 from if_pos hah]
    obtain ⟨T, hT, hTe⟩ := nI_of2 (M := 60) (n := 60) rfl (by rw [Int32.not_lt]; exact Int32.le_trans (by decide) hah.1) hah.2
    subst hTe
    rw [nI_clamp (n := T) (by omega)]
    refine ms_if_ne (tgt := 21) dX6_jamIn_12 (by decide) (fun _ => ?_) (fun h9 => absurd h9 (by decide))
    refine ms_run (pc' := 22) (lv' := [(0, .ref m), (1, .int (nI T))]) (st' := [.ref m]) _ (ms_deC dX6_jamIn_21 ms_deN) rfl rfl ?_
    refine ms_W.room (k2 := 4 + 254) (z2 := 393 + 7452) ?_ (by omega) (by omega)
    refine ms_callV (As := []) dX6_jamIn_22 (c_X6_putBy ⟨hf_3, hf_4, hf_5, ⟨it, hf_6, hit⟩, hf_7⟩ hW hH hc hl9 hne9) cv_X6_154 hf_3 rfl ⟨Nat.le_of_ble_eq_true rfl, Nat.le_of_ble_eq_true rfl⟩ rfl (Nat.le_of_ble_eq_true rfl) (fun v9 n9 K_pb hp9 => ?_)
    obtain ⟨hv9, rfl, hF1, hM1, hW1⟩ := hp9
    cases hv9
    have hl1 : md_lt (n + 4) m aw am (n + 2) (n + 3) := ⟨by omega, by omega, by omega, by omega, by omega⟩
    have hne1 : md_ne m aw am (n + 2) (n + 3) := ⟨n1, n2, by omega, by omega, n5, by omega, by omega, by omega, by omega, by omega⟩
    obtain ⟨hm1, -⟩ := id hM1
    refine ms_run (pc' := 27) (lv' := [(2, .ref n), (0, .ref m), (1, .int (nI T))]) (st' := [.ref m]) _ (ms_deC dX6_jamIn_25 (ms_deC dX6_jamIn_26 ms_deN)) rfl rfl ?_
    refine ms_W.room (k2 := 9 + 245) (z2 := 1572 + 5880) ?_ (by omega) (by omega)
    refine ms_callV (As := []) dX6_jamIn_27 (c_X6_farAll hM1 hW hH hc hl1 hW0 hL hmm) cv_X6_121 hm1 rfl ⟨Nat.le_of_ble_eq_true rfl, Nat.le_of_ble_eq_true rfl⟩ rfl (Nat.le_of_ble_eq_true rfl) (fun v9 n9 K_fa hp9 => ?_)
    obtain ⟨hv9, rfl, hF2, hfa⟩ := hp9
    cases hv9
    have hM2 := md_at.fb hM1 hF2 hl1
    have hW2 := hW1.fb hF2 (by omega) (by omega) (fun z9 => z9) (fun z9 => z9)
    have hl2 : md_lt (n + 4 + 9) m aw am (n + 2) (n + 3) := ⟨by omega, by omega, by omega, by omega, by omega⟩
    refine ms_run (pc' := 34) (lv' := [(4, .int 0), (3, .ref (n + 4)), (2, .ref n), (0, .ref m), (1, .int (nI T))]) (st' := []) _ (ms_deC dX6_jamIn_30 (ms_deC dX6_jamIn_31 (ms_deC dX6_jamIn_32 ms_deN))) rfl rfl ?_
    refine ms_W.room (k2 := 4 * (T + 1) + 1) (z2 := 96 * (T + 1) + 24) ?_ (by omega) (by omega)
    refine ms_W.sub (lv2 := [(0, _), (1, _), (2, _), (3, _), (4, _)]) ?_ [3, 4, 2, 1, 0] rfl
    refine l_X6_jamIn (nn := n + 4 + 9) (G := K_fa) (dr := dr) hl2 hW hH hW0 hc hne1 hL hmm hds hd (by omega) hV (T := T) (by omega) (by omega) hfa ⟨by omega, by omega, by omega⟩ ⟨Nat.le_refl _, by omega⟩ (Nat.le_refl _) (V := fst1 (fun t => decide (an (fun j => decide (pJam pa ((stXn (nI (W * H)) nr mk ds cnt dr X t).1 j))) cnt = true)) (fun t => nI t) 0 (T + 1)) (T + 1) 0 (by omega) K_fa hM2 ms_fb.rf rfl (fun K1 j9 n9 hj9 hn9 k1 k2 hV9 => ?_)
    have hW3 := hW2.fb k2 (by omega) (by omega) (by rintro (z9 | z9 | z9) <;> omega) (by rintro (z9 | z9 | z9) <;> omega)
    have old : ∀ a, a < n → ¬ a = m → K1 a = G_1 a := fun a h1 h2 => (k2 a (by omega) (by rintro (z9 | z9 | z9) <;> omega)).trans ((hF2.at a (by omega)).trans (hF1 a h1 h2))
    have hi3 := (old ai l4 (fun z9 => n3 z9.symm)).trans hf_6
    have hh3 := (old ah l5 (fun z9 => n4 z9.symm)).trans hf_7
    obtain ⟨hm3, -⟩ := id k1
    refine ms_run (pc' := 69) (lv' := [(0, .ref m), (1, .int (nI T)), (2, .ref n), (4, .int (nI j9))]) (st' := [.ref n, .ref m]) _ (ms_deC dX6_jamIn_67 (ms_deC dX6_jamIn_68 ms_deN)) rfl rfl ?_
    refine ms_callV0 (As := [.ref n]) dX6_jamIn_69 (c_X6_putBack k1 hW3 hi3 hit hh3 n1 n2 n3 n4 (by omega) (by omega)) cv_X6_157 hm3 rfl ⟨Nat.le_of_ble_eq_true rfl, Nat.le_of_ble_eq_true rfl⟩ rfl (Nat.le_of_ble_eq_true rfl) (fun v9 n8 K_bk hp9 => ?_)
    obtain ⟨hv9, rfl, hF4, hM4⟩ := hp9
    cases hv9
    refine ms_run (pc' := 75) (lv' := [(0, .ref m), (1, .int (nI T)), (2, .ref n), (4, .int (nI j9))]) (st' := [.int (nI T), .int (nI j9)]) _ (ms_deC dX6_jamIn_72 (ms_deC dX6_jamIn_74 ms_deN)) rfl rfl ?_
    refine ms_icmp_le (tgt := 82) dX6_jamIn_75 (by decide) (fun h_75 => ?_) (fun h_75 => ?_)
    · skip
      refine ms_run (pc' := 84) (lv' := [(0, .ref m), (1, .int (nI T)), (2, .ref n), (4, .int (nI j9))]) (st' := [.int (nI j9)]) _ (ms_deC dX6_jamIn_82 ms_deN) rfl rfl ?_
      refine ms_reti (st := []) (ty := .int) dX6_jamIn_84 rfl rfl ?_
      exact mq_P.ok (by unfold th_ah; rw [if_neg (not_not_intro hah)]) (by omega) (hF_2.trans2 (E := (E5 m aw am ai ah)) (n2 := n) (fun a h1 h2 => (hF4 a (by omega) (fun z9 => h2 (Or.inl z9))).trans (old a h1 (fun z9 => h2 (Or.inl z9)))) (Nat.le_refl n)) (by rw [hV9, if_neg (fun z9 => (Int32.not_lt.mpr h_75) (nI_lt z9 (by omega)))]) hM4
    · skip
      refine ms_run (pc' := 79) (lv' := [(0, .ref m), (1, .int (nI T)), (2, .ref n), (4, .int (nI j9))]) (st' := [.int (-1)]) _ (ms_deC dX6_jamIn_78 ms_deN) rfl rfl ?_
      refine ms_goto (tgt := 84) dX6_jamIn_79 (by decide) ?_
      refine ms_reti (st := []) (ty := .int) dX6_jamIn_84 rfl rfl ?_
      exact mq_P.ok (by unfold th_ah; rw [if_neg (not_not_intro hah)]) (by omega) (hF_2.trans2 (E := (E5 m aw am ai ah)) (n2 := n) (fun a h1 h2 => (hF4 a (by omega) (fun z9 => h2 (Or.inl z9))).trans (old a h1 (fun z9 => h2 (Or.inl z9)))) (Nat.le_refl n)) (by rw [hV9, if_pos ((nI_ltI (by omega) (by omega)).mp (Int32.not_le.mp h_75))]) hM4
  · rw [show ms_b (1 ≤ tt ∧ tt ≤ 60) = 0 from if_neg hah]
    refine ms_if_ne (tgt := 21) dX6_jamIn_12 (by decide) (fun h9 => absurd h9 (by decide)) (fun _ => ?_)
    refine ms_run (pc' := 17) (lv' := [(0, .ref m), (1, .int tt)]) (st' := [.int 1, .ref m]) _ (ms_deC dX6_jamIn_15 (ms_deC dX6_jamIn_16 ms_deN)) rfl rfl ?_
    refine ms_callV0 (As := [.int 1]) dX6_jamIn_17 (c_X6_no (show md_at G_1 m aw am ai ah W H 0 X.2.2.2 dr pa cnt wl mm X.2.1 X.1 from ⟨hf_3, hf_4, hf_5, ⟨it, hf_6, hit⟩, hf_7⟩) hne9 1) cv_X6_79 hf_3 rfl ⟨Nat.le_of_ble_eq_true rfl, Nat.le_of_ble_eq_true rfl⟩ rfl (Nat.le_of_ble_eq_true rfl) (fun v9 n9 K_no hp9 => ?_)
    obtain ⟨hv9, rfl, hF_no, hM_no⟩ := hp9
    cases hv9
    refine ms_reti (st := []) (ty := .int) dX6_jamIn_20 rfl rfl ?_
    exact mq_P.no (show th_ah tt = some IAE from by unfold th_ah; rw [if_pos hah]) (by omega) (ms_fb.trans2 hF_2 (hF_no.mono (fun a h => Or.inl h)) (by omega)) rfl hM_no

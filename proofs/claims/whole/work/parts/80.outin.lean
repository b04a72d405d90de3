/-! the model: outIn -/
set_option maxHeartbeats 1000000 in
set_option maxRecDepth 20000 in
theorem l_X6_outIn {nn m aw am ai ah W H cnt N : Nat} {G : ms_H} {th dr pa : Int32} {wl mm : Nat → Int32} {X : cX} {nr mk ds : Nat → Int32} (hl : md_lt nn m aw am ai ah) (hW : W ≤ 14) (hH : H ≤ 14) (hW0 : 0 < W) (hc : cnt ≤ 24) (hne : md_ne m aw am ai ah) (hL : lk_ok W H (W * H) nr) (hmm : mmR (W * H) mk mm) (hds : dsR (W * H) nr wl mk ds) (hd : 0 ≤ dr ∧ dr ≤ 9) (hN : N < 1000000) (hV : wdV W H cnt N X) {T : Nat} (hT : N + T + 1 < 1000000) (hT2 : T < 100) {fr lo hi9 : Nat} (hfa : fa_at G fr lo hi9 (W * H) (dXg (W * H) nr wl mk)) (hlo : m < lo ∧ ai < lo ∧ ah < lo) (hfr : lo ≤ fr ∧ fr < nn) (hhi : hi9 ≤ nn) {was : Nat} {P : ms_P} {i : Nat} (hi : i < cnt) {V : Int32} : ∀ (r k : Nat), k + r = T + 1 → ∀ (K : ms_H), md_at K m aw am ai ah W H th (stXn (nI (W * H)) nr mk ds cnt dr X k).2.2.2 dr pa cnt wl mm (stXn (nI (W * H)) nr mk ds cnt dr X k).2.1 (stXn (nI (W * H)) nr mk ds cnt dr X k).1 → ms_fb (E3 m ai ah) nn G K → V = fst1 (fun t => decide ((stXn (nI (W * H)) nr mk ds cnt dr X t).1 i 3 = -1)) (fun t => nI t) k r → (∀ (K : ms_H) (j : Nat), j ≤ T + 1 → md_at K m aw am ai ah W H th (stXn (nI (W * H)) nr mk ds cnt dr X j).2.2.2 dr pa cnt wl mm (stXn (nI (W * H)) nr mk ds cnt dr X j).2.1 (stXn (nI (W * H)) nr mk ds cnt dr X j).1 → ms_fb (E3 m ai ah) nn G K → V = (if T < j then -1 else nI j) → ms_W false m_X6_outIn P 76 [(0, .ref m), (2, .int (nI T)), (3, .ref was), (5, .int (nI j))] [] (nn + 3 * j) K 0 0) →  ms_W false m_X6_outIn (P) 49 [(0, .ref m), (1, .int (nI i)), (2, .int (nI T)), (3, .ref was), (4, .ref fr), (5, .int (nI k))] [] (nn + 3 * k) K (3 * r) (72 * r) := by
  obtain ⟨l1, l2, l3, l4, l5⟩ := hl
  intro r
  induction r with
  | zero =>
    intro k hk K hM9 hF hV0 kk
    have hkN : k = T + 1 := by omega
    have hM8 := hM9
    obtain ⟨hm, hw_, hk_, ⟨it, hi_, hit⟩, hh_⟩ := hM8
    refine ms_run (pc' := 51) (lv' := [(0, .ref m), (1, .int (nI i)), (2, .int (nI T)), (3, .ref was), (4, .ref fr), (5, .int (nI k))]) (st' := [.int (nI i), .ref m]) _ (ms_deC dX6_outIn_49 (ms_deC dX6_outIn_50 ms_deN)) rfl rfl ?_
    refine ms_callVp (As := [.int (nI i)]) dX6_outIn_51 (c_X6_isOnI hM9 hW hH hc hi) cv_X6_110 hm rfl ⟨Nat.le_of_ble_eq_true rfl, Nat.le_of_ble_eq_true rfl⟩ rfl (Nat.le_of_ble_eq_true rfl) ?_
    by_cases hon9 : ¬ (stXn (nI (W * H)) nr mk ds cnt dr X k).1 i 3 = -1
    · rw [show ms_b (¬ (stXn (nI (W * H)) nr mk ds cnt dr X k).1 i 3 = -1) = 1 from if_pos hon9]
      refine ms_if_eq (tgt := 76) dX6_outIn_54 (by decide) (fun h9 => absurd h9 (by decide)) (fun _ => ?_)
      refine ms_run (pc' := 60) (lv' := [(0, .ref m), (1, .int (nI i)), (2, .int (nI T)), (3, .ref was), (4, .ref fr), (5, .int (nI k))]) (st' := [.int (nI T), .int (nI k)]) _ (ms_deC dX6_outIn_57 (ms_deC dX6_outIn_59 ms_deN)) rfl rfl ?_
      refine ms_icmp_gt (tgt := 76) dX6_outIn_60 (by decide) (fun h_60 => ?_) (fun h_60 => ?_)
      · skip
        refine ms_W.room (k2 := 0) (z2 := 0) ?_ (by omega) (by omega)
        refine ms_W.sub (lv2 := [(0, _), (2, _), (3, _), (5, _)]) ?_ [0, 2, 3, 5] rfl
        exact kk K k (by omega) hM9 hF (hV0.trans (if_pos (show T < k by omega)).symm)
      · skip
        exact absurd (show nI T < nI k from nI_lt (by omega) (by omega)) h_60
    · rw [show ms_b (¬ (stXn (nI (W * H)) nr mk ds cnt dr X k).1 i 3 = -1) = 0 from if_neg hon9]
      refine ms_if_eq (tgt := 76) dX6_outIn_54 (by decide) (fun _ => ?_) (fun h9 => absurd rfl h9)
      refine ms_W.room (k2 := 0) (z2 := 0) ?_ (by omega) (by omega)
      refine ms_W.sub (lv2 := [(0, _), (2, _), (3, _), (5, _)]) ?_ [0, 2, 3, 5] rfl
      exact kk K k (by omega) hM9 hF (hV0.trans (if_pos (show T < k by omega)).symm)
  | succ r ih =>
    intro k hk K hM9 hF hV0 kk
    have hlt : k < T + 1 := by omega
    have hM8 := hM9
    obtain ⟨hm, hw_, hk_, ⟨it, hi_, hit⟩, hh_⟩ := hM8
    refine ms_run (pc' := 51) (lv' := [(0, .ref m), (1, .int (nI i)), (2, .int (nI T)), (3, .ref was), (4, .ref fr), (5, .int (nI k))]) (st' := [.int (nI i), .ref m]) _ (ms_deC dX6_outIn_49 (ms_deC dX6_outIn_50 ms_deN)) rfl rfl ?_
    refine ms_callVp (As := [.int (nI i)]) dX6_outIn_51 (c_X6_isOnI hM9 hW hH hc hi) cv_X6_110 hm rfl ⟨Nat.le_of_ble_eq_true rfl, Nat.le_of_ble_eq_true rfl⟩ rfl (Nat.le_of_ble_eq_true rfl) ?_
    by_cases hon9 : ¬ (stXn (nI (W * H)) nr mk ds cnt dr X k).1 i 3 = -1
    · rw [show ms_b (¬ (stXn (nI (W * H)) nr mk ds cnt dr X k).1 i 3 = -1) = 1 from if_pos hon9]
      refine ms_if_eq (tgt := 76) dX6_outIn_54 (by decide) (fun h9 => absurd h9 (by decide)) (fun _ => ?_)
      refine ms_run (pc' := 60) (lv' := [(0, .ref m), (1, .int (nI i)), (2, .int (nI T)), (3, .ref was), (4, .ref fr), (5, .int (nI k))]) (st' := [.int (nI T), .int (nI k)]) _ (ms_deC dX6_outIn_57 (ms_deC dX6_outIn_59 ms_deN)) rfl rfl ?_
      refine ms_icmp_gt (tgt := 76) dX6_outIn_60 (by decide) (fun h_60 => ?_) (fun h_60 => ?_)
      · skip
        exact absurd h_60 (show ¬ nI T < nI k from nI_nlt (by omega) (by omega))
      · skip
        refine ms_run (pc' := 66) (lv' := [(0, .ref m), (1, .int (nI i)), (2, .int (nI T)), (3, .ref was), (4, .ref fr), (5, .int (nI k))]) (st' := [.ref fr, .ref m]) _ (ms_deC dX6_outIn_63 (ms_deC dX6_outIn_64 ms_deN)) rfl rfl ?_
        refine ms_W.room (k2 := 3 + 3 * r) (z2 := 72 + 72 * r) ?_ (by omega) (by omega)
        have hV9 := wdV.n (mk := mk) (dr := dr) (nr := nr) (ds := ds) hL hW hH hc hV k (by omega)
        refine ms_callV (As := [.ref fr]) dX6_outIn_66 (c_X6_step hM9 ⟨by omega, by omega, by omega, by omega, by omega⟩ hW hH hW0 hc hne hL hmm hds hd (by omega) hV9 (hfa.fb hF hhi (by omega) (fun b h1 h2 => by rintro (z9 | z9 | z9) <;> omega) (by rintro (z9 | z9 | z9) <;> omega)) hlo ⟨hfr.1, by omega⟩ (by omega)) cv_X6_125 hm rfl ⟨Nat.le_of_ble_eq_true rfl, Nat.le_of_ble_eq_true rfl⟩ rfl (Nat.le_of_ble_eq_true rfl) (fun v9 n9 K_st hp9 => ?_)
        obtain ⟨hv9, rfl, hF_st, hM_st⟩ := hp9
        cases hv9
        refine ms_run (pc' := 73) (lv' := [(5, .int ((nI k) + 1)), (0, .ref m), (1, .int (nI i)), (2, .int (nI T)), (3, .ref was), (4, .ref fr)]) (st' := []) _ (ms_deC dX6_outIn_69 (ms_deC dX6_outIn_70 ms_deN)) rfl rfl ?_
        refine ms_goto (tgt := 49) dX6_outIn_73 (by decide) ?_
        rw [nI_1 k]
        rw [show nn + 3 * k + 3 = nn + 3 * (k + 1) from by omega]
        refine ms_W.sub (lv2 := [(0, _), (1, _), (2, _), (3, _), (4, _), (5, _)]) ?_ [1, 2, 3, 4, 5, 0] rfl
        exact ih (k + 1) (by omega) K_st hM_st (hF.trans2 hF_st (by omega)) (hV0.trans (if_neg (by intro z9; exact hon9 (of_decide_eq_true z9)))) kk
    · rw [show ms_b (¬ (stXn (nI (W * H)) nr mk ds cnt dr X k).1 i 3 = -1) = 0 from if_neg hon9]
      refine ms_if_eq (tgt := 76) dX6_outIn_54 (by decide) (fun _ => ?_) (fun h9 => absurd rfl h9)
      refine ms_W.room (k2 := 0) (z2 := 0) ?_ (by omega) (by omega)
      refine ms_W.sub (lv2 := [(0, _), (2, _), (3, _), (5, _)]) ?_ [0, 2, 3, 5] rfl
      exact kk K k (by omega) hM9 hF ((hV0.trans (if_pos (decide_eq_true (Decidable.not_not.mp hon9)))).trans (if_neg (show ¬ T < k by omega)).symm)
set_option maxHeartbeats 1000000 in
set_option maxRecDepth 20000 in
theorem c_X6_outIn {n m aw am ai ah W H cnt N : Nat} {G : ms_H} {th dr pa : Int32} {wl mm : Nat → Int32} {X : cX} {nr mk ds : Nat → Int32} (hM : md_at G m aw am ai ah W H th X.2.2.2 dr pa cnt wl mm X.2.1 X.1) (hl : md_lt n m aw am ai ah) (hW : W ≤ 14) (hH : H ≤ 14) (hW0 : 0 < W) (hc : cnt ≤ 24) (hne : md_ne m aw am ai ah) (hL : lk_ok W H (W * H) nr) (hmm : mmR (W * H) mk mm) (hds : dsR (W * H) nr wl mk ds) (hd : 0 ≤ dr ∧ dr ≤ 9) (hN : N < 1000000) (hV : wdV W H cnt N X) (hN2 : N < 100000) (kk tt : Int32) : ms_M m_X6_outIn [.ref m, .int kk, .int tt] n G 196 6357 (mq_P n G (E5 m aw am ai ah) (th_ahw cnt kk tt) (fun e => if e = IOB then 1 else 2) (.int (fst1 (fun t => decide ((stXn (nI (W * H)) nr mk ds cnt dr X t).1 kk.toNatClampNeg 3 = -1)) (fun t => nI t) 0 (tt.toNatClampNeg + 1))) (fun t G1 => md_at G1 m aw am ai ah W H t X.2.2.2 dr pa cnt wl mm X.2.1 X.1) (fun G1 => md_at G1 m aw am ai ah W H 0 X.2.2.2 dr pa cnt wl mm X.2.1 X.1)) := by
  refine ms_M.of (by decide) (Nat.le_of_ble_eq_true rfl) ?_
  show ms_W false m_X6_outIn _ 0 [(0, .ref m), (1, .int kk), (2, .int tt)] [] n G 196 6357
  have hl9 := hl
  have hne9 := hne
  obtain ⟨hm, hw_, hk_, ⟨it, hi_, hit⟩, hh_⟩ := hM
  obtain ⟨l1, l2, l3, l4, l5⟩ := hl
  obtain ⟨n1, n2, n3, n4, n5, n6, n7, n8, n9, n10⟩ := hne
  have h196 := fd_196 hW hH
  have hF : ms_fb (E5 m aw am ai ah) n G G := ms_fb.rf
  refine ms_run (pc' := 2) (lv' := [(0, .ref m), (1, .int kk), (2, .int tt)]) (st' := [.int 0, .ref m]) _ (ms_deC dX6_outIn_0 (ms_deC dX6_outIn_1 ms_deN)) rfl rfl ?_
  refine ms_putf dX6_outIn_2 fp_X6_46 hm (Nat.le_of_ble_eq_true rfl) rfl rfl ?_
  obtain ⟨G_1, eG_1⟩ : ∃ K9 : ms_H, K9 = ms_up G m (.inr (6, [.int 0, .int (nI W), .int (nI H), .int X.2.2.2, .int dr, .int pa, .ref aw, .ref am, .int (nI cnt), .ref ai, .ref ah])) := ⟨_, rfl⟩
  refine ms_W.heq eG_1 ?_
  have hF_2 : ms_fb (E5 m aw am ai ah) n G G_1 := by rw [eG_1]; exact ms_fb.up hF (by first | exact Or.inl (by omega) | exact Or.inr rfl | exact Or.inr (Or.inl rfl) | exact Or.inr (Or.inr (Or.inl rfl)) | exact Or.inr (Or.inr (Or.inr rfl)) | exact Or.inr (Or.inr rfl) | exact Or.inr (Or.inr (Or.inr (Or.inl rfl))) | exact Or.inr (Or.inr (Or.inr (Or.inr (Or.inl rfl)))) | exact Or.inr (Or.inr (Or.inr (Or.inr (Or.inr rfl)))))
  have hf_3 : G_1 m = some (.inr (6, [.int 0, .int (nI W), .int (nI H), .int X.2.2.2, .int dr, .int pa, .ref aw, .ref am, .int (nI cnt), .ref ai, .ref ah])) := by rw [eG_1]; exact ms_up_s _ _ _
  have hf_4 := (congrFun eG_1 aw).trans ((ms_up_n G _ (by omega)).trans hw_)
  have hf_5 := (congrFun eG_1 am).trans ((ms_up_n G _ (by omega)).trans hk_)
  have hf_6 := (congrFun eG_1 ai).trans ((ms_up_n G _ (by omega)).trans hi_)
  have hf_7 := (congrFun eG_1 ah).trans ((ms_up_n G _ (by omega)).trans hh_)
  refine ms_run (pc' := 7) (lv' := [(0, .ref m), (1, .int kk), (2, .int tt)]) (st' := [.int kk, .ref m]) _ (ms_deC dX6_outIn_5 (ms_deC dX6_outIn_6 ms_deN)) rfl rfl ?_
  refine ms_callVp (As := [.int kk]) dX6_outIn_7 (c_X6_isWalker (show md_at G_1 m aw am ai ah W H 0 X.2.2.2 dr pa cnt wl mm X.2.1 X.1 from ⟨hf_3, hf_4, hf_5, ⟨it, hf_6, hit⟩, hf_7⟩) hW hH hc kk) cv_X6_53 hf_3 rfl ⟨Nat.le_of_ble_eq_true rfl, Nat.le_of_ble_eq_true rfl⟩ rfl (Nat.le_of_ble_eq_true rfl) ?_
  by_cases hpi : pIs (nI cnt) kk
  · rw [show ms_b (pIs (nI cnt) kk) = 1 from if_pos hpi]
    obtain ⟨i, hi, hki⟩ := pIs_nI hc hpi
    subst hki
    rw [nI_clamp (n := i) (by omega)]
    refine ms_if_ne (tgt := 19) dX6_outIn_10 (by decide) (fun _ => ?_) (fun h9 => absurd h9 (by decide))
    refine ms_run (pc' := 23) (lv' := [(0, .ref m), (1, .int (nI i)), (2, .int tt)]) (st' := [.int 60, .int 1, .int tt]) _ (ms_deC dX6_outIn_19 (ms_deC dX6_outIn_20 (ms_deC dX6_outIn_21 ms_deN))) rfl rfl ?_
    refine ms_callSp (As := [.int tt, .int 1, .int 60]) dX6_outIn_23 (c_X6_isIn tt 1 60) cs_X6_49 rfl ⟨Nat.le_of_ble_eq_true rfl, Nat.le_of_ble_eq_true rfl⟩ rfl (Nat.le_of_ble_eq_true rfl) ?_
    by_cases hah : 1 ≤ tt ∧ tt ≤ 60
    · rw [show ms_b (1 ≤ tt ∧ tt ≤ 60) = 1 from if_pos hah]
      obtain ⟨T, hT, hTe⟩ := nI_of2 (M := 60) (n := 60) rfl (by rw [Int32.not_lt]; exact Int32.le_trans (by decide) hah.1) hah.2
      subst hTe
      rw [nI_clamp (n := T) (by omega)]
      refine ms_if_ne (tgt := 35) dX6_outIn_26 (by decide) (fun _ => ?_) (fun h9 => absurd h9 (by decide))
      refine ms_run (pc' := 36) (lv' := [(0, .ref m), (1, .int (nI i)), (2, .int (nI T))]) (st' := [.ref m]) _ (ms_deC dX6_outIn_35 ms_deN) rfl rfl ?_
      refine ms_W.room (k2 := 4 + 192) (z2 := 393 + 5964) ?_ (by omega) (by omega)
      refine ms_callV (As := []) dX6_outIn_36 (c_X6_putBy ⟨hf_3, hf_4, hf_5, ⟨it, hf_6, hit⟩, hf_7⟩ hW hH hc hl9 hne9) cv_X6_154 hf_3 rfl ⟨Nat.le_of_ble_eq_true rfl, Nat.le_of_ble_eq_true rfl⟩ rfl (Nat.le_of_ble_eq_true rfl) (fun v9 n9 K_pb hp9 => ?_)
      obtain ⟨hv9, rfl, hF1, hM1, hW1⟩ := hp9
      cases hv9
      have hl1 : md_lt (n + 4) m aw am (n + 2) (n + 3) := ⟨by omega, by omega, by omega, by omega, by omega⟩
      have hne1 : md_ne m aw am (n + 2) (n + 3) := ⟨n1, n2, by omega, by omega, n5, by omega, by omega, by omega, by omega, by omega⟩
      obtain ⟨hm1, -⟩ := id hM1
      refine ms_run (pc' := 41) (lv' := [(3, .ref n), (0, .ref m), (1, .int (nI i)), (2, .int (nI T))]) (st' := [.ref m]) _ (ms_deC dX6_outIn_39 (ms_deC dX6_outIn_40 ms_deN)) rfl rfl ?_
      refine ms_W.room (k2 := 9 + 183) (z2 := 1572 + 4392) ?_ (by omega) (by omega)
      refine ms_callV (As := []) dX6_outIn_41 (c_X6_farAll hM1 hW hH hc hl1 hW0 hL hmm) cv_X6_121 hm1 rfl ⟨Nat.le_of_ble_eq_true rfl, Nat.le_of_ble_eq_true rfl⟩ rfl (Nat.le_of_ble_eq_true rfl) (fun v9 n9 K_fa hp9 => ?_)
      obtain ⟨hv9, rfl, hF2, hfa⟩ := hp9
      cases hv9
      have hM2 := md_at.fb hM1 hF2 hl1
      have hW2 := hW1.fb hF2 (by omega) (by omega) (fun z9 => z9) (fun z9 => z9)
      have hl2 : md_lt (n + 4 + 9) m aw am (n + 2) (n + 3) := ⟨by omega, by omega, by omega, by omega, by omega⟩
      refine ms_run (pc' := 49) (lv' := [(5, .int 0), (4, .ref (n + 4)), (3, .ref n), (0, .ref m), (1, .int (nI i)), (2, .int (nI T))]) (st' := []) _ (ms_deC dX6_outIn_44 (ms_deC dX6_outIn_46 (ms_deC dX6_outIn_47 ms_deN))) rfl rfl ?_
      refine ms_W.room (k2 := 3 * (T + 1)) (z2 := 72 * (T + 1)) ?_ (by omega) (by omega)
      refine ms_W.sub (lv2 := [(0, _), (1, _), (2, _), (3, _), (4, _), (5, _)]) ?_ [3, 4, 5, 2, 1, 0] rfl
      refine l_X6_outIn (nn := n + 4 + 9) (G := K_fa) (dr := dr) hl2 hW hH hW0 hc hne1 hL hmm hds hd (by omega) hV (T := T) (by omega) (by omega) hfa ⟨by omega, by omega, by omega⟩ ⟨Nat.le_refl _, by omega⟩ (Nat.le_refl _) hi (V := fst1 (fun t => decide ((stXn (nI (W * H)) nr mk ds cnt dr X t).1 i 3 = -1)) (fun t => nI t) 0 (T + 1)) (T + 1) 0 (by omega) K_fa hM2 ms_fb.rf rfl (fun K1 j9 hj9 k1 k2 hV9 => ?_)
      have hW3 := hW2.fb k2 (by omega) (by omega) (by rintro (z9 | z9 | z9) <;> omega) (by rintro (z9 | z9 | z9) <;> omega)
      have old : ∀ a, a < n → ¬ a = m → K1 a = G_1 a := fun a h1 h2 => (k2 a (by omega) (by rintro (z9 | z9 | z9) <;> omega)).trans ((hF2.at a (by omega)).trans (hF1 a h1 h2))
      have hi3 := (old ai l4 (fun z9 => n3 z9.symm)).trans hf_6
      have hh3 := (old ah l5 (fun z9 => n4 z9.symm)).trans hf_7
      obtain ⟨hm3, -⟩ := id k1
      refine ms_run (pc' := 78) (lv' := [(0, .ref m), (2, .int (nI T)), (3, .ref n), (5, .int (nI j9))]) (st' := [.ref n, .ref m]) _ (ms_deC dX6_outIn_76 (ms_deC dX6_outIn_77 ms_deN)) rfl rfl ?_
      refine ms_callV0 (As := [.ref n]) dX6_outIn_78 (c_X6_putBack k1 hW3 hi3 hit hh3 n1 n2 n3 n4 (by omega) (by omega)) cv_X6_157 hm3 rfl ⟨Nat.le_of_ble_eq_true rfl, Nat.le_of_ble_eq_true rfl⟩ rfl (Nat.le_of_ble_eq_true rfl) (fun v9 n9 K_bk hp9 => ?_)
      obtain ⟨hv9, rfl, hF4, hM4⟩ := hp9
      cases hv9
      refine ms_run (pc' := 84) (lv' := [(0, .ref m), (2, .int (nI T)), (3, .ref n), (5, .int (nI j9))]) (st' := [.int (nI T), .int (nI j9)]) _ (ms_deC dX6_outIn_81 (ms_deC dX6_outIn_83 ms_deN)) rfl rfl ?_
      refine ms_icmp_le (tgt := 91) dX6_outIn_84 (by decide) (fun h_84 => ?_) (fun h_84 => ?_)
      · skip
        refine ms_run (pc' := 93) (lv' := [(0, .ref m), (2, .int (nI T)), (3, .ref n), (5, .int (nI j9))]) (st' := [.int (nI j9)]) _ (ms_deC dX6_outIn_91 ms_deN) rfl rfl ?_
        refine ms_reti (st := []) (ty := .int) dX6_outIn_93 rfl rfl ?_
        exact mq_P.ok (by unfold th_ahw; rw [if_neg (not_not_intro hpi), if_neg (not_not_intro hah)]) (by omega) (hF_2.trans2 (E := (E5 m aw am ai ah)) (n2 := n) (fun a h1 h2 => (hF4 a (by omega) (fun z9 => h2 (Or.inl z9))).trans (old a h1 (fun z9 => h2 (Or.inl z9)))) (Nat.le_refl n)) (by rw [hV9, if_neg (fun z9 => (Int32.not_lt.mpr h_84) (nI_lt z9 (by omega)))]) hM4
      · skip
        refine ms_run (pc' := 88) (lv' := [(0, .ref m), (2, .int (nI T)), (3, .ref n), (5, .int (nI j9))]) (st' := [.int (-1)]) _ (ms_deC dX6_outIn_87 ms_deN) rfl rfl ?_
        refine ms_goto (tgt := 93) dX6_outIn_88 (by decide) ?_
        refine ms_reti (st := []) (ty := .int) dX6_outIn_93 rfl rfl ?_
        exact mq_P.ok (by unfold th_ahw; rw [if_neg (not_not_intro hpi), if_neg (not_not_intro hah)]) (by omega) (hF_2.trans2 (E := (E5 m aw am ai ah)) (n2 := n) (fun a h1 h2 => (hF4 a (by omega) (fun z9 => h2 (Or.inl z9))).trans (old a h1 (fun z9 => h2 (Or.inl z9)))) (Nat.le_refl n)) (by rw [hV9, if_pos ((nI_ltI (by omega) (by omega)).mp (Int32.not_le.mp h_84))]) hM4
    · rw [show ms_b (1 ≤ tt ∧ tt ≤ 60) = 0 from if_neg hah]
      refine ms_if_ne (tgt := 35) dX6_outIn_26 (by decide) (fun h9 => absurd h9 (by decide)) (fun _ => ?_)
      refine ms_run (pc' := 31) (lv' := [(0, .ref m), (1, .int (nI i)), (2, .int tt)]) (st' := [.int 2, .ref m]) _ (ms_deC dX6_outIn_29 (ms_deC dX6_outIn_30 ms_deN)) rfl rfl ?_
      refine ms_callV0 (As := [.int 2]) dX6_outIn_31 (c_X6_no (show md_at G_1 m aw am ai ah W H 0 X.2.2.2 dr pa cnt wl mm X.2.1 X.1 from ⟨hf_3, hf_4, hf_5, ⟨it, hf_6, hit⟩, hf_7⟩) hne9 2) cv_X6_79 hf_3 rfl ⟨Nat.le_of_ble_eq_true rfl, Nat.le_of_ble_eq_true rfl⟩ rfl (Nat.le_of_ble_eq_true rfl) (fun v9 n9 K_no hp9 => ?_)
      obtain ⟨hv9, rfl, hF_no, hM_no⟩ := hp9
      cases hv9
      refine ms_reti (st := []) (ty := .int) dX6_outIn_34 rfl rfl ?_
      exact mq_P.no (show th_ahw cnt (nI i) tt = some IAE from by unfold th_ahw; rw [if_neg (not_not_intro hpi), if_pos hah]) (by omega) (ms_fb.trans2 hF_2 (hF_no.mono (fun a h => Or.inl h)) (by omega)) rfl hM_no
  · rw [show ms_b (pIs (nI cnt) kk) = 0 from if_neg hpi]
    refine ms_if_ne (tgt := 19) dX6_outIn_10 (by decide) (fun h9 => absurd h9 (by decide)) (fun _ => ?_)
    refine ms_run (pc' := 15) (lv' := [(0, .ref m), (1, .int kk), (2, .int tt)]) (st' := [.int 1, .ref m]) _ (ms_deC dX6_outIn_13 (ms_deC dX6_outIn_14 ms_deN)) rfl rfl ?_
    refine ms_callV0 (As := [.int 1]) dX6_outIn_15 (c_X6_no (show md_at G_1 m aw am ai ah W H 0 X.2.2.2 dr pa cnt wl mm X.2.1 X.1 from ⟨hf_3, hf_4, hf_5, ⟨it, hf_6, hit⟩, hf_7⟩) hne9 1) cv_X6_79 hf_3 rfl ⟨Nat.le_of_ble_eq_true rfl, Nat.le_of_ble_eq_true rfl⟩ rfl (Nat.le_of_ble_eq_true rfl) (fun v9 n9 K_no hp9 => ?_)
    obtain ⟨hv9, rfl, hF_no, hM_no⟩ := hp9
    cases hv9
    refine ms_reti (st := []) (ty := .int) dX6_outIn_18 rfl rfl ?_
    exact mq_P.no (show th_ahw _ _ _ = some IOB from if_pos hpi) (by omega) (ms_fb.trans2 hF_2 (hF_no.mono (fun a h => Or.inl h)) (by omega)) rfl hM_no

/-! the model: outIn -/
set_option maxHeartbeats 1000000 in
set_option maxRecDepth 20000 in
theorem l_X6_outIn {nn m aw am ai ah W H cnt N : Nat} {G : ms_H} {th dr pa : Int32} {wl mm : Nat → Int32} {X : cX} {nr mk ds : Nat → Int32} (hl : md_lt nn m aw am ai ah) (hW : W ≤ 14) (hH : H ≤ 14) (hW0 : 0 < W) (hc : cnt ≤ 24) (hne : md_ne m aw am ai ah) (hL : lk_ok W H (W * H) nr) (hmm : mmR (W * H) mk mm) (hds : dsR (W * H) nr wl mk ds) (hd : 0 ≤ dr ∧ dr ≤ 9) (hN : N < 1000000) (hV : wdV W H cnt N X) {T : Nat} (hT : N + T + 1 < 1000000) (hT2 : T < 100) {fr lo hi9 : Nat} (hfa : fa_at G fr lo hi9 (W * H) (dXg (W * H) nr wl mk)) (hlo : m < lo ∧ ai < lo ∧ ah < lo) (hfr : lo ≤ fr ∧ fr < nn) (hhi : hi9 ≤ nn) {was : Nat} {P : ms_P} {i : Nat} (hi : i < cnt) {V : Int32} : ∀ (r k : Nat), k + r = T + 1 → ∀ (K : ms_H), md_at K m aw am ai ah W H th (stXn (nI (W * H)) nr mk ds cnt dr X k).2.2.2 dr pa cnt wl mm (stXn (nI (W * H)) nr mk ds cnt dr X k).2.1 (stXn (nI (W * H)) nr mk ds cnt dr X k).1 → ms_fb (E3 m ai ah) nn G K → V = fst1 (fun t => decide ((stXn (nI (W * H)) nr mk ds cnt dr X t).1 i 3 = -1)) (fun t => nI t) k r → (∀ (K : ms_H) (j : Nat), j ≤ T + 1 → md_at K m aw am ai ah W H th (stXn (nI (W * H)) nr mk ds cnt dr X j).2.2.2 dr pa cnt wl mm (stXn (nI (W * H)) nr mk ds cnt dr X j).2.1 (stXn (nI (W * H)) nr mk ds cnt dr X j).1 → ms_fb (E3 m ai ah) nn G K → V = (if T < j then -1 else nI j) → ms_W false m_X6_outIn P 76 [(0, .ref m), (2, .int (nI T)), (3, .ref was), (5, .int (nI j))] [] (nn + 3 * j) K 0 0) →  ms_W false m_X6_outIn (P) 49 [(0, .ref m), (1, .int (nI i)), (2, .int (nI T)), (3, .ref was), (4, .ref fr), (5, .int (nI k))] [] (nn + 3 * k) K (3 * r) (72 * r) := by
  obtain ⟨l1, l2, l3, l4, l5⟩ := hl
  intro r
  induction r with
  | zero =>
    intro k hk K hM9 hF hV0 kk
    have hkN : k = T + 1 := by omega
    have hM8 := hM9
    obtain ⟨hm, hw_, hk_, ⟨it, hi_, hit⟩, hh_⟩ := hM8
    refine ms_run (pc' := 51) (lv' := [(0, .ref m), (1, .int (nI i)), (2, .int (nI T)), (3, .ref was), (4, .ref fr), (5, .int (nI k))]) (st' := [.int (nI i), .ref m]) _ (ms_deC dX6_outIn_49 (ms_deC dX6_outIn_50 ms_deN)) rfl rfl ?_
    refine ms_callVp (As := [.int (nI i)]) dX6_outIn_51 (c_X6_isOnI hM9 hW hH hc hi) cv_X6_110 hm rfl ⟨Nat.le_of_ble_eq_true rfl, Nat.le_of_ble_eq_true rfl⟩ rfl (Nat.le_of_ble_eq_true rfl) ?_
    by_cases hon9 : ¬ (stXn (nI (W * H)) nr mk ds cnt dr X k).1 i 3 = -1
    · rw [show ms_b (¬ (stXn (nI (W * H)) nr mk ds cnt dr X k).1 i 3 = -1) = 1 from if_pos hon9]
      refine ms_if_eq (tgt := 76) dX6_outIn_54 (by decide) (fun h9 => absurd h9 (by decide)) (fun _ => ?_)
      refine ms_run (pc' := 60) (lv' := [(0, .ref m), (1, .int (nI i)), (2, .int (nI T)), (3, .ref was), (4, .ref fr), (5, .int (nI k))]) (st' := [.int (nI T), .int (nI k)]) _ (ms_deC dX6_outIn_57 (ms_deC dX6_outIn_59 ms_deN)) rfl rfl ?_
      refine ms_icmp_gt (tgt := 76) dX6_outIn_60 (by decide) (fun h_60 => ?_) (fun h_60 => ?_)
      · skip
        refine ms_W.room (k2 := 0) (z2 := 0) ?_ (by omega) (by omega)
        refine ms_W.sub (lv2 := [(0, _), (2, _), (3, _), (5, _)]) ?_ [0, 2, 3, 5] rfl
        exact kk K k (by omega) hM9 hF (hV0.trans (if_pos (show T < k by omega)).symm)
      · skip
        exact absurd (show nI T < nI k from nI_lt (by omega) (by omega)) h_60
    · rw [show ms_b (¬ (stXn (nI (W * H)) nr mk ds cnt dr X k).1 i 3 = -1) = 0 from if_neg hon9]
      refine ms_if_eq (tgt := 76) dX6_outIn_54 (by decide) (fun _ => ?_) (fun h9 => absurd rfl h9)
      refine ms_W.room (k2 := 0) (z2 := 0) ?_ (by omega) (by omega)
      refine ms_W.sub (lv2 := [(0, _), (2, _), (3, _), (5, _)]) ?_ [0, 2, 3, 5] rfl
      exact kk K k (by omega) hM9 hF (hV0.trans (if_pos (show T < k by omega)).symm)
  | succ r ih =>
    intro k hk K hM9 hF hV0 kk
    have hlt : k < T + 1 := by omega
    have hM8 := hM9
    obtain ⟨hm, hw_, hk_, ⟨it, hi_, hit⟩, hh_⟩ := hM8
    refine ms_run (pc' := 51) (lv' := [(0, .ref m), (1, .int (nI i)), (2, .int (nI T)), (3, .ref was), (4, .ref fr), (5, .int (nI k))]) (st' := [.int (nI i), .ref m]) _ (ms_deC dX6_outIn_49 (ms_deC dX6_outIn_50 ms_deN)) rfl rfl ?_
    refine ms_callVp (As := [.int (nI i)]) dX6_outIn_51 (c_X6_isOnI hM9 hW hH hc hi) cv_X6_110 hm rfl ⟨Nat.le_of_ble_eq_true rfl, Nat.le_of_ble_eq_true rfl⟩ rfl (Nat.le_of_ble_eq_true rfl) ?_
    by_cases hon9 : ¬ (stXn (nI (W * H)) nr mk ds cnt dr X k).1 i 3 = -1
    · rw [show ms_b (¬ (stXn (nI (W * H)) nr mk ds cnt dr X k).1 i 3 = -1) = 1 from if_pos hon9]
      refine ms_if_eq (tgt := 76) dX6_outIn_54 (by decide) (fun h9 => absurd h9 (by decide)) (fun _ => ?_)
      refine ms_run (pc' := 60) (lv' := [(0, .ref m), (1, .int (nI i)), (2, .int (nI T)), (3, .ref was), (4, .ref fr), (5, .int (nI k))]) (st' := [.int (nI T), .int (nI k)]) _ (ms_deC dX6_outIn_57 (ms_deC dX6_outIn_59 ms_deN)) rfl rfl ?_
      refine ms_icmp_gt (tgt := 76) dX6_outIn_60 (by decide) (fun h_60 => ?_) (fun h_60 => ?_)
      · skip
        exact absurd h_60 (show ¬ nI T < nI k from nI_nlt (by omega) (by omega))
      · skip
        refine ms_run (pc' := 66) (lv' := [(0, .ref m), (1, .int (nI i)), (2, .int (nI T)), (3, .ref was), (4, .ref fr), (5, .int (nI k))]) (st' := [.ref fr, .ref m]) _ (ms_deC dX6_outIn_63 (ms_deC dX6_outIn_64 ms_deN)) rfl rfl ?_
        refine ms_W.room (k2 := 3 + 3 * r) (z2 := 72 + 72 * r) ?_ (by omega) (by omega)
        have hV9 := wdV.n (mk := mk) (dr := dr) (nr := nr) (ds := ds) hL hW hH hc hV k (by omega)
        refine ms_callV (As := [.ref fr]) dX6_outIn_66 (c_X6_step hM9 ⟨by omega, by omega, by omega, by omega, by omega⟩ hW hH hW0 hc hne hL hmm hds hd (by omega) hV9 (hfa.fb hF hhi (by omega) (fun b h1 h2 => by rintro (z9 | z9 | z9) <;> omega) (by rintro (z9 | z9 | z9) <;> omega)) hlo ⟨hfr.1, by omega⟩ (by omega)) cv_X6_125 hm rfl ⟨Nat.le_of_ble_eq_true rfl, Nat.le_of_ble_eq_true rfl⟩ rfl (Nat.le_of_ble_eq_true rfl) (fun v9 n9 K_st hp9 => ?_)
        obtain ⟨hv9, rfl, hF_st, hM_st⟩ := hp9
        cases hv9
        refine ms_run (pc' := 73) (lv' := [(5, .int ((nI k) + 1)), (0, .ref m), (1, .int (nI i)), (2, .int (nI T)), (3, .ref was), (4, .ref fr)]) (st' := []) _ (ms_deC dX6_outIn_69 (ms_deC dX6_outIn_70 ms_deN)) rfl rfl ?_
        refine ms_goto (tgt := 49) dX6_outIn_73 (by decide) ?_
        rw [nI_1 k]
        rw [show nn + 3 * k + 3 = nn + 3 * (k + 1) from by omega]
        refine ms_W.sub (lv2 := [(0, _), (1, _), (2, _), (3, _), (4, _), (5, _)]) ?_ [1, 2, 3, 4, 5, 0] rfl
        exact ih (k + 1) (by omega) K_st hM_st (hF.trans2 hF_st (by omega)) (hV0.trans (if_neg (by intro z9; exact hon9 (of_decide_eq_true z9)))) kk
    · rw [show ms_b (¬ (stXn (nI (W * H)) nr mk ds cnt dr X k).1 i 3 = -1) = 0 from if_neg hon9]
      refine ms_if_eq (tgt := 76) dX6_outIn_54 (by decide) (fun _ => ?_) (fun h9 => absurd rfl h9)
      refine ms_W.room (k2 := 0) (z2 := 0) ?_ (by omega) (by omega)
      refine ms_W.sub (lv2 := [(0, _), (2, _), (3, _), (5, _)]) ?_ [0, 2, 3, 5] rfl
      exact kk K k (by omega) hM9 hF ((hV0.trans (if_pos (decide_eq_true (Decidable.not_not.mp hon9)))).trans (if_neg (show ¬ T < k by omega)).symm)

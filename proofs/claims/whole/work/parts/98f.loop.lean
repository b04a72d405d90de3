/-! the law: its loop, its entry -/
theorem sw31 (x : Int32) : ∃ s, s < 32 ∧ x &&& 31 = nI s := by
  refine ⟨(x.toBitVec &&& 31#32).toNat, ?_, ?_⟩
  · rw [BitVec.toNat_and]
    exact Nat.lt_of_le_of_lt Nat.and_le_right (by decide)
  · apply Int32.toBitVec_inj.mp
    show x.toBitVec &&& 31#32 = BitVec.ofNat 32 _
    rw [BitVec.ofNat_toNat, BitVec.setWidth_eq]
theorem lw_gt {L i : Nat} (hL : L ≤ 3072) (hi : i ≤ 4000) : nI L - 6 < nI i ↔ L < i + 6 := by
  have h6 : (6 : Int32).toInt = 6 := rfl
  rw [nb_lt, nb_sub (by rw [nI_toI (by omega), h6]; omega) (by rw [nI_toI (by omega), h6]; omega), nI_toI (by omega), nI_toI (by omega), h6]
  omega
theorem lS.next {x g q c j q2 c2 o m k n : Nat} {G : ms_H} (h : lS x g q c j q2 c2 o m k n G) : lS x g q c j q2 c2 o m (k + 1) n G := by
  obtain ⟨aw, am, ai, ah, W, H, cnt, th, dr, pa, X, nr, wl, mk, ds, mm, a1, a2, a3, a4, a5, a6, a7, a8, a9, b1, b2, b3, b4, b5, b6⟩ := h
  exact ⟨aw, am, ai, ah, W, H, cnt, th, dr, pa, X, nr, wl, mk, ds, mm, a1, a2, a3, a4, a5, a6, a7, a8, a9, b1, b2, b3, b4, b5.mono (by omega), b6.mono (by omega)⟩
set_option maxHeartbeats 1000000 in
set_option maxRecDepth 20000 in
theorem law_loop {x g q c j q2 c2 o m b L : Nat} {xs : Nat → Int32} (ho : ox x g q c j q2 c2) (hoo : c2 + 29 ≤ o) (hL : L ≤ 3072) : ∀ (r k n : Nat) (G : ms_H), L ≤ 6 * k + r → k ≤ 512 → lS x g q c j q2 c2 o m k n G → lo_at o n G → ms_W false (m_L_lw b L xs) (fun r _ _ => r = .inl (some (.int 1))) 23 [(0, .ref b), (1, .ref x), (2, .ref m), (3, .ref o), (4, .int (nI (6 * k)))] [] n G (394 * (512 - k)) (12720 * (512 - k)) := by
  intro r
  induction r with
  | zero =>
    intro k n G hr hk hS hO
    refine ms_run (pc' := 26) (lv' := [(0, .ref b), (1, .ref x), (2, .ref m), (3, .ref o), (4, .int (nI (6 * k)))]) (st' := [.ref b, .int (nI (6 * k))]) _ (ms_deC dL_law_23 (ms_deC dL_law_25 ms_deN)) rfl rfl ?_
    refine ms_slen dL_law_26 rfl ?_
    refine ms_run (pc' := 30) (lv' := [(0, .ref b), (1, .ref x), (2, .ref m), (3, .ref o), (4, .int (nI (6 * k)))]) (st' := [.int ((nI L) - 6), .int (nI (6 * k))]) _ (ms_deC dL_law_27 (ms_deC dL_law_29 ms_deN)) rfl rfl ?_
    refine ms_icmp_gt (tgt := 1742) dL_law_30 (by decide) (fun h_30 => ?_) (fun h_30 => ?_)
    · skip
      refine ms_run (pc' := 1743) (lv' := [(0, .ref b), (1, .ref x), (2, .ref m), (3, .ref o), (4, .int (nI (6 * k)))]) (st' := [.int 1]) _ (ms_deC dL_law_1742 ms_deN) rfl rfl ?_
      refine ms_reti (st := []) (ty := .boolean) dL_law_1743 rfl rfl ?_
      exact rfl
    · skip
      exact absurd ((lw_gt hL (by omega)).mpr (by omega)) h_30
  | succ r ih =>
    intro k n G hr hk hS hO
    refine ms_run (pc' := 26) (lv' := [(0, .ref b), (1, .ref x), (2, .ref m), (3, .ref o), (4, .int (nI (6 * k)))]) (st' := [.ref b, .int (nI (6 * k))]) _ (ms_deC dL_law_23 (ms_deC dL_law_25 ms_deN)) rfl rfl ?_
    refine ms_slen dL_law_26 rfl ?_
    refine ms_run (pc' := 30) (lv' := [(0, .ref b), (1, .ref x), (2, .ref m), (3, .ref o), (4, .int (nI (6 * k)))]) (st' := [.int ((nI L) - 6), .int (nI (6 * k))]) _ (ms_deC dL_law_27 (ms_deC dL_law_29 ms_deN)) rfl rfl ?_
    refine ms_icmp_gt (tgt := 1742) dL_law_30 (by decide) (fun h_30 => ?_) (fun h_30 => ?_)
    · skip
      refine ms_run (pc' := 1743) (lv' := [(0, .ref b), (1, .ref x), (2, .ref m), (3, .ref o), (4, .int (nI (6 * k)))]) (st' := [.int 1]) _ (ms_deC dL_law_1742 ms_deN) rfl rfl ?_
      refine ms_reti (st := []) (ty := .boolean) dL_law_1743 rfl rfl ?_
      exact rfl
    · skip
      have hlt : 6 * k + 6 ≤ L := Nat.le_of_not_lt (fun z9 => h_30 ((lw_gt hL (by omega)).mpr z9))
      refine ms_run (pc' := 36) (lv' := [(0, .ref b), (1, .ref x), (2, .ref m), (3, .ref o), (4, .int (nI (6 * k)))]) (st' := [.int (nI (6 * k)), .ref b]) _ (ms_deC dL_law_33 (ms_deC dL_law_34 ms_deN)) rfl rfl ?_
      refine ms_sld dL_law_36 rfl (vp_in_nI (by omega) (by omega)) ?_
      rw [nI_clamp (n := 6 * k) (by omega)]
      refine ms_run (pc' := 40) (lv' := [(0, .ref b), (1, .ref x), (2, .ref m), (3, .ref o), (4, .int (nI (6 * k)))]) (st' := [.int ((xs (6 * k)) &&& 31)]) _ (ms_deC dL_law_37 (ms_deC dL_law_39 ms_deN)) rfl rfl ?_
      obtain ⟨s9, hs9, he9⟩ := sw31 (xs (6 * k))
      rw [he9]
      clear he9
      refine ms_W.room (k2 := 394 + 394 * (512 - (k + 1))) (z2 := 12720 + 12720 * (512 - (k + 1))) ?_ (by omega) (by omega)
      have hnext : ∀ n1 G1, lS x g q c j q2 c2 o m (k + 1) n1 G1 → lo_at o n1 G1 → ms_W false (m_L_lw b L xs) (fun r _ _ => r = .inl (some (.int 1))) 1736 [(0, .ref b), (1, .ref x), (2, .ref m), (3, .ref o), (4, .int (nI (6 * k)))] [] n1 G1 (394 * (512 - (k + 1))) (12720 * (512 - (k + 1))) := by
        intro n1 G1 hS1 hO1
        refine ms_run (pc' := 1739) (lv' := [(4, .int ((nI (6 * k)) + 6)), (0, .ref b), (1, .ref x), (2, .ref m), (3, .ref o)]) (st' := []) _ (ms_deC dL_law_1736 ms_deN) rfl rfl ?_
        refine ms_goto (tgt := 23) dL_law_1739 (by decide) ?_
        rw [show nI (6 * k) + 6 = nI (6 * (k + 1)) from by rw [show (6 : Int32) = nI 6 from rfl, nI_add, Nat.mul_add]]
        refine ms_W.sub (lv2 := [(0, _), (1, _), (2, _), (3, _), (4, _)]) ?_ [1, 2, 3, 4, 0] rfl
        exact ih (k + 1) n1 G1 (by omega) (by omega) hS1 hO1
      refine ms_W.sub (lv2 := [(0, _), (1, _), (2, _), (3, _), (4, _)]) ?_ [0, 1, 2, 3, 4] rfl
      match s9, hs9 with
      | 0, _ =>
        refine ms_tabIn (off := 112) (tgt := 152) dL_law_40 (by decide) (by decide) (by decide) (by decide) ?_
        exact cs_reset ho hoo hS hO (by omega) (by omega) hL hnext
      | 1, _ =>
        refine ms_tabIn (off := 180) (tgt := 220) dL_law_40 (by decide) (by decide) (by decide) (by decide) ?_
        exact cs_wall ho hoo hS hO (by omega) (by omega) hL hnext
      | 2, _ =>
        refine ms_tabIn (off := 300) (tgt := 340) dL_law_40 (by decide) (by decide) (by decide) (by decide) ?_
        exact cs_mark ho hoo hS hO (by omega) (by omega) hL hnext
      | 3, _ =>
        refine ms_tabIn (off := 380) (tgt := 420) dL_law_40 (by decide) (by decide) (by decide) (by decide) ?_
        exact cs_set ho hoo hS hO (by omega) (by omega) hL hnext
      | 4, _ =>
        refine ms_tabIn (off := 448) (tgt := 488) dL_law_40 (by decide) (by decide) (by decide) (by decide) ?_
        exact cs_field ho hoo hS hO (by omega) (by omega) hL hnext
      | 5, _ =>
        refine ms_tabIn (off := 528) (tgt := 568) dL_law_40 (by decide) (by decide) (by decide) (by decide) ?_
        exact cs_far ho hoo hS hO (by omega) (by omega) hL hnext
      | 6, _ =>
        refine ms_tabIn (off := 608) (tgt := 648) dL_law_40 (by decide) (by decide) (by decide) (by decide) ?_
        exact cs_farthest ho hoo hS hO (by omega) (by omega) hL hnext
      | 7, _ =>
        refine ms_tabIn (off := 664) (tgt := 704) dL_law_40 (by decide) (by decide) (by decide) (by decide) ?_
        exact cs_walker ho hoo hS hO (by omega) (by omega) hL hnext
      | 8, _ =>
        refine ms_tabIn (off := 768) (tgt := 808) dL_law_40 (by decide) (by decide) (by decide) (by decide) ?_
        exact cs_turnTo ho hoo hS hO (by omega) (by omega) hL hnext
      | 9, _ =>
        refine ms_tabIn (off := 848) (tgt := 888) dL_law_40 (by decide) (by decide) (by decide) (by decide) ?_
        exact cs_tick ho hoo hS hO (by omega) (by omega) hL hnext
      | 10, _ =>
        refine ms_tabIn (off := 904) (tgt := 944) dL_law_40 (by decide) (by decide) (by decide) (by decide) ?_
        exact cs_clock ho hoo hS hO (by omega) (by omega) hL hnext
      | 11, _ =>
        refine ms_tabIn (off := 917) (tgt := 957) dL_law_40 (by decide) (by decide) (by decide) (by decide) ?_
        exact cs_many ho hoo hS hO (by omega) (by omega) hL hnext
      | 12, _ =>
        refine ms_tabIn (off := 973) (tgt := 1013) dL_law_40 (by decide) (by decide) (by decide) (by decide) ?_
        exact cs_ofWalker ho hoo hS hO (by omega) (by omega) hL hnext
      | 13, _ =>
        refine ms_tabIn (off := 1041) (tgt := 1081) dL_law_40 (by decide) (by decide) (by decide) (by decide) ?_
        exact cs_cost ho hoo hS hO (by omega) (by omega) hL hnext
      | 14, _ =>
        refine ms_tabIn (off := 1109) (tgt := 1149) dL_law_40 (by decide) (by decide) (by decide) (by decide) ?_
        exact cs_wants ho hoo hS hO (by omega) (by omega) hL hnext
      | 15, _ =>
        refine ms_tabIn (off := 1165) (tgt := 1205) dL_law_40 (by decide) (by decide) (by decide) (by decide) ?_
        exact cs_way ho hoo hS hO (by omega) (by omega) hL hnext
      | 16, _ =>
        refine ms_tabIn (off := 1233) (tgt := 1273) dL_law_40 (by decide) (by decide) (by decide) (by decide) ?_
        exact cs_jam ho hoo hS hO (by omega) (by omega) hL hnext
      | 17, _ =>
        refine ms_tabIn (off := 1289) (tgt := 1329) dL_law_40 (by decide) (by decide) (by decide) (by decide) ?_
        exact cs_meanSteps ho hoo hS hO (by omega) (by omega) hL hnext
      | 18, _ =>
        refine ms_tabIn (off := 1330) (tgt := 1370) dL_law_40 (by decide) (by decide) (by decide) (by decide) ?_
        exact cs_outIn ho hoo hS hO (by omega) (by omega) hL hnext
      | 19, _ =>
        refine ms_tabIn (off := 1398) (tgt := 1438) dL_law_40 (by decide) (by decide) (by decide) (by decide) ?_
        exact cs_outWith ho hoo hS hO (by omega) (by omega) hL hnext
      | 20, _ =>
        refine ms_tabIn (off := 1466) (tgt := 1506) dL_law_40 (by decide) (by decide) (by decide) (by decide) ?_
        exact cs_outBy ho hoo hS hO (by omega) (by omega) hL hnext
      | 21, _ =>
        refine ms_tabIn (off := 1546) (tgt := 1586) dL_law_40 (by decide) (by decide) (by decide) (by decide) ?_
        exact cs_jamIn ho hoo hS hO (by omega) (by omega) hL hnext
      | 22, _ =>
        refine ms_tabIn (off := 1602) (tgt := 1642) dL_law_40 (by decide) (by decide) (by decide) (by decide) ?_
        exact cs_farWith ho hoo hS hO (by omega) (by omega) hL hnext
      | 23, _ =>
        refine ms_tabIn (off := 1682) (tgt := 1722) dL_law_40 (by decide) (by decide) (by decide) (by decide) ?_
        exact cs_digest ho hoo hS hO (by omega) (by omega) hL hnext
      | s9 + 24, hs9 =>
        refine ms_tabOut (tgt := 1736) dL_law_40 (Or.inr (by rw [nI_toI (by omega)]; omega)) (by decide) ?_
        exact ms_W.room (hnext n G hS.next hO) (by omega) (by omega)
set_option maxHeartbeats 1000000 in
set_option maxRecDepth 20000 in
theorem law_entry {n b L : Nat} {xs : Nat → Int32} {G : ms_H} (hL : L ≤ 3072) : ms_W false (m_L_lw b L xs) (fun r _ _ => r = .inl (some (.int 1))) 0 [(0, .ref b)] [] n G 201809 6520201 := by
  refine ms_W.room (k2 := 1 + 201808) (z2 := 6 + 6520195) ?_ (by omega) (by omega)
  refine ms_new (fs := [.null, .null, .null, .null, .null, .null]) dL_law_0 nw_L_8 ?_
  obtain ⟨G_1, eG_1⟩ : ∃ K9 : ms_H, K9 = ms_up G n (.inr (5, [.null, .null, .null, .null, .null, .null])) := ⟨_, rfl⟩
  refine ms_W.heq eG_1 ?_
  have hf_2 : G_1 n = some (.inr (5, [.null, .null, .null, .null, .null, .null])) := by rw [eG_1]; exact ms_up_s _ _ _
  refine ms_run (pc' := 4) (lv' := [(0, .ref b)]) (st' := [.ref n, .ref n]) _ (ms_deC dL_law_3 ms_deN) rfl rfl ?_
  obtain ⟨g, hg⟩ : ∃ g, g = n + 1 := ⟨_, rfl⟩
  obtain ⟨q, hq⟩ : ∃ q, q = g + 2 := ⟨_, rfl⟩
  obtain ⟨c, hc⟩ : ∃ c, c = q + 5 := ⟨_, rfl⟩
  obtain ⟨j, hj⟩ : ∃ j, j = c + 29 := ⟨_, rfl⟩
  obtain ⟨q2, hq2⟩ : ∃ q2, q2 = j + 4 := ⟨_, rfl⟩
  obtain ⟨c2, hc2⟩ : ∃ c2, c2 = q2 + 5 := ⟨_, rfl⟩
  have ho : ox n g q c j q2 c2 := ⟨by omega, by omega, by omega, by omega, by omega, by omega⟩
  rw [← hg]
  refine ms_W.room (k2 := 74 + 201734) (z2 := 6175 + 6514020) ?_ (by omega) (by omega)
  refine ms_callI (As := []) dL_law_4 (c_X5_init hg hq hc hj hq2 hc2 hf_2) ci_L_83 rfl ⟨Nat.le_of_ble_eq_true rfl, Nat.le_of_ble_eq_true rfl⟩ rfl (Nat.le_of_ble_eq_true rfl) (fun v9 n9 K5 hp9 => ?_)
  obtain ⟨hv9, hn9, hF5, nr, hS5, hL5⟩ := hp9
  cases hv9
  subst hn9
  refine ms_run (pc' := 8) (lv' := [(1, .ref n), (0, .ref b)]) (st' := []) _ (ms_deC dL_law_7 ms_deN) rfl rfl ?_
  refine ms_W.room (k2 := 1 + 201733) (z2 := 11 + 6514009) ?_ (by omega) (by omega)
  refine ms_new (fs := [.int 0, .int 0, .int 0, .int 0, .int 0, .int 0, .null, .null, .int 0, .null, .null]) dL_law_8 nw_L_84 ?_
  obtain ⟨G_3, eG_3⟩ : ∃ K9 : ms_H, K9 = ms_up K5 (c2 + 29) (.inr (6, [.int 0, .int 0, .int 0, .int 0, .int 0, .int 0, .null, .null, .int 0, .null, .null])) := ⟨_, rfl⟩
  refine ms_W.heq eG_3 ?_
  have hf_4 : G_3 (c2 + 29) = some (.inr (6, [.int 0, .int 0, .int 0, .int 0, .int 0, .int 0, .null, .null, .int 0, .null, .null])) := by rw [eG_3]; exact ms_up_s _ _ _
  refine ms_run (pc' := 12) (lv' := [(1, .ref n), (0, .ref b)]) (st' := [.ref (c2 + 29), .ref (c2 + 29)]) _ (ms_deC dL_law_11 ms_deN) rfl rfl ?_
  refine ms_W.room (k2 := 4 + 201729) (z2 := 1368 + 6512641) ?_ (by omega) (by omega)
  refine ms_callI (As := []) dL_law_12 (c_X6_init (m := c2 + 29) (n := c2 + 29 + 1) (by omega) hf_4) ci_L_86 rfl ⟨Nat.le_of_ble_eq_true rfl, Nat.le_of_ble_eq_true rfl⟩ rfl (Nat.le_of_ble_eq_true rfl) (fun v8 n8 K6 hp8 => ?_)
  obtain ⟨hv8, hn8, hF6, hM6⟩ := hp8
  cases hv8
  subst hn8
  refine ms_run (pc' := 17) (lv' := [(2, .ref (c2 + 29)), (1, .ref n), (0, .ref b)]) (st' := [.int 1]) _ (ms_deC dL_law_15 (ms_deC dL_law_16 ms_deN)) rfl rfl ?_
  refine ms_W.room (k2 := 1 + 201728) (z2 := 1 + 6512640) ?_ (by omega) (by omega)
  refine ms_newL (N := 1) dL_law_17 aw_long (by decide) (rfl) (Nat.le_of_ble_eq_true rfl) ?_
  obtain ⟨G_5, eG_5⟩ : ∃ K9 : ms_H, K9 = ms_up K6 (c2 + 34) (.inl (2, 1, .inr (.inl (fun _ => 0)))) := ⟨_, rfl⟩
  refine ms_W.heq eG_5 ?_
  have hf_6 : G_5 (c2 + 34) = some (.inl (2, 1, .inr (.inl (fun _ => 0)))) := by rw [eG_5]; exact ms_up_s _ _ _
  refine ms_run (pc' := 23) (lv' := [(4, .int 0), (3, .ref (c2 + 34)), (2, .ref (c2 + 29)), (1, .ref n), (0, .ref b)]) (st' := []) _ (ms_deC dL_law_19 (ms_deC dL_law_20 (ms_deC dL_law_21 ms_deN))) rfl rfl ?_
  have h76 : ∀ a, a ≠ c2 + 34 → G_5 a = K6 a := fun a h1 => (congrFun eG_5 a).trans (ms_up_n _ _ h1)
  have h65 : ∀ a, a < c2 + 29 → K6 a = K5 a := fun a h1 => (hF6 a (by omega) (by omega)).trans ((congrFun eG_3 a).trans (ms_up_n _ _ (by omega)))
  have hS7 := hS5.co ho (fun a ha => (h76 a (by omega)).trans (h65 a ha))
  have hM7 : md_at G_5 (c2 + 29) (c2 + 29 + 1) (c2 + 29 + 1 + 1) (c2 + 29 + 1 + 2) (c2 + 29 + 1 + 3) 10 8 0 X00.2.2.2 2 3 0 (fun _ => 0) (fun _ => 0) X00.2.1 X00.1 := md_at.co (hM6 (fun _ _ => 0)) (fun a h1 => h76 a (by rcases h1 with z9 | z9 | z9 | z9 | z9 <;> omega))
  have hS0 : lS n g q c j q2 c2 (c2 + 34) (c2 + 29) 0 (c2 + 35) G_5 := ⟨c2 + 29 + 1, c2 + 29 + 1 + 1, c2 + 29 + 1 + 2, c2 + 29 + 1 + 3, 10, 8, 0, _, 2, 3, X00, nr, (fun _ => 0), (fun _ => 0), (fun _ => -1), (fun _ => 0), hS7, hM7, ⟨by omega, by omega, by omega, by omega, by omega⟩, ⟨by omega, by omega, by omega, by omega, by omega, by omega, by omega, by omega, by omega, by omega⟩, ⟨by omega, by omega, by omega, by omega, by omega⟩, ⟨by omega, by omega, by omega, by omega, by omega⟩, ⟨by omega, by omega, by omega, by omega⟩, Nat.zero_le 24, hL5, mmR_new, dsR_new, ⟨by decide, by decide⟩, wl01_new, wdV_new (fun _ => rfl), fun f hf => ⟨0, Nat.zero_le _, rfl⟩⟩
  refine ms_W.sub (lv2 := [(0, _), (1, _), (2, _), (3, _), (4, _)]) ?_ [4, 3, 2, 1, 0] rfl
  exact ms_W.room (law_loop ho (by omega) hL L 0 (c2 + 35) G_5 (by omega) (by omega) hS0 ⟨by omega, _, hf_6⟩) (by omega) (by omega)

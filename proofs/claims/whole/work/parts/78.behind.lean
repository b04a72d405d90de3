/-! the model: outBehind -/
set_option maxHeartbeats 1000000 in
set_option maxRecDepth 20000 in
theorem l1_X6_outBehind {nn m aw am ai ah W H cnt N : Nat} {G : ms_H} {th dr pa : Int32} {wl mm : Nat → Int32} {X : cX} {nr mk ds : Nat → Int32} (hl : md_lt nn m aw am ai ah) (hW : W ≤ 14) (hH : H ≤ 14) (hW0 : 0 < W) (hc : cnt ≤ 24) (hne : md_ne m aw am ai ah) (hL : lk_ok W H (W * H) nr) (hmm : mmR (W * H) mk mm) (hds : dsR (W * H) nr wl mk ds) (hd : 0 ≤ dr ∧ dr ≤ 9) (hN : N < 1000000) (hV : wdV W H cnt N X) {T : Nat} (hT : N + T < 1000000) (hT2 : T < 100) {fr lo hi9 : Nat} (hfa : fa_at G fr lo hi9 (W * H) (dXg (W * H) nr wl mk)) (hlo : m < lo ∧ ai < lo ∧ ah < lo) (hfr : lo ≤ fr ∧ fr < nn) (hhi : hi9 ≤ nn) {was : Nat} {P : ms_P} : ∀ (r k : Nat), k + r = T → ∀ (K : ms_H), md_at K m aw am ai ah W H th (stXn (nI (W * H)) nr mk ds cnt dr X k).2.2.2 dr pa cnt wl mm (stXn (nI (W * H)) nr mk ds cnt dr X k).2.1 (stXn (nI (W * H)) nr mk ds cnt dr X k).1 → ms_fb (E3 m ai ah) nn G K → (∀ (K : ms_H), md_at K m aw am ai ah W H th (stXn (nI (W * H)) nr mk ds cnt dr X T).2.2.2 dr pa cnt wl mm (stXn (nI (W * H)) nr mk ds cnt dr X T).2.1 (stXn (nI (W * H)) nr mk ds cnt dr X T).1 → ms_fb (E3 m ai ah) nn G K → ms_W false m_X6_outBehind P 31 [(0, .ref m), (1, .int (nI T)), (2, .ref was), (3, .ref fr)] [] (nn + 3 * T) K 0 0) →  ms_W false m_X6_outBehind (P) 13 [(0, .ref m), (1, .int (nI T)), (2, .ref was), (3, .ref fr), (4, .int (nI k))] [] (nn + 3 * k) K (3 * r) (72 * r) := by
  obtain ⟨l1, l2, l3, l4, l5⟩ := hl
  intro r
  induction r with
  | zero =>
    intro k hk K hM9 hF kk
    have hkN : k = T := by omega
    have hM8 := hM9
    obtain ⟨hm, hw_, hk_, ⟨it, hi_, hit⟩, hh_⟩ := hM8
    refine ms_run (pc' := 16) (lv' := [(0, .ref m), (1, .int (nI T)), (2, .ref was), (3, .ref fr), (4, .int (nI k))]) (st' := [.int (nI T), .int (nI k)]) _ (ms_deC dX6_outBehind_13 (ms_deC dX6_outBehind_15 ms_deN)) rfl rfl ?_
    refine ms_icmp_ge (tgt := 31) dX6_outBehind_16 (by decide) (fun h_16 => ?_) (fun h_16 => ?_)
    · skip
      rw [hkN] at hM9 ⊢
      refine ms_W.sub (lv2 := [(0, _), (1, _), (2, _), (3, _)]) ?_ [0, 1, 2, 3] rfl
      exact kk K hM9 hF
    · skip
      exact absurd (by exact nI_le (b := k) (by omega) (by omega)) h_16
  | succ r ih =>
    intro k hk K hM9 hF kk
    have hlt : k < T := by omega
    have hM8 := hM9
    obtain ⟨hm, hw_, hk_, ⟨it, hi_, hit⟩, hh_⟩ := hM8
    refine ms_run (pc' := 16) (lv' := [(0, .ref m), (1, .int (nI T)), (2, .ref was), (3, .ref fr), (4, .int (nI k))]) (st' := [.int (nI T), .int (nI k)]) _ (ms_deC dX6_outBehind_13 (ms_deC dX6_outBehind_15 ms_deN)) rfl rfl ?_
    refine ms_icmp_ge (tgt := 31) dX6_outBehind_16 (by decide) (fun h_16 => ?_) (fun h_16 => ?_)
    · skip
      exact absurd h_16 (by exact nI_ge (b := T) (by omega) (by omega))
    · skip
      refine ms_run (pc' := 21) (lv' := [(0, .ref m), (1, .int (nI T)), (2, .ref was), (3, .ref fr), (4, .int (nI k))]) (st' := [.ref fr, .ref m]) _ (ms_deC dX6_outBehind_19 (ms_deC dX6_outBehind_20 ms_deN)) rfl rfl ?_
      refine ms_W.room (k2 := 3 + 3 * r) (z2 := 72 + 72 * r) ?_ (by omega) (by omega)
      have hV9 := wdV.n (mk := mk) (dr := dr) (nr := nr) (ds := ds) hL hW hH hc hV k (by omega)
      refine ms_callV (As := [.ref fr]) dX6_outBehind_21 (c_X6_step hM9 ⟨by omega, by omega, by omega, by omega, by omega⟩ hW hH hW0 hc hne hL hmm hds hd (by omega) hV9 (hfa.fb hF hhi (by omega) (fun b h1 h2 => by rintro (z9 | z9 | z9) <;> omega) (by rintro (z9 | z9 | z9) <;> omega)) hlo ⟨hfr.1, by omega⟩ (by omega)) cv_X6_125 hm rfl ⟨Nat.le_of_ble_eq_true rfl, Nat.le_of_ble_eq_true rfl⟩ rfl (Nat.le_of_ble_eq_true rfl) (fun v9 n9 K_st hp9 => ?_)
      obtain ⟨hv9, rfl, hF_st, hM_st⟩ := hp9
      cases hv9
      refine ms_run (pc' := 28) (lv' := [(4, .int ((nI k) + 1)), (0, .ref m), (1, .int (nI T)), (2, .ref was), (3, .ref fr)]) (st' := []) _ (ms_deC dX6_outBehind_24 (ms_deC dX6_outBehind_25 ms_deN)) rfl rfl ?_
      refine ms_goto (tgt := 13) dX6_outBehind_28 (by decide) ?_
      rw [nI_1 k]
      rw [show nn + 3 * k + 3 = nn + 3 * (k + 1) from by omega]
      refine ms_W.sub (lv2 := [(0, _), (1, _), (2, _), (3, _), (4, _)]) ?_ [1, 2, 3, 4, 0] rfl
      exact ih (k + 1) (by omega) K_st hM_st (hF.trans2 hF_st (by omega)) kk
set_option maxHeartbeats 1000000 in
set_option maxRecDepth 20000 in
theorem l2_X6_outBehind {n m aw am ai ah W H cnt : Nat} {G : ms_H} {th cl dr pa : Int32} {wl mm ht : Nat → Int32} {u : Nat → Nat → Int32} (hM : md_at G m aw am ai ah W H th cl dr pa cnt wl mm ht u) (hW : W ≤ 14) (hH : H ≤ 14) (hc : cnt ≤ 24) {was : Nat} {P : ms_P} {kr zr : Nat} : ∀ (r k : Nat), k + r = cnt → (ms_W false m_X6_outBehind P 71 [(0, .ref m), (2, .ref was), (4, .int (nI (ct (pOut u) cnt)))] [] n G kr zr) → ms_W false m_X6_outBehind (P) 37 [(0, .ref m), (2, .ref was), (4, .int (nI (ct (pOut u) k))), (5, .int (nI k))] [] n G kr zr := by
  obtain ⟨hm, hw_, hk_, ⟨it, hi_, hit⟩, hh_⟩ := hM
  intro r
  induction r with
  | zero =>
    intro k hk kk
    have hkN : k = cnt := by omega
    refine ms_run (pc' := 40) (lv' := [(0, .ref m), (2, .ref was), (4, .int (nI (ct (pOut u) k))), (5, .int (nI k))]) (st' := [.ref m, .int (nI k)]) _ (ms_deC dX6_outBehind_37 (ms_deC dX6_outBehind_39 ms_deN)) rfl rfl ?_
    refine ms_getf dX6_outBehind_40 fg_X6_36 hm rfl ?_
    refine ms_icmp_ge (tgt := 71) dX6_outBehind_43 (by decide) (fun h_43 => ?_) (fun h_43 => ?_)
    · skip
      rw [hkN]
      refine ms_W.sub (lv2 := [(0, _), (2, _), (4, _)]) ?_ [0, 1, 2] rfl
      exact kk
    · skip
      exact absurd (by exact nI_le (b := k) (by omega) (by omega)) h_43
  | succ r ih =>
    intro k hk kk
    have hlt : k < cnt := by omega
    refine ms_run (pc' := 40) (lv' := [(0, .ref m), (2, .ref was), (4, .int (nI (ct (pOut u) k))), (5, .int (nI k))]) (st' := [.ref m, .int (nI k)]) _ (ms_deC dX6_outBehind_37 (ms_deC dX6_outBehind_39 ms_deN)) rfl rfl ?_
    refine ms_getf dX6_outBehind_40 fg_X6_36 hm rfl ?_
    refine ms_icmp_ge (tgt := 71) dX6_outBehind_43 (by decide) (fun h_43 => ?_) (fun h_43 => ?_)
    · skip
      exact absurd h_43 (by exact nI_ge (b := cnt) (by omega) (by omega))
    · skip
      refine ms_run (pc' := 51) (lv' := [(0, .ref m), (2, .ref was), (4, .int (nI (ct (pOut u) k))), (5, .int (nI k))]) (st' := [.int (nI k), .ref m, .int (nI (ct (pOut u) k))]) _ (ms_deC dX6_outBehind_46 (ms_deC dX6_outBehind_48 (ms_deC dX6_outBehind_49 ms_deN))) rfl rfl ?_
      refine ms_callVp (As := [.int (nI k)]) dX6_outBehind_51 (c_X6_isOnI ⟨hm, hw_, hk_, ⟨it, hi_, hit⟩, hh_⟩ hW hH hc hlt) cv_X6_110 hm rfl ⟨Nat.le_of_ble_eq_true rfl, Nat.le_of_ble_eq_true rfl⟩ rfl (Nat.le_of_ble_eq_true rfl) ?_
      by_cases hon9 : ¬ u k 3 = -1
      · rw [show ms_b (¬ u k 3 = -1) = 1 from if_pos hon9]
        refine ms_if_eq (tgt := 61) dX6_outBehind_54 (by decide) (fun h9 => absurd h9 (by decide)) (fun _ => ?_)
        refine ms_run (pc' := 58) (lv' := [(0, .ref m), (2, .ref was), (4, .int (nI (ct (pOut u) k))), (5, .int (nI k))]) (st' := [.int 0, .int (nI (ct (pOut u) k))]) _ (ms_deC dX6_outBehind_57 ms_deN) rfl rfl ?_
        refine ms_goto (tgt := 62) dX6_outBehind_58 (by decide) ?_
        refine ms_run (pc' := 68) (lv' := [(5, .int ((nI k) + 1)), (4, .int ((nI (ct (pOut u) k)) + 0)), (0, .ref m), (2, .ref was)]) (st' := []) _ (ms_deC dX6_outBehind_62 (ms_deC dX6_outBehind_63 (ms_deC dX6_outBehind_65 ms_deN))) rfl rfl ?_
        refine ms_goto (tgt := 37) dX6_outBehind_68 (by decide) ?_
        have hp : pOut u k = false := decide_eq_false hon9
        rw [Int32.add_zero, ct_f hp]
        rw [nI_1 k]
        refine ms_W.sub (lv2 := [(0, _), (2, _), (4, _), (5, _)]) ?_ [2, 3, 1, 0] rfl
        exact ih (k + 1) (by omega) kk
      · rw [show ms_b (¬ u k 3 = -1) = 0 from if_neg hon9]
        refine ms_if_eq (tgt := 61) dX6_outBehind_54 (by decide) (fun _ => ?_) (fun h9 => absurd h9 (by decide))
        refine ms_run (pc' := 68) (lv' := [(5, .int ((nI k) + 1)), (4, .int ((nI (ct (pOut u) k)) + 1)), (0, .ref m), (2, .ref was)]) (st' := []) _ (ms_deC dX6_outBehind_61 (ms_deC dX6_outBehind_62 (ms_deC dX6_outBehind_63 (ms_deC dX6_outBehind_65 ms_deN)))) rfl rfl ?_
        refine ms_goto (tgt := 37) dX6_outBehind_68 (by decide) ?_
        have hp : pOut u k = true := decide_eq_true (Decidable.not_not.mp hon9)
        rw [ct_t hp]
        rw [nI_1 k]
        refine ms_W.sub (lv2 := [(0, _), (2, _), (4, _), (5, _)]) ?_ [2, 3, 1, 0] rfl
        exact ih (k + 1) (by omega) kk
theorem was_at.fb {E : Nat → Prop} {G G1 : ms_H} {a b ai ah n : Nat} {cl dr : Int32} (h : was_at G a b ai ah cl dr) (hF : ms_fb E n G G1) (ha : a < n) (hb : b < n) (ea : ¬ E a) (eb : ¬ E b) : was_at G1 a b ai ah cl dr := by
  obtain ⟨⟨f, h1, h2⟩, g, h3, h4⟩ := h
  exact ⟨⟨f, (hF a ha ea).trans h1, h2⟩, g, (hF b hb eb).trans h3, h4⟩
set_option maxHeartbeats 1000000 in
set_option maxRecDepth 20000 in
theorem c_X6_outBehind {n m aw am ai ah W H cnt N : Nat} {G : ms_H} {th dr pa : Int32} {wl mm : Nat → Int32} {X : cX} {nr mk ds : Nat → Int32} (hM : md_at G m aw am ai ah W H th X.2.2.2 dr pa cnt wl mm X.2.1 X.1) (hl : md_lt n m aw am ai ah) (hW : W ≤ 14) (hH : H ≤ 14) (hW0 : 0 < W) (hc : cnt ≤ 24) (hne : md_ne m aw am ai ah) (hL : lk_ok W H (W * H) nr) (hmm : mmR (W * H) mk mm) (hds : dsR (W * H) nr wl mk ds) (hd : 0 ≤ dr ∧ dr ≤ 9) (hN : N < 1000000) (hV : wdV W H cnt N X) {T : Nat} (hT : N + T < 1000000) (hT2 : T ≤ 60) : ms_M m_X6_outBehind [.ref m, .int (nI T)] n G 193 6285 (fun r9 n9 Gf => r9 = .inl (some (.int (nI (ct (pOut (stXn (nI (W * H)) nr mk ds cnt dr X T).1) cnt)))) ∧ n9 = n + 13 + 3 * T ∧ ms_fb (fun a => a = m) n G Gf ∧ md_at Gf m aw am ai ah W H th X.2.2.2 dr pa cnt wl mm X.2.1 X.1) := by
  refine ms_M.of (by decide) (Nat.le_of_ble_eq_true rfl) ?_
  show ms_W false m_X6_outBehind _ 0 [(0, .ref m), (1, .int (nI T))] [] n G 193 6285
  have hl9 := hl
  have hne9 := hne
  obtain ⟨hm, hw_, hk_, ⟨it, hi_, hit⟩, hh_⟩ := hM
  obtain ⟨l1, l2, l3, l4, l5⟩ := hl
  obtain ⟨n1, n2, n3, n4, n5, n6, n7, n8, n9, n10⟩ := hne
  have h196 := fd_196 hW hH
  refine ms_run (pc' := 1) (lv' := [(0, .ref m), (1, .int (nI T))]) (st' := [.ref m]) _ (ms_deC dX6_outBehind_0 ms_deN) rfl rfl ?_
  refine ms_W.room (k2 := 4 + 189) (z2 := 393 + 5892) ?_ (by omega) (by omega)
  refine ms_callV (As := []) dX6_outBehind_1 (c_X6_putBy ⟨hm, hw_, hk_, ⟨it, hi_, hit⟩, hh_⟩ hW hH hc hl9 hne9) cv_X6_154 hm rfl ⟨Nat.le_of_ble_eq_true rfl, Nat.le_of_ble_eq_true rfl⟩ rfl (Nat.le_of_ble_eq_true rfl) (fun v9 n9 K_pb hp9 => ?_)
  obtain ⟨hv9, rfl, hF1, hM1, hW1⟩ := hp9
  cases hv9
  have hl1 : md_lt (n + 4) m aw am (n + 2) (n + 3) := ⟨by omega, by omega, by omega, by omega, by omega⟩
  have hne1 : md_ne m aw am (n + 2) (n + 3) := ⟨n1, n2, by omega, by omega, n5, by omega, by omega, by omega, by omega, by omega⟩
  obtain ⟨hm1, -⟩ := id hM1
  refine ms_run (pc' := 6) (lv' := [(2, .ref n), (0, .ref m), (1, .int (nI T))]) (st' := [.ref m]) _ (ms_deC dX6_outBehind_4 (ms_deC dX6_outBehind_5 ms_deN)) rfl rfl ?_
  refine ms_W.room (k2 := 9 + 180) (z2 := 1572 + 4320) ?_ (by omega) (by omega)
  refine ms_callV (As := []) dX6_outBehind_6 (c_X6_farAll hM1 hW hH hc hl1 hW0 hL hmm) cv_X6_121 hm1 rfl ⟨Nat.le_of_ble_eq_true rfl, Nat.le_of_ble_eq_true rfl⟩ rfl (Nat.le_of_ble_eq_true rfl) (fun v9 n9 K_fa hp9 => ?_)
  obtain ⟨hv9, rfl, hF2, hfa⟩ := hp9
  cases hv9
  have hM2 := md_at.fb hM1 hF2 hl1
  have hW2 := hW1.fb hF2 (by omega) (by omega) (fun z9 => z9) (fun z9 => z9)
  have hl2 : md_lt (n + 4 + 9) m aw am (n + 2) (n + 3) := ⟨by omega, by omega, by omega, by omega, by omega⟩
  refine ms_run (pc' := 13) (lv' := [(4, .int 0), (3, .ref (n + 4)), (2, .ref n), (0, .ref m), (1, .int (nI T))]) (st' := []) _ (ms_deC dX6_outBehind_9 (ms_deC dX6_outBehind_10 (ms_deC dX6_outBehind_11 ms_deN))) rfl rfl ?_
  refine ms_W.room (k2 := 3 * T) (z2 := 72 * T) ?_ (by omega) (by omega)
  refine ms_W.sub (lv2 := [(0, _), (1, _), (2, _), (3, _), (4, _)]) ?_ [3, 4, 2, 1, 0] rfl
  refine l1_X6_outBehind (nn := n + 4 + 9) (G := K_fa) (dr := dr) hl2 hW hH hW0 hc hne1 hL hmm hds hd hN hV (T := T) hT (by omega) hfa ⟨by omega, by omega, by omega⟩ ⟨Nat.le_refl _, by omega⟩ (Nat.le_refl _) T 0 (by omega) K_fa hM2 ms_fb.rf (fun K1 k1 k2 => ?_)
  refine ms_run (pc' := 37) (lv' := [(5, .int 0), (4, .int 0), (0, .ref m), (1, .int (nI T)), (2, .ref n), (3, .ref (n + 4))]) (st' := []) _ (ms_deC dX6_outBehind_31 (ms_deC dX6_outBehind_32 (ms_deC dX6_outBehind_34 (ms_deC dX6_outBehind_35 ms_deN)))) rfl rfl ?_
  refine ms_W.sub (lv2 := [(0, _), (2, _), (4, _), (5, _)]) ?_ [2, 4, 1, 0] rfl
  refine l2_X6_outBehind k1 hW hH hc cnt 0 (by omega) ?_
  have hW3 := hW2.fb k2 (by omega) (by omega) (by rintro (z9 | z9 | z9) <;> omega) (by rintro (z9 | z9 | z9) <;> omega)
  have old : ∀ a, a < n → ¬ a = m → K1 a = G a := fun a h1 h2 => (k2 a (by omega) (by rintro (z9 | z9 | z9) <;> omega)).trans ((hF2.at a (by omega)).trans (hF1 a h1 h2))
  have hi3 := (old ai l4 (fun z9 => n3 z9.symm)).trans hi_
  have hh3 := (old ah l5 (fun z9 => n4 z9.symm)).trans hh_
  obtain ⟨hm3, -⟩ := id k1
  refine ms_run (pc' := 73) (lv' := [(0, .ref m), (2, .ref n), (4, .int (nI (ct (pOut (stXn (nI (W * H)) nr mk ds cnt dr X T).1) cnt)))]) (st' := [.ref n, .ref m]) _ (ms_deC dX6_outBehind_71 (ms_deC dX6_outBehind_72 ms_deN)) rfl rfl ?_
  refine ms_callV0 (As := [.ref n]) dX6_outBehind_73 (c_X6_putBack k1 hW3 hi3 hit hh3 n1 n2 n3 n4 (by omega) (by omega)) cv_X6_157 hm3 rfl ⟨Nat.le_of_ble_eq_true rfl, Nat.le_of_ble_eq_true rfl⟩ rfl (Nat.le_of_ble_eq_true rfl) (fun v9 n9 K_bk hp9 => ?_)
  obtain ⟨hv9, rfl, hF4, hM4⟩ := hp9
  cases hv9
  refine ms_run (pc' := 78) (lv' := [(0, .ref m), (2, .ref n), (4, .int (nI (ct (pOut (stXn (nI (W * H)) nr mk ds cnt dr X T).1) cnt)))]) (st' := [.int (nI (ct (pOut (stXn (nI (W * H)) nr mk ds cnt dr X T).1) cnt))]) _ (ms_deC dX6_outBehind_76 ms_deN) rfl rfl ?_
  refine ms_reti (st := []) (ty := .int) dX6_outBehind_78 rfl rfl ?_
  exact ⟨rfl, by omega, fun a h1 h2 => (hF4 a (by omega) h2).trans (old a h1 h2), hM4⟩

/-! the model: way -/
theorem fst1_at {p : Nat → Bool} {v : Nat → Int32} : ∀ (r k : Nat), (∃ s, k ≤ s ∧ s < k + r ∧ p s = true) → ∃ s, k ≤ s ∧ s < k + r ∧ p s = true ∧ fst1 p v k r = v s
  | 0, k, ⟨s, h1, h2, _⟩ => by omega
  | r + 1, k, ⟨s, h1, h2, h3⟩ => by
    by_cases e : p k = true
    · exact ⟨k, Nat.le_refl k, by omega, e, fst1_t e⟩
    · have e2 : p k = false := Bool.eq_false_iff.mpr e
      have hs : ¬ s = k := fun z => e (z ▸ h3)
      obtain ⟨s2, a, b, c, d⟩ := fst1_at (v := v) r (k + 1) ⟨s, by omega, by omega, h3⟩
      exact ⟨s2, by omega, by omega, c, by rw [fst1_f e2]; exact d⟩
set_option maxHeartbeats 1000000 in
set_option maxRecDepth 20000 in
theorem l2_X6_way {n m aw am ai ah W H cnt N : Nat} {G : ms_H} {th dr pa : Int32} {wl mm : Nat → Int32} {X : cX} {nr mk ds : Nat → Int32} (hM : md_at G m aw am ai ah W H th X.2.2.2 dr pa cnt wl mm X.2.1 X.1) (hl : md_lt n m aw am ai ah) (hW : W ≤ 14) (hH : H ≤ 14) (hW0 : 0 < W) (hc : cnt ≤ 24) (hne : md_ne m aw am ai ah) (hL : lk_ok W H (W * H) nr) (hmm : mmR (W * H) mk mm) (hds : dsR (W * H) nr wl mk ds) (hd : 0 ≤ dr ∧ dr ≤ 9) (hN : N < 1000000) (hV : wdV W H cnt N X) {fa g p : Nat} (hfa : G fa = some (.inl (0, W * H, .inl (dXg (W * H) nr wl mk g)))) (hg : g < 4) (hp : p < W * H) {sv tv : Int32} {P : ms_P} {V : Int32} : ∀ (r k : Nat), k + r = 4 → (∃ s, k ≤ s ∧ s < k + r ∧ (pNear (nI (W * H)) nr ds (nI g) (nI p)) s = true) → V = fst1 (pNear (nI (W * H)) nr ds (nI g) (nI p)) (fun k => gr_next nr (nI p) (nI k)) k r → (∀ k, k < 4 → ∀ q, q < W * H → nbX nr p k = nI q → (dXg (W * H) nr wl mk g) q = (dXg (W * H) nr wl mk g) p - 1 → V = nI q → ms_W false m_X6_way P 115 [(0, .ref m), (2, .int sv), (3, .ref fa), (4, .int (nI p)), (5, .int tv), (6, .int (nI k))] [] n G 0 0) →  ms_W false m_X6_way (P) 78 [(0, .ref m), (2, .int sv), (3, .ref fa), (4, .int (nI p)), (5, .int tv), (6, .int (nI k))] [] n G 0 0 := by
  have hM9 := hM
  obtain ⟨hm, hw_, hk_, ⟨it, hi_, hit⟩, hh_⟩ := hM
  obtain ⟨l1, l2, l3, l4, l5⟩ := hl
  obtain ⟨n1, n2, n3, n4, n5, n6, n7, n8, n9, n10⟩ := hne
  have h196 := fd_196 hW hH
  intro r
  induction r with
  | zero =>
    intro k hk hex hV9 kk
    obtain ⟨s9, z1, z2, z3⟩ := hex
    omega
  | succ r ih =>
    intro k hk hex hV9 kk
    have hlt : k < 4 := by omega
    refine ms_run (pc' := 83) (lv' := [(0, .ref m), (2, .int sv), (3, .ref fa), (4, .int (nI p)), (5, .int tv), (6, .int (nI k))]) (st' := [.int (nI k), .int (nI p), .ref m]) _ (ms_deC dX6_way_78 (ms_deC dX6_way_79 (ms_deC dX6_way_81 ms_deN))) rfl rfl ?_
    refine ms_callVp (As := [.int (nI p), .int (nI k)]) dX6_way_83 (c_X6_beside ⟨hm, hw_, hk_, ⟨it, hi_, hit⟩, hh_⟩ hW hH hc hW0 hL hp (s := k) hlt) cv_X6_70 hm rfl ⟨Nat.le_of_ble_eq_true rfl, Nat.le_of_ble_eq_true rfl⟩ rfl (Nat.le_of_ble_eq_true rfl) ?_
    refine ms_run (pc' := 87) (lv' := [(0, .ref m), (2, .int sv), (3, .ref fa), (4, .int (nI p)), (5, .int tv), (6, .int (nI k))]) (st' := [.int (-1), .int (nbX nr p k)]) _ (ms_deC dX6_way_86 ms_deN) rfl rfl ?_
    refine ms_icmp_eq (tgt := 109) dX6_way_87 (by decide) (fun h_87 => ?_) (fun h_87 => ?_)
    · skip
      refine ms_run (pc' := 112) (lv' := [(6, .int ((nI k) + 1)), (0, .ref m), (2, .int sv), (3, .ref fa), (4, .int (nI p)), (5, .int tv)]) (st' := []) _ (ms_deC dX6_way_109 ms_deN) rfl rfl ?_
      refine ms_goto (tgt := 78) dX6_way_112 (by decide) ?_
      have hpf : (pNear (nI (W * H)) nr ds (nI g) (nI p)) k = false := decide_eq_false (fun z9 => z9.1 h_87)
      rw [nI_1 k]
      refine ms_W.sub (lv2 := [(0, _), (2, _), (3, _), (4, _), (5, _), (6, _)]) ?_ [1, 2, 3, 4, 5, 0] rfl
      exact ih (k + 1) (by omega) (by obtain ⟨s9, z1, z2, z3⟩ := hex; exact ⟨s9, by rcases Nat.lt_or_eq_of_le z1 with z4 | z4; exact z4; subst z4; rw [hpf] at z3; exact absurd z3 Bool.false_ne_true, by omega, z3⟩) (by rw [← fst1_f hpf]; exact hV9) kk
    · skip
      obtain ⟨q, hq, hqe⟩ := (nbX_val hL hp hW hH (s := k) (by omega)).resolve_left h_87
      refine ms_run (pc' := 96) (lv' := [(0, .ref m), (2, .int sv), (3, .ref fa), (4, .int (nI p)), (5, .int tv), (6, .int (nI k))]) (st' := [.int (nI k), .int (nI p), .ref m, .ref fa]) _ (ms_deC dX6_way_90 (ms_deC dX6_way_91 (ms_deC dX6_way_92 (ms_deC dX6_way_94 ms_deN)))) rfl rfl ?_
      refine ms_callVp (As := [.int (nI p), .int (nI k)]) dX6_way_96 (c_X6_beside ⟨hm, hw_, hk_, ⟨it, hi_, hit⟩, hh_⟩ hW hH hc hW0 hL hp (s := k) hlt) cv_X6_70 hm rfl ⟨Nat.le_of_ble_eq_true rfl, Nat.le_of_ble_eq_true rfl⟩ rfl (Nat.le_of_ble_eq_true rfl) ?_
      refine ms_iaload dX6_way_99 hfa (by rw [hqe]; exact vp_in_nI hq (by omega)) ?_
      rw [hqe, nI_clamp (n := q) (by omega)]
      refine ms_run (pc' := 103) (lv' := [(0, .ref m), (2, .int sv), (3, .ref fa), (4, .int (nI p)), (5, .int tv), (6, .int (nI k))]) (st' := [.int (nI p), .ref fa, .int ((dXg (W * H) nr wl mk g) q)]) _ (ms_deC dX6_way_100 (ms_deC dX6_way_101 ms_deN)) rfl rfl ?_
      refine ms_iaload dX6_way_103 hfa (vp_in_nI hp (by omega)) ?_
      rw [nI_clamp (n := p) (by omega)]
      refine ms_run (pc' := 106) (lv' := [(0, .ref m), (2, .int sv), (3, .ref fa), (4, .int (nI p)), (5, .int tv), (6, .int (nI k))]) (st' := [.int (((dXg (W * H) nr wl mk g) p) - 1), .int ((dXg (W * H) nr wl mk g) q)]) _ (ms_deC dX6_way_104 (ms_deC dX6_way_105 ms_deN)) rfl rfl ?_
      refine ms_icmp_eq (tgt := 115) dX6_way_106 (by decide) (fun h_106 => ?_) (fun h_106 => ?_)
      · skip
        have hpn : (pNear (nI (W * H)) nr ds (nI g) (nI p)) k = true := decide_eq_true ⟨(show ¬ nbX nr p k = -1 from h_87), (by show sq_ds (nI (W * H)) ds (nI g) (nbX nr p k) = sq_ds (nI (W * H)) ds (nI g) (nI p) - 1; rw [hqe, sq_dsI ds rfl h196 hq hg, sq_dsI ds rfl h196 hp hg, hds g hg q hq, hds g hg p hp]; exact h_106)⟩
        refine ms_W.sub (lv2 := [(0, _), (2, _), (3, _), (4, _), (5, _), (6, _)]) ?_ [0, 1, 2, 3, 4, 5] rfl
        exact kk k hlt q hq hqe h_106 (by rw [hV9, fst1_t hpn]; exact hqe)
      · skip
        refine ms_run (pc' := 112) (lv' := [(6, .int ((nI k) + 1)), (0, .ref m), (2, .int sv), (3, .ref fa), (4, .int (nI p)), (5, .int tv)]) (st' := []) _ (ms_deC dX6_way_109 ms_deN) rfl rfl ?_
        refine ms_goto (tgt := 78) dX6_way_112 (by decide) ?_
        have hpf : (pNear (nI (W * H)) nr ds (nI g) (nI p)) k = false := decide_eq_false (fun z9 => h_106 (by have z8 : sq_ds (nI (W * H)) ds (nI g) (nbX nr p k) = sq_ds (nI (W * H)) ds (nI g) (nI p) - 1 := z9.2; rw [hqe, sq_dsI ds rfl h196 hq hg, sq_dsI ds rfl h196 hp hg, hds g hg q hq, hds g hg p hp] at z8; exact z8))
        rw [nI_1 k]
        refine ms_W.sub (lv2 := [(0, _), (2, _), (3, _), (4, _), (5, _), (6, _)]) ?_ [1, 2, 3, 4, 5, 0] rfl
        exact ih (k + 1) (by omega) (by obtain ⟨s9, z1, z2, z3⟩ := hex; exact ⟨s9, by rcases Nat.lt_or_eq_of_le z1 with z4 | z4; exact z4; subst z4; rw [hpf] at z3; exact absurd z3 Bool.false_ne_true, by omega, z3⟩) (by rw [← fst1_f hpf]; exact hV9) kk
set_option maxHeartbeats 1000000 in
set_option maxRecDepth 20000 in
theorem l1_X6_way {n m aw am ai ah W H cnt N : Nat} {G : ms_H} {th dr pa : Int32} {wl mm : Nat → Int32} {X : cX} {nr mk ds : Nat → Int32} (hM : md_at G m aw am ai ah W H th X.2.2.2 dr pa cnt wl mm X.2.1 X.1) (hl : md_lt n m aw am ai ah) (hW : W ≤ 14) (hH : H ≤ 14) (hW0 : 0 < W) (hc : cnt ≤ 24) (hne : md_ne m aw am ai ah) (hL : lk_ok W H (W * H) nr) (hmm : mmR (W * H) mk mm) (hds : dsR (W * H) nr wl mk ds) (hd : 0 ≤ dr ∧ dr ≤ 9) (hN : N < 1000000) (hV : wdV W H cnt N X) {fa g own S d0 : Nat} (hfa : G fa = some (.inl (0, W * H, .inl (dXg (W * H) nr wl mk g)))) (hg : g < 4) (hS : S ≤ d0) (hd0 : d0 < 1000) : ∀ (r k : Nat), k + r = S → ∀ (p : Nat), p < W * H → sq_way (nI (W * H)) nr ds (nI g) (nI own) k = nI p → (dXg (W * H) nr wl mk g) p = nI (d0 - k) →  ms_W false m_X6_way (ms_p1 (some (.int (sq_way (nI (W * H)) nr ds (nI g) (nI own) S))) n G) 69 [(0, .ref m), (2, .int (nI S)), (3, .ref fa), (4, .int (nI p)), (5, .int (nI k))] [] n G 0 0 := by
  have hM9 := hM
  have hl9 := hl
  have hne9 := hne
  obtain ⟨hm, hw_, hk_, ⟨it, hi_, hit⟩, hh_⟩ := hM
  obtain ⟨l1, l2, l3, l4, l5⟩ := hl
  obtain ⟨n1, n2, n3, n4, n5, n6, n7, n8, n9, n10⟩ := hne
  have h196 := fd_196 hW hH
  intro r
  induction r with
  | zero =>
    intro k hk p hp hp1 hp2
    have hkN : k = S := by omega
    refine ms_run (pc' := 72) (lv' := [(0, .ref m), (2, .int (nI S)), (3, .ref fa), (4, .int (nI p)), (5, .int (nI k))]) (st' := [.int (nI S), .int (nI k)]) _ (ms_deC dX6_way_69 (ms_deC dX6_way_71 ms_deN)) rfl rfl ?_
    refine ms_icmp_ge (tgt := 131) dX6_way_72 (by decide) (fun h_72 => ?_) (fun h_72 => ?_)
    · skip
      refine ms_run (pc' := 133) (lv' := [(0, .ref m), (2, .int (nI S)), (3, .ref fa), (4, .int (nI p)), (5, .int (nI k))]) (st' := [.int (nI p)]) _ (ms_deC dX6_way_131 ms_deN) rfl rfl ?_
      refine ms_reti (st := []) (ty := .int) dX6_way_133 rfl rfl ?_
      exact ms_p1.mk (by rw [← hkN, hp1]) rfl
    · skip
      exact absurd (by exact nI_le (b := k) (by omega) (by omega)) h_72
  | succ r ih =>
    intro k hk p hp hp1 hp2
    have hlt : k < S := by omega
    refine ms_run (pc' := 72) (lv' := [(0, .ref m), (2, .int (nI S)), (3, .ref fa), (4, .int (nI p)), (5, .int (nI k))]) (st' := [.int (nI S), .int (nI k)]) _ (ms_deC dX6_way_69 (ms_deC dX6_way_71 ms_deN)) rfl rfl ?_
    refine ms_icmp_ge (tgt := 131) dX6_way_72 (by decide) (fun h_72 => ?_) (fun h_72 => ?_)
    · skip
      exact absurd h_72 (by exact nI_ge (b := S) (by omega) (by omega))
    · skip
      refine ms_run (pc' := 78) (lv' := [(6, .int 0), (0, .ref m), (2, .int (nI S)), (3, .ref fa), (4, .int (nI p)), (5, .int (nI k))]) (st' := []) _ (ms_deC dX6_way_75 (ms_deC dX6_way_76 ms_deN)) rfl rfl ?_
      have hD : (dXg (W * H) nr wl mk g) p = nI (d0 - k - 1 + 1) := by rw [hp2]; congr 1; omega
      obtain ⟨s9, q9, y1, y2, y3, y4⟩ := dX_pre hL hW hH hp (by omega) hD
      refine ms_W.sub (lv2 := [(0, _), (2, _), (3, _), (4, _), (5, _), (6, _)]) ?_ [1, 2, 3, 4, 5, 0] rfl
      refine l2_X6_way (fa := fa) (g := g) (p := p) hM9 hl9 hW hH hW0 hc hne9 hL hmm hds hd hN hV hfa hg hp 4 0 rfl ⟨s9, Nat.zero_le _, by omega, ?_⟩ rfl (fun k9 hk9 q hq hqe hDq hVq => ?_)
      · refine decide_eq_true ⟨(show ¬ nbX nr p s9 = -1 from by rw [y3]; exact nI_m1 (by omega)), ?_⟩
        show sq_ds (nI (W * H)) ds (nI g) (nbX nr p s9) = sq_ds (nI (W * H)) ds (nI g) (nI p) - 1
        rw [y3, sq_dsI ds rfl h196 y2 hg, sq_dsI ds rfl h196 hp hg, hds g hg q9 y2, hds g hg p hp, y4, hD, ← nI_1]; grind
      refine ms_run (pc' := 120) (lv' := [(0, .ref m), (2, .int (nI S)), (3, .ref fa), (4, .int (nI p)), (5, .int (nI k)), (6, .int (nI k9))]) (st' := [.int (nI k9), .int (nI p), .ref m]) _ (ms_deC dX6_way_115 (ms_deC dX6_way_116 (ms_deC dX6_way_118 ms_deN))) rfl rfl ?_
      refine ms_callVp (As := [.int (nI p), .int (nI k9)]) dX6_way_120 (c_X6_beside hM9 hW hH hc hW0 hL hp (s := k9) hk9) cv_X6_70 hm rfl ⟨Nat.le_of_ble_eq_true rfl, Nat.le_of_ble_eq_true rfl⟩ rfl (Nat.le_of_ble_eq_true rfl) ?_
      refine ms_run (pc' := 128) (lv' := [(5, .int ((nI k) + 1)), (4, .int (nbX nr p k9)), (0, .ref m), (2, .int (nI S)), (3, .ref fa), (6, .int (nI k9))]) (st' := []) _ (ms_deC dX6_way_123 (ms_deC dX6_way_125 ms_deN)) rfl rfl ?_
      refine ms_goto (tgt := 69) dX6_way_128 (by decide) ?_
      rw [nI_1 k]
      refine ms_W.sub (lv2 := [(0, _), (2, _), (3, _), (4, _), (5, _)]) ?_ [2, 3, 4, 1, 0] rfl
      rw [hqe]
      exact ih (k + 1) (by omega) q hq (by show sq_near _ _ _ _ (sq_way (nI (W * H)) nr ds (nI g) (nI own) k) = _; rw [hp1]; exact hVq) (by rw [hDq, hD, ← nI_1, show d0 - (k + 1) = d0 - k - 1 from by omega]; grind)
set_option maxHeartbeats 1000000 in
set_option maxRecDepth 20000 in
theorem c_X6_way {n m aw am ai ah W H cnt N : Nat} {G : ms_H} {th dr pa : Int32} {wl mm : Nat → Int32} {X : cX} {nr mk ds : Nat → Int32} (hM : md_at G m aw am ai ah W H th X.2.2.2 dr pa cnt wl mm X.2.1 X.1) (hl : md_lt n m aw am ai ah) (hW : W ≤ 14) (hH : H ≤ 14) (hW0 : 0 < W) (hc : cnt ≤ 24) (hne : md_ne m aw am ai ah) (hL : lk_ok W H (W * H) nr) (hmm : mmR (W * H) mk mm) (hds : dsR (W * H) nr wl mk ds) (hd : 0 ≤ dr ∧ dr ≤ 9) (hN : N < 1000000) (hV : wdV W H cnt N X) (kk st9 : Int32) : ms_M m_X6_way [.ref m, .int kk, .int st9] n G 2 392 (mq_P n G (E5 m aw am ai ah) (th_onw cnt X.1 kk (st9 < 0)) (fun e => if e = IOB then 1 else 2) (.int (wyX (nI (W * H)) nr ds (X.1 kk.toNatClampNeg) st9.toNatClampNeg)) (fun t G1 => md_at G1 m aw am ai ah W H t X.2.2.2 dr pa cnt wl mm X.2.1 X.1) (fun G1 => md_at G1 m aw am ai ah W H 0 X.2.2.2 dr pa cnt wl mm X.2.1 X.1)) := by
  refine ms_M.of (by decide) (Nat.le_of_ble_eq_true rfl) ?_
  show ms_W false m_X6_way _ 0 [(0, .ref m), (1, .int kk), (2, .int st9)] [] n G 2 392
  have hl9 := hl
  have hne9 := hne
  obtain ⟨hm, hw_, hk_, ⟨it, hi_, hit⟩, hh_⟩ := hM
  obtain ⟨l1, l2, l3, l4, l5⟩ := hl
  obtain ⟨n1, n2, n3, n4, n5, n6, n7, n8, n9, n10⟩ := hne
  have h196 := fd_196 hW hH
  have hF : ms_fb (E5 m aw am ai ah) n G G := ms_fb.rf
  refine ms_run (pc' := 2) (lv' := [(0, .ref m), (1, .int kk), (2, .int st9)]) (st' := [.int 0, .ref m]) _ (ms_deC dX6_way_0 (ms_deC dX6_way_1 ms_deN)) rfl rfl ?_
  refine ms_putf dX6_way_2 fp_X6_46 hm (Nat.le_of_ble_eq_true rfl) rfl rfl ?_
  obtain ⟨G_1, eG_1⟩ : ∃ K9 : ms_H, K9 = ms_up G m (.inr (6, [.int 0, .int (nI W), .int (nI H), .int X.2.2.2, .int dr, .int pa, .ref aw, .ref am, .int (nI cnt), .ref ai, .ref ah])) := ⟨_, rfl⟩
  refine ms_W.heq eG_1 ?_
  have hF_2 : ms_fb (E5 m aw am ai ah) n G G_1 := by rw [eG_1]; exact ms_fb.up hF (by first | exact Or.inl (by omega) | exact Or.inr rfl | exact Or.inr (Or.inl rfl) | exact Or.inr (Or.inr (Or.inl rfl)) | exact Or.inr (Or.inr (Or.inr rfl)) | exact Or.inr (Or.inr rfl) | exact Or.inr (Or.inr (Or.inr (Or.inl rfl))) | exact Or.inr (Or.inr (Or.inr (Or.inr (Or.inl rfl)))) | exact Or.inr (Or.inr (Or.inr (Or.inr (Or.inr rfl)))))
  have hf_3 : G_1 m = some (.inr (6, [.int 0, .int (nI W), .int (nI H), .int X.2.2.2, .int dr, .int pa, .ref aw, .ref am, .int (nI cnt), .ref ai, .ref ah])) := by rw [eG_1]; exact ms_up_s _ _ _
  have hf_4 := (congrFun eG_1 aw).trans ((ms_up_n G _ (by omega)).trans hw_)
  have hf_5 := (congrFun eG_1 am).trans ((ms_up_n G _ (by omega)).trans hk_)
  have hf_6 := (congrFun eG_1 ai).trans ((ms_up_n G _ (by omega)).trans hi_)
  have hf_7 := (congrFun eG_1 ah).trans ((ms_up_n G _ (by omega)).trans hh_)
  refine ms_run (pc' := 7) (lv' := [(0, .ref m), (1, .int kk), (2, .int st9)]) (st' := [.int kk, .ref m]) _ (ms_deC dX6_way_5 (ms_deC dX6_way_6 ms_deN)) rfl rfl ?_
  refine ms_callVp (As := [.int kk]) dX6_way_7 (c_X6_isOn (show md_at G_1 m aw am ai ah W H 0 X.2.2.2 dr pa cnt wl mm X.2.1 X.1 from ⟨hf_3, hf_4, hf_5, ⟨it, hf_6, hit⟩, hf_7⟩) hW hH hc kk) cv_X6_110 hf_3 rfl ⟨Nat.le_of_ble_eq_true rfl, Nat.le_of_ble_eq_true rfl⟩ rfl (Nat.le_of_ble_eq_true rfl) ?_
  by_cases hon9 : pIs (nI cnt) kk ∧ ¬ X.1 kk.toNatClampNeg 3 = -1
  · rw [show ms_b (pIs (nI cnt) kk ∧ ¬ X.1 kk.toNatClampNeg 3 = -1) = 1 from if_pos hon9]
    obtain ⟨i, hi, hki⟩ := pIs_nI hc hon9.1
    subst hki
    rw [nI_clamp (n := i) (by omega)] at hon9
    obtain ⟨own, ho, hpo⟩ := pos_of hW hH hV.2.1 hi hon9.2
    obtain ⟨g, hg, hgo⟩ := gl_nI (hV.2.2.1 i hi).1
    rw [nI_clamp (n := i) (by omega)]
    refine ms_if_ne (tgt := 19) dX6_way_10 (by decide) (fun _ => ?_) (fun h9 => absurd h9 (by decide))
    refine ms_run (pc' := 20) (lv' := [(0, .ref m), (1, .int (nI i)), (2, .int st9)]) (st' := [.int st9]) _ (ms_deC dX6_way_19 ms_deN) rfl rfl ?_
    refine ms_if_ge (tgt := 29) dX6_way_20 (by decide) (fun h_20 => ?_) (fun h_20 => ?_)
    · skip
      obtain ⟨S, hS, hSe⟩ := nI_of (Int32.not_lt.mpr h_20)
      subst hSe
      rw [nI_clamp (n := S) hS]
      refine ms_run (pc' := 31) (lv' := [(0, .ref m), (1, .int (nI i)), (2, .int (nI S))]) (st' := [.int (nI i), .ref m]) _ (ms_deC dX6_way_29 (ms_deC dX6_way_30 ms_deN)) rfl rfl ?_
      refine ms_W.room (k2 := 2 + 0) (z2 := 392 + 0) ?_ (by omega) (by omega)
      refine ms_callV (As := [.int (nI i)]) dX6_way_31 (c_X6_farOf (show md_at G_1 m aw am ai ah W H 0 X.2.2.2 dr pa cnt wl mm X.2.1 X.1 from ⟨hf_3, hf_4, hf_5, ⟨it, hf_6, hit⟩, hf_7⟩) hl9 hW hH hW0 hc hne9 hL hmm hds hd hi hg hgo) cv_X6_148 hf_3 rfl ⟨Nat.le_of_ble_eq_true rfl, Nat.le_of_ble_eq_true rfl⟩ rfl (Nat.le_of_ble_eq_true rfl) (fun v9 n9 K_fr hp9 => ?_)
      obtain ⟨hv9, rfl, hF_fr, hrow⟩ := hp9
      cases hv9
      have hM2 := md_at.fb (show md_at G_1 m aw am ai ah W H 0 X.2.2.2 dr pa cnt wl mm X.2.1 X.1 from ⟨hf_3, hf_4, hf_5, ⟨it, hf_6, hit⟩, hf_7⟩) hF_fr hl9
      have hF2 := ms_fb.trans hF_2 hF_fr (Nat.le_refl n)
      obtain ⟨hm2, hw2, hk2, ⟨it2, hi2, hit2⟩, hh2⟩ := id hM2
      refine ms_run (pc' := 36) (lv' := [(3, .ref n), (0, .ref m), (1, .int (nI i)), (2, .int (nI S))]) (st' := [.ref m]) _ (ms_deC dX6_way_34 (ms_deC dX6_way_35 ms_deN)) rfl rfl ?_
      refine ms_getf dX6_way_36 fg_X6_39 hm2 rfl ?_
      refine ms_run (pc' := 45) (lv' := [(3, .ref n), (0, .ref m), (1, .int (nI i)), (2, .int (nI S))]) (st' := [.int (((nI i) * 8) + 3), .ref ai]) _ (ms_deC dX6_way_39 (ms_deC dX6_way_40 (ms_deC dX6_way_42 (ms_deC dX6_way_43 (ms_deC dX6_way_44 ms_deN))))) rfl rfl ?_
      refine ms_iaload dX6_way_45 hi2 (md_in (k := i) (j := 3) (Nat.lt_of_lt_of_le hi hc) (by omega)) ?_
      rw [show it2 (((nI i) * 8) + 3).toNatClampNeg = X.1 i 3 from md_it (k := i) (j := 3) hit2 hi hc (by omega), hpo]
      refine ms_run (pc' := 51) (lv' := [(4, .int (nI own)), (3, .ref n), (0, .ref m), (1, .int (nI i)), (2, .int (nI S))]) (st' := [.int (nI own), .ref n]) _ (ms_deC dX6_way_46 (ms_deC dX6_way_48 (ms_deC dX6_way_49 ms_deN))) rfl rfl ?_
      refine ms_iaload dX6_way_51 hrow (vp_in_nI ho (by omega)) ?_
      rw [nI_clamp (n := own) (by omega)]
      refine ms_run (pc' := 53) (lv' := [(4, .int (nI own)), (3, .ref n), (0, .ref m), (1, .int (nI i)), (2, .int (nI S))]) (st' := [.int (-1), .int ((dXg (W * H) nr wl mk g) own)]) _ (ms_deC dX6_way_52 ms_deN) rfl rfl ?_
      refine ms_icmp_eq (tgt := 64) dX6_way_53 (by decide) (fun h_53 => ?_) (fun h_53 => ?_)
      · skip
        refine ms_run (pc' := 65) (lv' := [(4, .int (nI own)), (3, .ref n), (0, .ref m), (1, .int (nI i)), (2, .int (nI S))]) (st' := [.int (-1)]) _ (ms_deC dX6_way_64 ms_deN) rfl rfl ?_
        refine ms_reti (st := []) (ty := .int) dX6_way_65 rfl rfl ?_
        exact mq_P.ok (by unfold th_onw; rw [nI_clamp (n := i) (by omega), if_neg (by rintro (z9 | z9); exact z9 hon9.1; exact hon9.2 z9), if_neg (Int32.not_lt.mpr h_20)]) (by omega) hF2 (by unfold wyX; rw [hgo, hpo, sq_dsI ds rfl h196 ho hg, hds g hg own ho, if_pos (by first | (rw [h_53]; exact Int32.lt_of_lt_of_le (by decide) (nI_pos' hS)) | exact Int32.not_le.mp h_61 | exact h_61)]) hM2
      · skip
        refine ms_run (pc' := 60) (lv' := [(4, .int (nI own)), (3, .ref n), (0, .ref m), (1, .int (nI i)), (2, .int (nI S))]) (st' := [.int (nI own), .ref n, .int (nI S)]) _ (ms_deC dX6_way_56 (ms_deC dX6_way_57 (ms_deC dX6_way_58 ms_deN))) rfl rfl ?_
        refine ms_iaload dX6_way_60 hrow (vp_in_nI ho (by omega)) ?_
        rw [nI_clamp (n := own) (by omega)]
        refine ms_icmp_le (tgt := 66) dX6_way_61 (by decide) (fun h_61 => ?_) (fun h_61 => ?_)
        · skip
          refine ms_run (pc' := 69) (lv' := [(5, .int 0), (4, .int (nI own)), (3, .ref n), (0, .ref m), (1, .int (nI i)), (2, .int (nI S))]) (st' := []) _ (ms_deC dX6_way_66 (ms_deC dX6_way_67 ms_deN)) rfl rfl ?_
          obtain ⟨d0, hd0, hde⟩ := (dX_val (nr := nr) (wl := wl) (mk := mk) (g := g) h196 own).resolve_left (by first | exact h_53 | exact fun z9 => h_53 z9)
          have hSd : S ≤ d0 := Nat.le_of_not_lt (fun z9 => (Int32.not_lt.mpr (by first | exact h_61 | exact Int32.not_lt.mp h_61)) (by rw [hde]; exact nI_lt z9 (by omega)))
          refine ms_W.conseq (P := ms_p1 (some (.int (sq_way (nI (W * H)) nr ds (nI g) (nI own) S))) (n + 2) K_fr) ?_ (fun r9 n9 G9 h9 => ?_)
          refine ms_W.sub (lv2 := [(0, _), (2, _), (3, _), (4, _), (5, _)]) ?_ [3, 5, 2, 1, 0] rfl
          have hl2 : md_lt (n + 2) m aw am ai ah := ⟨by omega, by omega, by omega, by omega, by omega⟩
          exact l1_X6_way (d0 := d0) hM2 hl2 hW hH hW0 hc hne9 hL hmm hds hd hN hV hrow hg hSd (by omega) S 0 (by omega) own ho rfl hde
          obtain ⟨q1, rfl, rfl⟩ := h9
          rw [q1]
          exact mq_P.ok (by unfold th_onw; rw [nI_clamp (n := i) (by omega), if_neg (by rintro (z9 | z9); exact z9 hon9.1; exact hon9.2 z9), if_neg (Int32.not_lt.mpr h_20)]) (by omega) hF2 (by unfold wyX; rw [hgo, hpo, sq_dsI ds rfl h196 ho hg, hds g hg own ho, if_neg (by rw [hde]; exact nI_nlt hSd (by omega))]) hM2
        · skip
          refine ms_run (pc' := 65) (lv' := [(4, .int (nI own)), (3, .ref n), (0, .ref m), (1, .int (nI i)), (2, .int (nI S))]) (st' := [.int (-1)]) _ (ms_deC dX6_way_64 ms_deN) rfl rfl ?_
          refine ms_reti (st := []) (ty := .int) dX6_way_65 rfl rfl ?_
          exact mq_P.ok (by unfold th_onw; rw [nI_clamp (n := i) (by omega), if_neg (by rintro (z9 | z9); exact z9 hon9.1; exact hon9.2 z9), if_neg (Int32.not_lt.mpr h_20)]) (by omega) hF2 (by unfold wyX; rw [hgo, hpo, sq_dsI ds rfl h196 ho hg, hds g hg own ho, if_pos (by first | (rw [h_53]; exact Int32.lt_of_lt_of_le (by decide) (nI_pos' hS)) | exact Int32.not_le.mp h_61 | exact h_61)]) hM2
    · skip
      refine ms_run (pc' := 25) (lv' := [(0, .ref m), (1, .int (nI i)), (2, .int st9)]) (st' := [.int 2, .ref m]) _ (ms_deC dX6_way_23 (ms_deC dX6_way_24 ms_deN)) rfl rfl ?_
      refine ms_callV0 (As := [.int 2]) dX6_way_25 (c_X6_no (show md_at G_1 m aw am ai ah W H 0 X.2.2.2 dr pa cnt wl mm X.2.1 X.1 from ⟨hf_3, hf_4, hf_5, ⟨it, hf_6, hit⟩, hf_7⟩) hne9 2) cv_X6_79 hf_3 rfl ⟨Nat.le_of_ble_eq_true rfl, Nat.le_of_ble_eq_true rfl⟩ rfl (Nat.le_of_ble_eq_true rfl) (fun v9 n9 K_no hp9 => ?_)
      obtain ⟨hv9, rfl, hF_no, hM_no⟩ := hp9
      cases hv9
      refine ms_reti (st := []) (ty := .int) dX6_way_28 rfl rfl ?_
      exact mq_P.no (show th_onw cnt X.1 (nI i) (st9 < 0) = some IAE from by unfold th_onw; rw [nI_clamp (n := i) (by omega)]; grind) (by omega) (ms_fb.trans2 hF_2 (hF_no.mono (fun a h => Or.inl h)) (by omega)) rfl hM_no
  · rw [show ms_b (pIs (nI cnt) kk ∧ ¬ X.1 kk.toNatClampNeg 3 = -1) = 0 from if_neg hon9]
    refine ms_if_ne (tgt := 19) dX6_way_10 (by decide) (fun h9 => absurd h9 (by decide)) (fun _ => ?_)
    refine ms_run (pc' := 15) (lv' := [(0, .ref m), (1, .int kk), (2, .int st9)]) (st' := [.int 1, .ref m]) _ (ms_deC dX6_way_13 (ms_deC dX6_way_14 ms_deN)) rfl rfl ?_
    refine ms_callV0 (As := [.int 1]) dX6_way_15 (c_X6_no (show md_at G_1 m aw am ai ah W H 0 X.2.2.2 dr pa cnt wl mm X.2.1 X.1 from ⟨hf_3, hf_4, hf_5, ⟨it, hf_6, hit⟩, hf_7⟩) hne9 1) cv_X6_79 hf_3 rfl ⟨Nat.le_of_ble_eq_true rfl, Nat.le_of_ble_eq_true rfl⟩ rfl (Nat.le_of_ble_eq_true rfl) (fun v9 n9 K_no hp9 => ?_)
    obtain ⟨hv9, rfl, hF_no, hM_no⟩ := hp9
    cases hv9
    refine ms_reti (st := []) (ty := .int) dX6_way_18 rfl rfl ?_
    exact mq_P.no (show th_onw cnt X.1 kk (st9 < 0) = some IOB from by unfold th_onw; grind) (by omega) (ms_fb.trans2 hF_2 (hF_no.mono (fun a h => Or.inl h)) (by omega)) rfl hM_no

/-! the model: farWith -/
set_option maxHeartbeats 1000000 in
set_option maxRecDepth 20000 in
theorem l_X6_farWith {n m aw am ai ah W H cnt p1 p2 : Nat} {G : ms_H} {th cl dr pa : Int32} {wl mm ht d1 d2 : Nat → Int32} {u : Nat → Nat → Int32} (hM : md_at G m aw am ai ah W H th cl dr pa cnt wl mm ht u) (hW : W ≤ 14) (hH : H ≤ 14) {f : Nat} (hf : f < W * H) (hr1 : G p1 = some (.inl (0, W * H, .inl d1))) (hr2 : G p2 = some (.inl (0, W * H, .inl d2))) : ∀ (r k : Nat), k + r = W * H →  ms_W false m_X6_farWith (ms_p1 (some (.int (nI (ct (pOth wl d1 d2 f) (W * H))))) n G) 101 [(0, .ref m), (4, .int (nI f)), (5, .ref p1), (6, .ref p2), (7, .int (nI (ct (pOth wl d1 d2 f) k))), (8, .int (nI k))] [] n G 0 0 := by
  obtain ⟨hm, hw_, hk_, ⟨it, hi_, hit⟩, hh_⟩ := hM
  have h196 := fd_196 hW hH
  intro r
  induction r with
  | zero =>
    intro k hk 
    have hkN : k = W * H := by omega
    refine ms_run (pc' := 104) (lv' := [(0, .ref m), (4, .int (nI f)), (5, .ref p1), (6, .ref p2), (7, .int (nI (ct (pOth wl d1 d2 f) k))), (8, .int (nI k))]) (st' := [.ref m, .int (nI k)]) _ (ms_deC dX6_farWith_101 (ms_deC dX6_farWith_103 ms_deN)) rfl rfl ?_
    refine ms_getf dX6_farWith_104 fg_X6_20 hm rfl ?_
    refine ms_run (pc' := 108) (lv' := [(0, .ref m), (4, .int (nI f)), (5, .ref p1), (6, .ref p2), (7, .int (nI (ct (pOth wl d1 d2 f) k))), (8, .int (nI k))]) (st' := [.ref m, .int (nI W), .int (nI k)]) _ (ms_deC dX6_farWith_107 ms_deN) rfl rfl ?_
    refine ms_getf dX6_farWith_108 fg_X6_23 hm rfl ?_
    refine ms_run (pc' := 112) (lv' := [(0, .ref m), (4, .int (nI f)), (5, .ref p1), (6, .ref p2), (7, .int (nI (ct (pOth wl d1 d2 f) k))), (8, .int (nI k))]) (st' := [.int ((nI W) * (nI H)), .int (nI k)]) _ (ms_deC dX6_farWith_111 ms_deN) rfl rfl ?_
    rw [show nI W * nI H = nI (W * H) from pk_mul W H]
    refine ms_icmp_ge (tgt := 161) dX6_farWith_112 (by decide) (fun h_112 => ?_) (fun h_112 => ?_)
    · skip
      refine ms_run (pc' := 163) (lv' := [(0, .ref m), (4, .int (nI f)), (5, .ref p1), (6, .ref p2), (7, .int (nI (ct (pOth wl d1 d2 f) k))), (8, .int (nI k))]) (st' := [.int (nI (ct (pOth wl d1 d2 f) k))]) _ (ms_deC dX6_farWith_161 ms_deN) rfl rfl ?_
      refine ms_reti (st := []) (ty := .int) dX6_farWith_163 rfl rfl ?_
      exact ms_p1.mk (by rw [hkN]) rfl
    · skip
      exact absurd (by exact nI_le (b := k) (by omega) (by omega)) h_112
  | succ r ih =>
    intro k hk 
    have hlt : k < W * H := by omega
    refine ms_run (pc' := 104) (lv' := [(0, .ref m), (4, .int (nI f)), (5, .ref p1), (6, .ref p2), (7, .int (nI (ct (pOth wl d1 d2 f) k))), (8, .int (nI k))]) (st' := [.ref m, .int (nI k)]) _ (ms_deC dX6_farWith_101 (ms_deC dX6_farWith_103 ms_deN)) rfl rfl ?_
    refine ms_getf dX6_farWith_104 fg_X6_20 hm rfl ?_
    refine ms_run (pc' := 108) (lv' := [(0, .ref m), (4, .int (nI f)), (5, .ref p1), (6, .ref p2), (7, .int (nI (ct (pOth wl d1 d2 f) k))), (8, .int (nI k))]) (st' := [.ref m, .int (nI W), .int (nI k)]) _ (ms_deC dX6_farWith_107 ms_deN) rfl rfl ?_
    refine ms_getf dX6_farWith_108 fg_X6_23 hm rfl ?_
    refine ms_run (pc' := 112) (lv' := [(0, .ref m), (4, .int (nI f)), (5, .ref p1), (6, .ref p2), (7, .int (nI (ct (pOth wl d1 d2 f) k))), (8, .int (nI k))]) (st' := [.int ((nI W) * (nI H)), .int (nI k)]) _ (ms_deC dX6_farWith_111 ms_deN) rfl rfl ?_
    rw [show nI W * nI H = nI (W * H) from pk_mul W H]
    refine ms_icmp_ge (tgt := 161) dX6_farWith_112 (by decide) (fun h_112 => ?_) (fun h_112 => ?_)
    · skip
      exact absurd h_112 (by exact nI_ge (b := W * H) (by omega) (by omega))
    · skip
      refine ms_run (pc' := 121) (lv' := [(0, .ref m), (4, .int (nI f)), (5, .ref p1), (6, .ref p2), (7, .int (nI (ct (pOth wl d1 d2 f) k))), (8, .int (nI k))]) (st' := [.int (nI f), .int (nI k), .int (nI (ct (pOth wl d1 d2 f) k))]) _ (ms_deC dX6_farWith_115 (ms_deC dX6_farWith_117 (ms_deC dX6_farWith_119 ms_deN))) rfl rfl ?_
      refine ms_icmp_eq (tgt := 151) dX6_farWith_121 (by decide) (fun h_121 => ?_) (fun h_121 => ?_)
      · skip
        refine ms_run (pc' := 158) (lv' := [(8, .int ((nI k) + 1)), (7, .int ((nI (ct (pOth wl d1 d2 f) k)) + 0)), (0, .ref m), (4, .int (nI f)), (5, .ref p1), (6, .ref p2)]) (st' := []) _ (ms_deC dX6_farWith_151 (ms_deC dX6_farWith_152 (ms_deC dX6_farWith_153 (ms_deC dX6_farWith_155 ms_deN)))) rfl rfl ?_
        refine ms_goto (tgt := 101) dX6_farWith_158 (by decide) ?_
        have hp : (pOth wl d1 d2 f) k = false := decide_eq_false (fun z9 => by first | exact z9.1 ((nI_eq (by omega) (by omega)).mp h_121) | exact h_131 z9.2.1 | exact z9.2.2 h_144)
        rw [Int32.add_zero, ct_f hp]
        rw [nI_1 k]
        refine ms_W.sub (lv2 := [(0, _), (4, _), (5, _), (6, _), (7, _), (8, _)]) ?_ [2, 3, 4, 5, 1, 0] rfl
        exact ih (k + 1) (by omega)
      · skip
        refine ms_run (pc' := 125) (lv' := [(0, .ref m), (4, .int (nI f)), (5, .ref p1), (6, .ref p2), (7, .int (nI (ct (pOth wl d1 d2 f) k))), (8, .int (nI k))]) (st' := [.ref m, .int (nI (ct (pOth wl d1 d2 f) k))]) _ (ms_deC dX6_farWith_124 ms_deN) rfl rfl ?_
        refine ms_getf dX6_farWith_125 fg_X6_29 hm rfl ?_
        refine ms_run (pc' := 130) (lv' := [(0, .ref m), (4, .int (nI f)), (5, .ref p1), (6, .ref p2), (7, .int (nI (ct (pOth wl d1 d2 f) k))), (8, .int (nI k))]) (st' := [.int (nI k), .ref aw, .int (nI (ct (pOth wl d1 d2 f) k))]) _ (ms_deC dX6_farWith_128 ms_deN) rfl rfl ?_
        refine ms_zaload dX6_farWith_130 hw_ (vp_in_nI (by omega) (by omega)) ?_
        rw [nI_clamp (n := k) (by omega)]
        refine ms_if_ne (tgt := 151) dX6_farWith_131 (by decide) (fun h_131 => ?_) (fun h_131 => ?_)
        · skip
          refine ms_run (pc' := 158) (lv' := [(8, .int ((nI k) + 1)), (7, .int ((nI (ct (pOth wl d1 d2 f) k)) + 0)), (0, .ref m), (4, .int (nI f)), (5, .ref p1), (6, .ref p2)]) (st' := []) _ (ms_deC dX6_farWith_151 (ms_deC dX6_farWith_152 (ms_deC dX6_farWith_153 (ms_deC dX6_farWith_155 ms_deN)))) rfl rfl ?_
          refine ms_goto (tgt := 101) dX6_farWith_158 (by decide) ?_
          have hp : (pOth wl d1 d2 f) k = false := decide_eq_false (fun z9 => by first | exact z9.1 ((nI_eq (by omega) (by omega)).mp h_121) | exact h_131 z9.2.1 | exact z9.2.2 h_144)
          rw [Int32.add_zero, ct_f hp]
          rw [nI_1 k]
          refine ms_W.sub (lv2 := [(0, _), (4, _), (5, _), (6, _), (7, _), (8, _)]) ?_ [2, 3, 4, 5, 1, 0] rfl
          exact ih (k + 1) (by omega)
        · skip
          refine ms_run (pc' := 138) (lv' := [(0, .ref m), (4, .int (nI f)), (5, .ref p1), (6, .ref p2), (7, .int (nI (ct (pOth wl d1 d2 f) k))), (8, .int (nI k))]) (st' := [.int (nI k), .ref p1, .int (nI (ct (pOth wl d1 d2 f) k))]) _ (ms_deC dX6_farWith_134 (ms_deC dX6_farWith_136 ms_deN)) rfl rfl ?_
          refine ms_iaload dX6_farWith_138 hr1 (vp_in_nI (by omega) (by omega)) ?_
          rw [nI_clamp (n := k) (by omega)]
          refine ms_run (pc' := 143) (lv' := [(0, .ref m), (4, .int (nI f)), (5, .ref p1), (6, .ref p2), (7, .int (nI (ct (pOth wl d1 d2 f) k))), (8, .int (nI k))]) (st' := [.int (nI k), .ref p2, .int (d1 k), .int (nI (ct (pOth wl d1 d2 f) k))]) _ (ms_deC dX6_farWith_139 (ms_deC dX6_farWith_141 ms_deN)) rfl rfl ?_
          refine ms_iaload dX6_farWith_143 hr2 (vp_in_nI (by omega) (by omega)) ?_
          rw [nI_clamp (n := k) (by omega)]
          refine ms_icmp_eq (tgt := 151) dX6_farWith_144 (by decide) (fun h_144 => ?_) (fun h_144 => ?_)
          · skip
            refine ms_run (pc' := 158) (lv' := [(8, .int ((nI k) + 1)), (7, .int ((nI (ct (pOth wl d1 d2 f) k)) + 0)), (0, .ref m), (4, .int (nI f)), (5, .ref p1), (6, .ref p2)]) (st' := []) _ (ms_deC dX6_farWith_151 (ms_deC dX6_farWith_152 (ms_deC dX6_farWith_153 (ms_deC dX6_farWith_155 ms_deN)))) rfl rfl ?_
            refine ms_goto (tgt := 101) dX6_farWith_158 (by decide) ?_
            have hp : (pOth wl d1 d2 f) k = false := decide_eq_false (fun z9 => by first | exact z9.1 ((nI_eq (by omega) (by omega)).mp h_121) | exact h_131 z9.2.1 | exact z9.2.2 h_144)
            rw [Int32.add_zero, ct_f hp]
            rw [nI_1 k]
            refine ms_W.sub (lv2 := [(0, _), (4, _), (5, _), (6, _), (7, _), (8, _)]) ?_ [2, 3, 4, 5, 1, 0] rfl
            exact ih (k + 1) (by omega)
          · skip
            refine ms_run (pc' := 148) (lv' := [(0, .ref m), (4, .int (nI f)), (5, .ref p1), (6, .ref p2), (7, .int (nI (ct (pOth wl d1 d2 f) k))), (8, .int (nI k))]) (st' := [.int 1, .int (nI (ct (pOth wl d1 d2 f) k))]) _ (ms_deC dX6_farWith_147 ms_deN) rfl rfl ?_
            refine ms_goto (tgt := 152) dX6_farWith_148 (by decide) ?_
            refine ms_run (pc' := 158) (lv' := [(8, .int ((nI k) + 1)), (7, .int ((nI (ct (pOth wl d1 d2 f) k)) + 1)), (0, .ref m), (4, .int (nI f)), (5, .ref p1), (6, .ref p2)]) (st' := []) _ (ms_deC dX6_farWith_152 (ms_deC dX6_farWith_153 (ms_deC dX6_farWith_155 ms_deN))) rfl rfl ?_
            refine ms_goto (tgt := 101) dX6_farWith_158 (by decide) ?_
            have hp : (pOth wl d1 d2 f) k = true := decide_eq_true ⟨fun z9 => h_121 (by rw [z9]), by first | exact h_131 | exact Decidable.not_not.mp h_131, h_144⟩
            rw [ct_t hp]
            rw [nI_1 k]
            refine ms_W.sub (lv2 := [(0, _), (4, _), (5, _), (6, _), (7, _), (8, _)]) ?_ [2, 3, 4, 5, 1, 0] rfl
            exact ih (k + 1) (by omega)
set_option maxHeartbeats 1000000 in
set_option maxRecDepth 20000 in
theorem c_X6_farWith {n m aw am ai ah W H cnt N : Nat} {G : ms_H} {th dr pa : Int32} {wl mm : Nat → Int32} {X : cX} {nr mk ds : Nat → Int32} (hM : md_at G m aw am ai ah W H th X.2.2.2 dr pa cnt wl mm X.2.1 X.1) (hl : md_lt n m aw am ai ah) (hW : W ≤ 14) (hH : H ≤ 14) (hW0 : 0 < W) (hc : cnt ≤ 24) (hne : md_ne m aw am ai ah) (hL : lk_ok W H (W * H) nr) (hmm : mmR (W * H) mk mm) (hds : dsR (W * H) nr wl mk ds) (hd : 0 ≤ dr ∧ dr ≤ 9) (hN : N < 1000000) (hV : wdV W H cnt N X) (hwl : wl01 wl) (gl aa bb : Int32) : ms_M m_X6_farWith [.ref m, .int gl, .int aa, .int bb] n G 4 784 (mq_P n G (E5 m aw am ai ah) (th_far W H gl aa bb) (fun _ => 1) (.int (nI (ct (pOth wl (fun k => ds (gl.toNatClampNeg * 196 + k)) (fun k => (rq (W * H) ds gl.toNatClampNeg (dXg (W * H) nr (wlF wl (gr_num (nI W) (nI H) aa bb).toNatClampNeg) mk gl.toNatClampNeg)) (gl.toNatClampNeg * 196 + k)) (gr_num (nI W) (nI H) aa bb).toNatClampNeg) (W * H)))) (fun t G1 => md_at G1 m aw am ai ah W H t X.2.2.2 dr pa cnt wl mm X.2.1 X.1) (fun G1 => md_at G1 m aw am ai ah W H 0 X.2.2.2 dr pa cnt wl mm X.2.1 X.1)) := by
  refine ms_M.of (by decide) (Nat.le_of_ble_eq_true rfl) ?_
  show ms_W false m_X6_farWith _ 0 [(0, .ref m), (1, .int gl), (2, .int aa), (3, .int bb)] [] n G 4 784
  have hl9 := hl
  have hne9 := hne
  obtain ⟨hm, hw_, hk_, ⟨it, hi_, hit⟩, hh_⟩ := hM
  obtain ⟨l1, l2, l3, l4, l5⟩ := hl
  obtain ⟨n1, n2, n3, n4, n5, n6, n7, n8, n9, n10⟩ := hne
  have h196 := fd_196 hW hH
  have hF : ms_fb (E5 m aw am ai ah) n G G := ms_fb.rf
  refine ms_run (pc' := 2) (lv' := [(0, .ref m), (1, .int gl), (2, .int aa), (3, .int bb)]) (st' := [.int 0, .ref m]) _ (ms_deC dX6_farWith_0 (ms_deC dX6_farWith_1 ms_deN)) rfl rfl ?_
  refine ms_putf dX6_farWith_2 fp_X6_46 hm (Nat.le_of_ble_eq_true rfl) rfl rfl ?_
  obtain ⟨G_1, eG_1⟩ : ∃ K9 : ms_H, K9 = ms_up G m (.inr (6, [.int 0, .int (nI W), .int (nI H), .int X.2.2.2, .int dr, .int pa, .ref aw, .ref am, .int (nI cnt), .ref ai, .ref ah])) := ⟨_, rfl⟩
  refine ms_W.heq eG_1 ?_
  have hF_2 : ms_fb (E5 m aw am ai ah) n G G_1 := by rw [eG_1]; exact ms_fb.up hF (by first | exact Or.inl (by omega) | exact Or.inr rfl | exact Or.inr (Or.inl rfl) | exact Or.inr (Or.inr (Or.inl rfl)) | exact Or.inr (Or.inr (Or.inr rfl)) | exact Or.inr (Or.inr rfl) | exact Or.inr (Or.inr (Or.inr (Or.inl rfl))) | exact Or.inr (Or.inr (Or.inr (Or.inr (Or.inl rfl)))) | exact Or.inr (Or.inr (Or.inr (Or.inr (Or.inr rfl)))))
  have hf_3 : G_1 m = some (.inr (6, [.int 0, .int (nI W), .int (nI H), .int X.2.2.2, .int dr, .int pa, .ref aw, .ref am, .int (nI cnt), .ref ai, .ref ah])) := by rw [eG_1]; exact ms_up_s _ _ _
  have hf_4 := (congrFun eG_1 aw).trans ((ms_up_n G _ (by omega)).trans hw_)
  have hf_5 := (congrFun eG_1 am).trans ((ms_up_n G _ (by omega)).trans hk_)
  have hf_6 := (congrFun eG_1 ai).trans ((ms_up_n G _ (by omega)).trans hi_)
  have hf_7 := (congrFun eG_1 ah).trans ((ms_up_n G _ (by omega)).trans hh_)
  refine ms_run (pc' := 6) (lv' := [(0, .ref m), (1, .int gl), (2, .int aa), (3, .int bb)]) (st' := [.int gl]) _ (ms_deC dX6_farWith_5 ms_deN) rfl rfl ?_
  refine ms_callSp (As := [.int gl]) dX6_farWith_6 (c_X6_isGoal gl) cs_X6_91 rfl ⟨Nat.le_of_ble_eq_true rfl, Nat.le_of_ble_eq_true rfl⟩ rfl (Nat.le_of_ble_eq_true rfl) ?_
  by_cases hgl : gl_is gl
  · rw [show ms_b (gl_is gl) = 1 from if_pos hgl]
    obtain ⟨g, hg, hge⟩ := gl_nI hgl
    subst hge
    refine ms_if_eq (tgt := 21) dX6_farWith_9 (by decide) (fun h9 => absurd h9 (by decide)) (fun _ => ?_)
    refine ms_run (pc' := 15) (lv' := [(0, .ref m), (1, .int (nI g)), (2, .int aa), (3, .int bb)]) (st' := [.int bb, .int aa, .ref m]) _ (ms_deC dX6_farWith_12 (ms_deC dX6_farWith_13 (ms_deC dX6_farWith_14 ms_deN))) rfl rfl ?_
    refine ms_callVp (As := [.int aa, .int bb]) dX6_farWith_15 (c_X6_isField (show md_at G_1 m aw am ai ah W H 0 X.2.2.2 dr pa cnt wl mm X.2.1 X.1 from ⟨hf_3, hf_4, hf_5, ⟨it, hf_6, hit⟩, hf_7⟩) hW hH hc aa bb) cv_X6_57 hf_3 rfl ⟨Nat.le_of_ble_eq_true rfl, Nat.le_of_ble_eq_true rfl⟩ rfl (Nat.le_of_ble_eq_true rfl) ?_
    by_cases hins : gr_ins (nI W) (nI H) aa bb
    · rw [show ms_b (gr_ins (nI W) (nI H) aa bb) = 1 from if_pos hins]
      obtain ⟨ax, ay, hax, hay, hae, hbe, hfe⟩ := ins_nat hW hH hins
      have hlf : ay * W + ax < W * H := fd_lt hax hay
      refine ms_if_ne (tgt := 27) dX6_farWith_18 (by decide) (fun _ => ?_) (fun h9 => absurd h9 (by decide))
      refine ms_run (pc' := 29) (lv' := [(0, .ref m), (1, .int (nI g)), (2, .int aa), (3, .int bb)]) (st' := [.ref m, .int bb]) _ (ms_deC dX6_farWith_27 (ms_deC dX6_farWith_28 ms_deN)) rfl rfl ?_
      refine ms_getf dX6_farWith_29 fg_X6_20 hf_3 rfl ?_
      refine ms_run (pc' := 35) (lv' := [(0, .ref m), (1, .int (nI g)), (2, .int aa), (3, .int bb)]) (st' := [.int ((bb * (nI W)) + aa)]) _ (ms_deC dX6_farWith_32 (ms_deC dX6_farWith_33 (ms_deC dX6_farWith_34 ms_deN))) rfl rfl ?_
      rw [show (bb * (nI W)) + aa = nI (ay * W + ax) from by rw [hae, hbe, ix_xy]]
      refine ms_run (pc' := 39) (lv' := [(4, .int (nI (ay * W + ax))), (0, .ref m), (1, .int (nI g)), (2, .int aa), (3, .int bb)]) (st' := [.int (nI g), .ref m]) _ (ms_deC dX6_farWith_35 (ms_deC dX6_farWith_37 (ms_deC dX6_farWith_38 ms_deN))) rfl rfl ?_
      refine ms_W.room (k2 := 2 + 2) (z2 := 392 + 392) ?_ (by omega) (by omega)
      refine ms_callV (As := [.int (nI g)]) dX6_farWith_39 (c_X6_far (show md_at G_1 m aw am ai ah W H 0 X.2.2.2 dr pa cnt wl mm X.2.1 X.1 from ⟨hf_3, hf_4, hf_5, ⟨_, hf_6, hit⟩, hf_7⟩) hW hH hc hl9 hW0 hL hmm (gi := g) hg) cv_X6_75 hf_3 rfl ⟨Nat.le_of_ble_eq_true rfl, Nat.le_of_ble_eq_true rfl⟩ rfl (Nat.le_of_ble_eq_true rfl) (fun v9 n9 K_f1 hp9 => ?_)
      obtain ⟨hv9, rfl, hF_f1, hrow1⟩ := hp9
      cases hv9
      have hMf1 := md_at.fb (show md_at G_1 m aw am ai ah W H 0 X.2.2.2 dr pa cnt wl mm X.2.1 X.1 from ⟨hf_3, hf_4, hf_5, ⟨_, hf_6, hit⟩, hf_7⟩) hF_f1 hl9
      obtain ⟨hm_1, hw_1, hk_1, ⟨it_1, hi_1, hit_1⟩, hh_1⟩ := id hMf1
      have hl2 : md_lt (n + 2) m aw am ai ah := ⟨by omega, by omega, by omega, by omega, by omega⟩
      have hFo_1 := ms_fb.trans hF_2 hF_f1 (by omega)
      refine ms_run (pc' := 45) (lv' := [(5, .ref n), (4, .int (nI (ay * W + ax))), (0, .ref m), (1, .int (nI g)), (2, .int aa), (3, .int bb)]) (st' := [.ref m]) _ (ms_deC dX6_farWith_42 (ms_deC dX6_farWith_44 ms_deN)) rfl rfl ?_
      refine ms_getf dX6_farWith_45 fg_X6_29 hm_1 rfl ?_
      refine ms_run (pc' := 51) (lv' := [(5, .ref n), (4, .int (nI (ay * W + ax))), (0, .ref m), (1, .int (nI g)), (2, .int aa), (3, .int bb)]) (st' := [.ref m, .int (nI (ay * W + ax)), .ref aw]) _ (ms_deC dX6_farWith_48 (ms_deC dX6_farWith_50 ms_deN)) rfl rfl ?_
      refine ms_getf dX6_farWith_51 fg_X6_29 hm_1 rfl ?_
      refine ms_run (pc' := 56) (lv' := [(5, .ref n), (4, .int (nI (ay * W + ax))), (0, .ref m), (1, .int (nI g)), (2, .int aa), (3, .int bb)]) (st' := [.int (nI (ay * W + ax)), .ref aw, .int (nI (ay * W + ax)), .ref aw]) _ (ms_deC dX6_farWith_54 ms_deN) rfl rfl ?_
      refine ms_zaload dX6_farWith_56 hw_1 (vp_in_nI hlf (by omega)) ?_
      rw [show wl (nI (ay * W + ax)).toNatClampNeg = wl (ay * W + ax) from by rw [nI_clamp (by omega)]]
      refine ms_if_ne (tgt := 64) dX6_farWith_57 (by decide) (fun h_57 => ?_) (fun h_57 => ?_)
      · skip
        refine ms_run (pc' := 65) (lv' := [(5, .ref n), (4, .int (nI (ay * W + ax))), (0, .ref m), (1, .int (nI g)), (2, .int aa), (3, .int bb)]) (st' := [.int 0, .int (nI (ay * W + ax)), .ref aw]) _ (ms_deC dX6_farWith_64 ms_deN) rfl rfl ?_
        refine ms_zastore dX6_farWith_65 hw_1 (vp_in_nI hlf (by omega)) ?_
        rw [show vp_nar .boolean 0 = 0 from rfl, show (nI (ay * W + ax)).toNatClampNeg = ay * W + ax from nI_clamp (by omega), wlF_0 h_57]
        obtain ⟨G_8, eG_8⟩ : ∃ K9 : ms_H, K9 = ms_up K_f1 aw (.inl (1, (W * H), .inl (wlF wl (ay * W + ax)))) := ⟨_, rfl⟩
        refine ms_W.heq eG_8 ?_
        have hFo_9 : ms_fb (E5 m aw am ai ah) n G G_8 := by rw [eG_8]; exact ms_fb.up hFo_1 (by first | exact Or.inl (by omega) | exact Or.inr rfl | exact Or.inr (Or.inl rfl) | exact Or.inr (Or.inr (Or.inl rfl)) | exact Or.inr (Or.inr (Or.inr rfl)) | exact Or.inr (Or.inr rfl) | exact Or.inr (Or.inr (Or.inr (Or.inl rfl))) | exact Or.inr (Or.inr (Or.inr (Or.inr (Or.inl rfl)))) | exact Or.inr (Or.inr (Or.inr (Or.inr (Or.inr rfl)))))
        have hf_10 := (congrFun eG_8 m).trans ((ms_up_n K_f1 _ (by omega)).trans hm_1)
        have hf_11 : G_8 aw = some (.inl (1, (W * H), .inl (wlF wl (ay * W + ax)))) := by rw [eG_8]; exact ms_up_s _ _ _
        have hf_12 := (congrFun eG_8 am).trans ((ms_up_n K_f1 _ (by omega)).trans hk_1)
        have hf_13 := (congrFun eG_8 ai).trans ((ms_up_n K_f1 _ (by omega)).trans hi_1)
        have hf_14 := (congrFun eG_8 ah).trans ((ms_up_n K_f1 _ (by omega)).trans hh_1)
        have hf_15 := (congrFun eG_8 n).trans ((ms_up_n K_f1 _ (by omega)).trans hrow1)
        refine ms_run (pc' := 68) (lv' := [(5, .ref n), (4, .int (nI (ay * W + ax))), (0, .ref m), (1, .int (nI g)), (2, .int aa), (3, .int bb)]) (st' := [.int (nI g), .ref m]) _ (ms_deC dX6_farWith_66 (ms_deC dX6_farWith_67 ms_deN)) rfl rfl ?_
        refine ms_W.room (k2 := 2 + 0) (z2 := 392 + 0) ?_ (by omega) (by omega)
        refine ms_callV (As := [.int (nI g)]) dX6_farWith_68 (c_X6_far (show md_at G_8 m aw am ai ah W H 0 X.2.2.2 dr pa cnt (wlF wl (ay * W + ax)) mm X.2.1 X.1 from ⟨hf_10, hf_11, hf_12, ⟨_, hf_13, hit_1⟩, hf_14⟩) hW hH hc hl2 hW0 hL hmm (gi := g) hg) cv_X6_75 hf_10 rfl ⟨Nat.le_of_ble_eq_true rfl, Nat.le_of_ble_eq_true rfl⟩ rfl (Nat.le_of_ble_eq_true rfl) (fun v9 n9 K_f2 hp9 => ?_)
        obtain ⟨hv9, rfl, hF_f2, hrow2⟩ := hp9
        cases hv9
        have hMf2 := md_at.fb (show md_at G_8 m aw am ai ah W H 0 X.2.2.2 dr pa cnt (wlF wl (ay * W + ax)) mm X.2.1 X.1 from ⟨hf_10, hf_11, hf_12, ⟨_, hf_13, hit_1⟩, hf_14⟩) hF_f2 hl2
        obtain ⟨hm_2, hw_2, hk_2, ⟨it_2, hi_2, hit_2⟩, hh_2⟩ := id hMf2
        have hFo_2 := ms_fb.trans hFo_9 hF_f2 (by omega)
        have hrow3 := (hF_f2.at n (by omega)).trans hf_15
        refine ms_run (pc' := 74) (lv' := [(6, .ref (n + 2)), (5, .ref n), (4, .int (nI (ay * W + ax))), (0, .ref m), (1, .int (nI g)), (2, .int aa), (3, .int bb)]) (st' := [.ref m]) _ (ms_deC dX6_farWith_71 (ms_deC dX6_farWith_73 ms_deN)) rfl rfl ?_
        refine ms_getf dX6_farWith_74 fg_X6_29 hm_2 rfl ?_
        refine ms_run (pc' := 80) (lv' := [(6, .ref (n + 2)), (5, .ref n), (4, .int (nI (ay * W + ax))), (0, .ref m), (1, .int (nI g)), (2, .int aa), (3, .int bb)]) (st' := [.ref m, .int (nI (ay * W + ax)), .ref aw]) _ (ms_deC dX6_farWith_77 (ms_deC dX6_farWith_79 ms_deN)) rfl rfl ?_
        refine ms_getf dX6_farWith_80 fg_X6_29 hm_2 rfl ?_
        refine ms_run (pc' := 85) (lv' := [(6, .ref (n + 2)), (5, .ref n), (4, .int (nI (ay * W + ax))), (0, .ref m), (1, .int (nI g)), (2, .int aa), (3, .int bb)]) (st' := [.int (nI (ay * W + ax)), .ref aw, .int (nI (ay * W + ax)), .ref aw]) _ (ms_deC dX6_farWith_83 ms_deN) rfl rfl ?_
        refine ms_zaload dX6_farWith_85 hw_2 (vp_in_nI hlf (by omega)) ?_
        rw [show (wlF wl (ay * W + ax)) (nI (ay * W + ax)).toNatClampNeg = wlF wl (ay * W + ax) (ay * W + ax) from by rw [nI_clamp (by omega)]]
        refine ms_if_ne (tgt := 93) dX6_farWith_86 (by decide) (fun h_86 => ?_) (fun h_86 => ?_)
        · skip
          have hw0 : wl (ay * W + ax) = 0 := Decidable.byContradiction (fun z9 => h_86 (by rw [wlF_at, if_neg z9]))
          refine ms_run (pc' := 94) (lv' := [(6, .ref (n + 2)), (5, .ref n), (4, .int (nI (ay * W + ax))), (0, .ref m), (1, .int (nI g)), (2, .int aa), (3, .int bb)]) (st' := [.int 0, .int (nI (ay * W + ax)), .ref aw]) _ (ms_deC dX6_farWith_93 ms_deN) rfl rfl ?_
          refine ms_zastore dX6_farWith_94 hw_2 (vp_in_nI hlf (by omega)) ?_
          rw [show vp_nar .boolean 0 = 0 from rfl, show (nI (ay * W + ax)).toNatClampNeg = ay * W + ax from nI_clamp (by omega), wlF_back hw0]
          obtain ⟨G_16, eG_16⟩ : ∃ K9 : ms_H, K9 = ms_up K_f2 aw (.inl (1, (W * H), .inl wl)) := ⟨_, rfl⟩
          refine ms_W.heq eG_16 ?_
          have hFo_17 : ms_fb (E5 m aw am ai ah) n G G_16 := by rw [eG_16]; exact ms_fb.up hFo_2 (by first | exact Or.inl (by omega) | exact Or.inr rfl | exact Or.inr (Or.inl rfl) | exact Or.inr (Or.inr (Or.inl rfl)) | exact Or.inr (Or.inr (Or.inr rfl)) | exact Or.inr (Or.inr rfl) | exact Or.inr (Or.inr (Or.inr (Or.inl rfl))) | exact Or.inr (Or.inr (Or.inr (Or.inr (Or.inl rfl)))) | exact Or.inr (Or.inr (Or.inr (Or.inr (Or.inr rfl)))))
          have hf_18 := (congrFun eG_16 m).trans ((ms_up_n K_f2 _ (by omega)).trans hm_2)
          have hf_19 : G_16 aw = some (.inl (1, (W * H), .inl wl)) := by rw [eG_16]; exact ms_up_s _ _ _
          have hf_20 := (congrFun eG_16 am).trans ((ms_up_n K_f2 _ (by omega)).trans hk_2)
          have hf_21 := (congrFun eG_16 ai).trans ((ms_up_n K_f2 _ (by omega)).trans hi_2)
          have hf_22 := (congrFun eG_16 ah).trans ((ms_up_n K_f2 _ (by omega)).trans hh_2)
          have hf_23 := (congrFun eG_16 n).trans ((ms_up_n K_f2 _ (by omega)).trans hrow3)
          have hf_24 := (congrFun eG_16 (n + 2)).trans ((ms_up_n K_f2 _ (by omega)).trans hrow2)
          refine ms_run (pc' := 101) (lv' := [(8, .int 0), (7, .int 0), (6, .ref (n + 2)), (5, .ref n), (4, .int (nI (ay * W + ax))), (0, .ref m), (1, .int (nI g)), (2, .int aa), (3, .int bb)]) (st' := []) _ (ms_deC dX6_farWith_95 (ms_deC dX6_farWith_96 (ms_deC dX6_farWith_98 (ms_deC dX6_farWith_99 ms_deN)))) rfl rfl ?_
          have hth : th_far W H (nI g) aa bb = none := by unfold th_far; rw [if_neg (by rintro (z9 | z9); exact z9 (gl_isI hg); rw [hfe] at z9; exact nI_m1 (by omega) z9)]
          have hMz := (show md_at G_16 m aw am ai ah W H 0 X.2.2.2 dr pa cnt wl mm X.2.1 X.1 from ⟨hf_18, hf_19, hf_20, ⟨_, hf_21, hit_2⟩, hf_22⟩)
          refine ms_W.conseq (P := ms_p1 (some (.int (nI (ct (pOth wl (dXg (W * H) nr wl mk g) (dXg (W * H) nr (wlF wl (ay * W + ax)) mk g) (ay * W + ax)) (W * H))))) (n + 2 + 2) G_16) ?_ (fun r9 n9 G9 h9 => ?_)
          refine ms_W.sub (lv2 := [(0, _), (4, _), (5, _), (6, _), (7, _), (8, _)]) ?_ [5, 4, 3, 2, 1, 0] rfl
          exact l_X6_farWith hMz hW hH hlf hf_23 hf_24 (W * H) 0 (by omega)
          obtain ⟨q1, rfl, rfl⟩ := h9
          rw [q1]
          refine mq_P.ok hth (by omega) hFo_17 ?_ hMz
          rw [hfe, nI_clamp (n := ay * W + ax) (by omega), nI_clamp (n := g) (by omega)]
          congr 2
          refine ct_congr (fun k hk => ba ?_)
          unfold pOth
          rw [decide_eq_true_eq, decide_eq_true_eq]
          have x1 : ds (g * 196 + k) = (dXg (W * H) nr wl mk g) k := hds g hg k hk
          have x2 : rq (W * H) ds g (dXg (W * H) nr (wlF wl (ay * W + ax)) mk g) (g * 196 + k) = (dXg (W * H) nr (wlF wl (ay * W + ax)) mk g) k := rq_get hk
          show (¬ k = ay * W + ax ∧ wl k = 0 ∧ ¬ (dXg (W * H) nr wl mk g) k = (dXg (W * H) nr (wlF wl (ay * W + ax)) mk g) k) ↔ (¬ k = ay * W + ax ∧ wl k = 0 ∧ ¬ ds (g * 196 + k) = rq (W * H) ds g (dXg (W * H) nr (wlF wl (ay * W + ax)) mk g) (g * 196 + k))
          rw [x1, x2]
        · skip
          have hw1 : wl (ay * W + ax) = 1 := (hwl (ay * W + ax)).resolve_left (fun z9 => by rw [wlF_at, if_pos z9] at h_86; exact absurd h_86 (by decide))
          refine ms_run (pc' := 90) (lv' := [(6, .ref (n + 2)), (5, .ref n), (4, .int (nI (ay * W + ax))), (0, .ref m), (1, .int (nI g)), (2, .int aa), (3, .int bb)]) (st' := [.int 1, .int (nI (ay * W + ax)), .ref aw]) _ (ms_deC dX6_farWith_89 ms_deN) rfl rfl ?_
          refine ms_goto (tgt := 94) dX6_farWith_90 (by decide) ?_
          refine ms_zastore dX6_farWith_94 hw_2 (vp_in_nI hlf (by omega)) ?_
          rw [show vp_nar .boolean 1 = 1 from rfl, show (nI (ay * W + ax)).toNatClampNeg = ay * W + ax from nI_clamp (by omega), wlF_back hw1]
          obtain ⟨G_25, eG_25⟩ : ∃ K9 : ms_H, K9 = ms_up K_f2 aw (.inl (1, (W * H), .inl wl)) := ⟨_, rfl⟩
          refine ms_W.heq eG_25 ?_
          have hFo_26 : ms_fb (E5 m aw am ai ah) n G G_25 := by rw [eG_25]; exact ms_fb.up hFo_2 (by first | exact Or.inl (by omega) | exact Or.inr rfl | exact Or.inr (Or.inl rfl) | exact Or.inr (Or.inr (Or.inl rfl)) | exact Or.inr (Or.inr (Or.inr rfl)) | exact Or.inr (Or.inr rfl) | exact Or.inr (Or.inr (Or.inr (Or.inl rfl))) | exact Or.inr (Or.inr (Or.inr (Or.inr (Or.inl rfl)))) | exact Or.inr (Or.inr (Or.inr (Or.inr (Or.inr rfl)))))
          have hf_27 := (congrFun eG_25 m).trans ((ms_up_n K_f2 _ (by omega)).trans hm_2)
          have hf_28 : G_25 aw = some (.inl (1, (W * H), .inl wl)) := by rw [eG_25]; exact ms_up_s _ _ _
          have hf_29 := (congrFun eG_25 am).trans ((ms_up_n K_f2 _ (by omega)).trans hk_2)
          have hf_30 := (congrFun eG_25 ai).trans ((ms_up_n K_f2 _ (by omega)).trans hi_2)
          have hf_31 := (congrFun eG_25 ah).trans ((ms_up_n K_f2 _ (by omega)).trans hh_2)
          have hf_32 := (congrFun eG_25 n).trans ((ms_up_n K_f2 _ (by omega)).trans hrow3)
          have hf_33 := (congrFun eG_25 (n + 2)).trans ((ms_up_n K_f2 _ (by omega)).trans hrow2)
          refine ms_run (pc' := 101) (lv' := [(8, .int 0), (7, .int 0), (6, .ref (n + 2)), (5, .ref n), (4, .int (nI (ay * W + ax))), (0, .ref m), (1, .int (nI g)), (2, .int aa), (3, .int bb)]) (st' := []) _ (ms_deC dX6_farWith_95 (ms_deC dX6_farWith_96 (ms_deC dX6_farWith_98 (ms_deC dX6_farWith_99 ms_deN)))) rfl rfl ?_
          have hth : th_far W H (nI g) aa bb = none := by unfold th_far; rw [if_neg (by rintro (z9 | z9); exact z9 (gl_isI hg); rw [hfe] at z9; exact nI_m1 (by omega) z9)]
          have hMz := (show md_at G_25 m aw am ai ah W H 0 X.2.2.2 dr pa cnt wl mm X.2.1 X.1 from ⟨hf_27, hf_28, hf_29, ⟨_, hf_30, hit_2⟩, hf_31⟩)
          refine ms_W.conseq (P := ms_p1 (some (.int (nI (ct (pOth wl (dXg (W * H) nr wl mk g) (dXg (W * H) nr (wlF wl (ay * W + ax)) mk g) (ay * W + ax)) (W * H))))) (n + 2 + 2) G_25) ?_ (fun r9 n9 G9 h9 => ?_)
          refine ms_W.sub (lv2 := [(0, _), (4, _), (5, _), (6, _), (7, _), (8, _)]) ?_ [5, 4, 3, 2, 1, 0] rfl
          exact l_X6_farWith hMz hW hH hlf hf_32 hf_33 (W * H) 0 (by omega)
          obtain ⟨q1, rfl, rfl⟩ := h9
          rw [q1]
          refine mq_P.ok hth (by omega) hFo_26 ?_ hMz
          rw [hfe, nI_clamp (n := ay * W + ax) (by omega), nI_clamp (n := g) (by omega)]
          congr 2
          refine ct_congr (fun k hk => ba ?_)
          unfold pOth
          rw [decide_eq_true_eq, decide_eq_true_eq]
          have x1 : ds (g * 196 + k) = (dXg (W * H) nr wl mk g) k := hds g hg k hk
          have x2 : rq (W * H) ds g (dXg (W * H) nr (wlF wl (ay * W + ax)) mk g) (g * 196 + k) = (dXg (W * H) nr (wlF wl (ay * W + ax)) mk g) k := rq_get hk
          show (¬ k = ay * W + ax ∧ wl k = 0 ∧ ¬ (dXg (W * H) nr wl mk g) k = (dXg (W * H) nr (wlF wl (ay * W + ax)) mk g) k) ↔ (¬ k = ay * W + ax ∧ wl k = 0 ∧ ¬ ds (g * 196 + k) = rq (W * H) ds g (dXg (W * H) nr (wlF wl (ay * W + ax)) mk g) (g * 196 + k))
          rw [x1, x2]
      · skip
        refine ms_run (pc' := 61) (lv' := [(5, .ref n), (4, .int (nI (ay * W + ax))), (0, .ref m), (1, .int (nI g)), (2, .int aa), (3, .int bb)]) (st' := [.int 1, .int (nI (ay * W + ax)), .ref aw]) _ (ms_deC dX6_farWith_60 ms_deN) rfl rfl ?_
        refine ms_goto (tgt := 65) dX6_farWith_61 (by decide) ?_
        refine ms_zastore dX6_farWith_65 hw_1 (vp_in_nI hlf (by omega)) ?_
        rw [show vp_nar .boolean 1 = 1 from rfl, show (nI (ay * W + ax)).toNatClampNeg = ay * W + ax from nI_clamp (by omega), wlF_1 h_57]
        obtain ⟨G_34, eG_34⟩ : ∃ K9 : ms_H, K9 = ms_up K_f1 aw (.inl (1, (W * H), .inl (wlF wl (ay * W + ax)))) := ⟨_, rfl⟩
        refine ms_W.heq eG_34 ?_
        have hFo_35 : ms_fb (E5 m aw am ai ah) n G G_34 := by rw [eG_34]; exact ms_fb.up hFo_1 (by first | exact Or.inl (by omega) | exact Or.inr rfl | exact Or.inr (Or.inl rfl) | exact Or.inr (Or.inr (Or.inl rfl)) | exact Or.inr (Or.inr (Or.inr rfl)) | exact Or.inr (Or.inr rfl) | exact Or.inr (Or.inr (Or.inr (Or.inl rfl))) | exact Or.inr (Or.inr (Or.inr (Or.inr (Or.inl rfl)))) | exact Or.inr (Or.inr (Or.inr (Or.inr (Or.inr rfl)))))
        have hf_36 := (congrFun eG_34 m).trans ((ms_up_n K_f1 _ (by omega)).trans hm_1)
        have hf_37 : G_34 aw = some (.inl (1, (W * H), .inl (wlF wl (ay * W + ax)))) := by rw [eG_34]; exact ms_up_s _ _ _
        have hf_38 := (congrFun eG_34 am).trans ((ms_up_n K_f1 _ (by omega)).trans hk_1)
        have hf_39 := (congrFun eG_34 ai).trans ((ms_up_n K_f1 _ (by omega)).trans hi_1)
        have hf_40 := (congrFun eG_34 ah).trans ((ms_up_n K_f1 _ (by omega)).trans hh_1)
        have hf_41 := (congrFun eG_34 n).trans ((ms_up_n K_f1 _ (by omega)).trans hrow1)
        refine ms_run (pc' := 68) (lv' := [(5, .ref n), (4, .int (nI (ay * W + ax))), (0, .ref m), (1, .int (nI g)), (2, .int aa), (3, .int bb)]) (st' := [.int (nI g), .ref m]) _ (ms_deC dX6_farWith_66 (ms_deC dX6_farWith_67 ms_deN)) rfl rfl ?_
        refine ms_W.room (k2 := 2 + 0) (z2 := 392 + 0) ?_ (by omega) (by omega)
        refine ms_callV (As := [.int (nI g)]) dX6_farWith_68 (c_X6_far (show md_at G_34 m aw am ai ah W H 0 X.2.2.2 dr pa cnt (wlF wl (ay * W + ax)) mm X.2.1 X.1 from ⟨hf_36, hf_37, hf_38, ⟨_, hf_39, hit_1⟩, hf_40⟩) hW hH hc hl2 hW0 hL hmm (gi := g) hg) cv_X6_75 hf_36 rfl ⟨Nat.le_of_ble_eq_true rfl, Nat.le_of_ble_eq_true rfl⟩ rfl (Nat.le_of_ble_eq_true rfl) (fun v9 n9 K_f2 hp9 => ?_)
        obtain ⟨hv9, rfl, hF_f2, hrow2⟩ := hp9
        cases hv9
        have hMf2 := md_at.fb (show md_at G_34 m aw am ai ah W H 0 X.2.2.2 dr pa cnt (wlF wl (ay * W + ax)) mm X.2.1 X.1 from ⟨hf_36, hf_37, hf_38, ⟨_, hf_39, hit_1⟩, hf_40⟩) hF_f2 hl2
        obtain ⟨hm_2, hw_2, hk_2, ⟨it_2, hi_2, hit_2⟩, hh_2⟩ := id hMf2
        have hFo_2 := ms_fb.trans hFo_35 hF_f2 (by omega)
        have hrow3 := (hF_f2.at n (by omega)).trans hf_41
        refine ms_run (pc' := 74) (lv' := [(6, .ref (n + 2)), (5, .ref n), (4, .int (nI (ay * W + ax))), (0, .ref m), (1, .int (nI g)), (2, .int aa), (3, .int bb)]) (st' := [.ref m]) _ (ms_deC dX6_farWith_71 (ms_deC dX6_farWith_73 ms_deN)) rfl rfl ?_
        refine ms_getf dX6_farWith_74 fg_X6_29 hm_2 rfl ?_
        refine ms_run (pc' := 80) (lv' := [(6, .ref (n + 2)), (5, .ref n), (4, .int (nI (ay * W + ax))), (0, .ref m), (1, .int (nI g)), (2, .int aa), (3, .int bb)]) (st' := [.ref m, .int (nI (ay * W + ax)), .ref aw]) _ (ms_deC dX6_farWith_77 (ms_deC dX6_farWith_79 ms_deN)) rfl rfl ?_
        refine ms_getf dX6_farWith_80 fg_X6_29 hm_2 rfl ?_
        refine ms_run (pc' := 85) (lv' := [(6, .ref (n + 2)), (5, .ref n), (4, .int (nI (ay * W + ax))), (0, .ref m), (1, .int (nI g)), (2, .int aa), (3, .int bb)]) (st' := [.int (nI (ay * W + ax)), .ref aw, .int (nI (ay * W + ax)), .ref aw]) _ (ms_deC dX6_farWith_83 ms_deN) rfl rfl ?_
        refine ms_zaload dX6_farWith_85 hw_2 (vp_in_nI hlf (by omega)) ?_
        rw [show (wlF wl (ay * W + ax)) (nI (ay * W + ax)).toNatClampNeg = wlF wl (ay * W + ax) (ay * W + ax) from by rw [nI_clamp (by omega)]]
        refine ms_if_ne (tgt := 93) dX6_farWith_86 (by decide) (fun h_86 => ?_) (fun h_86 => ?_)
        · skip
          have hw0 : wl (ay * W + ax) = 0 := Decidable.byContradiction (fun z9 => h_86 (by rw [wlF_at, if_neg z9]))
          refine ms_run (pc' := 94) (lv' := [(6, .ref (n + 2)), (5, .ref n), (4, .int (nI (ay * W + ax))), (0, .ref m), (1, .int (nI g)), (2, .int aa), (3, .int bb)]) (st' := [.int 0, .int (nI (ay * W + ax)), .ref aw]) _ (ms_deC dX6_farWith_93 ms_deN) rfl rfl ?_
          refine ms_zastore dX6_farWith_94 hw_2 (vp_in_nI hlf (by omega)) ?_
          rw [show vp_nar .boolean 0 = 0 from rfl, show (nI (ay * W + ax)).toNatClampNeg = ay * W + ax from nI_clamp (by omega), wlF_back hw0]
          obtain ⟨G_42, eG_42⟩ : ∃ K9 : ms_H, K9 = ms_up K_f2 aw (.inl (1, (W * H), .inl wl)) := ⟨_, rfl⟩
          refine ms_W.heq eG_42 ?_
          have hFo_43 : ms_fb (E5 m aw am ai ah) n G G_42 := by rw [eG_42]; exact ms_fb.up hFo_2 (by first | exact Or.inl (by omega) | exact Or.inr rfl | exact Or.inr (Or.inl rfl) | exact Or.inr (Or.inr (Or.inl rfl)) | exact Or.inr (Or.inr (Or.inr rfl)) | exact Or.inr (Or.inr rfl) | exact Or.inr (Or.inr (Or.inr (Or.inl rfl))) | exact Or.inr (Or.inr (Or.inr (Or.inr (Or.inl rfl)))) | exact Or.inr (Or.inr (Or.inr (Or.inr (Or.inr rfl)))))
          have hf_44 := (congrFun eG_42 m).trans ((ms_up_n K_f2 _ (by omega)).trans hm_2)
          have hf_45 : G_42 aw = some (.inl (1, (W * H), .inl wl)) := by rw [eG_42]; exact ms_up_s _ _ _
          have hf_46 := (congrFun eG_42 am).trans ((ms_up_n K_f2 _ (by omega)).trans hk_2)
          have hf_47 := (congrFun eG_42 ai).trans ((ms_up_n K_f2 _ (by omega)).trans hi_2)
          have hf_48 := (congrFun eG_42 ah).trans ((ms_up_n K_f2 _ (by omega)).trans hh_2)
          have hf_49 := (congrFun eG_42 n).trans ((ms_up_n K_f2 _ (by omega)).trans hrow3)
          have hf_50 := (congrFun eG_42 (n + 2)).trans ((ms_up_n K_f2 _ (by omega)).trans hrow2)
          refine ms_run (pc' := 101) (lv' := [(8, .int 0), (7, .int 0), (6, .ref (n + 2)), (5, .ref n), (4, .int (nI (ay * W + ax))), (0, .ref m), (1, .int (nI g)), (2, .int aa), (3, .int bb)]) (st' := []) _ (ms_deC dX6_farWith_95 (ms_deC dX6_farWith_96 (ms_deC dX6_farWith_98 (ms_deC dX6_farWith_99 ms_deN)))) rfl rfl ?_
          have hth : th_far W H (nI g) aa bb = none := by unfold th_far; rw [if_neg (by rintro (z9 | z9); exact z9 (gl_isI hg); rw [hfe] at z9; exact nI_m1 (by omega) z9)]
          have hMz := (show md_at G_42 m aw am ai ah W H 0 X.2.2.2 dr pa cnt wl mm X.2.1 X.1 from ⟨hf_44, hf_45, hf_46, ⟨_, hf_47, hit_2⟩, hf_48⟩)
          refine ms_W.conseq (P := ms_p1 (some (.int (nI (ct (pOth wl (dXg (W * H) nr wl mk g) (dXg (W * H) nr (wlF wl (ay * W + ax)) mk g) (ay * W + ax)) (W * H))))) (n + 2 + 2) G_42) ?_ (fun r9 n9 G9 h9 => ?_)
          refine ms_W.sub (lv2 := [(0, _), (4, _), (5, _), (6, _), (7, _), (8, _)]) ?_ [5, 4, 3, 2, 1, 0] rfl
          exact l_X6_farWith hMz hW hH hlf hf_49 hf_50 (W * H) 0 (by omega)
          obtain ⟨q1, rfl, rfl⟩ := h9
          rw [q1]
          refine mq_P.ok hth (by omega) hFo_43 ?_ hMz
          rw [hfe, nI_clamp (n := ay * W + ax) (by omega), nI_clamp (n := g) (by omega)]
          congr 2
          refine ct_congr (fun k hk => ba ?_)
          unfold pOth
          rw [decide_eq_true_eq, decide_eq_true_eq]
          have x1 : ds (g * 196 + k) = (dXg (W * H) nr wl mk g) k := hds g hg k hk
          have x2 : rq (W * H) ds g (dXg (W * H) nr (wlF wl (ay * W + ax)) mk g) (g * 196 + k) = (dXg (W * H) nr (wlF wl (ay * W + ax)) mk g) k := rq_get hk
          show (¬ k = ay * W + ax ∧ wl k = 0 ∧ ¬ (dXg (W * H) nr wl mk g) k = (dXg (W * H) nr (wlF wl (ay * W + ax)) mk g) k) ↔ (¬ k = ay * W + ax ∧ wl k = 0 ∧ ¬ ds (g * 196 + k) = rq (W * H) ds g (dXg (W * H) nr (wlF wl (ay * W + ax)) mk g) (g * 196 + k))
          rw [x1, x2]
        · skip
          have hw1 : wl (ay * W + ax) = 1 := (hwl (ay * W + ax)).resolve_left (fun z9 => by rw [wlF_at, if_pos z9] at h_86; exact absurd h_86 (by decide))
          refine ms_run (pc' := 90) (lv' := [(6, .ref (n + 2)), (5, .ref n), (4, .int (nI (ay * W + ax))), (0, .ref m), (1, .int (nI g)), (2, .int aa), (3, .int bb)]) (st' := [.int 1, .int (nI (ay * W + ax)), .ref aw]) _ (ms_deC dX6_farWith_89 ms_deN) rfl rfl ?_
          refine ms_goto (tgt := 94) dX6_farWith_90 (by decide) ?_
          refine ms_zastore dX6_farWith_94 hw_2 (vp_in_nI hlf (by omega)) ?_
          rw [show vp_nar .boolean 1 = 1 from rfl, show (nI (ay * W + ax)).toNatClampNeg = ay * W + ax from nI_clamp (by omega), wlF_back hw1]
          obtain ⟨G_51, eG_51⟩ : ∃ K9 : ms_H, K9 = ms_up K_f2 aw (.inl (1, (W * H), .inl wl)) := ⟨_, rfl⟩
          refine ms_W.heq eG_51 ?_
          have hFo_52 : ms_fb (E5 m aw am ai ah) n G G_51 := by rw [eG_51]; exact ms_fb.up hFo_2 (by first | exact Or.inl (by omega) | exact Or.inr rfl | exact Or.inr (Or.inl rfl) | exact Or.inr (Or.inr (Or.inl rfl)) | exact Or.inr (Or.inr (Or.inr rfl)) | exact Or.inr (Or.inr rfl) | exact Or.inr (Or.inr (Or.inr (Or.inl rfl))) | exact Or.inr (Or.inr (Or.inr (Or.inr (Or.inl rfl)))) | exact Or.inr (Or.inr (Or.inr (Or.inr (Or.inr rfl)))))
          have hf_53 := (congrFun eG_51 m).trans ((ms_up_n K_f2 _ (by omega)).trans hm_2)
          have hf_54 : G_51 aw = some (.inl (1, (W * H), .inl wl)) := by rw [eG_51]; exact ms_up_s _ _ _
          have hf_55 := (congrFun eG_51 am).trans ((ms_up_n K_f2 _ (by omega)).trans hk_2)
          have hf_56 := (congrFun eG_51 ai).trans ((ms_up_n K_f2 _ (by omega)).trans hi_2)
          have hf_57 := (congrFun eG_51 ah).trans ((ms_up_n K_f2 _ (by omega)).trans hh_2)
          have hf_58 := (congrFun eG_51 n).trans ((ms_up_n K_f2 _ (by omega)).trans hrow3)
          have hf_59 := (congrFun eG_51 (n + 2)).trans ((ms_up_n K_f2 _ (by omega)).trans hrow2)
          refine ms_run (pc' := 101) (lv' := [(8, .int 0), (7, .int 0), (6, .ref (n + 2)), (5, .ref n), (4, .int (nI (ay * W + ax))), (0, .ref m), (1, .int (nI g)), (2, .int aa), (3, .int bb)]) (st' := []) _ (ms_deC dX6_farWith_95 (ms_deC dX6_farWith_96 (ms_deC dX6_farWith_98 (ms_deC dX6_farWith_99 ms_deN)))) rfl rfl ?_
          have hth : th_far W H (nI g) aa bb = none := by unfold th_far; rw [if_neg (by rintro (z9 | z9); exact z9 (gl_isI hg); rw [hfe] at z9; exact nI_m1 (by omega) z9)]
          have hMz := (show md_at G_51 m aw am ai ah W H 0 X.2.2.2 dr pa cnt wl mm X.2.1 X.1 from ⟨hf_53, hf_54, hf_55, ⟨_, hf_56, hit_2⟩, hf_57⟩)
          refine ms_W.conseq (P := ms_p1 (some (.int (nI (ct (pOth wl (dXg (W * H) nr wl mk g) (dXg (W * H) nr (wlF wl (ay * W + ax)) mk g) (ay * W + ax)) (W * H))))) (n + 2 + 2) G_51) ?_ (fun r9 n9 G9 h9 => ?_)
          refine ms_W.sub (lv2 := [(0, _), (4, _), (5, _), (6, _), (7, _), (8, _)]) ?_ [5, 4, 3, 2, 1, 0] rfl
          exact l_X6_farWith hMz hW hH hlf hf_58 hf_59 (W * H) 0 (by omega)
          obtain ⟨q1, rfl, rfl⟩ := h9
          rw [q1]
          refine mq_P.ok hth (by omega) hFo_52 ?_ hMz
          rw [hfe, nI_clamp (n := ay * W + ax) (by omega), nI_clamp (n := g) (by omega)]
          congr 2
          refine ct_congr (fun k hk => ba ?_)
          unfold pOth
          rw [decide_eq_true_eq, decide_eq_true_eq]
          have x1 : ds (g * 196 + k) = (dXg (W * H) nr wl mk g) k := hds g hg k hk
          have x2 : rq (W * H) ds g (dXg (W * H) nr (wlF wl (ay * W + ax)) mk g) (g * 196 + k) = (dXg (W * H) nr (wlF wl (ay * W + ax)) mk g) k := rq_get hk
          show (¬ k = ay * W + ax ∧ wl k = 0 ∧ ¬ (dXg (W * H) nr wl mk g) k = (dXg (W * H) nr (wlF wl (ay * W + ax)) mk g) k) ↔ (¬ k = ay * W + ax ∧ wl k = 0 ∧ ¬ ds (g * 196 + k) = rq (W * H) ds g (dXg (W * H) nr (wlF wl (ay * W + ax)) mk g) (g * 196 + k))
          rw [x1, x2]
    · rw [show ms_b (gr_ins (nI W) (nI H) aa bb) = 0 from if_neg hins]
      refine ms_if_ne (tgt := 27) dX6_farWith_18 (by decide) (fun h9 => absurd h9 (by decide)) (fun _ => ?_)
      refine ms_run (pc' := 23) (lv' := [(0, .ref m), (1, .int (nI g)), (2, .int aa), (3, .int bb)]) (st' := [.int 1, .ref m]) _ (ms_deC dX6_farWith_21 (ms_deC dX6_farWith_22 ms_deN)) rfl rfl ?_
      refine ms_callV0 (As := [.int 1]) dX6_farWith_23 (c_X6_no (show md_at G_1 m aw am ai ah W H 0 X.2.2.2 dr pa cnt wl mm X.2.1 X.1 from ⟨hf_3, hf_4, hf_5, ⟨it, hf_6, hit⟩, hf_7⟩) hne9 1) cv_X6_79 hf_3 rfl ⟨Nat.le_of_ble_eq_true rfl, Nat.le_of_ble_eq_true rfl⟩ rfl (Nat.le_of_ble_eq_true rfl) (fun v9 n9 K_no hp9 => ?_)
      obtain ⟨hv9, rfl, hF_no, hM_no⟩ := hp9
      cases hv9
      refine ms_reti (st := []) (ty := .int) dX6_farWith_26 rfl rfl ?_
      exact mq_P.no (show th_far _ _ _ _ _ = some IOB from if_pos (by first | exact Or.inl hgl | exact Or.inr (ins_no hins))) (by omega) (ms_fb.trans2 hF_2 (hF_no.mono (fun a h => Or.inl h)) (by omega)) rfl hM_no
  · rw [show ms_b (gl_is gl) = 0 from if_neg hgl]
    refine ms_if_eq (tgt := 21) dX6_farWith_9 (by decide) (fun _ => ?_) (fun h9 => absurd h9 (by decide))
    refine ms_run (pc' := 23) (lv' := [(0, .ref m), (1, .int gl), (2, .int aa), (3, .int bb)]) (st' := [.int 1, .ref m]) _ (ms_deC dX6_farWith_21 (ms_deC dX6_farWith_22 ms_deN)) rfl rfl ?_
    refine ms_callV0 (As := [.int 1]) dX6_farWith_23 (c_X6_no (show md_at G_1 m aw am ai ah W H 0 X.2.2.2 dr pa cnt wl mm X.2.1 X.1 from ⟨hf_3, hf_4, hf_5, ⟨it, hf_6, hit⟩, hf_7⟩) hne9 1) cv_X6_79 hf_3 rfl ⟨Nat.le_of_ble_eq_true rfl, Nat.le_of_ble_eq_true rfl⟩ rfl (Nat.le_of_ble_eq_true rfl) (fun v9 n9 K_no hp9 => ?_)
    obtain ⟨hv9, rfl, hF_no, hM_no⟩ := hp9
    cases hv9
    refine ms_reti (st := []) (ty := .int) dX6_farWith_26 rfl rfl ?_
    exact mq_P.no (show th_far _ _ _ _ _ = some IOB from if_pos (by first | exact Or.inl hgl | exact Or.inr (ins_no hins))) (by omega) (ms_fb.trans2 hF_2 (hF_no.mono (fun a h => Or.inl h)) (by omega)) rfl hM_no

/-! the model: mark -/
set_option maxHeartbeats 1000000 in
set_option maxRecDepth 20000 in
theorem l_X6_mark {n m aw am ai ah W H cnt : Nat} {G : ms_H} {th cl dr pa : Int32} {wl mm ht : Nat → Int32} {u : Nat → Nat → Int32} (hM : md_at G m aw am ai ah W H th cl dr pa cnt wl mm ht u) (hW : W ≤ 14) (hH : H ≤ 14) (hc : cnt ≤ 24) {mk : Nat → Int32} (hmm : mmR (W * H) mk mm) {g : Nat} (hg : g < 4) : ∀ (r k : Nat), k + r = W * H →  ms_W false m_X6_mark (ms_p1 (some (.int (nI (ct (pMark mk g) (W * H))))) n G) 125 [(0, .ref m), (1, .int (nI g)), (6, .int (nI (ct (pMark mk g) k))), (7, .int (nI k))] [] n G 0 0 := by
  obtain ⟨hm, hw_, hk_, ⟨it, hi_, hit⟩, hh_⟩ := hM
  have h196 := fd_196 hW hH
  intro r
  induction r with
  | zero =>
    intro k hk 
    have hkN : k = W * H := by omega
    refine ms_run (pc' := 128) (lv' := [(0, .ref m), (1, .int (nI g)), (6, .int (nI (ct (pMark mk g) k))), (7, .int (nI k))]) (st' := [.ref m, .int (nI k)]) _ (ms_deC dX6_mark_125 (ms_deC dX6_mark_127 ms_deN)) rfl rfl ?_
    refine ms_getf dX6_mark_128 fg_X6_20 hm rfl ?_
    refine ms_run (pc' := 132) (lv' := [(0, .ref m), (1, .int (nI g)), (6, .int (nI (ct (pMark mk g) k))), (7, .int (nI k))]) (st' := [.ref m, .int (nI W), .int (nI k)]) _ (ms_deC dX6_mark_131 ms_deN) rfl rfl ?_
    refine ms_getf dX6_mark_132 fg_X6_23 hm rfl ?_
    refine ms_run (pc' := 136) (lv' := [(0, .ref m), (1, .int (nI g)), (6, .int (nI (ct (pMark mk g) k))), (7, .int (nI k))]) (st' := [.int ((nI W) * (nI H)), .int (nI k)]) _ (ms_deC dX6_mark_135 ms_deN) rfl rfl ?_
    rw [show nI W * nI H = nI (W * H) from pk_mul W H]
    refine ms_icmp_ge (tgt := 177) dX6_mark_136 (by decide) (fun h_136 => ?_) (fun h_136 => ?_)
    · skip
      refine ms_run (pc' := 179) (lv' := [(0, .ref m), (1, .int (nI g)), (6, .int (nI (ct (pMark mk g) k))), (7, .int (nI k))]) (st' := [.int (nI (ct (pMark mk g) k))]) _ (ms_deC dX6_mark_177 ms_deN) rfl rfl ?_
      refine ms_reti (st := []) (ty := .int) dX6_mark_179 rfl rfl ?_
      exact ms_p1.mk (by rw [hkN]) rfl
    · skip
      exact absurd (by exact nI_le (b := k) (by omega) (by omega)) h_136
  | succ r ih =>
    intro k hk 
    have hlt : k < W * H := by omega
    refine ms_run (pc' := 128) (lv' := [(0, .ref m), (1, .int (nI g)), (6, .int (nI (ct (pMark mk g) k))), (7, .int (nI k))]) (st' := [.ref m, .int (nI k)]) _ (ms_deC dX6_mark_125 (ms_deC dX6_mark_127 ms_deN)) rfl rfl ?_
    refine ms_getf dX6_mark_128 fg_X6_20 hm rfl ?_
    refine ms_run (pc' := 132) (lv' := [(0, .ref m), (1, .int (nI g)), (6, .int (nI (ct (pMark mk g) k))), (7, .int (nI k))]) (st' := [.ref m, .int (nI W), .int (nI k)]) _ (ms_deC dX6_mark_131 ms_deN) rfl rfl ?_
    refine ms_getf dX6_mark_132 fg_X6_23 hm rfl ?_
    refine ms_run (pc' := 136) (lv' := [(0, .ref m), (1, .int (nI g)), (6, .int (nI (ct (pMark mk g) k))), (7, .int (nI k))]) (st' := [.int ((nI W) * (nI H)), .int (nI k)]) _ (ms_deC dX6_mark_135 ms_deN) rfl rfl ?_
    rw [show nI W * nI H = nI (W * H) from pk_mul W H]
    refine ms_icmp_ge (tgt := 177) dX6_mark_136 (by decide) (fun h_136 => ?_) (fun h_136 => ?_)
    · skip
      exact absurd h_136 (by exact nI_ge (b := W * H) (by omega) (by omega))
    · skip
      refine ms_run (pc' := 142) (lv' := [(0, .ref m), (1, .int (nI g)), (6, .int (nI (ct (pMark mk g) k))), (7, .int (nI k))]) (st' := [.ref m, .int (nI (ct (pMark mk g) k))]) _ (ms_deC dX6_mark_139 (ms_deC dX6_mark_141 ms_deN)) rfl rfl ?_
      refine ms_getf dX6_mark_142 fg_X6_33 hm rfl ?_
      refine ms_run (pc' := 147) (lv' := [(0, .ref m), (1, .int (nI g)), (6, .int (nI (ct (pMark mk g) k))), (7, .int (nI k))]) (st' := [.ref m, .int (nI g), .ref am, .int (nI (ct (pMark mk g) k))]) _ (ms_deC dX6_mark_145 (ms_deC dX6_mark_146 ms_deN)) rfl rfl ?_
      refine ms_getf dX6_mark_147 fg_X6_20 hm rfl ?_
      refine ms_run (pc' := 152) (lv' := [(0, .ref m), (1, .int (nI g)), (6, .int (nI (ct (pMark mk g) k))), (7, .int (nI k))]) (st' := [.ref m, .int ((nI g) * (nI W)), .ref am, .int (nI (ct (pMark mk g) k))]) _ (ms_deC dX6_mark_150 (ms_deC dX6_mark_151 ms_deN)) rfl rfl ?_
      refine ms_getf dX6_mark_152 fg_X6_23 hm rfl ?_
      refine ms_run (pc' := 159) (lv' := [(0, .ref m), (1, .int (nI g)), (6, .int (nI (ct (pMark mk g) k))), (7, .int (nI k))]) (st' := [.int ((((nI g) * (nI W)) * (nI H)) + (nI k)), .ref am, .int (nI (ct (pMark mk g) k))]) _ (ms_deC dX6_mark_155 (ms_deC dX6_mark_156 (ms_deC dX6_mark_158 ms_deN))) rfl rfl ?_
      refine ms_zaload dX6_mark_159 hk_ (by rw [mm_a]; exact mm_in hg hlt h196) ?_
      rw [mm_a, mm_ld hmm hg hlt h196]
      refine ms_if_eq (tgt := 167) dX6_mark_160 (by decide) (fun h_160 => ?_) (fun h_160 => ?_)
      · skip
        refine ms_run (pc' := 174) (lv' := [(7, .int ((nI k) + 1)), (6, .int ((nI (ct (pMark mk g) k)) + 0)), (0, .ref m), (1, .int (nI g))]) (st' := []) _ (ms_deC dX6_mark_167 (ms_deC dX6_mark_168 (ms_deC dX6_mark_169 (ms_deC dX6_mark_171 ms_deN)))) rfl rfl ?_
        refine ms_goto (tgt := 125) dX6_mark_174 (by decide) ?_
        have hp : pMark mk g k = false := decide_eq_false (ms_b_0.mp h_160)
        rw [Int32.add_zero, ct_f hp]
        rw [nI_1 k]
        refine ms_W.sub (lv2 := [(0, _), (1, _), (6, _), (7, _)]) ?_ [2, 3, 1, 0] rfl
        exact ih (k + 1) (by omega)
      · skip
        refine ms_run (pc' := 164) (lv' := [(0, .ref m), (1, .int (nI g)), (6, .int (nI (ct (pMark mk g) k))), (7, .int (nI k))]) (st' := [.int 1, .int (nI (ct (pMark mk g) k))]) _ (ms_deC dX6_mark_163 ms_deN) rfl rfl ?_
        refine ms_goto (tgt := 168) dX6_mark_164 (by decide) ?_
        refine ms_run (pc' := 174) (lv' := [(7, .int ((nI k) + 1)), (6, .int ((nI (ct (pMark mk g) k)) + 1)), (0, .ref m), (1, .int (nI g))]) (st' := []) _ (ms_deC dX6_mark_168 (ms_deC dX6_mark_169 (ms_deC dX6_mark_171 ms_deN))) rfl rfl ?_
        refine ms_goto (tgt := 125) dX6_mark_174 (by decide) ?_
        have hp : pMark mk g k = true := decide_eq_true (fun z9 => h_160 (ms_b_0.mpr (not_not_intro z9)))
        rw [ct_t hp]
        rw [nI_1 k]
        refine ms_W.sub (lv2 := [(0, _), (1, _), (6, _), (7, _)]) ?_ [2, 3, 1, 0] rfl
        exact ih (k + 1) (by omega)
set_option maxHeartbeats 1000000 in
set_option maxRecDepth 20000 in
theorem c_X6_mark {n m aw am ai ah W H cnt N : Nat} {G : ms_H} {th dr pa : Int32} {wl mm : Nat → Int32} {X : cX} {nr mk ds : Nat → Int32} (hM : md_at G m aw am ai ah W H th X.2.2.2 dr pa cnt wl mm X.2.1 X.1) (hl : md_lt n m aw am ai ah) (hW : W ≤ 14) (hH : H ≤ 14) (hW0 : 0 < W) (hc : cnt ≤ 24) (hne : md_ne m aw am ai ah) (hL : lk_ok W H (W * H) nr) (hmm : mmR (W * H) mk mm) (hds : dsR (W * H) nr wl mk ds) (hd : 0 ≤ dr ∧ dr ≤ 9) (hN : N < 1000000) (hV : wdV W H cnt N X) (gl aa bb : Int32) : ms_M m_X6_mark [.ref m, .int gl, .int aa, .int bb] n G 0 0 (mq_P n G (E5 m aw am ai ah) (th_mrk W H cnt X gl aa bb) (fun e => if e = IOB then 1 else 2) (.int (nI (ct (pMark (mkF mk gl.toNatClampNeg (gr_num (nI W) (nI H) aa bb).toNatClampNeg) gl.toNatClampNeg) (W * H)))) (fun t G1 => md_at G1 m aw am ai ah W H t X.2.2.2 dr pa cnt wl mm X.2.1 X.1) (fun G1 => ∃ mm9, mmR (W * H) (mkF mk gl.toNatClampNeg (gr_num (nI W) (nI H) aa bb).toNatClampNeg) mm9 ∧ md_at G1 m aw am ai ah W H 0 X.2.2.2 dr pa cnt wl mm9 X.2.1 X.1)) := by
  refine ms_M.of (by decide) (Nat.le_of_ble_eq_true rfl) ?_
  show ms_W false m_X6_mark _ 0 [(0, .ref m), (1, .int gl), (2, .int aa), (3, .int bb)] [] n G 0 0
  have hl9 := hl
  have hne9 := hne
  obtain ⟨hm, hw_, hk_, ⟨it, hi_, hit⟩, hh_⟩ := hM
  obtain ⟨l1, l2, l3, l4, l5⟩ := hl
  obtain ⟨n1, n2, n3, n4, n5, n6, n7, n8, n9, n10⟩ := hne
  have h196 := fd_196 hW hH
  have hF : ms_fb (E5 m aw am ai ah) n G G := ms_fb.rf
  refine ms_run (pc' := 2) (lv' := [(0, .ref m), (1, .int gl), (2, .int aa), (3, .int bb)]) (st' := [.int 0, .ref m]) _ (ms_deC dX6_mark_0 (ms_deC dX6_mark_1 ms_deN)) rfl rfl ?_
  refine ms_putf dX6_mark_2 fp_X6_46 hm (Nat.le_of_ble_eq_true rfl) rfl rfl ?_
  obtain ⟨G_1, eG_1⟩ : ∃ K9 : ms_H, K9 = ms_up G m (.inr (6, [.int 0, .int (nI W), .int (nI H), .int X.2.2.2, .int dr, .int pa, .ref aw, .ref am, .int (nI cnt), .ref ai, .ref ah])) := ⟨_, rfl⟩
  refine ms_W.heq eG_1 ?_
  have hF_2 : ms_fb (E5 m aw am ai ah) n G G_1 := by rw [eG_1]; exact ms_fb.up hF (by first | exact Or.inl (by omega) | exact Or.inr rfl | exact Or.inr (Or.inl rfl) | exact Or.inr (Or.inr (Or.inl rfl)) | exact Or.inr (Or.inr (Or.inr rfl)) | exact Or.inr (Or.inr rfl) | exact Or.inr (Or.inr (Or.inr (Or.inl rfl))) | exact Or.inr (Or.inr (Or.inr (Or.inr (Or.inl rfl)))) | exact Or.inr (Or.inr (Or.inr (Or.inr (Or.inr rfl)))))
  have hf_3 : G_1 m = some (.inr (6, [.int 0, .int (nI W), .int (nI H), .int X.2.2.2, .int dr, .int pa, .ref aw, .ref am, .int (nI cnt), .ref ai, .ref ah])) := by rw [eG_1]; exact ms_up_s _ _ _
  have hf_4 := (congrFun eG_1 aw).trans ((ms_up_n G _ (by omega)).trans hw_)
  have hf_5 := (congrFun eG_1 am).trans ((ms_up_n G _ (by omega)).trans hk_)
  have hf_6 := (congrFun eG_1 ai).trans ((ms_up_n G _ (by omega)).trans hi_)
  have hf_7 := (congrFun eG_1 ah).trans ((ms_up_n G _ (by omega)).trans hh_)
  refine ms_run (pc' := 6) (lv' := [(0, .ref m), (1, .int gl), (2, .int aa), (3, .int bb)]) (st' := [.int gl]) _ (ms_deC dX6_mark_5 ms_deN) rfl rfl ?_
  refine ms_callSp (As := [.int gl]) dX6_mark_6 (c_X6_isGoal gl) cs_X6_91 rfl ⟨Nat.le_of_ble_eq_true rfl, Nat.le_of_ble_eq_true rfl⟩ rfl (Nat.le_of_ble_eq_true rfl) ?_
  by_cases hgl : gl_is gl
  · rw [show ms_b (gl_is gl) = 1 from if_pos hgl]
    obtain ⟨g, hg, hge⟩ := gl_nI hgl
    subst hge
    refine ms_if_eq (tgt := 21) dX6_mark_9 (by decide) (fun h9 => absurd h9 (by decide)) (fun _ => ?_)
    refine ms_run (pc' := 15) (lv' := [(0, .ref m), (1, .int (nI g)), (2, .int aa), (3, .int bb)]) (st' := [.int bb, .int aa, .ref m]) _ (ms_deC dX6_mark_12 (ms_deC dX6_mark_13 (ms_deC dX6_mark_14 ms_deN))) rfl rfl ?_
    refine ms_callVp (As := [.int aa, .int bb]) dX6_mark_15 (c_X6_isField (show md_at G_1 m aw am ai ah W H 0 X.2.2.2 dr pa cnt wl mm X.2.1 X.1 from ⟨hf_3, hf_4, hf_5, ⟨it, hf_6, hit⟩, hf_7⟩) hW hH hc aa bb) cv_X6_57 hf_3 rfl ⟨Nat.le_of_ble_eq_true rfl, Nat.le_of_ble_eq_true rfl⟩ rfl (Nat.le_of_ble_eq_true rfl) ?_
    by_cases hins : gr_ins (nI W) (nI H) aa bb
    · rw [show ms_b (gr_ins (nI W) (nI H) aa bb) = 1 from if_pos hins]
      obtain ⟨ax, ay, hax, hay, hae, hbe, hfe⟩ := ins_nat hW hH hins
      have hlf : ay * W + ax < W * H := fd_lt hax hay
      refine ms_if_ne (tgt := 27) dX6_mark_18 (by decide) (fun _ => ?_) (fun h9 => absurd h9 (by decide))
      refine ms_run (pc' := 29) (lv' := [(0, .ref m), (1, .int (nI g)), (2, .int aa), (3, .int bb)]) (st' := [.ref m, .int bb]) _ (ms_deC dX6_mark_27 (ms_deC dX6_mark_28 ms_deN)) rfl rfl ?_
      refine ms_getf dX6_mark_29 fg_X6_20 hf_3 rfl ?_
      refine ms_run (pc' := 40) (lv' := [(4, .int ((bb * (nI W)) + aa)), (0, .ref m), (1, .int (nI g)), (2, .int aa), (3, .int bb)]) (st' := [.int ((bb * (nI W)) + aa), .ref m]) _ (ms_deC dX6_mark_32 (ms_deC dX6_mark_33 (ms_deC dX6_mark_34 (ms_deC dX6_mark_35 (ms_deC dX6_mark_37 (ms_deC dX6_mark_38 ms_deN)))))) rfl rfl ?_
      rw [show (bb * (nI W)) + aa = nI (ay * W + ax) from by rw [hae, hbe, ix_xy]]
      refine ms_callVp (As := [.int (nI (ay * W + ax))]) dX6_mark_40 (c_X6_walkerOn (show md_at G_1 m aw am ai ah W H 0 X.2.2.2 dr pa cnt wl mm X.2.1 X.1 from ⟨hf_3, hf_4, hf_5, ⟨it, hf_6, hit⟩, hf_7⟩) hW hH hc hV.1 hlf) cv_X6_88 hf_3 rfl ⟨Nat.le_of_ble_eq_true rfl, Nat.le_of_ble_eq_true rfl⟩ rfl (Nat.le_of_ble_eq_true rfl) ?_
      refine ms_run (pc' := 48) (lv' := [(5, .int (X.2.2.1 (ay * W + ax))), (4, .int (nI (ay * W + ax))), (0, .ref m), (1, .int (nI g)), (2, .int aa), (3, .int bb)]) (st' := [.int (-1), .int (X.2.2.1 (ay * W + ax))]) _ (ms_deC dX6_mark_43 (ms_deC dX6_mark_45 (ms_deC dX6_mark_47 ms_deN))) rfl rfl ?_
      refine ms_icmp_eq (tgt := 73) dX6_mark_48 (by decide) (fun h_48 => ?_) (fun h_48 => ?_)
      · skip
        refine ms_run (pc' := 74) (lv' := [(5, .int (X.2.2.1 (ay * W + ax))), (4, .int (nI (ay * W + ax))), (0, .ref m), (1, .int (nI g)), (2, .int aa), (3, .int bb)]) (st' := [.ref m]) _ (ms_deC dX6_mark_73 ms_deN) rfl rfl ?_
        refine ms_getf dX6_mark_74 fg_X6_33 hf_3 rfl ?_
        refine ms_run (pc' := 79) (lv' := [(5, .int (X.2.2.1 (ay * W + ax))), (4, .int (nI (ay * W + ax))), (0, .ref m), (1, .int (nI g)), (2, .int aa), (3, .int bb)]) (st' := [.ref m, .int (nI g), .ref am]) _ (ms_deC dX6_mark_77 (ms_deC dX6_mark_78 ms_deN)) rfl rfl ?_
        refine ms_getf dX6_mark_79 fg_X6_20 hf_3 rfl ?_
        refine ms_run (pc' := 84) (lv' := [(5, .int (X.2.2.1 (ay * W + ax))), (4, .int (nI (ay * W + ax))), (0, .ref m), (1, .int (nI g)), (2, .int aa), (3, .int bb)]) (st' := [.ref m, .int ((nI g) * (nI W)), .ref am]) _ (ms_deC dX6_mark_82 (ms_deC dX6_mark_83 ms_deN)) rfl rfl ?_
        refine ms_getf dX6_mark_84 fg_X6_23 hf_3 rfl ?_
        refine ms_run (pc' := 92) (lv' := [(5, .int (X.2.2.1 (ay * W + ax))), (4, .int (nI (ay * W + ax))), (0, .ref m), (1, .int (nI g)), (2, .int aa), (3, .int bb)]) (st' := [.ref m, .int ((((nI g) * (nI W)) * (nI H)) + (nI (ay * W + ax))), .ref am]) _ (ms_deC dX6_mark_87 (ms_deC dX6_mark_88 (ms_deC dX6_mark_90 (ms_deC dX6_mark_91 ms_deN)))) rfl rfl ?_
        refine ms_getf dX6_mark_92 fg_X6_33 hf_3 rfl ?_
        refine ms_run (pc' := 97) (lv' := [(5, .int (X.2.2.1 (ay * W + ax))), (4, .int (nI (ay * W + ax))), (0, .ref m), (1, .int (nI g)), (2, .int aa), (3, .int bb)]) (st' := [.ref m, .int (nI g), .ref am, .int ((((nI g) * (nI W)) * (nI H)) + (nI (ay * W + ax))), .ref am]) _ (ms_deC dX6_mark_95 (ms_deC dX6_mark_96 ms_deN)) rfl rfl ?_
        refine ms_getf dX6_mark_97 fg_X6_20 hf_3 rfl ?_
        refine ms_run (pc' := 102) (lv' := [(5, .int (X.2.2.1 (ay * W + ax))), (4, .int (nI (ay * W + ax))), (0, .ref m), (1, .int (nI g)), (2, .int aa), (3, .int bb)]) (st' := [.ref m, .int ((nI g) * (nI W)), .ref am, .int ((((nI g) * (nI W)) * (nI H)) + (nI (ay * W + ax))), .ref am]) _ (ms_deC dX6_mark_100 (ms_deC dX6_mark_101 ms_deN)) rfl rfl ?_
        refine ms_getf dX6_mark_102 fg_X6_23 hf_3 rfl ?_
        refine ms_run (pc' := 109) (lv' := [(5, .int (X.2.2.1 (ay * W + ax))), (4, .int (nI (ay * W + ax))), (0, .ref m), (1, .int (nI g)), (2, .int aa), (3, .int bb)]) (st' := [.int ((((nI g) * (nI W)) * (nI H)) + (nI (ay * W + ax))), .ref am, .int ((((nI g) * (nI W)) * (nI H)) + (nI (ay * W + ax))), .ref am]) _ (ms_deC dX6_mark_105 (ms_deC dX6_mark_106 (ms_deC dX6_mark_108 ms_deN))) rfl rfl ?_
        refine ms_zaload dX6_mark_109 hf_5 (by rw [mm_a]; exact mm_in hg hlf h196) ?_
        rw [show mm ((((nI g) * (nI W)) * (nI H)) + (nI (ay * W + ax))).toNatClampNeg = ms_b (¬ mk (ay * W + ax) &&& (1 <<< (nI g &&& 31)) = 0) from by rw [mm_a, mm_ld hmm hg hlf h196]]
        refine ms_if_ne (tgt := 117) dX6_mark_110 (by decide) (fun h_110 => ?_) (fun h_110 => ?_)
        · skip
          refine ms_run (pc' := 118) (lv' := [(5, .int (X.2.2.1 (ay * W + ax))), (4, .int (nI (ay * W + ax))), (0, .ref m), (1, .int (nI g)), (2, .int aa), (3, .int bb)]) (st' := [.int 0, .int ((((nI g) * (nI W)) * (nI H)) + (nI (ay * W + ax))), .ref am]) _ (ms_deC dX6_mark_117 ms_deN) rfl rfl ?_
          refine ms_zastore dX6_mark_118 hf_5 (by rw [mm_a]; exact mm_in hg hlf h196) ?_
          rw [show (nI g * nI W * nI H + nI (ay * W + ax)).toNatClampNeg = g * (W * H) + (ay * W + ax) from by rw [mm_a, mm_ix, nI_clamp (by have := mm_lt hg hlf; omega)], show vp_nar .boolean 0 = 0 from rfl]
          have hmm2 : mmR (W * H) (mkF mk g (ay * W + ax)) (upd mm (g * (W * H) + (ay * W + ax)) 0) := hmm.turn hg hlf (if_neg (fun z9 => h_110 (ms_b_0.mpr (not_not_intro z9)))).symm
          obtain ⟨G_8, eG_8⟩ : ∃ K9 : ms_H, K9 = ms_up G_1 am (.inl (1, (4 * (W * H)), .inl (upd mm (g * (W * H) + (ay * W + ax)) 0))) := ⟨_, rfl⟩
          refine ms_W.heq eG_8 ?_
          have hF_9 : ms_fb (E5 m aw am ai ah) n G G_8 := by rw [eG_8]; exact ms_fb.up hF_2 (by first | exact Or.inl (by omega) | exact Or.inr rfl | exact Or.inr (Or.inl rfl) | exact Or.inr (Or.inr (Or.inl rfl)) | exact Or.inr (Or.inr (Or.inr rfl)) | exact Or.inr (Or.inr rfl) | exact Or.inr (Or.inr (Or.inr (Or.inl rfl))) | exact Or.inr (Or.inr (Or.inr (Or.inr (Or.inl rfl)))) | exact Or.inr (Or.inr (Or.inr (Or.inr (Or.inr rfl)))))
          have hf_10 := (congrFun eG_8 m).trans ((ms_up_n G_1 _ (by omega)).trans hf_3)
          have hf_11 := (congrFun eG_8 aw).trans ((ms_up_n G_1 _ (by omega)).trans hf_4)
          have hf_12 : G_8 am = some (.inl (1, (4 * (W * H)), .inl (upd mm (g * (W * H) + (ay * W + ax)) 0))) := by rw [eG_8]; exact ms_up_s _ _ _
          have hf_13 := (congrFun eG_8 ai).trans ((ms_up_n G_1 _ (by omega)).trans hf_6)
          have hf_14 := (congrFun eG_8 ah).trans ((ms_up_n G_1 _ (by omega)).trans hf_7)
          refine ms_run (pc' := 125) (lv' := [(7, .int 0), (6, .int 0), (5, .int (X.2.2.1 (ay * W + ax))), (4, .int (nI (ay * W + ax))), (0, .ref m), (1, .int (nI g)), (2, .int aa), (3, .int bb)]) (st' := []) _ (ms_deC dX6_mark_119 (ms_deC dX6_mark_120 (ms_deC dX6_mark_122 (ms_deC dX6_mark_123 ms_deN)))) rfl rfl ?_
          have hth : th_mrk W H cnt X (nI g) aa bb = none := by unfold th_mrk; rw [if_neg (by rintro (z9 | z9); exact z9 (gl_isI hg); rw [hfe] at z9; exact nI_m1 (by omega) z9), hfe, cr_onI X.2.2.1 (by omega), if_neg (by rintro ⟨z9, z8⟩; first | (rw [h_48] at z9; exact absurd z9.1 (by decide)) | (rw [ek9, nI_clamp (by omega)] at z8; exact h_64 z8))]
          refine ms_W.conseq (P := ms_p1 (some (.int (nI (ct (pMark (mkF mk g (ay * W + ax)) g) (W * H))))) n G_8) ?_ (fun r9 n9 G9 h9 => ?_)
          refine ms_W.sub (lv2 := [(0, _), (1, _), (6, _), (7, _)]) ?_ [4, 5, 1, 0] rfl
          exact l_X6_mark ⟨hf_10, hf_11, hf_12, ⟨it, hf_13, hit⟩, hf_14⟩ hW hH hc hmm2 hg (W * H) 0 (by omega)
          obtain ⟨q1, rfl, rfl⟩ := h9
          rw [q1]
          exact mq_P.ok hth (Nat.le_refl _) hF_9 (by rw [hfe, nI_clamp (n := ay * W + ax) (by omega), nI_clamp (n := g) (by omega)]) ⟨_, by rw [hfe, nI_clamp (n := ay * W + ax) (by omega), nI_clamp (n := g) (by omega)]; exact hmm2, ⟨hf_10, hf_11, hf_12, ⟨it, hf_13, hit⟩, hf_14⟩⟩
        · skip
          refine ms_run (pc' := 114) (lv' := [(5, .int (X.2.2.1 (ay * W + ax))), (4, .int (nI (ay * W + ax))), (0, .ref m), (1, .int (nI g)), (2, .int aa), (3, .int bb)]) (st' := [.int 1, .int ((((nI g) * (nI W)) * (nI H)) + (nI (ay * W + ax))), .ref am]) _ (ms_deC dX6_mark_113 ms_deN) rfl rfl ?_
          refine ms_goto (tgt := 118) dX6_mark_114 (by decide) ?_
          refine ms_zastore dX6_mark_118 hf_5 (by rw [mm_a]; exact mm_in hg hlf h196) ?_
          rw [show (nI g * nI W * nI H + nI (ay * W + ax)).toNatClampNeg = g * (W * H) + (ay * W + ax) from by rw [mm_a, mm_ix, nI_clamp (by have := mm_lt hg hlf; omega)], show vp_nar .boolean 1 = 1 from rfl]
          have hmm2 : mmR (W * H) (mkF mk g (ay * W + ax)) (upd mm (g * (W * H) + (ay * W + ax)) 1) := hmm.turn hg hlf (if_pos (Decidable.not_not.mp (ms_b_0.mp h_110))).symm
          obtain ⟨G_15, eG_15⟩ : ∃ K9 : ms_H, K9 = ms_up G_1 am (.inl (1, (4 * (W * H)), .inl (upd mm (g * (W * H) + (ay * W + ax)) 1))) := ⟨_, rfl⟩
          refine ms_W.heq eG_15 ?_
          have hF_16 : ms_fb (E5 m aw am ai ah) n G G_15 := by rw [eG_15]; exact ms_fb.up hF_2 (by first | exact Or.inl (by omega) | exact Or.inr rfl | exact Or.inr (Or.inl rfl) | exact Or.inr (Or.inr (Or.inl rfl)) | exact Or.inr (Or.inr (Or.inr rfl)) | exact Or.inr (Or.inr rfl) | exact Or.inr (Or.inr (Or.inr (Or.inl rfl))) | exact Or.inr (Or.inr (Or.inr (Or.inr (Or.inl rfl)))) | exact Or.inr (Or.inr (Or.inr (Or.inr (Or.inr rfl)))))
          have hf_17 := (congrFun eG_15 m).trans ((ms_up_n G_1 _ (by omega)).trans hf_3)
          have hf_18 := (congrFun eG_15 aw).trans ((ms_up_n G_1 _ (by omega)).trans hf_4)
          have hf_19 : G_15 am = some (.inl (1, (4 * (W * H)), .inl (upd mm (g * (W * H) + (ay * W + ax)) 1))) := by rw [eG_15]; exact ms_up_s _ _ _
          have hf_20 := (congrFun eG_15 ai).trans ((ms_up_n G_1 _ (by omega)).trans hf_6)
          have hf_21 := (congrFun eG_15 ah).trans ((ms_up_n G_1 _ (by omega)).trans hf_7)
          refine ms_run (pc' := 125) (lv' := [(7, .int 0), (6, .int 0), (5, .int (X.2.2.1 (ay * W + ax))), (4, .int (nI (ay * W + ax))), (0, .ref m), (1, .int (nI g)), (2, .int aa), (3, .int bb)]) (st' := []) _ (ms_deC dX6_mark_119 (ms_deC dX6_mark_120 (ms_deC dX6_mark_122 (ms_deC dX6_mark_123 ms_deN)))) rfl rfl ?_
          have hth : th_mrk W H cnt X (nI g) aa bb = none := by unfold th_mrk; rw [if_neg (by rintro (z9 | z9); exact z9 (gl_isI hg); rw [hfe] at z9; exact nI_m1 (by omega) z9), hfe, cr_onI X.2.2.1 (by omega), if_neg (by rintro ⟨z9, z8⟩; first | (rw [h_48] at z9; exact absurd z9.1 (by decide)) | (rw [ek9, nI_clamp (by omega)] at z8; exact h_64 z8))]
          refine ms_W.conseq (P := ms_p1 (some (.int (nI (ct (pMark (mkF mk g (ay * W + ax)) g) (W * H))))) n G_15) ?_ (fun r9 n9 G9 h9 => ?_)
          refine ms_W.sub (lv2 := [(0, _), (1, _), (6, _), (7, _)]) ?_ [4, 5, 1, 0] rfl
          exact l_X6_mark ⟨hf_17, hf_18, hf_19, ⟨it, hf_20, hit⟩, hf_21⟩ hW hH hc hmm2 hg (W * H) 0 (by omega)
          obtain ⟨q1, rfl, rfl⟩ := h9
          rw [q1]
          exact mq_P.ok hth (Nat.le_refl _) hF_16 (by rw [hfe, nI_clamp (n := ay * W + ax) (by omega), nI_clamp (n := g) (by omega)]) ⟨_, by rw [hfe, nI_clamp (n := ay * W + ax) (by omega), nI_clamp (n := g) (by omega)]; exact hmm2, ⟨hf_17, hf_18, hf_19, ⟨it, hf_20, hit⟩, hf_21⟩⟩
      · skip
        obtain ⟨k9, hk9, ek9, ep9, eu9⟩ := (hV.1 (ay * W + ax) hlf).resolve_left (fun z9 => h_48 z9.1)
        rw [ek9]
        refine ms_run (pc' := 52) (lv' := [(5, .int (nI k9)), (4, .int (nI (ay * W + ax))), (0, .ref m), (1, .int (nI g)), (2, .int aa), (3, .int bb)]) (st' := [.ref m]) _ (ms_deC dX6_mark_51 ms_deN) rfl rfl ?_
        refine ms_getf dX6_mark_52 fg_X6_39 hf_3 rfl ?_
        refine ms_run (pc' := 62) (lv' := [(5, .int (nI k9)), (4, .int (nI (ay * W + ax))), (0, .ref m), (1, .int (nI g)), (2, .int aa), (3, .int bb)]) (st' := [.int (((nI k9) * 8) + 0), .ref ai]) _ (ms_deC dX6_mark_55 (ms_deC dX6_mark_57 (ms_deC dX6_mark_59 (ms_deC dX6_mark_60 (ms_deC dX6_mark_61 ms_deN))))) rfl rfl ?_
        refine ms_iaload dX6_mark_62 hf_6 (md_in (k := k9) (j := 0) (Nat.lt_of_lt_of_le hk9 hc) (by omega)) ?_
        rw [show it (((nI k9) * 8) + 0).toNatClampNeg = X.1 k9 0 from md_it (k := k9) (j := 0) hit hk9 hc (by omega)]
        refine ms_run (pc' := 64) (lv' := [(5, .int (nI k9)), (4, .int (nI (ay * W + ax))), (0, .ref m), (1, .int (nI g)), (2, .int aa), (3, .int bb)]) (st' := [.int (nI g), .int (X.1 k9 0)]) _ (ms_deC dX6_mark_63 ms_deN) rfl rfl ?_
        refine ms_icmp_ne (tgt := 73) dX6_mark_64 (by decide) (fun h_64 => ?_) (fun h_64 => ?_)
        · skip
          refine ms_run (pc' := 74) (lv' := [(5, .int (nI k9)), (4, .int (nI (ay * W + ax))), (0, .ref m), (1, .int (nI g)), (2, .int aa), (3, .int bb)]) (st' := [.ref m]) _ (ms_deC dX6_mark_73 ms_deN) rfl rfl ?_
          refine ms_getf dX6_mark_74 fg_X6_33 hf_3 rfl ?_
          refine ms_run (pc' := 79) (lv' := [(5, .int (nI k9)), (4, .int (nI (ay * W + ax))), (0, .ref m), (1, .int (nI g)), (2, .int aa), (3, .int bb)]) (st' := [.ref m, .int (nI g), .ref am]) _ (ms_deC dX6_mark_77 (ms_deC dX6_mark_78 ms_deN)) rfl rfl ?_
          refine ms_getf dX6_mark_79 fg_X6_20 hf_3 rfl ?_
          refine ms_run (pc' := 84) (lv' := [(5, .int (nI k9)), (4, .int (nI (ay * W + ax))), (0, .ref m), (1, .int (nI g)), (2, .int aa), (3, .int bb)]) (st' := [.ref m, .int ((nI g) * (nI W)), .ref am]) _ (ms_deC dX6_mark_82 (ms_deC dX6_mark_83 ms_deN)) rfl rfl ?_
          refine ms_getf dX6_mark_84 fg_X6_23 hf_3 rfl ?_
          refine ms_run (pc' := 92) (lv' := [(5, .int (nI k9)), (4, .int (nI (ay * W + ax))), (0, .ref m), (1, .int (nI g)), (2, .int aa), (3, .int bb)]) (st' := [.ref m, .int ((((nI g) * (nI W)) * (nI H)) + (nI (ay * W + ax))), .ref am]) _ (ms_deC dX6_mark_87 (ms_deC dX6_mark_88 (ms_deC dX6_mark_90 (ms_deC dX6_mark_91 ms_deN)))) rfl rfl ?_
          refine ms_getf dX6_mark_92 fg_X6_33 hf_3 rfl ?_
          refine ms_run (pc' := 97) (lv' := [(5, .int (nI k9)), (4, .int (nI (ay * W + ax))), (0, .ref m), (1, .int (nI g)), (2, .int aa), (3, .int bb)]) (st' := [.ref m, .int (nI g), .ref am, .int ((((nI g) * (nI W)) * (nI H)) + (nI (ay * W + ax))), .ref am]) _ (ms_deC dX6_mark_95 (ms_deC dX6_mark_96 ms_deN)) rfl rfl ?_
          refine ms_getf dX6_mark_97 fg_X6_20 hf_3 rfl ?_
          refine ms_run (pc' := 102) (lv' := [(5, .int (nI k9)), (4, .int (nI (ay * W + ax))), (0, .ref m), (1, .int (nI g)), (2, .int aa), (3, .int bb)]) (st' := [.ref m, .int ((nI g) * (nI W)), .ref am, .int ((((nI g) * (nI W)) * (nI H)) + (nI (ay * W + ax))), .ref am]) _ (ms_deC dX6_mark_100 (ms_deC dX6_mark_101 ms_deN)) rfl rfl ?_
          refine ms_getf dX6_mark_102 fg_X6_23 hf_3 rfl ?_
          refine ms_run (pc' := 109) (lv' := [(5, .int (nI k9)), (4, .int (nI (ay * W + ax))), (0, .ref m), (1, .int (nI g)), (2, .int aa), (3, .int bb)]) (st' := [.int ((((nI g) * (nI W)) * (nI H)) + (nI (ay * W + ax))), .ref am, .int ((((nI g) * (nI W)) * (nI H)) + (nI (ay * W + ax))), .ref am]) _ (ms_deC dX6_mark_105 (ms_deC dX6_mark_106 (ms_deC dX6_mark_108 ms_deN))) rfl rfl ?_
          refine ms_zaload dX6_mark_109 hf_5 (by rw [mm_a]; exact mm_in hg hlf h196) ?_
          rw [show mm ((((nI g) * (nI W)) * (nI H)) + (nI (ay * W + ax))).toNatClampNeg = ms_b (¬ mk (ay * W + ax) &&& (1 <<< (nI g &&& 31)) = 0) from by rw [mm_a, mm_ld hmm hg hlf h196]]
          refine ms_if_ne (tgt := 117) dX6_mark_110 (by decide) (fun h_110 => ?_) (fun h_110 => ?_)
          · skip
            refine ms_run (pc' := 118) (lv' := [(5, .int (nI k9)), (4, .int (nI (ay * W + ax))), (0, .ref m), (1, .int (nI g)), (2, .int aa), (3, .int bb)]) (st' := [.int 0, .int ((((nI g) * (nI W)) * (nI H)) + (nI (ay * W + ax))), .ref am]) _ (ms_deC dX6_mark_117 ms_deN) rfl rfl ?_
            refine ms_zastore dX6_mark_118 hf_5 (by rw [mm_a]; exact mm_in hg hlf h196) ?_
            rw [show (nI g * nI W * nI H + nI (ay * W + ax)).toNatClampNeg = g * (W * H) + (ay * W + ax) from by rw [mm_a, mm_ix, nI_clamp (by have := mm_lt hg hlf; omega)], show vp_nar .boolean 0 = 0 from rfl]
            have hmm2 : mmR (W * H) (mkF mk g (ay * W + ax)) (upd mm (g * (W * H) + (ay * W + ax)) 0) := hmm.turn hg hlf (if_neg (fun z9 => h_110 (ms_b_0.mpr (not_not_intro z9)))).symm
            obtain ⟨G_22, eG_22⟩ : ∃ K9 : ms_H, K9 = ms_up G_1 am (.inl (1, (4 * (W * H)), .inl (upd mm (g * (W * H) + (ay * W + ax)) 0))) := ⟨_, rfl⟩
            refine ms_W.heq eG_22 ?_
            have hF_23 : ms_fb (E5 m aw am ai ah) n G G_22 := by rw [eG_22]; exact ms_fb.up hF_2 (by first | exact Or.inl (by omega) | exact Or.inr rfl | exact Or.inr (Or.inl rfl) | exact Or.inr (Or.inr (Or.inl rfl)) | exact Or.inr (Or.inr (Or.inr rfl)) | exact Or.inr (Or.inr rfl) | exact Or.inr (Or.inr (Or.inr (Or.inl rfl))) | exact Or.inr (Or.inr (Or.inr (Or.inr (Or.inl rfl)))) | exact Or.inr (Or.inr (Or.inr (Or.inr (Or.inr rfl)))))
            have hf_24 := (congrFun eG_22 m).trans ((ms_up_n G_1 _ (by omega)).trans hf_3)
            have hf_25 := (congrFun eG_22 aw).trans ((ms_up_n G_1 _ (by omega)).trans hf_4)
            have hf_26 : G_22 am = some (.inl (1, (4 * (W * H)), .inl (upd mm (g * (W * H) + (ay * W + ax)) 0))) := by rw [eG_22]; exact ms_up_s _ _ _
            have hf_27 := (congrFun eG_22 ai).trans ((ms_up_n G_1 _ (by omega)).trans hf_6)
            have hf_28 := (congrFun eG_22 ah).trans ((ms_up_n G_1 _ (by omega)).trans hf_7)
            refine ms_run (pc' := 125) (lv' := [(7, .int 0), (6, .int 0), (5, .int (nI k9)), (4, .int (nI (ay * W + ax))), (0, .ref m), (1, .int (nI g)), (2, .int aa), (3, .int bb)]) (st' := []) _ (ms_deC dX6_mark_119 (ms_deC dX6_mark_120 (ms_deC dX6_mark_122 (ms_deC dX6_mark_123 ms_deN)))) rfl rfl ?_
            have hth : th_mrk W H cnt X (nI g) aa bb = none := by unfold th_mrk; rw [if_neg (by rintro (z9 | z9); exact z9 (gl_isI hg); rw [hfe] at z9; exact nI_m1 (by omega) z9), hfe, cr_onI X.2.2.1 (by omega), if_neg (by rintro ⟨z9, z8⟩; first | (rw [h_48] at z9; exact absurd z9.1 (by decide)) | (rw [ek9, nI_clamp (by omega)] at z8; exact h_64 z8))]
            refine ms_W.conseq (P := ms_p1 (some (.int (nI (ct (pMark (mkF mk g (ay * W + ax)) g) (W * H))))) n G_22) ?_ (fun r9 n9 G9 h9 => ?_)
            refine ms_W.sub (lv2 := [(0, _), (1, _), (6, _), (7, _)]) ?_ [4, 5, 1, 0] rfl
            exact l_X6_mark ⟨hf_24, hf_25, hf_26, ⟨it, hf_27, hit⟩, hf_28⟩ hW hH hc hmm2 hg (W * H) 0 (by omega)
            obtain ⟨q1, rfl, rfl⟩ := h9
            rw [q1]
            exact mq_P.ok hth (Nat.le_refl _) hF_23 (by rw [hfe, nI_clamp (n := ay * W + ax) (by omega), nI_clamp (n := g) (by omega)]) ⟨_, by rw [hfe, nI_clamp (n := ay * W + ax) (by omega), nI_clamp (n := g) (by omega)]; exact hmm2, ⟨hf_24, hf_25, hf_26, ⟨it, hf_27, hit⟩, hf_28⟩⟩
          · skip
            refine ms_run (pc' := 114) (lv' := [(5, .int (nI k9)), (4, .int (nI (ay * W + ax))), (0, .ref m), (1, .int (nI g)), (2, .int aa), (3, .int bb)]) (st' := [.int 1, .int ((((nI g) * (nI W)) * (nI H)) + (nI (ay * W + ax))), .ref am]) _ (ms_deC dX6_mark_113 ms_deN) rfl rfl ?_
            refine ms_goto (tgt := 118) dX6_mark_114 (by decide) ?_
            refine ms_zastore dX6_mark_118 hf_5 (by rw [mm_a]; exact mm_in hg hlf h196) ?_
            rw [show (nI g * nI W * nI H + nI (ay * W + ax)).toNatClampNeg = g * (W * H) + (ay * W + ax) from by rw [mm_a, mm_ix, nI_clamp (by have := mm_lt hg hlf; omega)], show vp_nar .boolean 1 = 1 from rfl]
            have hmm2 : mmR (W * H) (mkF mk g (ay * W + ax)) (upd mm (g * (W * H) + (ay * W + ax)) 1) := hmm.turn hg hlf (if_pos (Decidable.not_not.mp (ms_b_0.mp h_110))).symm
            obtain ⟨G_29, eG_29⟩ : ∃ K9 : ms_H, K9 = ms_up G_1 am (.inl (1, (4 * (W * H)), .inl (upd mm (g * (W * H) + (ay * W + ax)) 1))) := ⟨_, rfl⟩
            refine ms_W.heq eG_29 ?_
            have hF_30 : ms_fb (E5 m aw am ai ah) n G G_29 := by rw [eG_29]; exact ms_fb.up hF_2 (by first | exact Or.inl (by omega) | exact Or.inr rfl | exact Or.inr (Or.inl rfl) | exact Or.inr (Or.inr (Or.inl rfl)) | exact Or.inr (Or.inr (Or.inr rfl)) | exact Or.inr (Or.inr rfl) | exact Or.inr (Or.inr (Or.inr (Or.inl rfl))) | exact Or.inr (Or.inr (Or.inr (Or.inr (Or.inl rfl)))) | exact Or.inr (Or.inr (Or.inr (Or.inr (Or.inr rfl)))))
            have hf_31 := (congrFun eG_29 m).trans ((ms_up_n G_1 _ (by omega)).trans hf_3)
            have hf_32 := (congrFun eG_29 aw).trans ((ms_up_n G_1 _ (by omega)).trans hf_4)
            have hf_33 : G_29 am = some (.inl (1, (4 * (W * H)), .inl (upd mm (g * (W * H) + (ay * W + ax)) 1))) := by rw [eG_29]; exact ms_up_s _ _ _
            have hf_34 := (congrFun eG_29 ai).trans ((ms_up_n G_1 _ (by omega)).trans hf_6)
            have hf_35 := (congrFun eG_29 ah).trans ((ms_up_n G_1 _ (by omega)).trans hf_7)
            refine ms_run (pc' := 125) (lv' := [(7, .int 0), (6, .int 0), (5, .int (nI k9)), (4, .int (nI (ay * W + ax))), (0, .ref m), (1, .int (nI g)), (2, .int aa), (3, .int bb)]) (st' := []) _ (ms_deC dX6_mark_119 (ms_deC dX6_mark_120 (ms_deC dX6_mark_122 (ms_deC dX6_mark_123 ms_deN)))) rfl rfl ?_
            have hth : th_mrk W H cnt X (nI g) aa bb = none := by unfold th_mrk; rw [if_neg (by rintro (z9 | z9); exact z9 (gl_isI hg); rw [hfe] at z9; exact nI_m1 (by omega) z9), hfe, cr_onI X.2.2.1 (by omega), if_neg (by rintro ⟨z9, z8⟩; first | (rw [h_48] at z9; exact absurd z9.1 (by decide)) | (rw [ek9, nI_clamp (by omega)] at z8; exact h_64 z8))]
            refine ms_W.conseq (P := ms_p1 (some (.int (nI (ct (pMark (mkF mk g (ay * W + ax)) g) (W * H))))) n G_29) ?_ (fun r9 n9 G9 h9 => ?_)
            refine ms_W.sub (lv2 := [(0, _), (1, _), (6, _), (7, _)]) ?_ [4, 5, 1, 0] rfl
            exact l_X6_mark ⟨hf_31, hf_32, hf_33, ⟨it, hf_34, hit⟩, hf_35⟩ hW hH hc hmm2 hg (W * H) 0 (by omega)
            obtain ⟨q1, rfl, rfl⟩ := h9
            rw [q1]
            exact mq_P.ok hth (Nat.le_refl _) hF_30 (by rw [hfe, nI_clamp (n := ay * W + ax) (by omega), nI_clamp (n := g) (by omega)]) ⟨_, by rw [hfe, nI_clamp (n := ay * W + ax) (by omega), nI_clamp (n := g) (by omega)]; exact hmm2, ⟨hf_31, hf_32, hf_33, ⟨it, hf_34, hit⟩, hf_35⟩⟩
        · skip
          refine ms_run (pc' := 69) (lv' := [(5, .int (nI k9)), (4, .int (nI (ay * W + ax))), (0, .ref m), (1, .int (nI g)), (2, .int aa), (3, .int bb)]) (st' := [.int 2, .ref m]) _ (ms_deC dX6_mark_67 (ms_deC dX6_mark_68 ms_deN)) rfl rfl ?_
          refine ms_callV0 (As := [.int 2]) dX6_mark_69 (c_X6_no (show md_at G_1 m aw am ai ah W H 0 X.2.2.2 dr pa cnt wl mm X.2.1 X.1 from ⟨hf_3, hf_4, hf_5, ⟨it, hf_6, hit⟩, hf_7⟩) hne9 2) cv_X6_79 hf_3 rfl ⟨Nat.le_of_ble_eq_true rfl, Nat.le_of_ble_eq_true rfl⟩ rfl (Nat.le_of_ble_eq_true rfl) (fun v9 n9 K_no hp9 => ?_)
          obtain ⟨hv9, rfl, hF_no, hM_no⟩ := hp9
          cases hv9
          refine ms_reti (st := []) (ty := .int) dX6_mark_72 rfl rfl ?_
          exact mq_P.no (show th_mrk W H cnt X (nI g) aa bb = some ISE from by unfold th_mrk; rw [if_neg (by rintro (z9 | z9); exact z9 (gl_isI hg); rw [hfe] at z9; exact nI_m1 (by omega) z9), hfe, cr_onI X.2.2.1 (by omega), ek9, if_pos ⟨pIs_of hc hk9, by rw [nI_clamp (by omega)]; first | exact h_64 | exact Decidable.not_not.mp h_64⟩]) (by omega) (ms_fb.trans2 hF_2 (hF_no.mono (fun a h => Or.inl h)) (by omega)) rfl hM_no
    · rw [show ms_b (gr_ins (nI W) (nI H) aa bb) = 0 from if_neg hins]
      refine ms_if_ne (tgt := 27) dX6_mark_18 (by decide) (fun h9 => absurd h9 (by decide)) (fun _ => ?_)
      refine ms_run (pc' := 23) (lv' := [(0, .ref m), (1, .int (nI g)), (2, .int aa), (3, .int bb)]) (st' := [.int 1, .ref m]) _ (ms_deC dX6_mark_21 (ms_deC dX6_mark_22 ms_deN)) rfl rfl ?_
      refine ms_callV0 (As := [.int 1]) dX6_mark_23 (c_X6_no (show md_at G_1 m aw am ai ah W H 0 X.2.2.2 dr pa cnt wl mm X.2.1 X.1 from ⟨hf_3, hf_4, hf_5, ⟨it, hf_6, hit⟩, hf_7⟩) hne9 1) cv_X6_79 hf_3 rfl ⟨Nat.le_of_ble_eq_true rfl, Nat.le_of_ble_eq_true rfl⟩ rfl (Nat.le_of_ble_eq_true rfl) (fun v9 n9 K_no hp9 => ?_)
      obtain ⟨hv9, rfl, hF_no, hM_no⟩ := hp9
      cases hv9
      refine ms_reti (st := []) (ty := .int) dX6_mark_26 rfl rfl ?_
      exact mq_P.no (show th_mrk _ _ _ _ _ _ _ = some IOB from if_pos (by first | exact Or.inl hgl | exact Or.inr (ins_no hins))) (by omega) (ms_fb.trans2 hF_2 (hF_no.mono (fun a h => Or.inl h)) (by omega)) rfl hM_no
  · rw [show ms_b (gl_is gl) = 0 from if_neg hgl]
    refine ms_if_eq (tgt := 21) dX6_mark_9 (by decide) (fun _ => ?_) (fun h9 => absurd h9 (by decide))
    refine ms_run (pc' := 23) (lv' := [(0, .ref m), (1, .int gl), (2, .int aa), (3, .int bb)]) (st' := [.int 1, .ref m]) _ (ms_deC dX6_mark_21 (ms_deC dX6_mark_22 ms_deN)) rfl rfl ?_
    refine ms_callV0 (As := [.int 1]) dX6_mark_23 (c_X6_no (show md_at G_1 m aw am ai ah W H 0 X.2.2.2 dr pa cnt wl mm X.2.1 X.1 from ⟨hf_3, hf_4, hf_5, ⟨it, hf_6, hit⟩, hf_7⟩) hne9 1) cv_X6_79 hf_3 rfl ⟨Nat.le_of_ble_eq_true rfl, Nat.le_of_ble_eq_true rfl⟩ rfl (Nat.le_of_ble_eq_true rfl) (fun v9 n9 K_no hp9 => ?_)
    obtain ⟨hv9, rfl, hF_no, hM_no⟩ := hp9
    cases hv9
    refine ms_reti (st := []) (ty := .int) dX6_mark_26 rfl rfl ?_
    exact mq_P.no (show th_mrk _ _ _ _ _ _ _ = some IOB from if_pos (by first | exact Or.inl hgl | exact Or.inr (ins_no hins))) (by omega) (ms_fb.trans2 hF_2 (hF_no.mono (fun a h => Or.inl h)) (by omega)) rfl hM_no

/-! StarlingSquare: the calls (4): meanSteps, mark, wall, digest -/
def mnX (cnt : Nat) (X : cX) : UInt64 := if ct (pOut X.1) cnt = 0 then 0 else FP.ddiv (FP.i2d (sm (vStep 1 X.1) cnt)) (FP.i2d (nI (ct (pOut X.1) cnt)))
def th_mrk (W H : Nat) (cnt : Nat) (X : cX) (gl a b : Int32) : Option String := if ¬ gl_is gl ∨ gr_num (nI W) (nI H) a b = -1 then some IOB else if pIs (nI cnt) (cr_on X.2.2.1 (gr_num (nI W) (nI H) a b)) ∧ X.1 (cr_on X.2.2.1 (gr_num (nI W) (nI H) a b)).toNatClampNeg 0 = gl then some ISE else none
def mkF (mk : Nat → Int32) (gi f : Nat) : Nat → Int32 := upd mk f (mk f ^^^ (1 <<< (nI gi &&& 31)))
set_option maxHeartbeats 4000000 in
set_option maxRecDepth 20000 in
theorem c_X5_mark {n x g q c j q2 c2 W H : Nat} {G : ms_H} {nr wl mk ds : Nat → Int32} {cnt : Nat} {dr pa : Int32} {X : cX} (ho : ox x g q c j q2 c2) (hS : xs_at G x g q c j q2 c2 W H nr wl mk ds cnt dr pa X) (hc : cnt ≤ 24) (hW : W ≤ 14) (hH : H ≤ 14) (gl aa bb : Int32) : ms_X m_X5_mark [.ref x, .int gl, .int aa, .int bb] n G 1 6 (xq_P n G (th_mrk W H cnt X gl aa bb) (.int (nI (ct (pMark (mkF mk gl.toNatClampNeg (gr_num (nI W) (nI H) aa bb).toNatClampNeg) gl.toNatClampNeg) (W * H)))) (fun G1 => xs_at G1 x g q c j q2 c2 W H nr wl (mkF mk gl.toNatClampNeg (gr_num (nI W) (nI H) aa bb).toNatClampNeg) (rq (W * H) ds gl.toNatClampNeg (dXg (W * H) nr wl (mkF mk gl.toNatClampNeg (gr_num (nI W) (nI H) aa bb).toNatClampNeg) gl.toNatClampNeg)) cnt dr pa X ∧ ms_fr x (c2 + 29 - x) G G1)) := by
  refine ms_X.of (by decide) (Nat.le_of_ble_eq_true rfl) ?_
  show ms_W true m_X5_mark _ 0 [(0, .ref x), (1, .int gl), (2, .int aa), (3, .int bb)] [] n G 1 6
  obtain ⟨hX, hG, ⟨qu, hQ⟩, ⟨hd, cm, wk, hC, hx, hd1, hd2_, hd3, ha⟩, ⟨cn, wi, jo, sz, quj, hJ⟩, ⟨wl2, mk2, ds2, qu2, hQt⟩, ⟨hd2, on2, ht2, cm2, wk2, hCt⟩⟩ := hS
  obtain ⟨o1, o2, o3, o4, o5, o6⟩ := ho
  have hF : ms_fr x (c2 + 29 - x) G G := ms_fr.rf
  refine ms_run (pc' := 1) (lv' := [(0, .ref x), (1, .int gl), (2, .int aa), (3, .int bb)]) (st' := [.ref x]) _ (ms_deC dX5_mark_0 ms_deN) rfl rfl ?_
  refine ms_getf dX5_mark_1 fg_X5_10 hX rfl ?_
  refine ms_run (pc' := 6) (lv' := [(0, .ref x), (1, .int gl), (2, .int aa), (3, .int bb)]) (st' := [.int bb, .int aa, .ref g]) _ (ms_deC dX5_mark_4 (ms_deC dX5_mark_5 ms_deN)) rfl rfl ?_
  refine ms_callVp (As := [.int aa, .int bb]) dX5_mark_6 (c_X1_number hG aa bb) cv_X5_62 hG.1 rfl ⟨Nat.le_of_ble_eq_true rfl, Nat.le_of_ble_eq_true rfl⟩ rfl (Nat.le_of_ble_eq_true rfl) ?_
  refine ms_run (pc' := 12) (lv' := [(4, .int (gr_num (nI W) (nI H) aa bb)), (0, .ref x), (1, .int gl), (2, .int aa), (3, .int bb)]) (st' := [.int gl]) _ (ms_deC dX5_mark_9 (ms_deC dX5_mark_11 ms_deN)) rfl rfl ?_
  refine ms_callSp (As := [.int gl]) dX5_mark_12 (c_X5_isGoal gl) cs_X5_99 rfl ⟨Nat.le_of_ble_eq_true rfl, Nat.le_of_ble_eq_true rfl⟩ rfl (Nat.le_of_ble_eq_true rfl) ?_
  by_cases hgl : gl_is gl
  · rw [show ms_b (gl_is gl) = 1 from if_pos hgl]
    refine ms_if_eq (tgt := 24) dX5_mark_15 (by decide) (fun h9 => absurd h9 (by decide)) (fun _ => ?_)
    refine ms_run (pc' := 21) (lv' := [(4, .int (gr_num (nI W) (nI H) aa bb)), (0, .ref x), (1, .int gl), (2, .int aa), (3, .int bb)]) (st' := [.int (-1), .int (gr_num (nI W) (nI H) aa bb)]) _ (ms_deC dX5_mark_18 (ms_deC dX5_mark_20 ms_deN)) rfl rfl ?_
    refine ms_icmp_ne (tgt := 34) dX5_mark_21 (by decide) (fun h_21 => ?_) (fun h_21 => ?_)
    · skip
      refine ms_run (pc' := 35) (lv' := [(4, .int (gr_num (nI W) (nI H) aa bb)), (0, .ref x), (1, .int gl), (2, .int aa), (3, .int bb)]) (st' := [.ref x]) _ (ms_deC dX5_mark_34 ms_deN) rfl rfl ?_
      refine ms_getf dX5_mark_35 fg_X5_30 hX rfl ?_
      refine ms_run (pc' := 39) (lv' := [(4, .int (gr_num (nI W) (nI H) aa bb)), (0, .ref x), (1, .int gl), (2, .int aa), (3, .int bb)]) (st' := [.ref x, .ref c]) _ (ms_deC dX5_mark_38 ms_deN) rfl rfl ?_
      refine ms_getf dX5_mark_39 fg_X5_30 hX rfl ?_
      refine ms_run (pc' := 44) (lv' := [(4, .int (gr_num (nI W) (nI H) aa bb)), (0, .ref x), (1, .int gl), (2, .int aa), (3, .int bb)]) (st' := [.int (gr_num (nI W) (nI H) aa bb), .ref c, .ref c]) _ (ms_deC dX5_mark_42 ms_deN) rfl rfl ?_
      refine ms_callVp (As := [.int (gr_num (nI W) (nI H) aa bb)]) dX5_mark_44 (c_X0_numberOn hC (gr_num (nI W) (nI H) aa bb)) cv_X5_105 hC.1 rfl ⟨Nat.le_of_ble_eq_true rfl, Nat.le_of_ble_eq_true rfl⟩ rfl (Nat.le_of_ble_eq_true rfl) ?_
      refine ms_callVp (As := [.int (cr_on X.2.2.1 (gr_num (nI W) (nI H) aa bb))]) dX5_mark_47 (c_X0_get hC (cr_on X.2.2.1 (gr_num (nI W) (nI H) aa bb))) cv_X5_109 hC.1 rfl ⟨Nat.le_of_ble_eq_true rfl, Nat.le_of_ble_eq_true rfl⟩ rfl (Nat.le_of_ble_eq_true rfl) ?_
      rw [hx]
      by_cases hpi : pIs (nI cnt) (cr_on X.2.2.1 (gr_num (nI W) (nI H) aa bb))
      · rw [show cr_get c (nI cnt) (cr_on X.2.2.1 (gr_num (nI W) (nI H) aa bb)) = .ref (c + 5 + (cr_on X.2.2.1 (gr_num (nI W) (nI H) aa bb)).toNatClampNeg) from if_pos hpi]
        obtain ⟨i, hi, hki⟩ := pIs_nI hc hpi
        have hin : (cr_on X.2.2.1 (gr_num (nI W) (nI H) aa bb)).toNatClampNeg = i := by rw [hki, nI_clamp (by omega)]
        rw [hin]
        refine ms_run (pc' := 54) (lv' := [(5, .ref (c + 5 + i)), (4, .int (gr_num (nI W) (nI H) aa bb)), (0, .ref x), (1, .int gl), (2, .int aa), (3, .int bb)]) (st' := [.ref (c + 5 + i)]) _ (ms_deC dX5_mark_50 (ms_deC dX5_mark_52 ms_deN)) rfl rfl ?_
        refine ms_ifnull dX5_mark_54 ?_
        refine ms_run (pc' := 59) (lv' := [(5, .ref (c + 5 + i)), (4, .int (gr_num (nI W) (nI H) aa bb)), (0, .ref x), (1, .int gl), (2, .int aa), (3, .int bb)]) (st' := [.ref (c + 5 + i)]) _ (ms_deC dX5_mark_57 ms_deN) rfl rfl ?_
        refine ms_getf (v := .int (wk i 0)) dX5_mark_59 fg_X5_113 (hC.2.2.2.2.2 i (Nat.lt_of_lt_of_le hi hc)) rfl ?_
        refine ms_run (pc' := 63) (lv' := [(5, .ref (c + 5 + i)), (4, .int (gr_num (nI W) (nI H) aa bb)), (0, .ref x), (1, .int gl), (2, .int aa), (3, .int bb)]) (st' := [.int gl, .int (wk i 0)]) _ (ms_deC dX5_mark_62 ms_deN) rfl rfl ?_
        refine ms_icmp_ne (tgt := 76) dX5_mark_63 (by decide) (fun h_63 => ?_) (fun h_63 => ?_)
        · skip
          refine ms_run (pc' := 77) (lv' := [(5, .ref (c + 5 + i)), (4, .int (gr_num (nI W) (nI H) aa bb)), (0, .ref x), (1, .int gl), (2, .int aa), (3, .int bb)]) (st' := [.ref x]) _ (ms_deC dX5_mark_76 ms_deN) rfl rfl ?_
          refine ms_getf dX5_mark_77 fg_X5_21 hX rfl ?_
          refine ms_run (pc' := 83) (lv' := [(5, .ref (c + 5 + i)), (4, .int (gr_num (nI W) (nI H) aa bb)), (0, .ref x), (1, .int gl), (2, .int aa), (3, .int bb)]) (st' := [.int (gr_num (nI W) (nI H) aa bb), .int gl, .ref q]) _ (ms_deC dX5_mark_80 (ms_deC dX5_mark_81 ms_deN)) rfl rfl ?_
          obtain ⟨gi, hgi, hge⟩ := gl_nI hgl
          have hgN : gl.toNatClampNeg = gi := by rw [hge, nI_clamp (by omega)]
          obtain ⟨x9, y9, hx9, hy9, hae, hbe, hfe⟩ := gr_num_has hW hH h_21
          obtain ⟨f9, hf9⟩ : ∃ f9, f9 = y9 * W + x9 := ⟨_, rfl⟩
          rw [← hf9] at hfe
          have hlf : f9 < W * H := by rw [hf9]; exact fd_lt hx9 hy9
          have hfw : (gr_num (nI W) (nI H) aa bb).toNatClampNeg = f9 := by rw [hfe, nI_clamp (by have := fd_196 hW hH; omega)]
          have hth : th_mrk W H cnt X gl aa bb = none := by unfold th_mrk; rw [if_neg (by rintro (z | z); exact z hgl; exact h_21 z), if_neg (by rintro ⟨z1, z2⟩; first | exact hpi z1 | (rw [hin, ← ha i hi 0 (by omega)] at z2; exact h_63 z2))]
          rw [hth, hfw, hgN, hfe, hge]
          refine ms_callV0 (As := [.int (nI gi), .int (nI f9)]) dX5_mark_83 (c_X3_turnMark hG hQ (by omega) (nI gi) (nI f9)) cv_X5_120 hQ.1 rfl ⟨Nat.le_of_ble_eq_true rfl, Nat.le_of_ble_eq_true rfl⟩ rfl (Nat.le_of_ble_eq_true rfl) (fun v9 n9 K_tu hp9 => ?_)
          obtain ⟨hv9, rfl, ⟨qt9, hQ_tu⟩, hF_tu⟩ := hp9
          cases hv9
          rw [if_pos ⟨gl_isI hgi, gr_hasI rfl hlf (fd_196 hW hH)⟩, nI_clamp (n := f9) (by have := fd_196 hW hH; omega)] at hQ_tu
          have hG_1 : gr_at K_tu g (nI (W * H)) (nI W) (nI H) nr := gr_at.fr hG hF_tu (by omega)
          have hC_2 : cr_at K_tu g q c hd X.2.2.1 X.2.1 cm wk := cr_at.fr hC hF_tu (by omega)
          have hJ_3 : jm_at K_tu j cn wi jo sz quj := jm_at.fr hJ hF_tu (by omega)
          have hQt_4 : sq_at K_tu g q2 wl2 mk2 ds2 qu2 := sq_at.fr hQt hF_tu (by omega)
          have hCt_5 : cr_at K_tu g q2 c2 hd2 on2 ht2 cm2 wk2 := cr_at.fr hCt hF_tu (by omega)
          have hF_6 : ms_fr x (c2 + 29 - x) G K_tu := ms_fr.trans hF (ms_fr.mono hF_tu (by omega) (by omega))
          have hf_7 := (hF_tu x (by omega)).trans hX
          refine ms_run (pc' := 87) (lv' := [(5, .ref (c + 5 + i)), (4, .int (nI f9)), (0, .ref x), (1, .int (nI gi)), (2, .int aa), (3, .int bb)]) (st' := [.ref x]) _ (ms_deC dX5_mark_86 ms_deN) rfl rfl ?_
          refine ms_getf dX5_mark_87 fg_X5_21 hf_7 rfl ?_
          refine ms_run (pc' := 91) (lv' := [(5, .ref (c + 5 + i)), (4, .int (nI f9)), (0, .ref x), (1, .int (nI gi)), (2, .int aa), (3, .int bb)]) (st' := [.int (nI gi), .ref q]) _ (ms_deC dX5_mark_90 ms_deN) rfl rfl ?_
          refine ms_callV0 (As := [.int (nI gi)]) dX5_mark_91 (c_X3_measure (by omega) rfl (fd_196 hW hH) hgi hG_1 hQ_tu) cv_X5_123 hQ_tu.1 rfl ⟨Nat.le_of_ble_eq_true rfl, Nat.le_of_ble_eq_true rfl⟩ rfl (Nat.le_of_ble_eq_true rfl) (fun v9 n9 K_me hp9 => ?_)
          obtain ⟨hv9, rfl, ⟨qm9, hQ_me⟩, hF_me⟩ := hp9
          cases hv9
          have hG_8 : gr_at K_me g (nI (W * H)) (nI W) (nI H) nr := gr_at.fr hG_1 hF_me (by omega)
          have hC_9 : cr_at K_me g q c hd X.2.2.1 X.2.1 cm wk := cr_at.fr hC_2 hF_me (by omega)
          have hJ_10 : jm_at K_me j cn wi jo sz quj := jm_at.fr hJ_3 hF_me (by omega)
          have hQt_11 : sq_at K_me g q2 wl2 mk2 ds2 qu2 := sq_at.fr hQt_4 hF_me (by omega)
          have hCt_12 : cr_at K_me g q2 c2 hd2 on2 ht2 cm2 wk2 := cr_at.fr hCt_5 hF_me (by omega)
          have hF_13 : ms_fr x (c2 + 29 - x) G K_me := ms_fr.trans hF_6 (ms_fr.mono hF_me (by omega) (by omega))
          have hf_14 := (hF_me x (by omega)).trans hf_7
          refine ms_run (pc' := 95) (lv' := [(5, .ref (c + 5 + i)), (4, .int (nI f9)), (0, .ref x), (1, .int (nI gi)), (2, .int aa), (3, .int bb)]) (st' := [.ref x]) _ (ms_deC dX5_mark_94 ms_deN) rfl rfl ?_
          refine ms_getf dX5_mark_95 fg_X5_21 hf_14 rfl ?_
          refine ms_run (pc' := 99) (lv' := [(5, .ref (c + 5 + i)), (4, .int (nI f9)), (0, .ref x), (1, .int (nI gi)), (2, .int aa), (3, .int bb)]) (st' := [.int (nI gi), .ref q]) _ (ms_deC dX5_mark_98 ms_deN) rfl rfl ?_
          refine ms_callVp (As := [.int (nI gi)]) dX5_mark_99 (c_X3_countMarks hG_8 hQ_me rfl (fd_196 hW hH) hgi) cv_X5_127 hQ_me.1 rfl ⟨Nat.le_of_ble_eq_true rfl, Nat.le_of_ble_eq_true rfl⟩ rfl (Nat.le_of_ble_eq_true rfl) ?_
          refine ms_reti (st := []) (ty := .int) dX5_mark_102 rfl rfl ?_
          exact xq_P.ret rfl rfl ⟨⟨hf_14, hG_8, ⟨_, hQ_me⟩, ⟨hd, cm, wk, hC_9, hx, hd1, hd2_, hd3, ha⟩, ⟨_, _, _, _, _, hJ_10⟩, ⟨_, _, _, _, hQt_11⟩, ⟨_, _, _, _, _, hCt_12⟩⟩, hF_13⟩
        · skip
          refine ms_throw dX5_mark_66 dX5_mark_69 dX5_mark_70 dX5_mark_72 dX5_mark_75 th_X5_83_118_87 ⟨Nat.le_of_ble_eq_true rfl, Nat.le_of_ble_eq_true rfl⟩ (Nat.le_of_ble_eq_true rfl) (by omega) (by omega) (fun n1 hn1 => ?_)
          exact xq_P.thr hn1 (by unfold th_mrk; rw [if_neg (by rintro (z | z); exact z hgl; exact h_21 z), if_pos ⟨hpi, by rw [hin, ← ha i hi 0 (by omega)]; first | exact h_63 | exact Decidable.not_not.mp h_63⟩])
      · rw [show cr_get c (nI cnt) (cr_on X.2.2.1 (gr_num (nI W) (nI H) aa bb)) = .null from if_neg hpi]
        refine ms_run (pc' := 54) (lv' := [(5, .null), (4, .int (gr_num (nI W) (nI H) aa bb)), (0, .ref x), (1, .int gl), (2, .int aa), (3, .int bb)]) (st' := [.null]) _ (ms_deC dX5_mark_50 (ms_deC dX5_mark_52 ms_deN)) rfl rfl ?_
        refine ms_ifnullN (tgt := 76) dX5_mark_54 (by decide) ?_
        refine ms_run (pc' := 77) (lv' := [(5, .null), (4, .int (gr_num (nI W) (nI H) aa bb)), (0, .ref x), (1, .int gl), (2, .int aa), (3, .int bb)]) (st' := [.ref x]) _ (ms_deC dX5_mark_76 ms_deN) rfl rfl ?_
        refine ms_getf dX5_mark_77 fg_X5_21 hX rfl ?_
        refine ms_run (pc' := 83) (lv' := [(5, .null), (4, .int (gr_num (nI W) (nI H) aa bb)), (0, .ref x), (1, .int gl), (2, .int aa), (3, .int bb)]) (st' := [.int (gr_num (nI W) (nI H) aa bb), .int gl, .ref q]) _ (ms_deC dX5_mark_80 (ms_deC dX5_mark_81 ms_deN)) rfl rfl ?_
        obtain ⟨gi, hgi, hge⟩ := gl_nI hgl
        have hgN : gl.toNatClampNeg = gi := by rw [hge, nI_clamp (by omega)]
        obtain ⟨x9, y9, hx9, hy9, hae, hbe, hfe⟩ := gr_num_has hW hH h_21
        obtain ⟨f9, hf9⟩ : ∃ f9, f9 = y9 * W + x9 := ⟨_, rfl⟩
        rw [← hf9] at hfe
        have hlf : f9 < W * H := by rw [hf9]; exact fd_lt hx9 hy9
        have hfw : (gr_num (nI W) (nI H) aa bb).toNatClampNeg = f9 := by rw [hfe, nI_clamp (by have := fd_196 hW hH; omega)]
        have hth : th_mrk W H cnt X gl aa bb = none := by unfold th_mrk; rw [if_neg (by rintro (z | z); exact z hgl; exact h_21 z), if_neg (by rintro ⟨z1, z2⟩; first | exact hpi z1 | (rw [hin, ← ha i hi 0 (by omega)] at z2; exact h_63 z2))]
        rw [hth, hfw, hgN, hfe, hge]
        refine ms_callV0 (As := [.int (nI gi), .int (nI f9)]) dX5_mark_83 (c_X3_turnMark hG hQ (by omega) (nI gi) (nI f9)) cv_X5_120 hQ.1 rfl ⟨Nat.le_of_ble_eq_true rfl, Nat.le_of_ble_eq_true rfl⟩ rfl (Nat.le_of_ble_eq_true rfl) (fun v9 n9 K_tu hp9 => ?_)
        obtain ⟨hv9, rfl, ⟨qt9, hQ_tu⟩, hF_tu⟩ := hp9
        cases hv9
        rw [if_pos ⟨gl_isI hgi, gr_hasI rfl hlf (fd_196 hW hH)⟩, nI_clamp (n := f9) (by have := fd_196 hW hH; omega)] at hQ_tu
        have hG_15 : gr_at K_tu g (nI (W * H)) (nI W) (nI H) nr := gr_at.fr hG hF_tu (by omega)
        have hC_16 : cr_at K_tu g q c hd X.2.2.1 X.2.1 cm wk := cr_at.fr hC hF_tu (by omega)
        have hJ_17 : jm_at K_tu j cn wi jo sz quj := jm_at.fr hJ hF_tu (by omega)
        have hQt_18 : sq_at K_tu g q2 wl2 mk2 ds2 qu2 := sq_at.fr hQt hF_tu (by omega)
        have hCt_19 : cr_at K_tu g q2 c2 hd2 on2 ht2 cm2 wk2 := cr_at.fr hCt hF_tu (by omega)
        have hF_20 : ms_fr x (c2 + 29 - x) G K_tu := ms_fr.trans hF (ms_fr.mono hF_tu (by omega) (by omega))
        have hf_21 := (hF_tu x (by omega)).trans hX
        refine ms_run (pc' := 87) (lv' := [(5, .null), (4, .int (nI f9)), (0, .ref x), (1, .int (nI gi)), (2, .int aa), (3, .int bb)]) (st' := [.ref x]) _ (ms_deC dX5_mark_86 ms_deN) rfl rfl ?_
        refine ms_getf dX5_mark_87 fg_X5_21 hf_21 rfl ?_
        refine ms_run (pc' := 91) (lv' := [(5, .null), (4, .int (nI f9)), (0, .ref x), (1, .int (nI gi)), (2, .int aa), (3, .int bb)]) (st' := [.int (nI gi), .ref q]) _ (ms_deC dX5_mark_90 ms_deN) rfl rfl ?_
        refine ms_callV0 (As := [.int (nI gi)]) dX5_mark_91 (c_X3_measure (by omega) rfl (fd_196 hW hH) hgi hG_15 hQ_tu) cv_X5_123 hQ_tu.1 rfl ⟨Nat.le_of_ble_eq_true rfl, Nat.le_of_ble_eq_true rfl⟩ rfl (Nat.le_of_ble_eq_true rfl) (fun v9 n9 K_me hp9 => ?_)
        obtain ⟨hv9, rfl, ⟨qm9, hQ_me⟩, hF_me⟩ := hp9
        cases hv9
        have hG_22 : gr_at K_me g (nI (W * H)) (nI W) (nI H) nr := gr_at.fr hG_15 hF_me (by omega)
        have hC_23 : cr_at K_me g q c hd X.2.2.1 X.2.1 cm wk := cr_at.fr hC_16 hF_me (by omega)
        have hJ_24 : jm_at K_me j cn wi jo sz quj := jm_at.fr hJ_17 hF_me (by omega)
        have hQt_25 : sq_at K_me g q2 wl2 mk2 ds2 qu2 := sq_at.fr hQt_18 hF_me (by omega)
        have hCt_26 : cr_at K_me g q2 c2 hd2 on2 ht2 cm2 wk2 := cr_at.fr hCt_19 hF_me (by omega)
        have hF_27 : ms_fr x (c2 + 29 - x) G K_me := ms_fr.trans hF_20 (ms_fr.mono hF_me (by omega) (by omega))
        have hf_28 := (hF_me x (by omega)).trans hf_21
        refine ms_run (pc' := 95) (lv' := [(5, .null), (4, .int (nI f9)), (0, .ref x), (1, .int (nI gi)), (2, .int aa), (3, .int bb)]) (st' := [.ref x]) _ (ms_deC dX5_mark_94 ms_deN) rfl rfl ?_
        refine ms_getf dX5_mark_95 fg_X5_21 hf_28 rfl ?_
        refine ms_run (pc' := 99) (lv' := [(5, .null), (4, .int (nI f9)), (0, .ref x), (1, .int (nI gi)), (2, .int aa), (3, .int bb)]) (st' := [.int (nI gi), .ref q]) _ (ms_deC dX5_mark_98 ms_deN) rfl rfl ?_
        refine ms_callVp (As := [.int (nI gi)]) dX5_mark_99 (c_X3_countMarks hG_22 hQ_me rfl (fd_196 hW hH) hgi) cv_X5_127 hQ_me.1 rfl ⟨Nat.le_of_ble_eq_true rfl, Nat.le_of_ble_eq_true rfl⟩ rfl (Nat.le_of_ble_eq_true rfl) ?_
        refine ms_reti (st := []) (ty := .int) dX5_mark_102 rfl rfl ?_
        exact xq_P.ret rfl rfl ⟨⟨hf_28, hG_22, ⟨_, hQ_me⟩, ⟨hd, cm, wk, hC_23, hx, hd1, hd2_, hd3, ha⟩, ⟨_, _, _, _, _, hJ_24⟩, ⟨_, _, _, _, hQt_25⟩, ⟨_, _, _, _, _, hCt_26⟩⟩, hF_27⟩
    · skip
      refine ms_throw dX5_mark_24 dX5_mark_27 dX5_mark_28 dX5_mark_30 dX5_mark_33 th_X5_66_103_70 ⟨Nat.le_of_ble_eq_true rfl, Nat.le_of_ble_eq_true rfl⟩ (Nat.le_of_ble_eq_true rfl) (by omega) (by omega) (fun n1 hn1 => ?_)
      exact xq_P.thr hn1 (if_pos (by first | exact Or.inl hgl | exact Or.inr (by first | assumption | exact Decidable.not_not.mp (by assumption))))
  · rw [show ms_b (gl_is gl) = 0 from if_neg hgl]
    refine ms_if_eq (tgt := 24) dX5_mark_15 (by decide) (fun _ => ?_) (fun h9 => absurd h9 (by decide))
    refine ms_throw dX5_mark_24 dX5_mark_27 dX5_mark_28 dX5_mark_30 dX5_mark_33 th_X5_66_103_70 ⟨Nat.le_of_ble_eq_true rfl, Nat.le_of_ble_eq_true rfl⟩ (Nat.le_of_ble_eq_true rfl) (by omega) (by omega) (fun n1 hn1 => ?_)
    exact xq_P.thr hn1 (if_pos (by first | exact Or.inl hgl | exact Or.inr (by first | assumption | exact Decidable.not_not.mp (by assumption))))
def mixL (d : Int64) (v : Int32) : Int64 := d * 31 + v.toInt64
def mxf (f : Nat → Int32) (d : Int64) : Nat → Int64
  | 0 => d
  | k + 1 => mixL (mxf f d k) (f k)
def fdl (f : Int64 → Nat → Int64) (d : Int64) : Nat → Int64
  | 0 => d
  | k + 1 => f (fdl f d k) k
def dgW (fl : Int32) (nr ds : Nat → Int32) (cnt : Nat) (dr : Int32) (X : cX) (F : fdS) (d : Int64) (i : Nat) : Int64 := if X.1 i 3 = -1 then mixL (mxf (cr_fig fl ds (X.1 i)) d 9) (jm_sz F.1 F.2.1 (nI i)) else mxf (fun s => cr_cost fl nr ds X.2.2.1 (hdX cnt dr) X.1 (X.1 i) (nI s)) (mixL (mxf (cr_fig fl ds (X.1 i)) d 9) (jm_sz F.1 F.2.1 (nI i))) 5
def dgF (fl : Int32) (nr wl ds : Nat → Int32) (X : cX) (d : Int64) (f : Nat) : Int64 := mxf (fun g => ds (g * 196 + f)) (mxf (ffX fl nr wl X (nI f)) d 3) 4
def dgX (nf : Nat) (nr wl ds : Nat → Int32) (cnt : Nat) (dr : Int32) (X : cX) (F : fdS) : Int64 :=
  fdl (dgF (nI nf) nr wl ds X) (fdl (dgW (nI nf) nr ds cnt dr X F) (mxf (fun g => mx (fun j => ds (g * 196 + j)) nf) (mxf (cfX nf ds cnt X F) (mixL 967 X.2.2.2) 9) 4) cnt) nf
set_option maxHeartbeats 2000000 in
set_option maxRecDepth 20000 in
theorem c_X5_mix {n : Nat} {G : ms_H} (d : Int64) (v : Int32) : ms_M m_X5_mix [.long d, .int v] n G 0 0 (ms_p1 (some (.long (mixL d v))) n G) := by
  refine ms_M.of (by decide) (Nat.le_of_ble_eq_true rfl) ?_
  show ms_W false m_X5_mix _ 0 [(0, .long d), (2, .int v)] [] n G 0 0
  refine ms_run (pc' := 1) (lv' := [(0, .long d), (2, .int v)]) (st' := [.long d]) _ (ms_deC dX5_mix_0 ms_deN) rfl rfl ?_
  refine ms_ldc2 dX5_mix_1 lc_X5_301 ?_
  refine ms_run (pc' := 8) (lv' := [(0, .long d), (2, .int v)]) (st' := [.long ((d * 31) + v.toInt64)]) _ (ms_deC dX5_mix_4 (ms_deC dX5_mix_5 (ms_deC dX5_mix_6 (ms_deC dX5_mix_7 ms_deN)))) rfl rfl ?_
  refine ms_retl (st := []) dX5_mix_8 rfl ?_
  exact ms_p1.mk rfl rfl
set_option maxHeartbeats 2000000 in
set_option maxRecDepth 20000 in
theorem l2_X5_mixField {n x g q c j q2 c2 W H : Nat} {G : ms_H} {nr wl mk ds qu hd cm : Nat → Int32} {wk : Nat → Nat → Int32} {X : cX} (hX : G x = some (.inr (5, [.ref g, .ref q, .ref c, .ref j, .ref q2, .ref c2]))) (hG : gr_at G g (nI (W * H)) (nI W) (nI H) nr) (hQ : sq_at G g q wl mk ds qu) (hC : cr_at G g q c hd X.2.2.1 X.2.1 cm wk) {f : Nat} (hf : f < W * H) (hW : W ≤ 14) (hH : H ≤ 14) {d0 : Int64} : ∀ (r k : Nat), k + r = 4 → ms_W false m_X5_mixField (ms_p1 (some (.long (dgF (nI (W * H)) nr wl ds X d0 f))) n G) 35 [(0, .ref x), (1, .long d0), (3, .int (nI f)), (4, .long (mxf (fun g => ds (g * 196 + f)) (mxf (ffX (nI (W * H)) nr wl X (nI f)) d0 3) k)), (6, .int (nI k))] [] n G 0 0 := by
  have h196 := fd_196 hW hH
  intro r
  induction r with
  | zero =>
    intro k hk
    have hkN : k = 4 := by omega
    refine ms_run (pc' := 38) (lv' := [(0, .ref x), (1, .long d0), (3, .int (nI f)), (4, .long (mxf (fun g => ds (g * 196 + f)) (mxf (ffX (nI (W * H)) nr wl X (nI f)) d0 3) k)), (6, .int (nI k))]) (st' := [.int 4, .int (nI k)]) _ (ms_deC dX5_mixField_35 (ms_deC dX5_mixField_37 ms_deN)) rfl rfl ?_
    refine ms_icmp_ge (tgt := 64) dX5_mixField_38 (by decide) (fun h_38 => ?_) (fun h_38 => ?_)
    · skip
      refine ms_run (pc' := 66) (lv' := [(0, .ref x), (1, .long d0), (3, .int (nI f)), (4, .long (mxf (fun g => ds (g * 196 + f)) (mxf (ffX (nI (W * H)) nr wl X (nI f)) d0 3) k)), (6, .int (nI k))]) (st' := [.long (mxf (fun g => ds (g * 196 + f)) (mxf (ffX (nI (W * H)) nr wl X (nI f)) d0 3) k)]) _ (ms_deC dX5_mixField_64 ms_deN) rfl rfl ?_
      refine ms_retl (st := []) dX5_mixField_66 rfl ?_
      exact ms_p1.mk (by rw [hkN]; rfl) rfl
    · skip
      exact absurd (by show nI 4 ≤ nI k; exact nI_le (b := k) (by omega) (by omega)) h_38
  | succ r ih =>
    intro k hk
    have hlt : k < 4 := by omega
    refine ms_run (pc' := 38) (lv' := [(0, .ref x), (1, .long d0), (3, .int (nI f)), (4, .long (mxf (fun g => ds (g * 196 + f)) (mxf (ffX (nI (W * H)) nr wl X (nI f)) d0 3) k)), (6, .int (nI k))]) (st' := [.int 4, .int (nI k)]) _ (ms_deC dX5_mixField_35 (ms_deC dX5_mixField_37 ms_deN)) rfl rfl ?_
    refine ms_icmp_ge (tgt := 64) dX5_mixField_38 (by decide) (fun h_38 => ?_) (fun h_38 => ?_)
    · skip
      exact absurd h_38 (by show ¬ nI 4 ≤ nI k; exact nI_ge (b := 4) (by omega) (by omega))
    · skip
      refine ms_run (pc' := 44) (lv' := [(0, .ref x), (1, .long d0), (3, .int (nI f)), (4, .long (mxf (fun g => ds (g * 196 + f)) (mxf (ffX (nI (W * H)) nr wl X (nI f)) d0 3) k)), (6, .int (nI k))]) (st' := [.ref x, .long (mxf (fun g => ds (g * 196 + f)) (mxf (ffX (nI (W * H)) nr wl X (nI f)) d0 3) k)]) _ (ms_deC dX5_mixField_41 (ms_deC dX5_mixField_43 ms_deN)) rfl rfl ?_
      refine ms_getf dX5_mixField_44 fg_X5_21 hX rfl ?_
      refine ms_run (pc' := 50) (lv' := [(0, .ref x), (1, .long d0), (3, .int (nI f)), (4, .long (mxf (fun g => ds (g * 196 + f)) (mxf (ffX (nI (W * H)) nr wl X (nI f)) d0 3) k)), (6, .int (nI k))]) (st' := [.int (nI f), .int (nI k), .ref q, .long (mxf (fun g => ds (g * 196 + f)) (mxf (ffX (nI (W * H)) nr wl X (nI f)) d0 3) k)]) _ (ms_deC dX5_mixField_47 (ms_deC dX5_mixField_49 ms_deN)) rfl rfl ?_
      refine ms_callVp (As := [.int (nI k), .int (nI f)]) dX5_mixField_50 (c_X3_distance hG hQ (nI k) (nI f)) cv_X5_143 hQ.1 rfl ⟨Nat.le_of_ble_eq_true rfl, Nat.le_of_ble_eq_true rfl⟩ rfl (Nat.le_of_ble_eq_true rfl) ?_
      rw [sq_dsI ds rfl (fd_196 hW hH) hf hlt]
      refine ms_callSp (As := [.long (mxf (fun g => ds (g * 196 + f)) (mxf (ffX (nI (W * H)) nr wl X (nI f)) d0 3) k), .int (ds (k * 196 + f))]) dX5_mixField_53 (c_X5_mix (mxf (fun g => ds (g * 196 + f)) (mxf (ffX (nI (W * H)) nr wl X (nI f)) d0 3) k) (ds (k * 196 + f))) cs_X5_263 rfl ⟨Nat.le_of_ble_eq_true rfl, Nat.le_of_ble_eq_true rfl⟩ rfl (Nat.le_of_ble_eq_true rfl) ?_
      refine ms_run (pc' := 61) (lv' := [(6, .int ((nI k) + 1)), (4, .long (mixL (mxf (fun g => ds (g * 196 + f)) (mxf (ffX (nI (W * H)) nr wl X (nI f)) d0 3) k) (ds (k * 196 + f)))), (0, .ref x), (1, .long d0), (3, .int (nI f))]) (st' := []) _ (ms_deC dX5_mixField_56 (ms_deC dX5_mixField_58 ms_deN)) rfl rfl ?_
      refine ms_goto (tgt := 35) dX5_mixField_61 (by decide) ?_
      show ms_W _ _ _ _ [(6, .int (nI k + 1)), (4, .long (mxf (fun g => ds (g * 196 + f)) (mxf (ffX (nI (W * H)) nr wl X (nI f)) d0 3) (k + 1))), (0, .ref x), (1, .long d0), (3, .int (nI f))] _ _ _ _ _
      rw [nI_1 k]
      refine ms_W.sub (lv2 := [(0, _), (1, _), (3, _), (4, _), (6, _)]) ?_ [2, 3, 4, 1, 0] rfl
      exact ih (k + 1) (by omega)
set_option maxHeartbeats 2000000 in
set_option maxRecDepth 20000 in
theorem l1_X5_mixField {n x g q c j q2 c2 W H : Nat} {G : ms_H} {nr wl mk ds qu hd cm : Nat → Int32} {wk : Nat → Nat → Int32} {X : cX} (hX : G x = some (.inr (5, [.ref g, .ref q, .ref c, .ref j, .ref q2, .ref c2]))) (hG : gr_at G g (nI (W * H)) (nI W) (nI H) nr) (hQ : sq_at G g q wl mk ds qu) (hC : cr_at G g q c hd X.2.2.1 X.2.1 cm wk) {f : Nat} (hf : f < W * H) (hW : W ≤ 14) (hH : H ≤ 14) {d0 : Int64} : ∀ (r k : Nat), k + r = 3 → ms_W false m_X5_mixField (ms_p1 (some (.long (dgF (nI (W * H)) nr wl ds X d0 f))) n G) 6 [(0, .ref x), (1, .long d0), (3, .int (nI f)), (4, .long (mxf (ffX (nI (W * H)) nr wl X (nI f)) d0 k)), (6, .int (nI k))] [] n G 0 0 := by
  have h196 := fd_196 hW hH
  intro r
  induction r with
  | zero =>
    intro k hk
    have hkN : k = 3 := by omega
    refine ms_run (pc' := 9) (lv' := [(0, .ref x), (1, .long d0), (3, .int (nI f)), (4, .long (mxf (ffX (nI (W * H)) nr wl X (nI f)) d0 k)), (6, .int (nI k))]) (st' := [.int 2, .int (nI k)]) _ (ms_deC dX5_mixField_6 (ms_deC dX5_mixField_8 ms_deN)) rfl rfl ?_
    refine ms_icmp_gt (tgt := 32) dX5_mixField_9 (by decide) (fun h_9 => ?_) (fun h_9 => ?_)
    · skip
      refine ms_run (pc' := 35) (lv' := [(6, .int 0), (0, .ref x), (1, .long d0), (3, .int (nI f)), (4, .long (mxf (ffX (nI (W * H)) nr wl X (nI f)) d0 k))]) (st' := []) _ (ms_deC dX5_mixField_32 (ms_deC dX5_mixField_33 ms_deN)) rfl rfl ?_
      rw [hkN]
      refine ms_W.sub (lv2 := [(0, _), (1, _), (3, _), (4, _), (6, _)]) ?_ [1, 2, 3, 4, 0] rfl
      exact l2_X5_mixField hX hG hQ hC hf hW hH 4 0 rfl
    · skip
      exact absurd (show nI 2 < nI k from nI_lt (by omega) (by omega)) h_9
  | succ r ih =>
    intro k hk
    have hlt : k < 3 := by omega
    refine ms_run (pc' := 9) (lv' := [(0, .ref x), (1, .long d0), (3, .int (nI f)), (4, .long (mxf (ffX (nI (W * H)) nr wl X (nI f)) d0 k)), (6, .int (nI k))]) (st' := [.int 2, .int (nI k)]) _ (ms_deC dX5_mixField_6 (ms_deC dX5_mixField_8 ms_deN)) rfl rfl ?_
    refine ms_icmp_gt (tgt := 32) dX5_mixField_9 (by decide) (fun h_9 => ?_) (fun h_9 => ?_)
    · skip
      exact absurd h_9 (show ¬ nI 2 < nI k from nI_nlt (by omega) (by omega))
    · skip
      refine ms_run (pc' := 18) (lv' := [(0, .ref x), (1, .long d0), (3, .int (nI f)), (4, .long (mxf (ffX (nI (W * H)) nr wl X (nI f)) d0 k)), (6, .int (nI k))]) (st' := [.int (nI k), .int (nI f), .ref x, .long (mxf (ffX (nI (W * H)) nr wl X (nI f)) d0 k)]) _ (ms_deC dX5_mixField_12 (ms_deC dX5_mixField_14 (ms_deC dX5_mixField_15 (ms_deC dX5_mixField_16 ms_deN)))) rfl rfl ?_
      refine ms_callVp (As := [.int (nI f), .int (nI k)]) dX5_mixField_18 (c_X5_fieldFigure hX hG hQ hC (nI f) k (by omega)) cv_X5_140 hX rfl ⟨Nat.le_of_ble_eq_true rfl, Nat.le_of_ble_eq_true rfl⟩ rfl (Nat.le_of_ble_eq_true rfl) ?_
      refine ms_callSp (As := [.long (mxf (ffX (nI (W * H)) nr wl X (nI f)) d0 k), .int (ffX (nI (W * H)) nr wl X (nI f) k)]) dX5_mixField_21 (c_X5_mix (mxf (ffX (nI (W * H)) nr wl X (nI f)) d0 k) (ffX (nI (W * H)) nr wl X (nI f) k)) cs_X5_263 rfl ⟨Nat.le_of_ble_eq_true rfl, Nat.le_of_ble_eq_true rfl⟩ rfl (Nat.le_of_ble_eq_true rfl) ?_
      refine ms_run (pc' := 29) (lv' := [(6, .int ((nI k) + 1)), (4, .long (mixL (mxf (ffX (nI (W * H)) nr wl X (nI f)) d0 k) (ffX (nI (W * H)) nr wl X (nI f) k))), (0, .ref x), (1, .long d0), (3, .int (nI f))]) (st' := []) _ (ms_deC dX5_mixField_24 (ms_deC dX5_mixField_26 ms_deN)) rfl rfl ?_
      refine ms_goto (tgt := 6) dX5_mixField_29 (by decide) ?_
      show ms_W _ _ _ _ [(6, .int (nI k + 1)), (4, .long (mxf (ffX (nI (W * H)) nr wl X (nI f)) d0 (k + 1))), (0, .ref x), (1, .long d0), (3, .int (nI f))] _ _ _ _ _
      rw [nI_1 k]
      refine ms_W.sub (lv2 := [(0, _), (1, _), (3, _), (4, _), (6, _)]) ?_ [2, 3, 4, 1, 0] rfl
      exact ih (k + 1) (by omega)
set_option maxHeartbeats 2000000 in
set_option maxRecDepth 20000 in
theorem c_X5_mixField {n x g q c j q2 c2 W H : Nat} {G : ms_H} {nr wl mk ds qu hd cm : Nat → Int32} {wk : Nat → Nat → Int32} {X : cX} (hX : G x = some (.inr (5, [.ref g, .ref q, .ref c, .ref j, .ref q2, .ref c2]))) (hG : gr_at G g (nI (W * H)) (nI W) (nI H) nr) (hQ : sq_at G g q wl mk ds qu) (hC : cr_at G g q c hd X.2.2.1 X.2.1 cm wk) {f : Nat} (hf : f < W * H) (hW : W ≤ 14) (hH : H ≤ 14) (d0 : Int64) : ms_M m_X5_mixField [.ref x, .long d0, .int (nI f)] n G 0 0 (ms_p1 (some (.long (dgF (nI (W * H)) nr wl ds X d0 f))) n G) := by
  refine ms_M.of (by decide) (Nat.le_of_ble_eq_true rfl) ?_
  show ms_W false m_X5_mixField _ 0 [(0, .ref x), (1, .long d0), (3, .int (nI f))] [] n G 0 0
  refine ms_run (pc' := 6) (lv' := [(6, .int 0), (4, .long d0), (0, .ref x), (1, .long d0), (3, .int (nI f))]) (st' := []) _ (ms_deC dX5_mixField_0 (ms_deC dX5_mixField_1 (ms_deC dX5_mixField_3 (ms_deC dX5_mixField_4 ms_deN)))) rfl rfl ?_
  refine ms_W.sub (lv2 := [(0, _), (1, _), (3, _), (4, _), (6, _)]) ?_ [2, 3, 4, 1, 0] rfl
  exact l1_X5_mixField hX hG hQ hC hf hW hH 3 0 rfl
set_option maxHeartbeats 2000000 in
set_option maxRecDepth 20000 in
theorem l2_X5_mixWalker {n x g q c j q2 c2 W H : Nat} {G : ms_H} {nr wl mk ds qu hd cm quj : Nat → Int32} {wk : Nat → Nat → Int32} {cnt : Nat} {dr : Int32} {X : cX} {F : fdS} (hX : G x = some (.inr (5, [.ref g, .ref q, .ref c, .ref j, .ref q2, .ref c2]))) (hG : gr_at G g (nI (W * H)) (nI W) (nI H) nr) (hQ : sq_at G g q wl mk ds qu) (hC : cr_at G g q c hd X.2.2.1 X.2.1 cm wk) (hx9 : hd 0 = nI cnt) (ha : ∀ k, k < cnt → ∀ j, j < 8 → wk k j = X.1 k j) (hJ : jm_at G j (nI F.2.2.1) F.2.2.2 F.1 F.2.1 quj) (hc : cnt ≤ 24) (hF24 : F.2.2.1 ≤ 24) (hW : W ≤ 14) (hH : H ≤ 14) (hp : 0 < W * H) (hd2_ : hd 2 = dr) {i : Nat} (hi : i < cnt) {d0 : Int64} (hout : ¬ X.1 i 3 = -1) : ∀ (r k : Nat), k + r = 5 → ms_W false m_X5_mixWalker (ms_p1 (some (.long (dgW (nI (W * H)) nr ds cnt dr X F d0 i))) n G) 80 [(0, .ref x), (1, .long d0), (3, .int (nI i)), (4, .ref (c + 5 + i)), (5, .long (mxf (fun s => cr_cost (nI (W * H)) nr ds X.2.2.1 (hdX cnt dr) X.1 (X.1 i) (nI s)) (mixL (mxf (cr_fig (nI (W * H)) ds (X.1 i)) d0 9) (jm_sz F.1 F.2.1 (nI i))) k)), (7, .int (nI k))] [] n G 0 0 := by
  intro r
  induction r with
  | zero =>
    intro k hk
    have hkN : k = 5 := by omega
    refine ms_run (pc' := 83) (lv' := [(0, .ref x), (1, .long d0), (3, .int (nI i)), (4, .ref (c + 5 + i)), (5, .long (mxf (fun s => cr_cost (nI (W * H)) nr ds X.2.2.1 (hdX cnt dr) X.1 (X.1 i) (nI s)) (mixL (mxf (cr_fig (nI (W * H)) ds (X.1 i)) d0 9) (jm_sz F.1 F.2.1 (nI i))) k)), (7, .int (nI k))]) (st' := [.int 4, .int (nI k)]) _ (ms_deC dX5_mixWalker_80 (ms_deC dX5_mixWalker_82 ms_deN)) rfl rfl ?_
    refine ms_icmp_gt (tgt := 110) dX5_mixWalker_83 (by decide) (fun h_83 => ?_) (fun h_83 => ?_)
    · skip
      refine ms_run (pc' := 112) (lv' := [(0, .ref x), (1, .long d0), (3, .int (nI i)), (4, .ref (c + 5 + i)), (5, .long (mxf (fun s => cr_cost (nI (W * H)) nr ds X.2.2.1 (hdX cnt dr) X.1 (X.1 i) (nI s)) (mixL (mxf (cr_fig (nI (W * H)) ds (X.1 i)) d0 9) (jm_sz F.1 F.2.1 (nI i))) k)), (7, .int (nI k))]) (st' := [.long (mxf (fun s => cr_cost (nI (W * H)) nr ds X.2.2.1 (hdX cnt dr) X.1 (X.1 i) (nI s)) (mixL (mxf (cr_fig (nI (W * H)) ds (X.1 i)) d0 9) (jm_sz F.1 F.2.1 (nI i))) k)]) _ (ms_deC dX5_mixWalker_110 ms_deN) rfl rfl ?_
      refine ms_retl (st := []) dX5_mixWalker_112 rfl ?_
      exact ms_p1.mk (by rw [hkN]; unfold dgW; rw [if_neg hout]) rfl
    · skip
      exact absurd (show nI 4 < nI k from nI_lt (by omega) (by omega)) h_83
  | succ r ih =>
    intro k hk
    have hlt : k < 5 := by omega
    refine ms_run (pc' := 83) (lv' := [(0, .ref x), (1, .long d0), (3, .int (nI i)), (4, .ref (c + 5 + i)), (5, .long (mxf (fun s => cr_cost (nI (W * H)) nr ds X.2.2.1 (hdX cnt dr) X.1 (X.1 i) (nI s)) (mixL (mxf (cr_fig (nI (W * H)) ds (X.1 i)) d0 9) (jm_sz F.1 F.2.1 (nI i))) k)), (7, .int (nI k))]) (st' := [.int 4, .int (nI k)]) _ (ms_deC dX5_mixWalker_80 (ms_deC dX5_mixWalker_82 ms_deN)) rfl rfl ?_
    refine ms_icmp_gt (tgt := 110) dX5_mixWalker_83 (by decide) (fun h_83 => ?_) (fun h_83 => ?_)
    · skip
      exact absurd h_83 (show ¬ nI 4 < nI k from nI_nlt (by omega) (by omega))
    · skip
      refine ms_run (pc' := 89) (lv' := [(0, .ref x), (1, .long d0), (3, .int (nI i)), (4, .ref (c + 5 + i)), (5, .long (mxf (fun s => cr_cost (nI (W * H)) nr ds X.2.2.1 (hdX cnt dr) X.1 (X.1 i) (nI s)) (mixL (mxf (cr_fig (nI (W * H)) ds (X.1 i)) d0 9) (jm_sz F.1 F.2.1 (nI i))) k)), (7, .int (nI k))]) (st' := [.ref x, .long (mxf (fun s => cr_cost (nI (W * H)) nr ds X.2.2.1 (hdX cnt dr) X.1 (X.1 i) (nI s)) (mixL (mxf (cr_fig (nI (W * H)) ds (X.1 i)) d0 9) (jm_sz F.1 F.2.1 (nI i))) k)]) _ (ms_deC dX5_mixWalker_86 (ms_deC dX5_mixWalker_88 ms_deN)) rfl rfl ?_
      refine ms_getf dX5_mixWalker_89 fg_X5_30 hX rfl ?_
      refine ms_run (pc' := 96) (lv' := [(0, .ref x), (1, .long d0), (3, .int (nI i)), (4, .ref (c + 5 + i)), (5, .long (mxf (fun s => cr_cost (nI (W * H)) nr ds X.2.2.1 (hdX cnt dr) X.1 (X.1 i) (nI s)) (mixL (mxf (cr_fig (nI (W * H)) ds (X.1 i)) d0 9) (jm_sz F.1 F.2.1 (nI i))) k)), (7, .int (nI k))]) (st' := [.int (nI k), .ref (c + 5 + i), .ref c, .long (mxf (fun s => cr_cost (nI (W * H)) nr ds X.2.2.1 (hdX cnt dr) X.1 (X.1 i) (nI s)) (mixL (mxf (cr_fig (nI (W * H)) ds (X.1 i)) d0 9) (jm_sz F.1 F.2.1 (nI i))) k)]) _ (ms_deC dX5_mixWalker_92 (ms_deC dX5_mixWalker_94 ms_deN)) rfl rfl ?_
      refine ms_callVp (As := [.ref (c + 5 + i), .int (nI k)]) dX5_mixWalker_96 (c_X0_costOf hG hQ hC (hC.2.2.2.2.2 i (Nat.lt_of_lt_of_le hi hc)) (nI k)) cv_X5_218 hC.1 rfl ⟨Nat.le_of_ble_eq_true rfl, Nat.le_of_ble_eq_true rfl⟩ rfl (Nat.le_of_ble_eq_true rfl) ?_
      rw [cr_cost_c (hd' := hdX cnt dr) hc hx9 rfl hd2_ ha (ha i hi)]
      refine ms_callSp (As := [.long (mxf (fun s => cr_cost (nI (W * H)) nr ds X.2.2.1 (hdX cnt dr) X.1 (X.1 i) (nI s)) (mixL (mxf (cr_fig (nI (W * H)) ds (X.1 i)) d0 9) (jm_sz F.1 F.2.1 (nI i))) k), .int (cr_cost (nI (W * H)) nr ds X.2.2.1 (hdX cnt dr) X.1 (X.1 i) (nI k))]) dX5_mixWalker_99 (c_X5_mix (mxf (fun s => cr_cost (nI (W * H)) nr ds X.2.2.1 (hdX cnt dr) X.1 (X.1 i) (nI s)) (mixL (mxf (cr_fig (nI (W * H)) ds (X.1 i)) d0 9) (jm_sz F.1 F.2.1 (nI i))) k) (cr_cost (nI (W * H)) nr ds X.2.2.1 (hdX cnt dr) X.1 (X.1 i) (nI k))) cs_X5_263 rfl ⟨Nat.le_of_ble_eq_true rfl, Nat.le_of_ble_eq_true rfl⟩ rfl (Nat.le_of_ble_eq_true rfl) ?_
      refine ms_run (pc' := 107) (lv' := [(7, .int ((nI k) + 1)), (5, .long (mixL (mxf (fun s => cr_cost (nI (W * H)) nr ds X.2.2.1 (hdX cnt dr) X.1 (X.1 i) (nI s)) (mixL (mxf (cr_fig (nI (W * H)) ds (X.1 i)) d0 9) (jm_sz F.1 F.2.1 (nI i))) k) (cr_cost (nI (W * H)) nr ds X.2.2.1 (hdX cnt dr) X.1 (X.1 i) (nI k)))), (0, .ref x), (1, .long d0), (3, .int (nI i)), (4, .ref (c + 5 + i))]) (st' := []) _ (ms_deC dX5_mixWalker_102 (ms_deC dX5_mixWalker_104 ms_deN)) rfl rfl ?_
      refine ms_goto (tgt := 80) dX5_mixWalker_107 (by decide) ?_
      show ms_W _ _ _ _ [(7, .int (nI k + 1)), (5, .long (mxf (fun s => cr_cost (nI (W * H)) nr ds X.2.2.1 (hdX cnt dr) X.1 (X.1 i) (nI s)) (mixL (mxf (cr_fig (nI (W * H)) ds (X.1 i)) d0 9) (jm_sz F.1 F.2.1 (nI i))) (k + 1))), (0, .ref x), (1, .long d0), (3, .int (nI i)), (4, .ref (c + 5 + i))] _ _ _ _ _
      rw [nI_1 k]
      refine ms_W.sub (lv2 := [(0, _), (1, _), (3, _), (4, _), (5, _), (7, _)]) ?_ [2, 3, 4, 5, 1, 0] rfl
      exact ih (k + 1) (by omega)
set_option maxHeartbeats 2000000 in
set_option maxRecDepth 20000 in
theorem l1_X5_mixWalker {n x g q c j q2 c2 W H : Nat} {G : ms_H} {nr wl mk ds qu hd cm quj : Nat → Int32} {wk : Nat → Nat → Int32} {cnt : Nat} {dr : Int32} {X : cX} {F : fdS} (hX : G x = some (.inr (5, [.ref g, .ref q, .ref c, .ref j, .ref q2, .ref c2]))) (hG : gr_at G g (nI (W * H)) (nI W) (nI H) nr) (hQ : sq_at G g q wl mk ds qu) (hC : cr_at G g q c hd X.2.2.1 X.2.1 cm wk) (hx9 : hd 0 = nI cnt) (ha : ∀ k, k < cnt → ∀ j, j < 8 → wk k j = X.1 k j) (hJ : jm_at G j (nI F.2.2.1) F.2.2.2 F.1 F.2.1 quj) (hc : cnt ≤ 24) (hF24 : F.2.2.1 ≤ 24) (hW : W ≤ 14) (hH : H ≤ 14) (hp : 0 < W * H) (hd2_ : hd 2 = dr) {i : Nat} (hi : i < cnt) {d0 : Int64} : ∀ (r k : Nat), k + r = 9 → ms_W false m_X5_mixWalker (ms_p1 (some (.long (dgW (nI (W * H)) nr ds cnt dr X F d0 i))) n G) 23 [(0, .ref x), (1, .long d0), (3, .int (nI i)), (4, .ref (c + 5 + i)), (5, .long (mxf (cr_fig (nI (W * H)) ds (X.1 i)) d0 k)), (7, .int (nI k))] [] n G 0 0 := by
  intro r
  induction r with
  | zero =>
    intro k hk
    have hkN : k = 9 := by omega
    refine ms_run (pc' := 27) (lv' := [(0, .ref x), (1, .long d0), (3, .int (nI i)), (4, .ref (c + 5 + i)), (5, .long (mxf (cr_fig (nI (W * H)) ds (X.1 i)) d0 k)), (7, .int (nI k))]) (st' := [.int 8, .int (nI k)]) _ (ms_deC dX5_mixWalker_23 (ms_deC dX5_mixWalker_25 ms_deN)) rfl rfl ?_
    refine ms_icmp_gt (tgt := 54) dX5_mixWalker_27 (by decide) (fun h_27 => ?_) (fun h_27 => ?_)
    · skip
      rw [hkN]
      refine ms_run (pc' := 57) (lv' := [(0, .ref x), (1, .long d0), (3, .int (nI i)), (4, .ref (c + 5 + i)), (5, .long (mxf (cr_fig (nI (W * H)) ds (X.1 i)) d0 9)), (7, .int (nI 9))]) (st' := [.ref x, .long (mxf (cr_fig (nI (W * H)) ds (X.1 i)) d0 9)]) _ (ms_deC dX5_mixWalker_54 (ms_deC dX5_mixWalker_56 ms_deN)) rfl rfl ?_
      refine ms_getf dX5_mixWalker_57 fg_X5_37 hX rfl ?_
      refine ms_run (pc' := 61) (lv' := [(0, .ref x), (1, .long d0), (3, .int (nI i)), (4, .ref (c + 5 + i)), (5, .long (mxf (cr_fig (nI (W * H)) ds (X.1 i)) d0 9)), (7, .int (nI 9))]) (st' := [.int (nI i), .ref j, .long (mxf (cr_fig (nI (W * H)) ds (X.1 i)) d0 9)]) _ (ms_deC dX5_mixWalker_60 ms_deN) rfl rfl ?_
      refine ms_callVp (As := [.int (nI i)]) dX5_mixWalker_61 (c_X2_sizeAround hJ (nI i)) cv_X5_231 hJ.1 rfl ⟨Nat.le_of_ble_eq_true rfl, Nat.le_of_ble_eq_true rfl⟩ rfl (Nat.le_of_ble_eq_true rfl) ?_
      refine ms_callSp (As := [.long (mxf (cr_fig (nI (W * H)) ds (X.1 i)) d0 9), .int (jm_sz F.1 F.2.1 (nI i))]) dX5_mixWalker_64 (c_X5_mix (mxf (cr_fig (nI (W * H)) ds (X.1 i)) d0 9) (jm_sz F.1 F.2.1 (nI i))) cs_X5_263 rfl ⟨Nat.le_of_ble_eq_true rfl, Nat.le_of_ble_eq_true rfl⟩ rfl (Nat.le_of_ble_eq_true rfl) ?_
      refine ms_run (pc' := 71) (lv' := [(5, .long (mixL (mxf (cr_fig (nI (W * H)) ds (X.1 i)) d0 9) (jm_sz F.1 F.2.1 (nI i)))), (0, .ref x), (1, .long d0), (3, .int (nI i)), (4, .ref (c + 5 + i)), (7, .int (nI 9))]) (st' := [.ref (c + 5 + i)]) _ (ms_deC dX5_mixWalker_67 (ms_deC dX5_mixWalker_69 ms_deN)) rfl rfl ?_
      refine ms_callVp (As := []) dX5_mixWalker_71 (c_X4_isOut (hC.2.2.2.2.2 i (Nat.lt_of_lt_of_le hi hc))) cv_X5_176 (hC.2.2.2.2.2 i (Nat.lt_of_lt_of_le hi hc)) rfl ⟨Nat.le_of_ble_eq_true rfl, Nat.le_of_ble_eq_true rfl⟩ rfl (Nat.le_of_ble_eq_true rfl) ?_
      simp only [ha i hi 3 (by omega)]
      by_cases hout : X.1 i 3 = -1
      · rw [show ms_b (X.1 i 3 = -1) = 1 from if_pos hout]
        refine ms_if_ne (tgt := 110) dX5_mixWalker_74 (by decide) (fun _ => ?_) (fun h9 => absurd h9 (by decide))
        refine ms_run (pc' := 112) (lv' := [(5, .long (mixL (mxf (cr_fig (nI (W * H)) ds (X.1 i)) d0 9) (jm_sz F.1 F.2.1 (nI i)))), (0, .ref x), (1, .long d0), (3, .int (nI i)), (4, .ref (c + 5 + i)), (7, .int (nI 9))]) (st' := [.long (mixL (mxf (cr_fig (nI (W * H)) ds (X.1 i)) d0 9) (jm_sz F.1 F.2.1 (nI i)))]) _ (ms_deC dX5_mixWalker_110 ms_deN) rfl rfl ?_
        refine ms_retl (st := []) dX5_mixWalker_112 rfl ?_
        exact ms_p1.mk (by unfold dgW; rw [if_pos hout]) rfl
      · rw [show ms_b (X.1 i 3 = -1) = 0 from if_neg hout]
        refine ms_if_ne (tgt := 110) dX5_mixWalker_74 (by decide) (fun h9 => absurd h9 (by decide)) (fun _ => ?_)
        refine ms_run (pc' := 80) (lv' := [(7, .int 0), (5, .long (mixL (mxf (cr_fig (nI (W * H)) ds (X.1 i)) d0 9) (jm_sz F.1 F.2.1 (nI i)))), (0, .ref x), (1, .long d0), (3, .int (nI i)), (4, .ref (c + 5 + i))]) (st' := []) _ (ms_deC dX5_mixWalker_77 (ms_deC dX5_mixWalker_78 ms_deN)) rfl rfl ?_
        refine ms_W.sub (lv2 := [(0, _), (1, _), (3, _), (4, _), (5, _), (7, _)]) ?_ [2, 3, 4, 5, 1, 0] rfl
        exact l2_X5_mixWalker hX hG hQ hC hx9 ha hJ hc hF24 hW hH hp hd2_ hi hout 5 0 rfl
    · skip
      exact absurd (show nI 8 < nI k from nI_lt (by omega) (by omega)) h_27
  | succ r ih =>
    intro k hk
    have hlt : k < 9 := by omega
    refine ms_run (pc' := 27) (lv' := [(0, .ref x), (1, .long d0), (3, .int (nI i)), (4, .ref (c + 5 + i)), (5, .long (mxf (cr_fig (nI (W * H)) ds (X.1 i)) d0 k)), (7, .int (nI k))]) (st' := [.int 8, .int (nI k)]) _ (ms_deC dX5_mixWalker_23 (ms_deC dX5_mixWalker_25 ms_deN)) rfl rfl ?_
    refine ms_icmp_gt (tgt := 54) dX5_mixWalker_27 (by decide) (fun h_27 => ?_) (fun h_27 => ?_)
    · skip
      exact absurd h_27 (show ¬ nI 8 < nI k from nI_nlt (by omega) (by omega))
    · skip
      refine ms_run (pc' := 33) (lv' := [(0, .ref x), (1, .long d0), (3, .int (nI i)), (4, .ref (c + 5 + i)), (5, .long (mxf (cr_fig (nI (W * H)) ds (X.1 i)) d0 k)), (7, .int (nI k))]) (st' := [.ref x, .long (mxf (cr_fig (nI (W * H)) ds (X.1 i)) d0 k)]) _ (ms_deC dX5_mixWalker_30 (ms_deC dX5_mixWalker_32 ms_deN)) rfl rfl ?_
      refine ms_getf dX5_mixWalker_33 fg_X5_30 hX rfl ?_
      refine ms_run (pc' := 40) (lv' := [(0, .ref x), (1, .long d0), (3, .int (nI i)), (4, .ref (c + 5 + i)), (5, .long (mxf (cr_fig (nI (W * H)) ds (X.1 i)) d0 k)), (7, .int (nI k))]) (st' := [.int (nI k), .ref (c + 5 + i), .ref c, .long (mxf (cr_fig (nI (W * H)) ds (X.1 i)) d0 k)]) _ (ms_deC dX5_mixWalker_36 (ms_deC dX5_mixWalker_38 ms_deN)) rfl rfl ?_
      refine ms_callVp (As := [.ref (c + 5 + i), .int (nI k)]) dX5_mixWalker_40 (c_X0_walkerFigure hG hQ hC (hC.2.2.2.2.2 i (Nat.lt_of_lt_of_le hi hc)) k (by omega)) cv_X5_210 hC.1 rfl ⟨Nat.le_of_ble_eq_true rfl, Nat.le_of_ble_eq_true rfl⟩ rfl (Nat.le_of_ble_eq_true rfl) ?_
      rw [cr_fig_c (ha i hi) k (by omega)]
      refine ms_callSp (As := [.long (mxf (cr_fig (nI (W * H)) ds (X.1 i)) d0 k), .int (cr_fig (nI (W * H)) ds (X.1 i) k)]) dX5_mixWalker_43 (c_X5_mix (mxf (cr_fig (nI (W * H)) ds (X.1 i)) d0 k) (cr_fig (nI (W * H)) ds (X.1 i) k)) cs_X5_263 rfl ⟨Nat.le_of_ble_eq_true rfl, Nat.le_of_ble_eq_true rfl⟩ rfl (Nat.le_of_ble_eq_true rfl) ?_
      refine ms_run (pc' := 51) (lv' := [(7, .int ((nI k) + 1)), (5, .long (mixL (mxf (cr_fig (nI (W * H)) ds (X.1 i)) d0 k) (cr_fig (nI (W * H)) ds (X.1 i) k))), (0, .ref x), (1, .long d0), (3, .int (nI i)), (4, .ref (c + 5 + i))]) (st' := []) _ (ms_deC dX5_mixWalker_46 (ms_deC dX5_mixWalker_48 ms_deN)) rfl rfl ?_
      refine ms_goto (tgt := 23) dX5_mixWalker_51 (by decide) ?_
      show ms_W _ _ _ _ [(7, .int (nI k + 1)), (5, .long (mxf (cr_fig (nI (W * H)) ds (X.1 i)) d0 (k + 1))), (0, .ref x), (1, .long d0), (3, .int (nI i)), (4, .ref (c + 5 + i))] _ _ _ _ _
      rw [nI_1 k]
      refine ms_W.sub (lv2 := [(0, _), (1, _), (3, _), (4, _), (5, _), (7, _)]) ?_ [2, 3, 4, 5, 1, 0] rfl
      exact ih (k + 1) (by omega)
set_option maxHeartbeats 2000000 in
set_option maxRecDepth 20000 in
theorem c_X5_mixWalker {n x g q c j q2 c2 W H : Nat} {G : ms_H} {nr wl mk ds qu hd cm quj : Nat → Int32} {wk : Nat → Nat → Int32} {cnt : Nat} {dr : Int32} {X : cX} {F : fdS} (hX : G x = some (.inr (5, [.ref g, .ref q, .ref c, .ref j, .ref q2, .ref c2]))) (hG : gr_at G g (nI (W * H)) (nI W) (nI H) nr) (hQ : sq_at G g q wl mk ds qu) (hC : cr_at G g q c hd X.2.2.1 X.2.1 cm wk) (hx9 : hd 0 = nI cnt) (ha : ∀ k, k < cnt → ∀ j, j < 8 → wk k j = X.1 k j) (hJ : jm_at G j (nI F.2.2.1) F.2.2.2 F.1 F.2.1 quj) (hc : cnt ≤ 24) (hF24 : F.2.2.1 ≤ 24) (hW : W ≤ 14) (hH : H ≤ 14) (hp : 0 < W * H) (hd2_ : hd 2 = dr) {i : Nat} (hi : i < cnt) (d0 : Int64) : ms_M m_X5_mixWalker [.ref x, .long d0, .int (nI i)] n G 0 0 (ms_p1 (some (.long (dgW (nI (W * H)) nr ds cnt dr X F d0 i))) n G) := by
  refine ms_M.of (by decide) (Nat.le_of_ble_eq_true rfl) ?_
  show ms_W false m_X5_mixWalker _ 0 [(0, .ref x), (1, .long d0), (3, .int (nI i))] [] n G 0 0
  refine ms_run (pc' := 1) (lv' := [(0, .ref x), (1, .long d0), (3, .int (nI i))]) (st' := [.ref x]) _ (ms_deC dX5_mixWalker_0 ms_deN) rfl rfl ?_
  refine ms_getf dX5_mixWalker_1 fg_X5_30 hX rfl ?_
  refine ms_run (pc' := 5) (lv' := [(0, .ref x), (1, .long d0), (3, .int (nI i))]) (st' := [.int (nI i), .ref c]) _ (ms_deC dX5_mixWalker_4 ms_deN) rfl rfl ?_
  refine ms_callVp (As := [.int (nI i)]) dX5_mixWalker_5 (c_X0_getI hC hx9 hc hi) cv_X5_109 hC.1 rfl ⟨Nat.le_of_ble_eq_true rfl, Nat.le_of_ble_eq_true rfl⟩ rfl (Nat.le_of_ble_eq_true rfl) ?_
  refine ms_run (pc' := 12) (lv' := [(4, .ref (c + 5 + i)), (0, .ref x), (1, .long d0), (3, .int (nI i))]) (st' := [.ref (c + 5 + i)]) _ (ms_deC dX5_mixWalker_8 (ms_deC dX5_mixWalker_10 ms_deN)) rfl rfl ?_
  refine ms_ifnonnull (tgt := 17) dX5_mixWalker_12 (by decide) ?_
  refine ms_run (pc' := 23) (lv' := [(7, .int 0), (5, .long d0), (4, .ref (c + 5 + i)), (0, .ref x), (1, .long d0), (3, .int (nI i))]) (st' := []) _ (ms_deC dX5_mixWalker_17 (ms_deC dX5_mixWalker_18 (ms_deC dX5_mixWalker_20 (ms_deC dX5_mixWalker_21 ms_deN)))) rfl rfl ?_
  refine ms_W.sub (lv2 := [(0, _), (1, _), (3, _), (4, _), (5, _), (7, _)]) ?_ [3, 4, 5, 2, 1, 0] rfl
  exact l1_X5_mixWalker hX hG hQ hC hx9 ha hJ hc hF24 hW hH hp hd2_ hi 9 0 rfl
set_option maxHeartbeats 2000000 in
set_option maxRecDepth 20000 in
theorem l4_X5_digest {n x g q c j q2 c2 W H : Nat} {G : ms_H} {nr wl mk ds qu hd cm quj : Nat → Int32} {wk : Nat → Nat → Int32} {cnt : Nat} {dr : Int32} {X : cX} {F : fdS} (hX : G x = some (.inr (5, [.ref g, .ref q, .ref c, .ref j, .ref q2, .ref c2]))) (hG : gr_at G g (nI (W * H)) (nI W) (nI H) nr) (hQ : sq_at G g q wl mk ds qu) (hC : cr_at G g q c hd X.2.2.1 X.2.1 cm wk) (hx9 : hd 0 = nI cnt) (ha : ∀ k, k < cnt → ∀ j, j < 8 → wk k j = X.1 k j) (hJ : jm_at G j (nI F.2.2.1) F.2.2.2 F.1 F.2.1 quj) (hc : cnt ≤ 24) (hF24 : F.2.2.1 ≤ 24) (hW : W ≤ 14) (hH : H ≤ 14) (hp : 0 < W * H) (hd1 : hd 1 = X.2.2.2) (hd2_ : hd 2 = dr) : ∀ (r k : Nat), k + r = W * H → ms_W false m_X5_digest (ms_p1 (some (.long (dgX (W * H) nr wl ds cnt dr X F))) n G) 103 [(0, .ref x), (1, .long (fdl (dgF (nI (W * H)) nr wl ds X) (fdl (dgW (nI (W * H)) nr ds cnt dr X F) (mxf (fun g => mx (fun j => ds (g * 196 + j)) (W * H)) (mxf (cfX (W * H) ds cnt X F) (mixL 967 X.2.2.2) 9) 4) cnt) k)), (3, .int (nI k))] [] n G 0 0 := by
  have h196 := fd_196 hW hH
  intro r
  induction r with
  | zero =>
    intro k hk
    have hkN : k = W * H := by omega
    refine ms_run (pc' := 105) (lv' := [(0, .ref x), (1, .long (fdl (dgF (nI (W * H)) nr wl ds X) (fdl (dgW (nI (W * H)) nr ds cnt dr X F) (mxf (fun g => mx (fun j => ds (g * 196 + j)) (W * H)) (mxf (cfX (W * H) ds cnt X F) (mixL 967 X.2.2.2) 9) 4) cnt) k)), (3, .int (nI k))]) (st' := [.ref x, .int (nI k)]) _ (ms_deC dX5_digest_103 (ms_deC dX5_digest_104 ms_deN)) rfl rfl ?_
    refine ms_getf dX5_digest_105 fg_X5_10 hX rfl ?_
    refine ms_getf dX5_digest_108 fg_X5_58 hG.1 rfl ?_
    refine ms_icmp_ge (tgt := 127) dX5_digest_111 (by decide) (fun h_111 => ?_) (fun h_111 => ?_)
    · skip
      refine ms_run (pc' := 128) (lv' := [(0, .ref x), (1, .long (fdl (dgF (nI (W * H)) nr wl ds X) (fdl (dgW (nI (W * H)) nr ds cnt dr X F) (mxf (fun g => mx (fun j => ds (g * 196 + j)) (W * H)) (mxf (cfX (W * H) ds cnt X F) (mixL 967 X.2.2.2) 9) 4) cnt) k)), (3, .int (nI k))]) (st' := [.long (fdl (dgF (nI (W * H)) nr wl ds X) (fdl (dgW (nI (W * H)) nr ds cnt dr X F) (mxf (fun g => mx (fun j => ds (g * 196 + j)) (W * H)) (mxf (cfX (W * H) ds cnt X F) (mixL 967 X.2.2.2) 9) 4) cnt) k)]) _ (ms_deC dX5_digest_127 ms_deN) rfl rfl ?_
      refine ms_retl (st := []) dX5_digest_128 rfl ?_
      exact ms_p1.mk (by rw [hkN]; rfl) rfl
    · skip
      exact absurd (by exact nI_le (b := k) (by omega) (by omega)) h_111
  | succ r ih =>
    intro k hk
    have hlt : k < W * H := by omega
    refine ms_run (pc' := 105) (lv' := [(0, .ref x), (1, .long (fdl (dgF (nI (W * H)) nr wl ds X) (fdl (dgW (nI (W * H)) nr ds cnt dr X F) (mxf (fun g => mx (fun j => ds (g * 196 + j)) (W * H)) (mxf (cfX (W * H) ds cnt X F) (mixL 967 X.2.2.2) 9) 4) cnt) k)), (3, .int (nI k))]) (st' := [.ref x, .int (nI k)]) _ (ms_deC dX5_digest_103 (ms_deC dX5_digest_104 ms_deN)) rfl rfl ?_
    refine ms_getf dX5_digest_105 fg_X5_10 hX rfl ?_
    refine ms_getf dX5_digest_108 fg_X5_58 hG.1 rfl ?_
    refine ms_icmp_ge (tgt := 127) dX5_digest_111 (by decide) (fun h_111 => ?_) (fun h_111 => ?_)
    · skip
      exact absurd h_111 (by exact nI_ge (b := W * H) (by omega) (by omega))
    · skip
      refine ms_run (pc' := 117) (lv' := [(0, .ref x), (1, .long (fdl (dgF (nI (W * H)) nr wl ds X) (fdl (dgW (nI (W * H)) nr ds cnt dr X F) (mxf (fun g => mx (fun j => ds (g * 196 + j)) (W * H)) (mxf (cfX (W * H) ds cnt X F) (mixL 967 X.2.2.2) 9) 4) cnt) k)), (3, .int (nI k))]) (st' := [.int (nI k), .long (fdl (dgF (nI (W * H)) nr wl ds X) (fdl (dgW (nI (W * H)) nr ds cnt dr X F) (mxf (fun g => mx (fun j => ds (g * 196 + j)) (W * H)) (mxf (cfX (W * H) ds cnt X F) (mixL 967 X.2.2.2) 9) 4) cnt) k), .ref x]) _ (ms_deC dX5_digest_114 (ms_deC dX5_digest_115 (ms_deC dX5_digest_116 ms_deN))) rfl rfl ?_
      refine ms_callVp (As := [.long (fdl (dgF (nI (W * H)) nr wl ds X) (fdl (dgW (nI (W * H)) nr ds cnt dr X F) (mxf (fun g => mx (fun j => ds (g * 196 + j)) (W * H)) (mxf (cfX (W * H) ds cnt X F) (mixL 967 X.2.2.2) 9) 4) cnt) k), .int (nI k)]) dX5_digest_117 (c_X5_mixField hX hG hQ hC hlt hW hH (fdl (dgF (nI (W * H)) nr wl ds X) (fdl (dgW (nI (W * H)) nr ds cnt dr X F) (mxf (fun g => mx (fun j => ds (g * 196 + j)) (W * H)) (mxf (cfX (W * H) ds cnt X F) (mixL 967 X.2.2.2) 9) 4) cnt) k)) cv_X5_270 hX rfl ⟨Nat.le_of_ble_eq_true rfl, Nat.le_of_ble_eq_true rfl⟩ rfl (Nat.le_of_ble_eq_true rfl) ?_
      refine ms_run (pc' := 124) (lv' := [(3, .int ((nI k) + 1)), (1, .long (dgF (nI (W * H)) nr wl ds X (fdl (dgF (nI (W * H)) nr wl ds X) (fdl (dgW (nI (W * H)) nr ds cnt dr X F) (mxf (fun g => mx (fun j => ds (g * 196 + j)) (W * H)) (mxf (cfX (W * H) ds cnt X F) (mixL 967 X.2.2.2) 9) 4) cnt) k) k)), (0, .ref x)]) (st' := []) _ (ms_deC dX5_digest_120 (ms_deC dX5_digest_121 ms_deN)) rfl rfl ?_
      refine ms_goto (tgt := 103) dX5_digest_124 (by decide) ?_
      show ms_W _ _ _ _ [(3, .int (nI k + 1)), (1, .long (fdl (dgF (nI (W * H)) nr wl ds X) (fdl (dgW (nI (W * H)) nr ds cnt dr X F) (mxf (fun g => mx (fun j => ds (g * 196 + j)) (W * H)) (mxf (cfX (W * H) ds cnt X F) (mixL 967 X.2.2.2) 9) 4) cnt) (k + 1))), (0, .ref x)] _ _ _ _ _
      rw [nI_1 k]
      refine ms_W.sub (lv2 := [(0, _), (1, _), (3, _)]) ?_ [2, 1, 0] rfl
      exact ih (k + 1) (by omega)
set_option maxHeartbeats 2000000 in
set_option maxRecDepth 20000 in
theorem l3_X5_digest {n x g q c j q2 c2 W H : Nat} {G : ms_H} {nr wl mk ds qu hd cm quj : Nat → Int32} {wk : Nat → Nat → Int32} {cnt : Nat} {dr : Int32} {X : cX} {F : fdS} (hX : G x = some (.inr (5, [.ref g, .ref q, .ref c, .ref j, .ref q2, .ref c2]))) (hG : gr_at G g (nI (W * H)) (nI W) (nI H) nr) (hQ : sq_at G g q wl mk ds qu) (hC : cr_at G g q c hd X.2.2.1 X.2.1 cm wk) (hx9 : hd 0 = nI cnt) (ha : ∀ k, k < cnt → ∀ j, j < 8 → wk k j = X.1 k j) (hJ : jm_at G j (nI F.2.2.1) F.2.2.2 F.1 F.2.1 quj) (hc : cnt ≤ 24) (hF24 : F.2.2.1 ≤ 24) (hW : W ≤ 14) (hH : H ≤ 14) (hp : 0 < W * H) (hd1 : hd 1 = X.2.2.2) (hd2_ : hd 2 = dr) : ∀ (r k : Nat), k + r = cnt → ms_W false m_X5_digest (ms_p1 (some (.long (dgX (W * H) nr wl ds cnt dr X F))) n G) 77 [(0, .ref x), (1, .long (fdl (dgW (nI (W * H)) nr ds cnt dr X F) (mxf (fun g => mx (fun j => ds (g * 196 + j)) (W * H)) (mxf (cfX (W * H) ds cnt X F) (mixL 967 X.2.2.2) 9) 4) k)), (3, .int (nI k))] [] n G 0 0 := by
  have h196 := fd_196 hW hH
  intro r
  induction r with
  | zero =>
    intro k hk
    have hkN : k = cnt := by omega
    refine ms_run (pc' := 79) (lv' := [(0, .ref x), (1, .long (fdl (dgW (nI (W * H)) nr ds cnt dr X F) (mxf (fun g => mx (fun j => ds (g * 196 + j)) (W * H)) (mxf (cfX (W * H) ds cnt X F) (mixL 967 X.2.2.2) 9) 4) k)), (3, .int (nI k))]) (st' := [.ref x, .int (nI k)]) _ (ms_deC dX5_digest_77 (ms_deC dX5_digest_78 ms_deN)) rfl rfl ?_
    refine ms_getf dX5_digest_79 fg_X5_30 hX rfl ?_
    refine ms_getf dX5_digest_82 fg_X5_163 hC.1 rfl ?_
    refine ms_icmp_ge (tgt := 101) dX5_digest_85 (by decide) (fun h_85 => ?_) (fun h_85 => ?_)
    · skip
      refine ms_run (pc' := 103) (lv' := [(3, .int 0), (0, .ref x), (1, .long (fdl (dgW (nI (W * H)) nr ds cnt dr X F) (mxf (fun g => mx (fun j => ds (g * 196 + j)) (W * H)) (mxf (cfX (W * H) ds cnt X F) (mixL 967 X.2.2.2) 9) 4) k))]) (st' := []) _ (ms_deC dX5_digest_101 (ms_deC dX5_digest_102 ms_deN)) rfl rfl ?_
      rw [hkN]
      refine ms_W.sub (lv2 := [(0, _), (1, _), (3, _)]) ?_ [1, 2, 0] rfl
      exact l4_X5_digest hX hG hQ hC hx9 ha hJ hc hF24 hW hH hp hd1 hd2_ (W * H) 0 (by omega)
    · skip
      exact absurd (by rw [hx9]; exact nI_le (b := k) (by omega) (by omega)) h_85
  | succ r ih =>
    intro k hk
    have hlt : k < cnt := by omega
    refine ms_run (pc' := 79) (lv' := [(0, .ref x), (1, .long (fdl (dgW (nI (W * H)) nr ds cnt dr X F) (mxf (fun g => mx (fun j => ds (g * 196 + j)) (W * H)) (mxf (cfX (W * H) ds cnt X F) (mixL 967 X.2.2.2) 9) 4) k)), (3, .int (nI k))]) (st' := [.ref x, .int (nI k)]) _ (ms_deC dX5_digest_77 (ms_deC dX5_digest_78 ms_deN)) rfl rfl ?_
    refine ms_getf dX5_digest_79 fg_X5_30 hX rfl ?_
    refine ms_getf dX5_digest_82 fg_X5_163 hC.1 rfl ?_
    refine ms_icmp_ge (tgt := 101) dX5_digest_85 (by decide) (fun h_85 => ?_) (fun h_85 => ?_)
    · skip
      exact absurd h_85 (by rw [hx9]; exact nI_ge (b := cnt) (by omega) (by omega))
    · skip
      refine ms_run (pc' := 91) (lv' := [(0, .ref x), (1, .long (fdl (dgW (nI (W * H)) nr ds cnt dr X F) (mxf (fun g => mx (fun j => ds (g * 196 + j)) (W * H)) (mxf (cfX (W * H) ds cnt X F) (mixL 967 X.2.2.2) 9) 4) k)), (3, .int (nI k))]) (st' := [.int (nI k), .long (fdl (dgW (nI (W * H)) nr ds cnt dr X F) (mxf (fun g => mx (fun j => ds (g * 196 + j)) (W * H)) (mxf (cfX (W * H) ds cnt X F) (mixL 967 X.2.2.2) 9) 4) k), .ref x]) _ (ms_deC dX5_digest_88 (ms_deC dX5_digest_89 (ms_deC dX5_digest_90 ms_deN))) rfl rfl ?_
      refine ms_callVp (As := [.long (fdl (dgW (nI (W * H)) nr ds cnt dr X F) (mxf (fun g => mx (fun j => ds (g * 196 + j)) (W * H)) (mxf (cfX (W * H) ds cnt X F) (mixL 967 X.2.2.2) 9) 4) k), .int (nI k)]) dX5_digest_91 (c_X5_mixWalker hX hG hQ hC hx9 ha hJ hc hF24 hW hH hp hd2_ hlt (fdl (dgW (nI (W * H)) nr ds cnt dr X F) (mxf (fun g => mx (fun j => ds (g * 196 + j)) (W * H)) (mxf (cfX (W * H) ds cnt X F) (mixL 967 X.2.2.2) 9) 4) k)) cv_X5_267 hX rfl ⟨Nat.le_of_ble_eq_true rfl, Nat.le_of_ble_eq_true rfl⟩ rfl (Nat.le_of_ble_eq_true rfl) ?_
      refine ms_run (pc' := 98) (lv' := [(3, .int ((nI k) + 1)), (1, .long (dgW (nI (W * H)) nr ds cnt dr X F (fdl (dgW (nI (W * H)) nr ds cnt dr X F) (mxf (fun g => mx (fun j => ds (g * 196 + j)) (W * H)) (mxf (cfX (W * H) ds cnt X F) (mixL 967 X.2.2.2) 9) 4) k) k)), (0, .ref x)]) (st' := []) _ (ms_deC dX5_digest_94 (ms_deC dX5_digest_95 ms_deN)) rfl rfl ?_
      refine ms_goto (tgt := 77) dX5_digest_98 (by decide) ?_
      show ms_W _ _ _ _ [(3, .int (nI k + 1)), (1, .long (fdl (dgW (nI (W * H)) nr ds cnt dr X F) (mxf (fun g => mx (fun j => ds (g * 196 + j)) (W * H)) (mxf (cfX (W * H) ds cnt X F) (mixL 967 X.2.2.2) 9) 4) (k + 1))), (0, .ref x)] _ _ _ _ _
      rw [nI_1 k]
      refine ms_W.sub (lv2 := [(0, _), (1, _), (3, _)]) ?_ [2, 1, 0] rfl
      exact ih (k + 1) (by omega)
set_option maxHeartbeats 2000000 in
set_option maxRecDepth 20000 in
theorem l2_X5_digest {n x g q c j q2 c2 W H : Nat} {G : ms_H} {nr wl mk ds qu hd cm quj : Nat → Int32} {wk : Nat → Nat → Int32} {cnt : Nat} {dr : Int32} {X : cX} {F : fdS} (hX : G x = some (.inr (5, [.ref g, .ref q, .ref c, .ref j, .ref q2, .ref c2]))) (hG : gr_at G g (nI (W * H)) (nI W) (nI H) nr) (hQ : sq_at G g q wl mk ds qu) (hC : cr_at G g q c hd X.2.2.1 X.2.1 cm wk) (hx9 : hd 0 = nI cnt) (ha : ∀ k, k < cnt → ∀ j, j < 8 → wk k j = X.1 k j) (hJ : jm_at G j (nI F.2.2.1) F.2.2.2 F.1 F.2.1 quj) (hc : cnt ≤ 24) (hF24 : F.2.2.1 ≤ 24) (hW : W ≤ 14) (hH : H ≤ 14) (hp : 0 < W * H) (hd1 : hd 1 = X.2.2.2) (hd2_ : hd 2 = dr) : ∀ (r k : Nat), k + r = 4 → ms_W false m_X5_digest (ms_p1 (some (.long (dgX (W * H) nr wl ds cnt dr X F))) n G) 51 [(0, .ref x), (1, .long (mxf (fun g => mx (fun j => ds (g * 196 + j)) (W * H)) (mxf (cfX (W * H) ds cnt X F) (mixL 967 X.2.2.2) 9) k)), (3, .int (nI k))] [] n G 0 0 := by
  have h196 := fd_196 hW hH
  intro r
  induction r with
  | zero =>
    intro k hk
    have hkN : k = 4 := by omega
    refine ms_run (pc' := 53) (lv' := [(0, .ref x), (1, .long (mxf (fun g => mx (fun j => ds (g * 196 + j)) (W * H)) (mxf (cfX (W * H) ds cnt X F) (mixL 967 X.2.2.2) 9) k)), (3, .int (nI k))]) (st' := [.int 4, .int (nI k)]) _ (ms_deC dX5_digest_51 (ms_deC dX5_digest_52 ms_deN)) rfl rfl ?_
    refine ms_icmp_ge (tgt := 75) dX5_digest_53 (by decide) (fun h_53 => ?_) (fun h_53 => ?_)
    · skip
      refine ms_run (pc' := 77) (lv' := [(3, .int 0), (0, .ref x), (1, .long (mxf (fun g => mx (fun j => ds (g * 196 + j)) (W * H)) (mxf (cfX (W * H) ds cnt X F) (mixL 967 X.2.2.2) 9) k))]) (st' := []) _ (ms_deC dX5_digest_75 (ms_deC dX5_digest_76 ms_deN)) rfl rfl ?_
      rw [hkN]
      refine ms_W.sub (lv2 := [(0, _), (1, _), (3, _)]) ?_ [1, 2, 0] rfl
      exact l3_X5_digest hX hG hQ hC hx9 ha hJ hc hF24 hW hH hp hd1 hd2_ cnt 0 (by omega)
    · skip
      exact absurd (by show nI 4 ≤ nI k; exact nI_le (b := k) (by omega) (by omega)) h_53
  | succ r ih =>
    intro k hk
    have hlt : k < 4 := by omega
    refine ms_run (pc' := 53) (lv' := [(0, .ref x), (1, .long (mxf (fun g => mx (fun j => ds (g * 196 + j)) (W * H)) (mxf (cfX (W * H) ds cnt X F) (mixL 967 X.2.2.2) 9) k)), (3, .int (nI k))]) (st' := [.int 4, .int (nI k)]) _ (ms_deC dX5_digest_51 (ms_deC dX5_digest_52 ms_deN)) rfl rfl ?_
    refine ms_icmp_ge (tgt := 75) dX5_digest_53 (by decide) (fun h_53 => ?_) (fun h_53 => ?_)
    · skip
      exact absurd h_53 (by show ¬ nI 4 ≤ nI k; exact nI_ge (b := 4) (by omega) (by omega))
    · skip
      refine ms_run (pc' := 58) (lv' := [(0, .ref x), (1, .long (mxf (fun g => mx (fun j => ds (g * 196 + j)) (W * H)) (mxf (cfX (W * H) ds cnt X F) (mixL 967 X.2.2.2) 9) k)), (3, .int (nI k))]) (st' := [.ref x, .long (mxf (fun g => mx (fun j => ds (g * 196 + j)) (W * H)) (mxf (cfX (W * H) ds cnt X F) (mixL 967 X.2.2.2) 9) k)]) _ (ms_deC dX5_digest_56 (ms_deC dX5_digest_57 ms_deN)) rfl rfl ?_
      refine ms_getf dX5_digest_58 fg_X5_21 hX rfl ?_
      refine ms_run (pc' := 62) (lv' := [(0, .ref x), (1, .long (mxf (fun g => mx (fun j => ds (g * 196 + j)) (W * H)) (mxf (cfX (W * H) ds cnt X F) (mixL 967 X.2.2.2) 9) k)), (3, .int (nI k))]) (st' := [.int (nI k), .ref q, .long (mxf (fun g => mx (fun j => ds (g * 196 + j)) (W * H)) (mxf (cfX (W * H) ds cnt X F) (mixL 967 X.2.2.2) 9) k)]) _ (ms_deC dX5_digest_61 ms_deN) rfl rfl ?_
      refine ms_callVp (As := [.int (nI k)]) dX5_digest_62 (c_X3_greatestDistance hG hQ rfl (fd_196 hW hH) hlt) cv_X5_148 hQ.1 rfl ⟨Nat.le_of_ble_eq_true rfl, Nat.le_of_ble_eq_true rfl⟩ rfl (Nat.le_of_ble_eq_true rfl) ?_
      refine ms_callSp (As := [.long (mxf (fun g => mx (fun j => ds (g * 196 + j)) (W * H)) (mxf (cfX (W * H) ds cnt X F) (mixL 967 X.2.2.2) 9) k), .int (mx (fun j => ds (k * 196 + j)) (W * H))]) dX5_digest_65 (c_X5_mix (mxf (fun g => mx (fun j => ds (g * 196 + j)) (W * H)) (mxf (cfX (W * H) ds cnt X F) (mixL 967 X.2.2.2) 9) k) (mx (fun j => ds (k * 196 + j)) (W * H))) cs_X5_263 rfl ⟨Nat.le_of_ble_eq_true rfl, Nat.le_of_ble_eq_true rfl⟩ rfl (Nat.le_of_ble_eq_true rfl) ?_
      refine ms_run (pc' := 72) (lv' := [(3, .int ((nI k) + 1)), (1, .long (mixL (mxf (fun g => mx (fun j => ds (g * 196 + j)) (W * H)) (mxf (cfX (W * H) ds cnt X F) (mixL 967 X.2.2.2) 9) k) (mx (fun j => ds (k * 196 + j)) (W * H)))), (0, .ref x)]) (st' := []) _ (ms_deC dX5_digest_68 (ms_deC dX5_digest_69 ms_deN)) rfl rfl ?_
      refine ms_goto (tgt := 51) dX5_digest_72 (by decide) ?_
      show ms_W _ _ _ _ [(3, .int (nI k + 1)), (1, .long (mxf (fun g => mx (fun j => ds (g * 196 + j)) (W * H)) (mxf (cfX (W * H) ds cnt X F) (mixL 967 X.2.2.2) 9) (k + 1))), (0, .ref x)] _ _ _ _ _
      rw [nI_1 k]
      refine ms_W.sub (lv2 := [(0, _), (1, _), (3, _)]) ?_ [2, 1, 0] rfl
      exact ih (k + 1) (by omega)
set_option maxHeartbeats 2000000 in
set_option maxRecDepth 20000 in
theorem l1_X5_digest {n x g q c j q2 c2 W H : Nat} {G : ms_H} {nr wl mk ds qu hd cm quj : Nat → Int32} {wk : Nat → Nat → Int32} {cnt : Nat} {dr : Int32} {X : cX} {F : fdS} (hX : G x = some (.inr (5, [.ref g, .ref q, .ref c, .ref j, .ref q2, .ref c2]))) (hG : gr_at G g (nI (W * H)) (nI W) (nI H) nr) (hQ : sq_at G g q wl mk ds qu) (hC : cr_at G g q c hd X.2.2.1 X.2.1 cm wk) (hx9 : hd 0 = nI cnt) (ha : ∀ k, k < cnt → ∀ j, j < 8 → wk k j = X.1 k j) (hJ : jm_at G j (nI F.2.2.1) F.2.2.2 F.1 F.2.1 quj) (hc : cnt ≤ 24) (hF24 : F.2.2.1 ≤ 24) (hW : W ≤ 14) (hH : H ≤ 14) (hp : 0 < W * H) (hd1 : hd 1 = X.2.2.2) (hd2_ : hd 2 = dr) : ∀ (r k : Nat), k + r = 9 → ms_W false m_X5_digest (ms_p1 (some (.long (dgX (W * H) nr wl ds cnt dr X F))) n G) 27 [(0, .ref x), (1, .long (mxf (cfX (W * H) ds cnt X F) (mixL 967 X.2.2.2) k)), (3, .int (nI k))] [] n G 0 0 := by
  have h196 := fd_196 hW hH
  intro r
  induction r with
  | zero =>
    intro k hk
    have hkN : k = 9 := by omega
    refine ms_run (pc' := 30) (lv' := [(0, .ref x), (1, .long (mxf (cfX (W * H) ds cnt X F) (mixL 967 X.2.2.2) k)), (3, .int (nI k))]) (st' := [.int 8, .int (nI k)]) _ (ms_deC dX5_digest_27 (ms_deC dX5_digest_28 ms_deN)) rfl rfl ?_
    refine ms_icmp_gt (tgt := 49) dX5_digest_30 (by decide) (fun h_30 => ?_) (fun h_30 => ?_)
    · skip
      refine ms_run (pc' := 51) (lv' := [(3, .int 0), (0, .ref x), (1, .long (mxf (cfX (W * H) ds cnt X F) (mixL 967 X.2.2.2) k))]) (st' := []) _ (ms_deC dX5_digest_49 (ms_deC dX5_digest_50 ms_deN)) rfl rfl ?_
      rw [hkN]
      refine ms_W.sub (lv2 := [(0, _), (1, _), (3, _)]) ?_ [1, 2, 0] rfl
      exact l2_X5_digest hX hG hQ hC hx9 ha hJ hc hF24 hW hH hp hd1 hd2_ 4 0 rfl
    · skip
      exact absurd (show nI 8 < nI k from nI_lt (by omega) (by omega)) h_30
  | succ r ih =>
    intro k hk
    have hlt : k < 9 := by omega
    refine ms_run (pc' := 30) (lv' := [(0, .ref x), (1, .long (mxf (cfX (W * H) ds cnt X F) (mixL 967 X.2.2.2) k)), (3, .int (nI k))]) (st' := [.int 8, .int (nI k)]) _ (ms_deC dX5_digest_27 (ms_deC dX5_digest_28 ms_deN)) rfl rfl ?_
    refine ms_icmp_gt (tgt := 49) dX5_digest_30 (by decide) (fun h_30 => ?_) (fun h_30 => ?_)
    · skip
      exact absurd h_30 (show ¬ nI 8 < nI k from nI_nlt (by omega) (by omega))
    · skip
      refine ms_run (pc' := 36) (lv' := [(0, .ref x), (1, .long (mxf (cfX (W * H) ds cnt X F) (mixL 967 X.2.2.2) k)), (3, .int (nI k))]) (st' := [.int (nI k), .ref x, .long (mxf (cfX (W * H) ds cnt X F) (mixL 967 X.2.2.2) k)]) _ (ms_deC dX5_digest_33 (ms_deC dX5_digest_34 (ms_deC dX5_digest_35 ms_deN))) rfl rfl ?_
      refine ms_callVp (As := [.int (nI k)]) dX5_digest_36 (c_X5_crowdFigure hX hG hQ hC hx9 ha hJ hc hF24 hW hH hp k (by omega)) cv_X5_205 hX rfl ⟨Nat.le_of_ble_eq_true rfl, Nat.le_of_ble_eq_true rfl⟩ rfl (Nat.le_of_ble_eq_true rfl) ?_
      refine ms_callSp (As := [.long (mxf (cfX (W * H) ds cnt X F) (mixL 967 X.2.2.2) k), .int (cfX (W * H) ds cnt X F k)]) dX5_digest_39 (c_X5_mix (mxf (cfX (W * H) ds cnt X F) (mixL 967 X.2.2.2) k) (cfX (W * H) ds cnt X F k)) cs_X5_263 rfl ⟨Nat.le_of_ble_eq_true rfl, Nat.le_of_ble_eq_true rfl⟩ rfl (Nat.le_of_ble_eq_true rfl) ?_
      refine ms_run (pc' := 46) (lv' := [(3, .int ((nI k) + 1)), (1, .long (mixL (mxf (cfX (W * H) ds cnt X F) (mixL 967 X.2.2.2) k) (cfX (W * H) ds cnt X F k))), (0, .ref x)]) (st' := []) _ (ms_deC dX5_digest_42 (ms_deC dX5_digest_43 ms_deN)) rfl rfl ?_
      refine ms_goto (tgt := 27) dX5_digest_46 (by decide) ?_
      show ms_W _ _ _ _ [(3, .int (nI k + 1)), (1, .long (mxf (cfX (W * H) ds cnt X F) (mixL 967 X.2.2.2) (k + 1))), (0, .ref x)] _ _ _ _ _
      rw [nI_1 k]
      refine ms_W.sub (lv2 := [(0, _), (1, _), (3, _)]) ?_ [2, 1, 0] rfl
      exact ih (k + 1) (by omega)
theorem ms_W.post {d : ms_D} {v : Option Value} {m : Nat} {K : ms_H} {P2 : ms_P} {pc : Nat} {lv : List (Nat × Value)} {st : List Value} {n : Nat} {G : ms_H} {kr zr : Nat} (h : ms_W false d (ms_p1 v m K) pc lv st n G kr zr) (hP : ∀ r n1 G1, (r = .inl v ∧ n1 = m ∧ G1 = K) → P2 r n1 G1) : ms_W false d P2 pc lv st n G kr zr := by
  intro mc ms p l e s m args below meth c D cA base H locs cells slots ls F c1 c2 c3 c4 c5 c6
  intro T hT X
  obtain ⟨t, h1, o, h2, h3, ⟨⟨w, G1, e1, e2, e3⟩, h4⟩⟩ := h mc ms p l e s m args below meth c D cA base H locs cells slots ls F c1 c2 c3 c4 c5 c6 T hT X
  exact ⟨t, h1, o, h2, h3, ⟨⟨w, G1, e1, hP _ _ _ ⟨e2.1, e2.2.1, e2.2.2⟩, e3⟩, h4⟩⟩
set_option maxHeartbeats 4000000 in
set_option maxRecDepth 20000 in
theorem c_X5_digest {n x g q c j q2 c2 W H : Nat} {G : ms_H} {nr wl mk ds : Nat → Int32} {cnt : Nat} {dr pa : Int32} {X : cX} (ho : ox x g q c j q2 c2) (hS : xs_at G x g q c j q2 c2 W H nr wl mk ds cnt dr pa X) (hc : cnt ≤ 24) (hW : W ≤ 14) (hH : H ≤ 14) (hp : 0 < W * H) : ms_M m_X5_digest [.ref x] n G 0 0 (xv_P n (some (.long (dgX (W * H) nr wl ds cnt dr X (jxX pa cnt nr X)))) (fun G1 => xs_at G1 x g q c j q2 c2 W H nr wl mk ds cnt dr pa X ∧ ms_fr x (c2 + 29 - x) G G1)) := by
  refine ms_M.of (by decide) (Nat.le_of_ble_eq_true rfl) ?_
  show ms_W false m_X5_digest _ 0 [(0, .ref x)] [] n G 0 0
  obtain ⟨hX, hG, ⟨qu, hQ⟩, ⟨hd, cm, wk, hC, hx, hd1, hd2_, hd3, ha⟩, ⟨cn, wi, jo, sz, quj, hJ⟩, ⟨wl2, mk2, ds2, qu2, hQt⟩, ⟨hd2, on2, ht2, cm2, wk2, hCt⟩⟩ := hS
  obtain ⟨o1, o2, o3, o4, o5, o6⟩ := ho
  have hF : ms_fr x (c2 + 29 - x) G G := ms_fr.rf
  refine ms_run (pc' := 1) (lv' := [(0, .ref x)]) (st' := [.ref x]) _ (ms_deC dX5_digest_0 ms_deN) rfl rfl ?_
  refine ms_getf dX5_digest_1 fg_X5_37 hX rfl ?_
  refine ms_run (pc' := 5) (lv' := [(0, .ref x)]) (st' := [.ref x, .ref j]) _ (ms_deC dX5_digest_4 ms_deN) rfl rfl ?_
  refine ms_getf dX5_digest_5 fg_X5_30 hX rfl ?_
  refine ms_callV0 (As := [.ref c]) dX5_digest_8 (c_X2_find hx hc (by omega) (by omega) hG hC hJ) cv_X5_201 hJ.1 rfl ⟨Nat.le_of_ble_eq_true rfl, Nat.le_of_ble_eq_true rfl⟩ rfl (Nat.le_of_ble_eq_true rfl) (fun v9 n9 K_fi hp9 => ?_)
  obtain ⟨hv9, rfl, ⟨qj9, hJ9⟩, hF_fi⟩ := hp9
  cases hv9
  rw [hd3, jbR_c ha, nbR_c ha] at hJ9
  have hG_1 : gr_at K_fi g (nI (W * H)) (nI W) (nI H) nr := gr_at.fr hG hF_fi (by omega)
  have hQ_2 : sq_at K_fi g q wl mk ds qu := sq_at.fr hQ hF_fi (by omega)
  have hC_3 : cr_at K_fi g q c hd X.2.2.1 X.2.1 cm wk := cr_at.fr hC hF_fi (by omega)
  have hQt_4 : sq_at K_fi g q2 wl2 mk2 ds2 qu2 := sq_at.fr hQt hF_fi (by omega)
  have hCt_5 : cr_at K_fi g q2 c2 hd2 on2 ht2 cm2 wk2 := cr_at.fr hCt hF_fi (by omega)
  have hF_6 : ms_fr x (c2 + 29 - x) G K_fi := ms_fr.trans hF (ms_fr.mono hF_fi (by omega) (by omega))
  have hf_7 := (hF_fi x (by omega)).trans hX
  have hF24 : (jxX pa cnt nr X).2.2.1 ≤ 24 := Nat.le_trans (fdX_n cnt) hc
  refine ms_ldc2 dX5_digest_11 lc_X5_261 ?_
  refine ms_run (pc' := 15) (lv' := [(0, .ref x)]) (st' := [.ref x, .long 967]) _ (ms_deC dX5_digest_14 ms_deN) rfl rfl ?_
  refine ms_getf dX5_digest_15 fg_X5_30 hf_7 rfl ?_
  refine ms_getf dX5_digest_18 fg_X5_196 hC_3.1 rfl ?_
  refine ms_callSp (As := [.long 967, .int (hd 1)]) dX5_digest_21 (c_X5_mix 967 (hd 1)) cs_X5_263 rfl ⟨Nat.le_of_ble_eq_true rfl, Nat.le_of_ble_eq_true rfl⟩ rfl (Nat.le_of_ble_eq_true rfl) ?_
  refine ms_run (pc' := 27) (lv' := [(3, .int 0), (1, .long (mixL 967 (hd 1))), (0, .ref x)]) (st' := []) _ (ms_deC dX5_digest_24 (ms_deC dX5_digest_25 (ms_deC dX5_digest_26 ms_deN))) rfl rfl ?_
  refine ms_W.post ?_ (fun v9 n9 G9 h9 => ⟨by rw [h9.1], h9.2.1, by rw [h9.2.2]; exact ⟨⟨hf_7, hG_1, ⟨_, hQ_2⟩, ⟨hd, cm, wk, hC_3, hx, hd1, hd2_, hd3, ha⟩, ⟨_, _, _, _, _, hJ9⟩, ⟨_, _, _, _, hQt_4⟩, ⟨_, _, _, _, _, hCt_5⟩⟩, hF_6⟩⟩)
  rw [hd1]
  refine ms_W.sub (lv2 := [(0, _), (1, _), (3, _)]) ?_ [2, 1, 0] rfl
  exact l1_X5_digest (F := (jxX pa cnt nr X)) hf_7 hG_1 hQ_2 hC_3 hx ha hJ9 hc hF24 hW hH hp hd1 hd2_ 9 0 rfl

/-! the model: walker -/
theorem ad_it {F it : Nat → Int32} {cnt : Nat} {X : cX} {gl pc mo f : Int32} (hit : ∀ k, k < cnt → ∀ j, j < 8 → it (k * 8 + j) = X.1 k j) (hF : ∀ j, j < 8 → F j = wk_come (X.1 cnt) gl pc mo f j) : ∀ k, k < cnt + 1 → ∀ j, j < 8 → va_cpy F it 0 (cnt * 8) 8 (k * 8 + j) = (adX cnt X gl pc mo f).1 k j := fun k hk j hj => by
  by_cases e : k = cnt
  · subst e
    rw [pk_cpy_in (by omega) (by omega), ad_new, ← hF j hj]
    congr 1
    omega
  · rw [pk_cpy_out (by omega), ad_at (by omega)]
    exact hit k (by omega) j hj
theorem come8 {F u : Nat → Int32} {gl pc mo f : Int32} (h0 : F 0 = gl) (h1 : F 1 = pc) (h2 : F 2 = mo) (h3 : F 3 = f) (h4 : F 4 = 4) (h5 : F 5 = 0) (h6 : F 6 = 0) (h7 : F 7 = -1) : ∀ j, j < 8 → F j = wk_come u gl pc mo f j := fun j hj => by
  match j, hj with
  | 0, _ => exact h0
  | 1, _ => exact h1
  | 2, _ => exact h2
  | 3, _ => exact h3
  | 4, _ => exact h4
  | 5, _ => exact h5
  | 6, _ => exact h6
  | 7, _ => exact h7
set_option maxHeartbeats 1000000 in
set_option maxRecDepth 20000 in
theorem c_X6_walker {n m aw am ai ah W H cnt N : Nat} {G : ms_H} {th dr pa : Int32} {wl mm : Nat → Int32} {X : cX} {nr mk ds : Nat → Int32} (hM : md_at G m aw am ai ah W H th X.2.2.2 dr pa cnt wl mm X.2.1 X.1) (hl : md_lt n m aw am ai ah) (hW : W ≤ 14) (hH : H ≤ 14) (hW0 : 0 < W) (hc : cnt ≤ 24) (hne : md_ne m aw am ai ah) (hL : lk_ok W H (W * H) nr) (hmm : mmR (W * H) mk mm) (hds : dsR (W * H) nr wl mk ds) (hd : 0 ≤ dr ∧ dr ≤ 9) (hN : N < 1000000) (hV : wdV W H cnt N X) (gl pc mo aa bb : Int32) : ms_M m_X6_walker [.ref m, .int gl, .int pc, .int mo, .int aa, .int bb] n G 1 8 (mq_P n G (E5 m aw am ai ah) (th_wlk W H wl mk cnt X.2.2.1 gl pc mo aa bb) (fun e => if e = IOB then 1 else if e = IAE then 2 else 3) (.int (nI cnt)) (fun t G1 => md_at G1 m aw am ai ah W H t X.2.2.2 dr pa cnt wl mm X.2.1 X.1) (fun G1 => md_at G1 m aw am ai ah W H 0 (adX cnt X gl pc mo (gr_num (nI W) (nI H) aa bb)).2.2.2 dr pa (cnt + 1) wl mm (adX cnt X gl pc mo (gr_num (nI W) (nI H) aa bb)).2.1 (adX cnt X gl pc mo (gr_num (nI W) (nI H) aa bb)).1)) := by
  refine ms_M.of (by decide) (Nat.le_of_ble_eq_true rfl) ?_
  show ms_W false m_X6_walker _ 0 [(0, .ref m), (1, .int gl), (2, .int pc), (3, .int mo), (4, .int aa), (5, .int bb)] [] n G 1 8
  have hl9 := hl
  have hne9 := hne
  obtain ⟨hm, hw_, hk_, ⟨it, hi_, hit⟩, hh_⟩ := hM
  obtain ⟨l1, l2, l3, l4, l5⟩ := hl
  obtain ⟨n1, n2, n3, n4, n5, n6, n7, n8, n9, n10⟩ := hne
  have h196 := fd_196 hW hH
  have hF : ms_fb (E5 m aw am ai ah) n G G := ms_fb.rf
  refine ms_run (pc' := 2) (lv' := [(0, .ref m), (1, .int gl), (2, .int pc), (3, .int mo), (4, .int aa), (5, .int bb)]) (st' := [.int 0, .ref m]) _ (ms_deC dX6_walker_0 (ms_deC dX6_walker_1 ms_deN)) rfl rfl ?_
  refine ms_putf dX6_walker_2 fp_X6_46 hm (Nat.le_of_ble_eq_true rfl) rfl rfl ?_
  obtain ⟨G_1, eG_1⟩ : ∃ K9 : ms_H, K9 = ms_up G m (.inr (6, [.int 0, .int (nI W), .int (nI H), .int X.2.2.2, .int dr, .int pa, .ref aw, .ref am, .int (nI cnt), .ref ai, .ref ah])) := ⟨_, rfl⟩
  refine ms_W.heq eG_1 ?_
  have hF_2 : ms_fb (E5 m aw am ai ah) n G G_1 := by rw [eG_1]; exact ms_fb.up hF (by first | exact Or.inl (by omega) | exact Or.inr rfl | exact Or.inr (Or.inl rfl) | exact Or.inr (Or.inr (Or.inl rfl)) | exact Or.inr (Or.inr (Or.inr rfl)) | exact Or.inr (Or.inr rfl) | exact Or.inr (Or.inr (Or.inr (Or.inl rfl))) | exact Or.inr (Or.inr (Or.inr (Or.inr (Or.inl rfl)))) | exact Or.inr (Or.inr (Or.inr (Or.inr (Or.inr rfl)))))
  have hf_3 : G_1 m = some (.inr (6, [.int 0, .int (nI W), .int (nI H), .int X.2.2.2, .int dr, .int pa, .ref aw, .ref am, .int (nI cnt), .ref ai, .ref ah])) := by rw [eG_1]; exact ms_up_s _ _ _
  have hf_4 := (congrFun eG_1 aw).trans ((ms_up_n G _ (by omega)).trans hw_)
  have hf_5 := (congrFun eG_1 am).trans ((ms_up_n G _ (by omega)).trans hk_)
  have hf_6 := (congrFun eG_1 ai).trans ((ms_up_n G _ (by omega)).trans hi_)
  have hf_7 := (congrFun eG_1 ah).trans ((ms_up_n G _ (by omega)).trans hh_)
  refine ms_run (pc' := 6) (lv' := [(0, .ref m), (1, .int gl), (2, .int pc), (3, .int mo), (4, .int aa), (5, .int bb)]) (st' := [.int gl]) _ (ms_deC dX6_walker_5 ms_deN) rfl rfl ?_
  refine ms_callSp (As := [.int gl]) dX6_walker_6 (c_X6_isGoal gl) cs_X6_91 rfl ⟨Nat.le_of_ble_eq_true rfl, Nat.le_of_ble_eq_true rfl⟩ rfl (Nat.le_of_ble_eq_true rfl) ?_
  by_cases hgl : gl_is gl
  · rw [show ms_b (gl_is gl) = 1 from if_pos hgl]
    obtain ⟨g, hg, hge⟩ := gl_nI hgl
    subst hge
    refine ms_if_eq (tgt := 23) dX6_walker_9 (by decide) (fun h9 => absurd h9 (by decide)) (fun _ => ?_)
    refine ms_run (pc' := 17) (lv' := [(0, .ref m), (1, .int (nI g)), (2, .int pc), (3, .int mo), (4, .int aa), (5, .int bb)]) (st' := [.int bb, .int aa, .ref m]) _ (ms_deC dX6_walker_12 (ms_deC dX6_walker_13 (ms_deC dX6_walker_15 ms_deN))) rfl rfl ?_
    refine ms_callVp (As := [.int aa, .int bb]) dX6_walker_17 (c_X6_isField (show md_at G_1 m aw am ai ah W H 0 X.2.2.2 dr pa cnt wl mm X.2.1 X.1 from ⟨hf_3, hf_4, hf_5, ⟨it, hf_6, hit⟩, hf_7⟩) hW hH hc aa bb) cv_X6_57 hf_3 rfl ⟨Nat.le_of_ble_eq_true rfl, Nat.le_of_ble_eq_true rfl⟩ rfl (Nat.le_of_ble_eq_true rfl) ?_
    by_cases hins : gr_ins (nI W) (nI H) aa bb
    · rw [show ms_b (gr_ins (nI W) (nI H) aa bb) = 1 from if_pos hins]
      obtain ⟨ax, ay, hax, hay, hae, hbe, hfe⟩ := ins_nat hW hH hins
      have hlf : ay * W + ax < W * H := fd_lt hax hay
      refine ms_if_ne (tgt := 29) dX6_walker_20 (by decide) (fun _ => ?_) (fun h9 => absurd h9 (by decide))
      refine ms_run (pc' := 32) (lv' := [(0, .ref m), (1, .int (nI g)), (2, .int pc), (3, .int mo), (4, .int aa), (5, .int bb)]) (st' := [.int 3, .int 1, .int pc]) _ (ms_deC dX6_walker_29 (ms_deC dX6_walker_30 (ms_deC dX6_walker_31 ms_deN))) rfl rfl ?_
      refine ms_callSp (As := [.int pc, .int 1, .int 3]) dX6_walker_32 (c_X6_isIn pc 1 3) cs_X6_49 rfl ⟨Nat.le_of_ble_eq_true rfl, Nat.le_of_ble_eq_true rfl⟩ rfl (Nat.le_of_ble_eq_true rfl) ?_
      by_cases h1 : 1 ≤ pc ∧ pc ≤ 3
      · rw [show ms_b (1 ≤ pc ∧ pc ≤ 3) = 1 from if_pos h1]
        refine ms_if_eq (tgt := 48) dX6_walker_35 (by decide) (fun h9 => absurd h9 (by decide)) (fun _ => ?_)
        refine ms_run (pc' := 42) (lv' := [(0, .ref m), (1, .int (nI g)), (2, .int pc), (3, .int mo), (4, .int aa), (5, .int bb)]) (st' := [.int 9, .int 0, .int mo]) _ (ms_deC dX6_walker_38 (ms_deC dX6_walker_39 (ms_deC dX6_walker_40 ms_deN))) rfl rfl ?_
        refine ms_callSp (As := [.int mo, .int 0, .int 9]) dX6_walker_42 (c_X6_isIn mo 0 9) cs_X6_49 rfl ⟨Nat.le_of_ble_eq_true rfl, Nat.le_of_ble_eq_true rfl⟩ rfl (Nat.le_of_ble_eq_true rfl) ?_
        by_cases hmo : 0 ≤ mo ∧ mo ≤ 9
        · rw [show ms_b (0 ≤ mo ∧ mo ≤ 9) = 1 from if_pos hmo]
          refine ms_if_ne (tgt := 54) dX6_walker_45 (by decide) (fun _ => ?_) (fun h9 => absurd h9 (by decide))
          refine ms_run (pc' := 57) (lv' := [(0, .ref m), (1, .int (nI g)), (2, .int pc), (3, .int mo), (4, .int aa), (5, .int bb)]) (st' := [.ref m, .int bb]) _ (ms_deC dX6_walker_54 (ms_deC dX6_walker_56 ms_deN)) rfl rfl ?_
          refine ms_getf dX6_walker_57 fg_X6_20 hf_3 rfl ?_
          refine ms_run (pc' := 64) (lv' := [(0, .ref m), (1, .int (nI g)), (2, .int pc), (3, .int mo), (4, .int aa), (5, .int bb)]) (st' := [.int ((bb * (nI W)) + aa)]) _ (ms_deC dX6_walker_60 (ms_deC dX6_walker_61 (ms_deC dX6_walker_63 ms_deN))) rfl rfl ?_
          rw [show (bb * (nI W)) + aa = nI (ay * W + ax) from by rw [hae, hbe, ix_xy]]
          refine ms_run (pc' := 67) (lv' := [(6, .int (nI (ay * W + ax))), (0, .ref m), (1, .int (nI g)), (2, .int pc), (3, .int mo), (4, .int aa), (5, .int bb)]) (st' := [.ref m]) _ (ms_deC dX6_walker_64 (ms_deC dX6_walker_66 ms_deN)) rfl rfl ?_
          refine ms_getf dX6_walker_67 fg_X6_36 hf_3 rfl ?_
          refine ms_run (pc' := 72) (lv' := [(6, .int (nI (ay * W + ax))), (0, .ref m), (1, .int (nI g)), (2, .int pc), (3, .int mo), (4, .int aa), (5, .int bb)]) (st' := [.int 24, .int (nI cnt)]) _ (ms_deC dX6_walker_70 ms_deN) rfl rfl ?_
          refine ms_icmp_eq (tgt := 117) dX6_walker_72 (by decide) (fun h_72 => ?_) (fun h_72 => ?_)
          · skip
            refine ms_run (pc' := 119) (lv' := [(6, .int (nI (ay * W + ax))), (0, .ref m), (1, .int (nI g)), (2, .int pc), (3, .int mo), (4, .int aa), (5, .int bb)]) (st' := [.int 3, .ref m]) _ (ms_deC dX6_walker_117 (ms_deC dX6_walker_118 ms_deN)) rfl rfl ?_
            refine ms_callV0 (As := [.int 3]) dX6_walker_119 (c_X6_no (show md_at G_1 m aw am ai ah W H 0 X.2.2.2 dr pa cnt wl mm X.2.1 X.1 from ⟨hf_3, hf_4, hf_5, ⟨it, hf_6, hit⟩, hf_7⟩) hne9 3) cv_X6_79 hf_3 rfl ⟨Nat.le_of_ble_eq_true rfl, Nat.le_of_ble_eq_true rfl⟩ rfl (Nat.le_of_ble_eq_true rfl) (fun v9 n9 K_no hp9 => ?_)
            obtain ⟨hv9, rfl, hF_no, hM_no⟩ := hp9
            cases hv9
            refine ms_reti (st := []) (ty := .int) dX6_walker_122 rfl rfl ?_
            exact mq_P.no (show th_wlk W H wl mk cnt X.2.2.1 (nI g) pc mo aa bb = some ISE from by unfold th_wlk; rw [if_neg (by rintro (z9 | z9); exact z9 (gl_isI hg); rw [hfe] at z9; exact nI_m1 (by omega) z9), if_neg (by rintro (z9 | z9 | z9); exact Int32.not_lt.mpr h1.1 z9; exact Int32.not_lt.mpr h1.2 z9; exact z9 hmo), if_pos (by first | exact Or.inl (Nat.le_of_eq ((nI_eq (a := cnt) (b := 24) (by omega) (by omega)).mp h_72).symm) | exact Or.inr (Or.inl (fun z9 => h_82 (by have := z9.2; rw [hfe, nI_clamp (n := ay * W + ax) (by omega)] at this; exact this))) | exact Or.inr (Or.inr (Or.inl (by rw [hfe]; exact (sq_mkI hg hlf h196).mpr (Decidable.not_not.mp (fun z9 => h_104 (ms_b_0.mpr z9)))))) | exact Or.inr (Or.inr (Or.inr (by rw [hfe, cr_onI X.2.2.1 (by omega)]; exact h_114))))]) (by omega) (ms_fb.trans2 hF_2 (hF_no.mono (fun a h => Or.inl h)) (by omega)) rfl hM_no
          · skip
            refine ms_run (pc' := 76) (lv' := [(6, .int (nI (ay * W + ax))), (0, .ref m), (1, .int (nI g)), (2, .int pc), (3, .int mo), (4, .int aa), (5, .int bb)]) (st' := [.ref m]) _ (ms_deC dX6_walker_75 ms_deN) rfl rfl ?_
            refine ms_getf dX6_walker_76 fg_X6_29 hf_3 rfl ?_
            refine ms_run (pc' := 81) (lv' := [(6, .int (nI (ay * W + ax))), (0, .ref m), (1, .int (nI g)), (2, .int pc), (3, .int mo), (4, .int aa), (5, .int bb)]) (st' := [.int (nI (ay * W + ax)), .ref aw]) _ (ms_deC dX6_walker_79 ms_deN) rfl rfl ?_
            refine ms_zaload dX6_walker_81 hf_4 (vp_in_nI hlf (by omega)) ?_
            rw [nI_clamp (n := ay * W + ax) (by omega)]
            refine ms_if_ne (tgt := 117) dX6_walker_82 (by decide) (fun h_82 => ?_) (fun h_82 => ?_)
            · skip
              refine ms_run (pc' := 119) (lv' := [(6, .int (nI (ay * W + ax))), (0, .ref m), (1, .int (nI g)), (2, .int pc), (3, .int mo), (4, .int aa), (5, .int bb)]) (st' := [.int 3, .ref m]) _ (ms_deC dX6_walker_117 (ms_deC dX6_walker_118 ms_deN)) rfl rfl ?_
              refine ms_callV0 (As := [.int 3]) dX6_walker_119 (c_X6_no (show md_at G_1 m aw am ai ah W H 0 X.2.2.2 dr pa cnt wl mm X.2.1 X.1 from ⟨hf_3, hf_4, hf_5, ⟨it, hf_6, hit⟩, hf_7⟩) hne9 3) cv_X6_79 hf_3 rfl ⟨Nat.le_of_ble_eq_true rfl, Nat.le_of_ble_eq_true rfl⟩ rfl (Nat.le_of_ble_eq_true rfl) (fun v9 n9 K_no hp9 => ?_)
              obtain ⟨hv9, rfl, hF_no, hM_no⟩ := hp9
              cases hv9
              refine ms_reti (st := []) (ty := .int) dX6_walker_122 rfl rfl ?_
              exact mq_P.no (show th_wlk W H wl mk cnt X.2.2.1 (nI g) pc mo aa bb = some ISE from by unfold th_wlk; rw [if_neg (by rintro (z9 | z9); exact z9 (gl_isI hg); rw [hfe] at z9; exact nI_m1 (by omega) z9), if_neg (by rintro (z9 | z9 | z9); exact Int32.not_lt.mpr h1.1 z9; exact Int32.not_lt.mpr h1.2 z9; exact z9 hmo), if_pos (by first | exact Or.inl (Nat.le_of_eq ((nI_eq (a := cnt) (b := 24) (by omega) (by omega)).mp h_72).symm) | exact Or.inr (Or.inl (fun z9 => h_82 (by have := z9.2; rw [hfe, nI_clamp (n := ay * W + ax) (by omega)] at this; exact this))) | exact Or.inr (Or.inr (Or.inl (by rw [hfe]; exact (sq_mkI hg hlf h196).mpr (Decidable.not_not.mp (fun z9 => h_104 (ms_b_0.mpr z9)))))) | exact Or.inr (Or.inr (Or.inr (by rw [hfe, cr_onI X.2.2.1 (by omega)]; exact h_114))))]) (by omega) (ms_fb.trans2 hF_2 (hF_no.mono (fun a h => Or.inl h)) (by omega)) rfl hM_no
            · skip
              refine ms_run (pc' := 86) (lv' := [(6, .int (nI (ay * W + ax))), (0, .ref m), (1, .int (nI g)), (2, .int pc), (3, .int mo), (4, .int aa), (5, .int bb)]) (st' := [.ref m]) _ (ms_deC dX6_walker_85 ms_deN) rfl rfl ?_
              refine ms_getf dX6_walker_86 fg_X6_33 hf_3 rfl ?_
              refine ms_run (pc' := 91) (lv' := [(6, .int (nI (ay * W + ax))), (0, .ref m), (1, .int (nI g)), (2, .int pc), (3, .int mo), (4, .int aa), (5, .int bb)]) (st' := [.ref m, .int (nI g), .ref am]) _ (ms_deC dX6_walker_89 (ms_deC dX6_walker_90 ms_deN)) rfl rfl ?_
              refine ms_getf dX6_walker_91 fg_X6_20 hf_3 rfl ?_
              refine ms_run (pc' := 96) (lv' := [(6, .int (nI (ay * W + ax))), (0, .ref m), (1, .int (nI g)), (2, .int pc), (3, .int mo), (4, .int aa), (5, .int bb)]) (st' := [.ref m, .int ((nI g) * (nI W)), .ref am]) _ (ms_deC dX6_walker_94 (ms_deC dX6_walker_95 ms_deN)) rfl rfl ?_
              refine ms_getf dX6_walker_96 fg_X6_23 hf_3 rfl ?_
              refine ms_run (pc' := 103) (lv' := [(6, .int (nI (ay * W + ax))), (0, .ref m), (1, .int (nI g)), (2, .int pc), (3, .int mo), (4, .int aa), (5, .int bb)]) (st' := [.int ((((nI g) * (nI W)) * (nI H)) + (nI (ay * W + ax))), .ref am]) _ (ms_deC dX6_walker_99 (ms_deC dX6_walker_100 (ms_deC dX6_walker_102 ms_deN))) rfl rfl ?_
              refine ms_zaload dX6_walker_103 hf_5 (by rw [mm_a]; exact mm_in hg hlf h196) ?_
              rw [show mm ((((nI g) * (nI W)) * (nI H)) + (nI (ay * W + ax))).toNatClampNeg = ms_b (¬ mk (ay * W + ax) &&& (1 <<< (nI g &&& 31)) = 0) from by rw [mm_a, mm_ld hmm hg hlf h196]]
              refine ms_if_ne (tgt := 117) dX6_walker_104 (by decide) (fun h_104 => ?_) (fun h_104 => ?_)
              · skip
                refine ms_run (pc' := 119) (lv' := [(6, .int (nI (ay * W + ax))), (0, .ref m), (1, .int (nI g)), (2, .int pc), (3, .int mo), (4, .int aa), (5, .int bb)]) (st' := [.int 3, .ref m]) _ (ms_deC dX6_walker_117 (ms_deC dX6_walker_118 ms_deN)) rfl rfl ?_
                refine ms_callV0 (As := [.int 3]) dX6_walker_119 (c_X6_no (show md_at G_1 m aw am ai ah W H 0 X.2.2.2 dr pa cnt wl mm X.2.1 X.1 from ⟨hf_3, hf_4, hf_5, ⟨it, hf_6, hit⟩, hf_7⟩) hne9 3) cv_X6_79 hf_3 rfl ⟨Nat.le_of_ble_eq_true rfl, Nat.le_of_ble_eq_true rfl⟩ rfl (Nat.le_of_ble_eq_true rfl) (fun v9 n9 K_no hp9 => ?_)
                obtain ⟨hv9, rfl, hF_no, hM_no⟩ := hp9
                cases hv9
                refine ms_reti (st := []) (ty := .int) dX6_walker_122 rfl rfl ?_
                exact mq_P.no (show th_wlk W H wl mk cnt X.2.2.1 (nI g) pc mo aa bb = some ISE from by unfold th_wlk; rw [if_neg (by rintro (z9 | z9); exact z9 (gl_isI hg); rw [hfe] at z9; exact nI_m1 (by omega) z9), if_neg (by rintro (z9 | z9 | z9); exact Int32.not_lt.mpr h1.1 z9; exact Int32.not_lt.mpr h1.2 z9; exact z9 hmo), if_pos (by first | exact Or.inl (Nat.le_of_eq ((nI_eq (a := cnt) (b := 24) (by omega) (by omega)).mp h_72).symm) | exact Or.inr (Or.inl (fun z9 => h_82 (by have := z9.2; rw [hfe, nI_clamp (n := ay * W + ax) (by omega)] at this; exact this))) | exact Or.inr (Or.inr (Or.inl (by rw [hfe]; exact (sq_mkI hg hlf h196).mpr (Decidable.not_not.mp (fun z9 => h_104 (ms_b_0.mpr z9)))))) | exact Or.inr (Or.inr (Or.inr (by rw [hfe, cr_onI X.2.2.1 (by omega)]; exact h_114))))]) (by omega) (ms_fb.trans2 hF_2 (hF_no.mono (fun a h => Or.inl h)) (by omega)) rfl hM_no
              · skip
                refine ms_run (pc' := 110) (lv' := [(6, .int (nI (ay * W + ax))), (0, .ref m), (1, .int (nI g)), (2, .int pc), (3, .int mo), (4, .int aa), (5, .int bb)]) (st' := [.int (nI (ay * W + ax)), .ref m]) _ (ms_deC dX6_walker_107 (ms_deC dX6_walker_108 ms_deN)) rfl rfl ?_
                refine ms_callVp (As := [.int (nI (ay * W + ax))]) dX6_walker_110 (c_X6_walkerOn (show md_at G_1 m aw am ai ah W H 0 X.2.2.2 dr pa cnt wl mm X.2.1 X.1 from ⟨hf_3, hf_4, hf_5, ⟨it, hf_6, hit⟩, hf_7⟩) hW hH hc hV.1 hlf) cv_X6_88 hf_3 rfl ⟨Nat.le_of_ble_eq_true rfl, Nat.le_of_ble_eq_true rfl⟩ rfl (Nat.le_of_ble_eq_true rfl) ?_
                refine ms_run (pc' := 114) (lv' := [(6, .int (nI (ay * W + ax))), (0, .ref m), (1, .int (nI g)), (2, .int pc), (3, .int mo), (4, .int aa), (5, .int bb)]) (st' := [.int (-1), .int (X.2.2.1 (ay * W + ax))]) _ (ms_deC dX6_walker_113 ms_deN) rfl rfl ?_
                refine ms_icmp_eq (tgt := 123) dX6_walker_114 (by decide) (fun h_114 => ?_) (fun h_114 => ?_)
                · skip
                  refine ms_run (pc' := 125) (lv' := [(6, .int (nI (ay * W + ax))), (0, .ref m), (1, .int (nI g)), (2, .int pc), (3, .int mo), (4, .int aa), (5, .int bb)]) (st' := [.int 8]) _ (ms_deC dX6_walker_123 ms_deN) rfl rfl ?_
                  refine ms_W.room (k2 := 1 + 0) (z2 := 8 + 0) ?_ (by omega) (by omega)
                  refine ms_newI (N := 8) dX6_walker_125 aw_int (by decide) (rfl) (Nat.le_of_ble_eq_true rfl) ?_
                  obtain ⟨G_8, eG_8⟩ : ∃ K9 : ms_H, K9 = ms_up G_1 n (.inl (0, 8, .inl (fun _ => 0))) := ⟨_, rfl⟩
                  refine ms_W.heq eG_8 ?_
                  have hF_9 : ms_fb (E5 m aw am ai ah) n G G_8 := by rw [eG_8]; exact ms_fb.up hF_2 (by first | exact Or.inl (by omega) | exact Or.inr rfl | exact Or.inr (Or.inl rfl) | exact Or.inr (Or.inr (Or.inl rfl)) | exact Or.inr (Or.inr (Or.inr rfl)) | exact Or.inr (Or.inr rfl) | exact Or.inr (Or.inr (Or.inr (Or.inl rfl))) | exact Or.inr (Or.inr (Or.inr (Or.inr (Or.inl rfl)))) | exact Or.inr (Or.inr (Or.inr (Or.inr (Or.inr rfl)))))
                  have hf_10 := (congrFun eG_8 m).trans ((ms_up_n G_1 _ (by omega)).trans hf_3)
                  have hf_11 := (congrFun eG_8 aw).trans ((ms_up_n G_1 _ (by omega)).trans hf_4)
                  have hf_12 := (congrFun eG_8 am).trans ((ms_up_n G_1 _ (by omega)).trans hf_5)
                  have hf_13 := (congrFun eG_8 ai).trans ((ms_up_n G_1 _ (by omega)).trans hf_6)
                  have hf_14 := (congrFun eG_8 ah).trans ((ms_up_n G_1 _ (by omega)).trans hf_7)
                  have hf_15 : G_8 n = some (.inl (0, 8, .inl (fun _ => 0))) := by rw [eG_8]; exact ms_up_s _ _ _
                  refine ms_run (pc' := 130) (lv' := [(6, .int (nI (ay * W + ax))), (0, .ref m), (1, .int (nI g)), (2, .int pc), (3, .int mo), (4, .int aa), (5, .int bb)]) (st' := [.int (nI g), .int 0, .ref n, .ref n]) _ (ms_deC dX6_walker_127 (ms_deC dX6_walker_128 (ms_deC dX6_walker_129 ms_deN))) rfl rfl ?_
                  refine ms_iastore dX6_walker_130 hf_15 (by unfold vp_in; decide) ?_
                  obtain ⟨G_16, eG_16⟩ : ∃ K9 : ms_H, K9 = ms_up G_8 n (.inl (0, 8, .inl (upd (fun _ => 0) (0 : Int32).toNatClampNeg (nI g)))) := ⟨_, rfl⟩
                  refine ms_W.heq eG_16 ?_
                  have hF_17 : ms_fb (E5 m aw am ai ah) n G G_16 := by rw [eG_16]; exact ms_fb.up hF_9 (by first | exact Or.inl (by omega) | exact Or.inr rfl | exact Or.inr (Or.inl rfl) | exact Or.inr (Or.inr (Or.inl rfl)) | exact Or.inr (Or.inr (Or.inr rfl)) | exact Or.inr (Or.inr rfl) | exact Or.inr (Or.inr (Or.inr (Or.inl rfl))) | exact Or.inr (Or.inr (Or.inr (Or.inr (Or.inl rfl)))) | exact Or.inr (Or.inr (Or.inr (Or.inr (Or.inr rfl)))))
                  have hf_18 := (congrFun eG_16 m).trans ((ms_up_n G_8 _ (by omega)).trans hf_10)
                  have hf_19 := (congrFun eG_16 aw).trans ((ms_up_n G_8 _ (by omega)).trans hf_11)
                  have hf_20 := (congrFun eG_16 am).trans ((ms_up_n G_8 _ (by omega)).trans hf_12)
                  have hf_21 := (congrFun eG_16 ai).trans ((ms_up_n G_8 _ (by omega)).trans hf_13)
                  have hf_22 := (congrFun eG_16 ah).trans ((ms_up_n G_8 _ (by omega)).trans hf_14)
                  have hf_23 : G_16 n = some (.inl (0, 8, .inl (upd (fun _ => 0) (0 : Int32).toNatClampNeg (nI g)))) := by rw [eG_16]; exact ms_up_s _ _ _
                  refine ms_run (pc' := 134) (lv' := [(6, .int (nI (ay * W + ax))), (0, .ref m), (1, .int (nI g)), (2, .int pc), (3, .int mo), (4, .int aa), (5, .int bb)]) (st' := [.int pc, .int 1, .ref n, .ref n]) _ (ms_deC dX6_walker_131 (ms_deC dX6_walker_132 (ms_deC dX6_walker_133 ms_deN))) rfl rfl ?_
                  refine ms_iastore dX6_walker_134 hf_23 (by unfold vp_in; decide) ?_
                  obtain ⟨G_24, eG_24⟩ : ∃ K9 : ms_H, K9 = ms_up G_16 n (.inl (0, 8, .inl (upd (upd (fun _ => 0) (0 : Int32).toNatClampNeg (nI g)) (1 : Int32).toNatClampNeg pc))) := ⟨_, rfl⟩
                  refine ms_W.heq eG_24 ?_
                  have hF_25 : ms_fb (E5 m aw am ai ah) n G G_24 := by rw [eG_24]; exact ms_fb.up hF_17 (by first | exact Or.inl (by omega) | exact Or.inr rfl | exact Or.inr (Or.inl rfl) | exact Or.inr (Or.inr (Or.inl rfl)) | exact Or.inr (Or.inr (Or.inr rfl)) | exact Or.inr (Or.inr rfl) | exact Or.inr (Or.inr (Or.inr (Or.inl rfl))) | exact Or.inr (Or.inr (Or.inr (Or.inr (Or.inl rfl)))) | exact Or.inr (Or.inr (Or.inr (Or.inr (Or.inr rfl)))))
                  have hf_26 := (congrFun eG_24 m).trans ((ms_up_n G_16 _ (by omega)).trans hf_18)
                  have hf_27 := (congrFun eG_24 aw).trans ((ms_up_n G_16 _ (by omega)).trans hf_19)
                  have hf_28 := (congrFun eG_24 am).trans ((ms_up_n G_16 _ (by omega)).trans hf_20)
                  have hf_29 := (congrFun eG_24 ai).trans ((ms_up_n G_16 _ (by omega)).trans hf_21)
                  have hf_30 := (congrFun eG_24 ah).trans ((ms_up_n G_16 _ (by omega)).trans hf_22)
                  have hf_31 : G_24 n = some (.inl (0, 8, .inl (upd (upd (fun _ => 0) (0 : Int32).toNatClampNeg (nI g)) (1 : Int32).toNatClampNeg pc))) := by rw [eG_24]; exact ms_up_s _ _ _
                  refine ms_run (pc' := 138) (lv' := [(6, .int (nI (ay * W + ax))), (0, .ref m), (1, .int (nI g)), (2, .int pc), (3, .int mo), (4, .int aa), (5, .int bb)]) (st' := [.int mo, .int 2, .ref n, .ref n]) _ (ms_deC dX6_walker_135 (ms_deC dX6_walker_136 (ms_deC dX6_walker_137 ms_deN))) rfl rfl ?_
                  refine ms_iastore dX6_walker_138 hf_31 (by unfold vp_in; decide) ?_
                  obtain ⟨G_32, eG_32⟩ : ∃ K9 : ms_H, K9 = ms_up G_24 n (.inl (0, 8, .inl (upd (upd (upd (fun _ => 0) (0 : Int32).toNatClampNeg (nI g)) (1 : Int32).toNatClampNeg pc) (2 : Int32).toNatClampNeg mo))) := ⟨_, rfl⟩
                  refine ms_W.heq eG_32 ?_
                  have hF_33 : ms_fb (E5 m aw am ai ah) n G G_32 := by rw [eG_32]; exact ms_fb.up hF_25 (by first | exact Or.inl (by omega) | exact Or.inr rfl | exact Or.inr (Or.inl rfl) | exact Or.inr (Or.inr (Or.inl rfl)) | exact Or.inr (Or.inr (Or.inr rfl)) | exact Or.inr (Or.inr rfl) | exact Or.inr (Or.inr (Or.inr (Or.inl rfl))) | exact Or.inr (Or.inr (Or.inr (Or.inr (Or.inl rfl)))) | exact Or.inr (Or.inr (Or.inr (Or.inr (Or.inr rfl)))))
                  have hf_34 := (congrFun eG_32 m).trans ((ms_up_n G_24 _ (by omega)).trans hf_26)
                  have hf_35 := (congrFun eG_32 aw).trans ((ms_up_n G_24 _ (by omega)).trans hf_27)
                  have hf_36 := (congrFun eG_32 am).trans ((ms_up_n G_24 _ (by omega)).trans hf_28)
                  have hf_37 := (congrFun eG_32 ai).trans ((ms_up_n G_24 _ (by omega)).trans hf_29)
                  have hf_38 := (congrFun eG_32 ah).trans ((ms_up_n G_24 _ (by omega)).trans hf_30)
                  have hf_39 : G_32 n = some (.inl (0, 8, .inl (upd (upd (upd (fun _ => 0) (0 : Int32).toNatClampNeg (nI g)) (1 : Int32).toNatClampNeg pc) (2 : Int32).toNatClampNeg mo))) := by rw [eG_32]; exact ms_up_s _ _ _
                  refine ms_run (pc' := 143) (lv' := [(6, .int (nI (ay * W + ax))), (0, .ref m), (1, .int (nI g)), (2, .int pc), (3, .int mo), (4, .int aa), (5, .int bb)]) (st' := [.int (nI (ay * W + ax)), .int 3, .ref n, .ref n]) _ (ms_deC dX6_walker_139 (ms_deC dX6_walker_140 (ms_deC dX6_walker_141 ms_deN))) rfl rfl ?_
                  refine ms_iastore dX6_walker_143 hf_39 (by unfold vp_in; decide) ?_
                  obtain ⟨G_40, eG_40⟩ : ∃ K9 : ms_H, K9 = ms_up G_32 n (.inl (0, 8, .inl (upd (upd (upd (upd (fun _ => 0) (0 : Int32).toNatClampNeg (nI g)) (1 : Int32).toNatClampNeg pc) (2 : Int32).toNatClampNeg mo) (3 : Int32).toNatClampNeg (nI (ay * W + ax))))) := ⟨_, rfl⟩
                  refine ms_W.heq eG_40 ?_
                  have hF_41 : ms_fb (E5 m aw am ai ah) n G G_40 := by rw [eG_40]; exact ms_fb.up hF_33 (by first | exact Or.inl (by omega) | exact Or.inr rfl | exact Or.inr (Or.inl rfl) | exact Or.inr (Or.inr (Or.inl rfl)) | exact Or.inr (Or.inr (Or.inr rfl)) | exact Or.inr (Or.inr rfl) | exact Or.inr (Or.inr (Or.inr (Or.inl rfl))) | exact Or.inr (Or.inr (Or.inr (Or.inr (Or.inl rfl)))) | exact Or.inr (Or.inr (Or.inr (Or.inr (Or.inr rfl)))))
                  have hf_42 := (congrFun eG_40 m).trans ((ms_up_n G_32 _ (by omega)).trans hf_34)
                  have hf_43 := (congrFun eG_40 aw).trans ((ms_up_n G_32 _ (by omega)).trans hf_35)
                  have hf_44 := (congrFun eG_40 am).trans ((ms_up_n G_32 _ (by omega)).trans hf_36)
                  have hf_45 := (congrFun eG_40 ai).trans ((ms_up_n G_32 _ (by omega)).trans hf_37)
                  have hf_46 := (congrFun eG_40 ah).trans ((ms_up_n G_32 _ (by omega)).trans hf_38)
                  have hf_47 : G_40 n = some (.inl (0, 8, .inl (upd (upd (upd (upd (fun _ => 0) (0 : Int32).toNatClampNeg (nI g)) (1 : Int32).toNatClampNeg pc) (2 : Int32).toNatClampNeg mo) (3 : Int32).toNatClampNeg (nI (ay * W + ax))))) := by rw [eG_40]; exact ms_up_s _ _ _
                  refine ms_run (pc' := 147) (lv' := [(6, .int (nI (ay * W + ax))), (0, .ref m), (1, .int (nI g)), (2, .int pc), (3, .int mo), (4, .int aa), (5, .int bb)]) (st' := [.int 4, .int 4, .ref n, .ref n]) _ (ms_deC dX6_walker_144 (ms_deC dX6_walker_145 (ms_deC dX6_walker_146 ms_deN))) rfl rfl ?_
                  refine ms_iastore dX6_walker_147 hf_47 (by unfold vp_in; decide) ?_
                  obtain ⟨G_48, eG_48⟩ : ∃ K9 : ms_H, K9 = ms_up G_40 n (.inl (0, 8, .inl (upd (upd (upd (upd (upd (fun _ => 0) (0 : Int32).toNatClampNeg (nI g)) (1 : Int32).toNatClampNeg pc) (2 : Int32).toNatClampNeg mo) (3 : Int32).toNatClampNeg (nI (ay * W + ax))) (4 : Int32).toNatClampNeg 4))) := ⟨_, rfl⟩
                  refine ms_W.heq eG_48 ?_
                  have hF_49 : ms_fb (E5 m aw am ai ah) n G G_48 := by rw [eG_48]; exact ms_fb.up hF_41 (by first | exact Or.inl (by omega) | exact Or.inr rfl | exact Or.inr (Or.inl rfl) | exact Or.inr (Or.inr (Or.inl rfl)) | exact Or.inr (Or.inr (Or.inr rfl)) | exact Or.inr (Or.inr rfl) | exact Or.inr (Or.inr (Or.inr (Or.inl rfl))) | exact Or.inr (Or.inr (Or.inr (Or.inr (Or.inl rfl)))) | exact Or.inr (Or.inr (Or.inr (Or.inr (Or.inr rfl)))))
                  have hf_50 := (congrFun eG_48 m).trans ((ms_up_n G_40 _ (by omega)).trans hf_42)
                  have hf_51 := (congrFun eG_48 aw).trans ((ms_up_n G_40 _ (by omega)).trans hf_43)
                  have hf_52 := (congrFun eG_48 am).trans ((ms_up_n G_40 _ (by omega)).trans hf_44)
                  have hf_53 := (congrFun eG_48 ai).trans ((ms_up_n G_40 _ (by omega)).trans hf_45)
                  have hf_54 := (congrFun eG_48 ah).trans ((ms_up_n G_40 _ (by omega)).trans hf_46)
                  have hf_55 : G_48 n = some (.inl (0, 8, .inl (upd (upd (upd (upd (upd (fun _ => 0) (0 : Int32).toNatClampNeg (nI g)) (1 : Int32).toNatClampNeg pc) (2 : Int32).toNatClampNeg mo) (3 : Int32).toNatClampNeg (nI (ay * W + ax))) (4 : Int32).toNatClampNeg 4))) := by rw [eG_48]; exact ms_up_s _ _ _
                  refine ms_run (pc' := 151) (lv' := [(6, .int (nI (ay * W + ax))), (0, .ref m), (1, .int (nI g)), (2, .int pc), (3, .int mo), (4, .int aa), (5, .int bb)]) (st' := [.int 0, .int 5, .ref n, .ref n]) _ (ms_deC dX6_walker_148 (ms_deC dX6_walker_149 (ms_deC dX6_walker_150 ms_deN))) rfl rfl ?_
                  refine ms_iastore dX6_walker_151 hf_55 (by unfold vp_in; decide) ?_
                  obtain ⟨G_56, eG_56⟩ : ∃ K9 : ms_H, K9 = ms_up G_48 n (.inl (0, 8, .inl (upd (upd (upd (upd (upd (upd (fun _ => 0) (0 : Int32).toNatClampNeg (nI g)) (1 : Int32).toNatClampNeg pc) (2 : Int32).toNatClampNeg mo) (3 : Int32).toNatClampNeg (nI (ay * W + ax))) (4 : Int32).toNatClampNeg 4) (5 : Int32).toNatClampNeg 0))) := ⟨_, rfl⟩
                  refine ms_W.heq eG_56 ?_
                  have hF_57 : ms_fb (E5 m aw am ai ah) n G G_56 := by rw [eG_56]; exact ms_fb.up hF_49 (by first | exact Or.inl (by omega) | exact Or.inr rfl | exact Or.inr (Or.inl rfl) | exact Or.inr (Or.inr (Or.inl rfl)) | exact Or.inr (Or.inr (Or.inr rfl)) | exact Or.inr (Or.inr rfl) | exact Or.inr (Or.inr (Or.inr (Or.inl rfl))) | exact Or.inr (Or.inr (Or.inr (Or.inr (Or.inl rfl)))) | exact Or.inr (Or.inr (Or.inr (Or.inr (Or.inr rfl)))))
                  have hf_58 := (congrFun eG_56 m).trans ((ms_up_n G_48 _ (by omega)).trans hf_50)
                  have hf_59 := (congrFun eG_56 aw).trans ((ms_up_n G_48 _ (by omega)).trans hf_51)
                  have hf_60 := (congrFun eG_56 am).trans ((ms_up_n G_48 _ (by omega)).trans hf_52)
                  have hf_61 := (congrFun eG_56 ai).trans ((ms_up_n G_48 _ (by omega)).trans hf_53)
                  have hf_62 := (congrFun eG_56 ah).trans ((ms_up_n G_48 _ (by omega)).trans hf_54)
                  have hf_63 : G_56 n = some (.inl (0, 8, .inl (upd (upd (upd (upd (upd (upd (fun _ => 0) (0 : Int32).toNatClampNeg (nI g)) (1 : Int32).toNatClampNeg pc) (2 : Int32).toNatClampNeg mo) (3 : Int32).toNatClampNeg (nI (ay * W + ax))) (4 : Int32).toNatClampNeg 4) (5 : Int32).toNatClampNeg 0))) := by rw [eG_56]; exact ms_up_s _ _ _
                  refine ms_run (pc' := 156) (lv' := [(6, .int (nI (ay * W + ax))), (0, .ref m), (1, .int (nI g)), (2, .int pc), (3, .int mo), (4, .int aa), (5, .int bb)]) (st' := [.int 0, .int 6, .ref n, .ref n]) _ (ms_deC dX6_walker_152 (ms_deC dX6_walker_153 (ms_deC dX6_walker_155 ms_deN))) rfl rfl ?_
                  refine ms_iastore dX6_walker_156 hf_63 (by unfold vp_in; decide) ?_
                  obtain ⟨G_64, eG_64⟩ : ∃ K9 : ms_H, K9 = ms_up G_56 n (.inl (0, 8, .inl (upd (upd (upd (upd (upd (upd (upd (fun _ => 0) (0 : Int32).toNatClampNeg (nI g)) (1 : Int32).toNatClampNeg pc) (2 : Int32).toNatClampNeg mo) (3 : Int32).toNatClampNeg (nI (ay * W + ax))) (4 : Int32).toNatClampNeg 4) (5 : Int32).toNatClampNeg 0) (6 : Int32).toNatClampNeg 0))) := ⟨_, rfl⟩
                  refine ms_W.heq eG_64 ?_
                  have hF_65 : ms_fb (E5 m aw am ai ah) n G G_64 := by rw [eG_64]; exact ms_fb.up hF_57 (by first | exact Or.inl (by omega) | exact Or.inr rfl | exact Or.inr (Or.inl rfl) | exact Or.inr (Or.inr (Or.inl rfl)) | exact Or.inr (Or.inr (Or.inr rfl)) | exact Or.inr (Or.inr rfl) | exact Or.inr (Or.inr (Or.inr (Or.inl rfl))) | exact Or.inr (Or.inr (Or.inr (Or.inr (Or.inl rfl)))) | exact Or.inr (Or.inr (Or.inr (Or.inr (Or.inr rfl)))))
                  have hf_66 := (congrFun eG_64 m).trans ((ms_up_n G_56 _ (by omega)).trans hf_58)
                  have hf_67 := (congrFun eG_64 aw).trans ((ms_up_n G_56 _ (by omega)).trans hf_59)
                  have hf_68 := (congrFun eG_64 am).trans ((ms_up_n G_56 _ (by omega)).trans hf_60)
                  have hf_69 := (congrFun eG_64 ai).trans ((ms_up_n G_56 _ (by omega)).trans hf_61)
                  have hf_70 := (congrFun eG_64 ah).trans ((ms_up_n G_56 _ (by omega)).trans hf_62)
                  have hf_71 : G_64 n = some (.inl (0, 8, .inl (upd (upd (upd (upd (upd (upd (upd (fun _ => 0) (0 : Int32).toNatClampNeg (nI g)) (1 : Int32).toNatClampNeg pc) (2 : Int32).toNatClampNeg mo) (3 : Int32).toNatClampNeg (nI (ay * W + ax))) (4 : Int32).toNatClampNeg 4) (5 : Int32).toNatClampNeg 0) (6 : Int32).toNatClampNeg 0))) := by rw [eG_64]; exact ms_up_s _ _ _
                  refine ms_run (pc' := 161) (lv' := [(6, .int (nI (ay * W + ax))), (0, .ref m), (1, .int (nI g)), (2, .int pc), (3, .int mo), (4, .int aa), (5, .int bb)]) (st' := [.int (-1), .int 7, .ref n, .ref n]) _ (ms_deC dX6_walker_157 (ms_deC dX6_walker_158 (ms_deC dX6_walker_160 ms_deN))) rfl rfl ?_
                  refine ms_iastore dX6_walker_161 hf_71 (by unfold vp_in; decide) ?_
                  obtain ⟨G_72, eG_72⟩ : ∃ K9 : ms_H, K9 = ms_up G_64 n (.inl (0, 8, .inl (upd (upd (upd (upd (upd (upd (upd (upd (fun _ => 0) (0 : Int32).toNatClampNeg (nI g)) (1 : Int32).toNatClampNeg pc) (2 : Int32).toNatClampNeg mo) (3 : Int32).toNatClampNeg (nI (ay * W + ax))) (4 : Int32).toNatClampNeg 4) (5 : Int32).toNatClampNeg 0) (6 : Int32).toNatClampNeg 0) (7 : Int32).toNatClampNeg (-1)))) := ⟨_, rfl⟩
                  refine ms_W.heq eG_72 ?_
                  have hF_73 : ms_fb (E5 m aw am ai ah) n G G_72 := by rw [eG_72]; exact ms_fb.up hF_65 (by first | exact Or.inl (by omega) | exact Or.inr rfl | exact Or.inr (Or.inl rfl) | exact Or.inr (Or.inr (Or.inl rfl)) | exact Or.inr (Or.inr (Or.inr rfl)) | exact Or.inr (Or.inr rfl) | exact Or.inr (Or.inr (Or.inr (Or.inl rfl))) | exact Or.inr (Or.inr (Or.inr (Or.inr (Or.inl rfl)))) | exact Or.inr (Or.inr (Or.inr (Or.inr (Or.inr rfl)))))
                  have hf_74 := (congrFun eG_72 m).trans ((ms_up_n G_64 _ (by omega)).trans hf_66)
                  have hf_75 := (congrFun eG_72 aw).trans ((ms_up_n G_64 _ (by omega)).trans hf_67)
                  have hf_76 := (congrFun eG_72 am).trans ((ms_up_n G_64 _ (by omega)).trans hf_68)
                  have hf_77 := (congrFun eG_72 ai).trans ((ms_up_n G_64 _ (by omega)).trans hf_69)
                  have hf_78 := (congrFun eG_72 ah).trans ((ms_up_n G_64 _ (by omega)).trans hf_70)
                  have hf_79 : G_72 n = some (.inl (0, 8, .inl (upd (upd (upd (upd (upd (upd (upd (upd (fun _ => 0) (0 : Int32).toNatClampNeg (nI g)) (1 : Int32).toNatClampNeg pc) (2 : Int32).toNatClampNeg mo) (3 : Int32).toNatClampNeg (nI (ay * W + ax))) (4 : Int32).toNatClampNeg 4) (5 : Int32).toNatClampNeg 0) (6 : Int32).toNatClampNeg 0) (7 : Int32).toNatClampNeg (-1)))) := by rw [eG_72]; exact ms_up_s _ _ _
                  refine ms_run (pc' := 168) (lv' := [(7, .ref n), (6, .int (nI (ay * W + ax))), (0, .ref m), (1, .int (nI g)), (2, .int pc), (3, .int mo), (4, .int aa), (5, .int bb)]) (st' := [.ref m, .int 0, .ref n]) _ (ms_deC dX6_walker_162 (ms_deC dX6_walker_164 (ms_deC dX6_walker_166 (ms_deC dX6_walker_167 ms_deN)))) rfl rfl ?_
                  refine ms_getf dX6_walker_168 fg_X6_39 hf_74 rfl ?_
                  refine ms_run (pc' := 172) (lv' := [(7, .ref n), (6, .int (nI (ay * W + ax))), (0, .ref m), (1, .int (nI g)), (2, .int pc), (3, .int mo), (4, .int aa), (5, .int bb)]) (st' := [.ref m, .ref ai, .int 0, .ref n]) _ (ms_deC dX6_walker_171 ms_deN) rfl rfl ?_
                  refine ms_getf dX6_walker_172 fg_X6_36 hf_74 rfl ?_
                  refine ms_run (pc' := 180) (lv' := [(7, .ref n), (6, .int (nI (ay * W + ax))), (0, .ref m), (1, .int (nI g)), (2, .int pc), (3, .int mo), (4, .int aa), (5, .int bb)]) (st' := [.int 8, .int ((nI cnt) * 8), .ref ai, .int 0, .ref n]) _ (ms_deC dX6_walker_175 (ms_deC dX6_walker_177 (ms_deC dX6_walker_178 ms_deN))) rfl rfl ?_
                  have hc24 : cnt < 24 := Nat.lt_of_le_of_ne hc (fun z9 => h_72 (by rw [z9]; rfl))
                  obtain ⟨F9, hF9⟩ : ∃ F9 : Nat → Int32, F9 = upd (upd (upd (upd (upd (upd (upd (upd (fun _ => 0) (0 : Int32).toNatClampNeg (nI g)) (1 : Int32).toNatClampNeg pc) (2 : Int32).toNatClampNeg mo) (3 : Int32).toNatClampNeg (nI (ay * W + ax))) (4 : Int32).toNatClampNeg 4) (5 : Int32).toNatClampNeg 0) (6 : Int32).toNatClampNeg 0) (7 : Int32).toNatClampNeg (-1) := ⟨_, rfl⟩
                  have hnF := hf_79
                  rw [← hF9] at hnF
                  have hco : ∀ j, j < 8 → F9 j = wk_come (X.1 cnt) (nI g) pc mo (nI (ay * W + ax)) j := by rw [hF9]; exact come8 rfl rfl rfl rfl rfl rfl rfl rfl
                  rw [show nI cnt * 8 = nI (cnt * 8) from by rw [show (8 : Int32) = nI 8 from rfl, pk_mul]]
                  refine ms_copyI dX6_walker_180 ac_X6_104 hnF hf_77 (by decide) (nI_pos (by omega)) (by decide) (by decide) (by rw [nI_clamp (by omega)]; show cnt * 8 + 8 ≤ 192; omega) ⟨Nat.le_of_ble_eq_true rfl, by decide +kernel⟩ (Nat.le_of_ble_eq_true rfl) ?_
                  rw [nI_clamp (n := cnt * 8) (by omega), show (0 : Int32).toNatClampNeg = 0 from rfl, show (8 : Int32).toNatClampNeg = 8 from rfl]
                  obtain ⟨G_80, eG_80⟩ : ∃ K9 : ms_H, K9 = ms_up G_72 ai (.inl (0, 192, .inl (va_cpy F9 it 0 (cnt * 8) 8))) := ⟨_, rfl⟩
                  refine ms_W.heq eG_80 ?_
                  have hF_81 : ms_fb (E5 m aw am ai ah) n G G_80 := by rw [eG_80]; exact ms_fb.up hF_73 (by first | exact Or.inl (by omega) | exact Or.inr rfl | exact Or.inr (Or.inl rfl) | exact Or.inr (Or.inr (Or.inl rfl)) | exact Or.inr (Or.inr (Or.inr rfl)) | exact Or.inr (Or.inr rfl) | exact Or.inr (Or.inr (Or.inr (Or.inl rfl))) | exact Or.inr (Or.inr (Or.inr (Or.inr (Or.inl rfl)))) | exact Or.inr (Or.inr (Or.inr (Or.inr (Or.inr rfl)))))
                  have hf_82 := (congrFun eG_80 m).trans ((ms_up_n G_72 _ (by omega)).trans hf_74)
                  have hf_83 := (congrFun eG_80 aw).trans ((ms_up_n G_72 _ (by omega)).trans hf_75)
                  have hf_84 := (congrFun eG_80 am).trans ((ms_up_n G_72 _ (by omega)).trans hf_76)
                  have hf_85 : G_80 ai = some (.inl (0, 192, .inl (va_cpy F9 it 0 (cnt * 8) 8))) := by rw [eG_80]; exact ms_up_s _ _ _
                  have hf_86 := (congrFun eG_80 ah).trans ((ms_up_n G_72 _ (by omega)).trans hf_78)
                  refine ms_run (pc' := 185) (lv' := [(7, .ref n), (6, .int (nI (ay * W + ax))), (0, .ref m), (1, .int (nI g)), (2, .int pc), (3, .int mo), (4, .int aa), (5, .int bb)]) (st' := [.ref m, .ref m]) _ (ms_deC dX6_walker_183 (ms_deC dX6_walker_184 ms_deN)) rfl rfl ?_
                  refine ms_getf dX6_walker_185 fg_X6_36 hf_82 rfl ?_
                  refine ms_run (pc' := 191) (lv' := [(7, .ref n), (6, .int (nI (ay * W + ax))), (0, .ref m), (1, .int (nI g)), (2, .int pc), (3, .int mo), (4, .int aa), (5, .int bb)]) (st' := [.int ((nI cnt) + 1), .ref m, .int (nI cnt)]) _ (ms_deC dX6_walker_188 (ms_deC dX6_walker_189 (ms_deC dX6_walker_190 ms_deN))) rfl rfl ?_
                  rw [nI_1 cnt]
                  refine ms_putf dX6_walker_191 fp_X6_36 hf_82 (Nat.le_of_ble_eq_true rfl) rfl rfl ?_
                  obtain ⟨G_87, eG_87⟩ : ∃ K9 : ms_H, K9 = ms_up G_80 m (.inr (6, [.int 0, .int (nI W), .int (nI H), .int X.2.2.2, .int dr, .int pa, .ref aw, .ref am, .int (nI (cnt + 1)), .ref ai, .ref ah])) := ⟨_, rfl⟩
                  refine ms_W.heq eG_87 ?_
                  have hF_88 : ms_fb (E5 m aw am ai ah) n G G_87 := by rw [eG_87]; exact ms_fb.up hF_81 (by first | exact Or.inl (by omega) | exact Or.inr rfl | exact Or.inr (Or.inl rfl) | exact Or.inr (Or.inr (Or.inl rfl)) | exact Or.inr (Or.inr (Or.inr rfl)) | exact Or.inr (Or.inr rfl) | exact Or.inr (Or.inr (Or.inr (Or.inl rfl))) | exact Or.inr (Or.inr (Or.inr (Or.inr (Or.inl rfl)))) | exact Or.inr (Or.inr (Or.inr (Or.inr (Or.inr rfl)))))
                  have hf_89 : G_87 m = some (.inr (6, [.int 0, .int (nI W), .int (nI H), .int X.2.2.2, .int dr, .int pa, .ref aw, .ref am, .int (nI (cnt + 1)), .ref ai, .ref ah])) := by rw [eG_87]; exact ms_up_s _ _ _
                  have hf_90 := (congrFun eG_87 aw).trans ((ms_up_n G_80 _ (by omega)).trans hf_83)
                  have hf_91 := (congrFun eG_87 am).trans ((ms_up_n G_80 _ (by omega)).trans hf_84)
                  have hf_92 := (congrFun eG_87 ai).trans ((ms_up_n G_80 _ (by omega)).trans hf_85)
                  have hf_93 := (congrFun eG_87 ah).trans ((ms_up_n G_80 _ (by omega)).trans hf_86)
                  refine ms_reti (st := []) (ty := .int) dX6_walker_194 rfl rfl ?_
                  exact mq_P.ok (by unfold th_wlk; rw [if_neg (by rintro (z9 | z9); exact z9 (gl_isI hg); rw [hfe] at z9; exact nI_m1 (by omega) z9), if_neg (by rintro (z9 | z9 | z9); exact Int32.not_lt.mpr h1.1 z9; exact Int32.not_lt.mpr h1.2 z9; exact z9 hmo), if_neg (by rintro (z9 | z9 | z9 | z9); omega; exact z9 (by rw [hfe]; exact ⟨gr_hasI rfl hlf h196, by rw [nI_clamp (by omega)]; first | exact h_82 | exact Decidable.not_not.mp h_82⟩); (rw [hfe] at z9; exact ms_b_0.mp (by first | exact h_104 | exact Decidable.not_not.mp h_104) ((sq_mkI hg hlf h196).mp z9)); (rw [hfe, cr_onI X.2.2.1 (by omega)] at z9; exact z9 (by first | exact h_114 | exact Decidable.not_not.mp h_114)))]) (by omega) hF_88 rfl (by rw [hfe]; exact ⟨hf_89, hf_90, hf_91, ⟨_, hf_92, ad_it hit hco⟩, hf_93⟩)
                · skip
                  refine ms_run (pc' := 119) (lv' := [(6, .int (nI (ay * W + ax))), (0, .ref m), (1, .int (nI g)), (2, .int pc), (3, .int mo), (4, .int aa), (5, .int bb)]) (st' := [.int 3, .ref m]) _ (ms_deC dX6_walker_117 (ms_deC dX6_walker_118 ms_deN)) rfl rfl ?_
                  refine ms_callV0 (As := [.int 3]) dX6_walker_119 (c_X6_no (show md_at G_1 m aw am ai ah W H 0 X.2.2.2 dr pa cnt wl mm X.2.1 X.1 from ⟨hf_3, hf_4, hf_5, ⟨it, hf_6, hit⟩, hf_7⟩) hne9 3) cv_X6_79 hf_3 rfl ⟨Nat.le_of_ble_eq_true rfl, Nat.le_of_ble_eq_true rfl⟩ rfl (Nat.le_of_ble_eq_true rfl) (fun v9 n9 K_no hp9 => ?_)
                  obtain ⟨hv9, rfl, hF_no, hM_no⟩ := hp9
                  cases hv9
                  refine ms_reti (st := []) (ty := .int) dX6_walker_122 rfl rfl ?_
                  exact mq_P.no (show th_wlk W H wl mk cnt X.2.2.1 (nI g) pc mo aa bb = some ISE from by unfold th_wlk; rw [if_neg (by rintro (z9 | z9); exact z9 (gl_isI hg); rw [hfe] at z9; exact nI_m1 (by omega) z9), if_neg (by rintro (z9 | z9 | z9); exact Int32.not_lt.mpr h1.1 z9; exact Int32.not_lt.mpr h1.2 z9; exact z9 hmo), if_pos (by first | exact Or.inl (Nat.le_of_eq ((nI_eq (a := cnt) (b := 24) (by omega) (by omega)).mp h_72).symm) | exact Or.inr (Or.inl (fun z9 => h_82 (by have := z9.2; rw [hfe, nI_clamp (n := ay * W + ax) (by omega)] at this; exact this))) | exact Or.inr (Or.inr (Or.inl (by rw [hfe]; exact (sq_mkI hg hlf h196).mpr (Decidable.not_not.mp (fun z9 => h_104 (ms_b_0.mpr z9)))))) | exact Or.inr (Or.inr (Or.inr (by rw [hfe, cr_onI X.2.2.1 (by omega)]; exact h_114))))]) (by omega) (ms_fb.trans2 hF_2 (hF_no.mono (fun a h => Or.inl h)) (by omega)) rfl hM_no
        · rw [show ms_b (0 ≤ mo ∧ mo ≤ 9) = 0 from if_neg hmo]
          refine ms_if_ne (tgt := 54) dX6_walker_45 (by decide) (fun h9 => absurd h9 (by decide)) (fun _ => ?_)
          refine ms_run (pc' := 50) (lv' := [(0, .ref m), (1, .int (nI g)), (2, .int pc), (3, .int mo), (4, .int aa), (5, .int bb)]) (st' := [.int 2, .ref m]) _ (ms_deC dX6_walker_48 (ms_deC dX6_walker_49 ms_deN)) rfl rfl ?_
          refine ms_callV0 (As := [.int 2]) dX6_walker_50 (c_X6_no (show md_at G_1 m aw am ai ah W H 0 X.2.2.2 dr pa cnt wl mm X.2.1 X.1 from ⟨hf_3, hf_4, hf_5, ⟨it, hf_6, hit⟩, hf_7⟩) hne9 2) cv_X6_79 hf_3 rfl ⟨Nat.le_of_ble_eq_true rfl, Nat.le_of_ble_eq_true rfl⟩ rfl (Nat.le_of_ble_eq_true rfl) (fun v9 n9 K_no hp9 => ?_)
          obtain ⟨hv9, rfl, hF_no, hM_no⟩ := hp9
          cases hv9
          refine ms_reti (st := []) (ty := .int) dX6_walker_53 rfl rfl ?_
          exact mq_P.no (show th_wlk W H wl mk cnt X.2.2.1 (nI g) pc mo aa bb = some IAE from by unfold th_wlk; rw [if_neg (by rintro (z9 | z9); exact z9 (gl_isI hg); rw [hfe] at z9; exact nI_m1 (by omega) z9), if_pos (by first | exact Or.inr (Or.inr hmo) | (rcases Decidable.not_and_iff_or_not.mp h1 with z9 | z9; exact Or.inl (Int32.not_le.mp z9); exact Or.inr (Or.inl (Int32.not_le.mp z9))))]) (by omega) (ms_fb.trans2 hF_2 (hF_no.mono (fun a h => Or.inl h)) (by omega)) rfl hM_no
      · rw [show ms_b (1 ≤ pc ∧ pc ≤ 3) = 0 from if_neg h1]
        refine ms_if_eq (tgt := 48) dX6_walker_35 (by decide) (fun _ => ?_) (fun h9 => absurd h9 (by decide))
        refine ms_run (pc' := 50) (lv' := [(0, .ref m), (1, .int (nI g)), (2, .int pc), (3, .int mo), (4, .int aa), (5, .int bb)]) (st' := [.int 2, .ref m]) _ (ms_deC dX6_walker_48 (ms_deC dX6_walker_49 ms_deN)) rfl rfl ?_
        refine ms_callV0 (As := [.int 2]) dX6_walker_50 (c_X6_no (show md_at G_1 m aw am ai ah W H 0 X.2.2.2 dr pa cnt wl mm X.2.1 X.1 from ⟨hf_3, hf_4, hf_5, ⟨it, hf_6, hit⟩, hf_7⟩) hne9 2) cv_X6_79 hf_3 rfl ⟨Nat.le_of_ble_eq_true rfl, Nat.le_of_ble_eq_true rfl⟩ rfl (Nat.le_of_ble_eq_true rfl) (fun v9 n9 K_no hp9 => ?_)
        obtain ⟨hv9, rfl, hF_no, hM_no⟩ := hp9
        cases hv9
        refine ms_reti (st := []) (ty := .int) dX6_walker_53 rfl rfl ?_
        exact mq_P.no (show th_wlk W H wl mk cnt X.2.2.1 (nI g) pc mo aa bb = some IAE from by unfold th_wlk; rw [if_neg (by rintro (z9 | z9); exact z9 (gl_isI hg); rw [hfe] at z9; exact nI_m1 (by omega) z9), if_pos (by first | exact Or.inr (Or.inr hmo) | (rcases Decidable.not_and_iff_or_not.mp h1 with z9 | z9; exact Or.inl (Int32.not_le.mp z9); exact Or.inr (Or.inl (Int32.not_le.mp z9))))]) (by omega) (ms_fb.trans2 hF_2 (hF_no.mono (fun a h => Or.inl h)) (by omega)) rfl hM_no
    · rw [show ms_b (gr_ins (nI W) (nI H) aa bb) = 0 from if_neg hins]
      refine ms_if_ne (tgt := 29) dX6_walker_20 (by decide) (fun h9 => absurd h9 (by decide)) (fun _ => ?_)
      refine ms_run (pc' := 25) (lv' := [(0, .ref m), (1, .int (nI g)), (2, .int pc), (3, .int mo), (4, .int aa), (5, .int bb)]) (st' := [.int 1, .ref m]) _ (ms_deC dX6_walker_23 (ms_deC dX6_walker_24 ms_deN)) rfl rfl ?_
      refine ms_callV0 (As := [.int 1]) dX6_walker_25 (c_X6_no (show md_at G_1 m aw am ai ah W H 0 X.2.2.2 dr pa cnt wl mm X.2.1 X.1 from ⟨hf_3, hf_4, hf_5, ⟨it, hf_6, hit⟩, hf_7⟩) hne9 1) cv_X6_79 hf_3 rfl ⟨Nat.le_of_ble_eq_true rfl, Nat.le_of_ble_eq_true rfl⟩ rfl (Nat.le_of_ble_eq_true rfl) (fun v9 n9 K_no hp9 => ?_)
      obtain ⟨hv9, rfl, hF_no, hM_no⟩ := hp9
      cases hv9
      refine ms_reti (st := []) (ty := .int) dX6_walker_28 rfl rfl ?_
      exact mq_P.no (show th_wlk _ _ _ _ _ _ _ _ _ _ _ = some IOB from if_pos (by first | exact Or.inl hgl | exact Or.inr (ins_no hins))) (by omega) (ms_fb.trans2 hF_2 (hF_no.mono (fun a h => Or.inl h)) (by omega)) rfl hM_no
  · rw [show ms_b (gl_is gl) = 0 from if_neg hgl]
    refine ms_if_eq (tgt := 23) dX6_walker_9 (by decide) (fun _ => ?_) (fun h9 => absurd h9 (by decide))
    refine ms_run (pc' := 25) (lv' := [(0, .ref m), (1, .int gl), (2, .int pc), (3, .int mo), (4, .int aa), (5, .int bb)]) (st' := [.int 1, .ref m]) _ (ms_deC dX6_walker_23 (ms_deC dX6_walker_24 ms_deN)) rfl rfl ?_
    refine ms_callV0 (As := [.int 1]) dX6_walker_25 (c_X6_no (show md_at G_1 m aw am ai ah W H 0 X.2.2.2 dr pa cnt wl mm X.2.1 X.1 from ⟨hf_3, hf_4, hf_5, ⟨it, hf_6, hit⟩, hf_7⟩) hne9 1) cv_X6_79 hf_3 rfl ⟨Nat.le_of_ble_eq_true rfl, Nat.le_of_ble_eq_true rfl⟩ rfl (Nat.le_of_ble_eq_true rfl) (fun v9 n9 K_no hp9 => ?_)
    obtain ⟨hv9, rfl, hF_no, hM_no⟩ := hp9
    cases hv9
    refine ms_reti (st := []) (ty := .int) dX6_walker_28 rfl rfl ?_
    exact mq_P.no (show th_wlk _ _ _ _ _ _ _ _ _ _ _ = some IOB from if_pos (by first | exact Or.inl hgl | exact Or.inr (ins_no hins))) (by omega) (ms_fb.trans2 hF_2 (hF_no.mono (fun a h => Or.inl h)) (by omega)) rfl hM_no

/-! the model: outBy -/
def wl01 (wl : Nat → Int32) : Prop := ∀ f, wl f = 0 ∨ wl f = 1
theorem wlF_1 {wl : Nat → Int32} {f : Nat} (h : wl f = 0) : upd wl f 1 = wlF wl f := by unfold wlF; rw [if_pos h]
theorem wlF_0 {wl : Nat → Int32} {f : Nat} (h : ¬ wl f = 0) : upd wl f 0 = wlF wl f := by unfold wlF; rw [if_neg h]
theorem wlF_at {wl : Nat → Int32} {f : Nat} : wlF wl f f = if wl f = 0 then 1 else 0 := upd_at
theorem upd_same {wl : Nat → Int32} {f : Nat} {v : Int32} (h : wl f = v) : upd wl f v = wl := by
  funext j
  unfold upd
  by_cases e : j = f
  · rw [if_pos e, e, h]
  · rw [if_neg e]
theorem wlF_back {wl : Nat → Int32} {f : Nat} {v : Int32} (h : wl f = v) : upd (wlF wl f) f v = wl := by
  unfold wlF
  rw [upd_upd]
  exact upd_same h
set_option maxHeartbeats 1000000 in
set_option maxRecDepth 20000 in
theorem c_X6_outBy {n m aw am ai ah W H cnt N : Nat} {G : ms_H} {th dr pa : Int32} {wl mm : Nat → Int32} {X : cX} {nr mk ds : Nat → Int32} (hM : md_at G m aw am ai ah W H th X.2.2.2 dr pa cnt wl mm X.2.1 X.1) (hl : md_lt n m aw am ai ah) (hW : W ≤ 14) (hH : H ≤ 14) (hW0 : 0 < W) (hc : cnt ≤ 24) (hne : md_ne m aw am ai ah) (hL : lk_ok W H (W * H) nr) (hmm : mmR (W * H) mk mm) (hds : dsR (W * H) nr wl mk ds) (hd : 0 ≤ dr ∧ dr ≤ 9) (hN : N < 1000000) (hV : wdV W H cnt N X) (hN2 : N < 100000) (hwl : wl01 wl) (aa bb tt : Int32) : ms_M m_X6_outBy [.ref m, .int aa, .int bb, .int tt] n G 386 12570 (mq_P n G (E5 m aw am ai ah) (th_oby W H X.2.2.1 aa bb tt) (fun e => if e = IOB then 1 else if e = IAE then 2 else 3) (.int (nI (ct (pOut (stXn (nI (W * H)) nr mk (dXa (W * H) nr (wlF wl (gr_num (nI W) (nI H) aa bb).toNatClampNeg) mk ds 4) cnt dr X tt.toNatClampNeg).1) cnt) - nI (ct (pOut (stXn (nI (W * H)) nr mk ds cnt dr X tt.toNatClampNeg).1) cnt))) (fun t G1 => md_at G1 m aw am ai ah W H t X.2.2.2 dr pa cnt wl mm X.2.1 X.1) (fun G1 => md_at G1 m aw am ai ah W H 0 X.2.2.2 dr pa cnt wl mm X.2.1 X.1)) := by
  refine ms_M.of (by decide) (Nat.le_of_ble_eq_true rfl) ?_
  show ms_W false m_X6_outBy _ 0 [(0, .ref m), (1, .int aa), (2, .int bb), (3, .int tt)] [] n G 386 12570
  have hl9 := hl
  have hne9 := hne
  obtain ⟨hm, hw_, hk_, ⟨it, hi_, hit⟩, hh_⟩ := hM
  obtain ⟨l1, l2, l3, l4, l5⟩ := hl
  obtain ⟨n1, n2, n3, n4, n5, n6, n7, n8, n9, n10⟩ := hne
  have h196 := fd_196 hW hH
  have hF : ms_fb (E5 m aw am ai ah) n G G := ms_fb.rf
  refine ms_run (pc' := 2) (lv' := [(0, .ref m), (1, .int aa), (2, .int bb), (3, .int tt)]) (st' := [.int 0, .ref m]) _ (ms_deC dX6_outBy_0 (ms_deC dX6_outBy_1 ms_deN)) rfl rfl ?_
  refine ms_putf dX6_outBy_2 fp_X6_46 hm (Nat.le_of_ble_eq_true rfl) rfl rfl ?_
  obtain ⟨G_1, eG_1⟩ : ∃ K9 : ms_H, K9 = ms_up G m (.inr (6, [.int 0, .int (nI W), .int (nI H), .int X.2.2.2, .int dr, .int pa, .ref aw, .ref am, .int (nI cnt), .ref ai, .ref ah])) := ⟨_, rfl⟩
  refine ms_W.heq eG_1 ?_
  have hF_2 : ms_fb (E5 m aw am ai ah) n G G_1 := by rw [eG_1]; exact ms_fb.up hF (by first | exact Or.inl (by omega) | exact Or.inr rfl | exact Or.inr (Or.inl rfl) | exact Or.inr (Or.inr (Or.inl rfl)) | exact Or.inr (Or.inr (Or.inr rfl)) | exact Or.inr (Or.inr rfl) | exact Or.inr (Or.inr (Or.inr (Or.inl rfl))) | exact Or.inr (Or.inr (Or.inr (Or.inr (Or.inl rfl)))) | exact Or.inr (Or.inr (Or.inr (Or.inr (Or.inr rfl)))))
  have hf_3 : G_1 m = some (.inr (6, [.int 0, .int (nI W), .int (nI H), .int X.2.2.2, .int dr, .int pa, .ref aw, .ref am, .int (nI cnt), .ref ai, .ref ah])) := by rw [eG_1]; exact ms_up_s _ _ _
  have hf_4 := (congrFun eG_1 aw).trans ((ms_up_n G _ (by omega)).trans hw_)
  have hf_5 := (congrFun eG_1 am).trans ((ms_up_n G _ (by omega)).trans hk_)
  have hf_6 := (congrFun eG_1 ai).trans ((ms_up_n G _ (by omega)).trans hi_)
  have hf_7 := (congrFun eG_1 ah).trans ((ms_up_n G _ (by omega)).trans hh_)
  refine ms_run (pc' := 8) (lv' := [(0, .ref m), (1, .int aa), (2, .int bb), (3, .int tt)]) (st' := [.int bb, .int aa, .ref m]) _ (ms_deC dX6_outBy_5 (ms_deC dX6_outBy_6 (ms_deC dX6_outBy_7 ms_deN))) rfl rfl ?_
  refine ms_callVp (As := [.int aa, .int bb]) dX6_outBy_8 (c_X6_isField (show md_at G_1 m aw am ai ah W H 0 X.2.2.2 dr pa cnt wl mm X.2.1 X.1 from ⟨hf_3, hf_4, hf_5, ⟨it, hf_6, hit⟩, hf_7⟩) hW hH hc aa bb) cv_X6_57 hf_3 rfl ⟨Nat.le_of_ble_eq_true rfl, Nat.le_of_ble_eq_true rfl⟩ rfl (Nat.le_of_ble_eq_true rfl) ?_
  by_cases hins : gr_ins (nI W) (nI H) aa bb
  · rw [show ms_b (gr_ins (nI W) (nI H) aa bb) = 1 from if_pos hins]
    obtain ⟨ax, ay, hax, hay, hae, hbe, hfe⟩ := ins_nat hW hH hins
    have hlf : ay * W + ax < W * H := fd_lt hax hay
    refine ms_if_ne (tgt := 20) dX6_outBy_11 (by decide) (fun _ => ?_) (fun h9 => absurd h9 (by decide))
    refine ms_run (pc' := 24) (lv' := [(0, .ref m), (1, .int aa), (2, .int bb), (3, .int tt)]) (st' := [.int 60, .int 1, .int tt]) _ (ms_deC dX6_outBy_20 (ms_deC dX6_outBy_21 (ms_deC dX6_outBy_22 ms_deN))) rfl rfl ?_
    refine ms_callSp (As := [.int tt, .int 1, .int 60]) dX6_outBy_24 (c_X6_isIn tt 1 60) cs_X6_49 rfl ⟨Nat.le_of_ble_eq_true rfl, Nat.le_of_ble_eq_true rfl⟩ rfl (Nat.le_of_ble_eq_true rfl) ?_
    by_cases hah : 1 ≤ tt ∧ tt ≤ 60
    · rw [show ms_b (1 ≤ tt ∧ tt ≤ 60) = 1 from if_pos hah]
      obtain ⟨T, hT, hTe⟩ := nI_of2 (M := 60) (n := 60) rfl (by rw [Int32.not_lt]; exact Int32.le_trans (by decide) hah.1) hah.2
      subst hTe
      rw [nI_clamp (n := T) (by omega)]
      refine ms_if_ne (tgt := 36) dX6_outBy_27 (by decide) (fun _ => ?_) (fun h9 => absurd h9 (by decide))
      refine ms_run (pc' := 38) (lv' := [(0, .ref m), (1, .int aa), (2, .int bb), (3, .int (nI T))]) (st' := [.ref m, .int bb]) _ (ms_deC dX6_outBy_36 (ms_deC dX6_outBy_37 ms_deN)) rfl rfl ?_
      refine ms_getf dX6_outBy_38 fg_X6_20 hf_3 rfl ?_
      refine ms_run (pc' := 49) (lv' := [(4, .int ((bb * (nI W)) + aa)), (0, .ref m), (1, .int aa), (2, .int bb), (3, .int (nI T))]) (st' := [.int ((bb * (nI W)) + aa), .ref m]) _ (ms_deC dX6_outBy_41 (ms_deC dX6_outBy_42 (ms_deC dX6_outBy_43 (ms_deC dX6_outBy_44 (ms_deC dX6_outBy_46 (ms_deC dX6_outBy_47 ms_deN)))))) rfl rfl ?_
      rw [show (bb * (nI W)) + aa = nI (ay * W + ax) from by rw [hae, hbe, ix_xy]]
      refine ms_callVp (As := [.int (nI (ay * W + ax))]) dX6_outBy_49 (c_X6_walkerOn (show md_at G_1 m aw am ai ah W H 0 X.2.2.2 dr pa cnt wl mm X.2.1 X.1 from ⟨hf_3, hf_4, hf_5, ⟨it, hf_6, hit⟩, hf_7⟩) hW hH hc hV.1 hlf) cv_X6_88 hf_3 rfl ⟨Nat.le_of_ble_eq_true rfl, Nat.le_of_ble_eq_true rfl⟩ rfl (Nat.le_of_ble_eq_true rfl) ?_
      refine ms_run (pc' := 53) (lv' := [(4, .int (nI (ay * W + ax))), (0, .ref m), (1, .int aa), (2, .int bb), (3, .int (nI T))]) (st' := [.int (-1), .int (X.2.2.1 (ay * W + ax))]) _ (ms_deC dX6_outBy_52 ms_deN) rfl rfl ?_
      refine ms_icmp_eq (tgt := 62) dX6_outBy_53 (by decide) (fun h_53 => ?_) (fun h_53 => ?_)
      · skip
        refine ms_run (pc' := 64) (lv' := [(4, .int (nI (ay * W + ax))), (0, .ref m), (1, .int aa), (2, .int bb), (3, .int (nI T))]) (st' := [.int (nI T), .ref m]) _ (ms_deC dX6_outBy_62 (ms_deC dX6_outBy_63 ms_deN)) rfl rfl ?_
        refine ms_W.room (k2 := 193 + 193) (z2 := 6285 + 6285) ?_ (by omega) (by omega)
        refine ms_callV (As := [.int (nI T)]) dX6_outBy_64 (c_X6_outBehind (ds := ds) (show md_at G_1 m aw am ai ah W H 0 X.2.2.2 dr pa cnt wl mm X.2.1 X.1 from ⟨hf_3, hf_4, hf_5, ⟨_, hf_6, hit⟩, hf_7⟩) hl9 hW hH hW0 hc hne9 hL hmm hds hd hN hV (T := T) (by omega) hT) cv_X6_161 hf_3 rfl ⟨Nat.le_of_ble_eq_true rfl, Nat.le_of_ble_eq_true rfl⟩ rfl (Nat.le_of_ble_eq_true rfl) (fun v9 n_1 K_ob1 hp9 => ?_)
        obtain ⟨hv9, hn_1, hF_ob1, hM_ob1⟩ := hp9
        cases hv9
        obtain ⟨hm_1, hw_1, hk_1, ⟨it_1, hi_1, hit_1⟩, hh_1⟩ := id hM_ob1
        have hl2 : md_lt n_1 m aw am ai ah := ⟨by omega, by omega, by omega, by omega, by omega⟩
        have hFo_1 := ms_fb.trans2 hF_2 (hF_ob1.mono (fun a h => Or.inl h)) (by omega)
        refine ms_run (pc' := 70) (lv' := [(5, .int (nI (ct (pOut (stXn (nI (W * H)) nr mk ds cnt dr X T).1) cnt))), (4, .int (nI (ay * W + ax))), (0, .ref m), (1, .int aa), (2, .int bb), (3, .int (nI T))]) (st' := [.ref m]) _ (ms_deC dX6_outBy_67 (ms_deC dX6_outBy_69 ms_deN)) rfl rfl ?_
        refine ms_getf dX6_outBy_70 fg_X6_29 hm_1 rfl ?_
        refine ms_run (pc' := 76) (lv' := [(5, .int (nI (ct (pOut (stXn (nI (W * H)) nr mk ds cnt dr X T).1) cnt))), (4, .int (nI (ay * W + ax))), (0, .ref m), (1, .int aa), (2, .int bb), (3, .int (nI T))]) (st' := [.ref m, .int (nI (ay * W + ax)), .ref aw]) _ (ms_deC dX6_outBy_73 (ms_deC dX6_outBy_75 ms_deN)) rfl rfl ?_
        refine ms_getf dX6_outBy_76 fg_X6_29 hm_1 rfl ?_
        refine ms_run (pc' := 81) (lv' := [(5, .int (nI (ct (pOut (stXn (nI (W * H)) nr mk ds cnt dr X T).1) cnt))), (4, .int (nI (ay * W + ax))), (0, .ref m), (1, .int aa), (2, .int bb), (3, .int (nI T))]) (st' := [.int (nI (ay * W + ax)), .ref aw, .int (nI (ay * W + ax)), .ref aw]) _ (ms_deC dX6_outBy_79 ms_deN) rfl rfl ?_
        refine ms_zaload dX6_outBy_81 hw_1 (vp_in_nI hlf (by omega)) ?_
        rw [show wl (nI (ay * W + ax)).toNatClampNeg = wl (ay * W + ax) from by rw [nI_clamp (by omega)]]
        refine ms_if_ne (tgt := 89) dX6_outBy_82 (by decide) (fun h_82 => ?_) (fun h_82 => ?_)
        · skip
          refine ms_run (pc' := 90) (lv' := [(5, .int (nI (ct (pOut (stXn (nI (W * H)) nr mk ds cnt dr X T).1) cnt))), (4, .int (nI (ay * W + ax))), (0, .ref m), (1, .int aa), (2, .int bb), (3, .int (nI T))]) (st' := [.int 0, .int (nI (ay * W + ax)), .ref aw]) _ (ms_deC dX6_outBy_89 ms_deN) rfl rfl ?_
          refine ms_zastore dX6_outBy_90 hw_1 (vp_in_nI hlf (by omega)) ?_
          rw [show vp_nar .boolean 0 = 0 from rfl, show (nI (ay * W + ax)).toNatClampNeg = ay * W + ax from nI_clamp (by omega), wlF_0 h_82]
          obtain ⟨G_8, eG_8⟩ : ∃ K9 : ms_H, K9 = ms_up K_ob1 aw (.inl (1, (W * H), .inl (wlF wl (ay * W + ax)))) := ⟨_, rfl⟩
          refine ms_W.heq eG_8 ?_
          have hFo_9 : ms_fb (E5 m aw am ai ah) n G G_8 := by rw [eG_8]; exact ms_fb.up hFo_1 (by first | exact Or.inl (by omega) | exact Or.inr rfl | exact Or.inr (Or.inl rfl) | exact Or.inr (Or.inr (Or.inl rfl)) | exact Or.inr (Or.inr (Or.inr rfl)) | exact Or.inr (Or.inr rfl) | exact Or.inr (Or.inr (Or.inr (Or.inl rfl))) | exact Or.inr (Or.inr (Or.inr (Or.inr (Or.inl rfl)))) | exact Or.inr (Or.inr (Or.inr (Or.inr (Or.inr rfl)))))
          have hf_10 := (congrFun eG_8 m).trans ((ms_up_n K_ob1 _ (by omega)).trans hm_1)
          have hf_11 : G_8 aw = some (.inl (1, (W * H), .inl (wlF wl (ay * W + ax)))) := by rw [eG_8]; exact ms_up_s _ _ _
          have hf_12 := (congrFun eG_8 am).trans ((ms_up_n K_ob1 _ (by omega)).trans hk_1)
          have hf_13 := (congrFun eG_8 ai).trans ((ms_up_n K_ob1 _ (by omega)).trans hi_1)
          have hf_14 := (congrFun eG_8 ah).trans ((ms_up_n K_ob1 _ (by omega)).trans hh_1)
          refine ms_run (pc' := 93) (lv' := [(5, .int (nI (ct (pOut (stXn (nI (W * H)) nr mk ds cnt dr X T).1) cnt))), (4, .int (nI (ay * W + ax))), (0, .ref m), (1, .int aa), (2, .int bb), (3, .int (nI T))]) (st' := [.int (nI T), .ref m]) _ (ms_deC dX6_outBy_91 (ms_deC dX6_outBy_92 ms_deN)) rfl rfl ?_
          refine ms_W.room (k2 := 193 + 0) (z2 := 6285 + 0) ?_ (by omega) (by omega)
          refine ms_callV (As := [.int (nI T)]) dX6_outBy_93 (c_X6_outBehind (ds := (dXa (W * H) nr (wlF wl (ay * W + ax)) mk ds 4)) (show md_at G_8 m aw am ai ah W H 0 X.2.2.2 dr pa cnt (wlF wl (ay * W + ax)) mm X.2.1 X.1 from ⟨hf_10, hf_11, hf_12, ⟨_, hf_13, hit_1⟩, hf_14⟩) hl2 hW hH hW0 hc hne9 hL hmm (dsR_all h196) hd hN hV (T := T) (by omega) hT) cv_X6_161 hf_10 rfl ⟨Nat.le_of_ble_eq_true rfl, Nat.le_of_ble_eq_true rfl⟩ rfl (Nat.le_of_ble_eq_true rfl) (fun v9 n_2 K_ob2 hp9 => ?_)
          obtain ⟨hv9, hn_2, hF_ob2, hM_ob2⟩ := hp9
          cases hv9
          obtain ⟨hm_2, hw_2, hk_2, ⟨it_2, hi_2, hit_2⟩, hh_2⟩ := id hM_ob2
          have hl3 : md_lt n_2 m aw am ai ah := ⟨by omega, by omega, by omega, by omega, by omega⟩
          have hFo_2 := ms_fb.trans2 hFo_9 (hF_ob2.mono (fun a h => Or.inl h)) (by omega)
          refine ms_run (pc' := 99) (lv' := [(6, .int (nI (ct (pOut (stXn (nI (W * H)) nr mk (dXa (W * H) nr (wlF wl (ay * W + ax)) mk ds 4) cnt dr X T).1) cnt))), (5, .int (nI (ct (pOut (stXn (nI (W * H)) nr mk ds cnt dr X T).1) cnt))), (4, .int (nI (ay * W + ax))), (0, .ref m), (1, .int aa), (2, .int bb), (3, .int (nI T))]) (st' := [.ref m]) _ (ms_deC dX6_outBy_96 (ms_deC dX6_outBy_98 ms_deN)) rfl rfl ?_
          refine ms_getf dX6_outBy_99 fg_X6_29 hm_2 rfl ?_
          refine ms_run (pc' := 105) (lv' := [(6, .int (nI (ct (pOut (stXn (nI (W * H)) nr mk (dXa (W * H) nr (wlF wl (ay * W + ax)) mk ds 4) cnt dr X T).1) cnt))), (5, .int (nI (ct (pOut (stXn (nI (W * H)) nr mk ds cnt dr X T).1) cnt))), (4, .int (nI (ay * W + ax))), (0, .ref m), (1, .int aa), (2, .int bb), (3, .int (nI T))]) (st' := [.ref m, .int (nI (ay * W + ax)), .ref aw]) _ (ms_deC dX6_outBy_102 (ms_deC dX6_outBy_104 ms_deN)) rfl rfl ?_
          refine ms_getf dX6_outBy_105 fg_X6_29 hm_2 rfl ?_
          refine ms_run (pc' := 110) (lv' := [(6, .int (nI (ct (pOut (stXn (nI (W * H)) nr mk (dXa (W * H) nr (wlF wl (ay * W + ax)) mk ds 4) cnt dr X T).1) cnt))), (5, .int (nI (ct (pOut (stXn (nI (W * H)) nr mk ds cnt dr X T).1) cnt))), (4, .int (nI (ay * W + ax))), (0, .ref m), (1, .int aa), (2, .int bb), (3, .int (nI T))]) (st' := [.int (nI (ay * W + ax)), .ref aw, .int (nI (ay * W + ax)), .ref aw]) _ (ms_deC dX6_outBy_108 ms_deN) rfl rfl ?_
          refine ms_zaload dX6_outBy_110 hw_2 (vp_in_nI hlf (by omega)) ?_
          rw [show (wlF wl (ay * W + ax)) (nI (ay * W + ax)).toNatClampNeg = wlF wl (ay * W + ax) (ay * W + ax) from by rw [nI_clamp (by omega)]]
          refine ms_if_ne (tgt := 118) dX6_outBy_111 (by decide) (fun h_111 => ?_) (fun h_111 => ?_)
          · skip
            have hw0 : wl (ay * W + ax) = 0 := Decidable.byContradiction (fun z9 => h_111 (by rw [wlF_at, if_neg z9]))
            refine ms_run (pc' := 119) (lv' := [(6, .int (nI (ct (pOut (stXn (nI (W * H)) nr mk (dXa (W * H) nr (wlF wl (ay * W + ax)) mk ds 4) cnt dr X T).1) cnt))), (5, .int (nI (ct (pOut (stXn (nI (W * H)) nr mk ds cnt dr X T).1) cnt))), (4, .int (nI (ay * W + ax))), (0, .ref m), (1, .int aa), (2, .int bb), (3, .int (nI T))]) (st' := [.int 0, .int (nI (ay * W + ax)), .ref aw]) _ (ms_deC dX6_outBy_118 ms_deN) rfl rfl ?_
            refine ms_zastore dX6_outBy_119 hw_2 (vp_in_nI hlf (by omega)) ?_
            rw [show vp_nar .boolean 0 = 0 from rfl, show (nI (ay * W + ax)).toNatClampNeg = ay * W + ax from nI_clamp (by omega), wlF_back hw0]
            obtain ⟨G_15, eG_15⟩ : ∃ K9 : ms_H, K9 = ms_up K_ob2 aw (.inl (1, (W * H), .inl wl)) := ⟨_, rfl⟩
            refine ms_W.heq eG_15 ?_
            have hFo_16 : ms_fb (E5 m aw am ai ah) n G G_15 := by rw [eG_15]; exact ms_fb.up hFo_2 (by first | exact Or.inl (by omega) | exact Or.inr rfl | exact Or.inr (Or.inl rfl) | exact Or.inr (Or.inr (Or.inl rfl)) | exact Or.inr (Or.inr (Or.inr rfl)) | exact Or.inr (Or.inr rfl) | exact Or.inr (Or.inr (Or.inr (Or.inl rfl))) | exact Or.inr (Or.inr (Or.inr (Or.inr (Or.inl rfl)))) | exact Or.inr (Or.inr (Or.inr (Or.inr (Or.inr rfl)))))
            have hf_17 := (congrFun eG_15 m).trans ((ms_up_n K_ob2 _ (by omega)).trans hm_2)
            have hf_18 : G_15 aw = some (.inl (1, (W * H), .inl wl)) := by rw [eG_15]; exact ms_up_s _ _ _
            have hf_19 := (congrFun eG_15 am).trans ((ms_up_n K_ob2 _ (by omega)).trans hk_2)
            have hf_20 := (congrFun eG_15 ai).trans ((ms_up_n K_ob2 _ (by omega)).trans hi_2)
            have hf_21 := (congrFun eG_15 ah).trans ((ms_up_n K_ob2 _ (by omega)).trans hh_2)
            refine ms_run (pc' := 125) (lv' := [(6, .int (nI (ct (pOut (stXn (nI (W * H)) nr mk (dXa (W * H) nr (wlF wl (ay * W + ax)) mk ds 4) cnt dr X T).1) cnt))), (5, .int (nI (ct (pOut (stXn (nI (W * H)) nr mk ds cnt dr X T).1) cnt))), (4, .int (nI (ay * W + ax))), (0, .ref m), (1, .int aa), (2, .int bb), (3, .int (nI T))]) (st' := [.int ((nI (ct (pOut (stXn (nI (W * H)) nr mk (dXa (W * H) nr (wlF wl (ay * W + ax)) mk ds 4) cnt dr X T).1) cnt)) - (nI (ct (pOut (stXn (nI (W * H)) nr mk ds cnt dr X T).1) cnt)))]) _ (ms_deC dX6_outBy_120 (ms_deC dX6_outBy_122 (ms_deC dX6_outBy_124 ms_deN))) rfl rfl ?_
            refine ms_reti (st := []) (ty := .int) dX6_outBy_125 rfl rfl ?_
            exact mq_P.ok (by unfold th_oby; rw [if_neg (by rw [hfe]; exact nI_m1 (by omega)), if_neg (not_not_intro hah), hfe, cr_onI X.2.2.1 (by omega), if_neg (not_not_intro h_53)]) (by omega) hFo_16 (by rw [hfe, nI_clamp (n := ay * W + ax) (by omega)]) ⟨hf_17, hf_18, hf_19, ⟨_, hf_20, hit_2⟩, hf_21⟩
          · skip
            have hw1 : wl (ay * W + ax) = 1 := (hwl (ay * W + ax)).resolve_left (fun z9 => by rw [wlF_at, if_pos z9] at h_111; exact absurd h_111 (by decide))
            refine ms_run (pc' := 115) (lv' := [(6, .int (nI (ct (pOut (stXn (nI (W * H)) nr mk (dXa (W * H) nr (wlF wl (ay * W + ax)) mk ds 4) cnt dr X T).1) cnt))), (5, .int (nI (ct (pOut (stXn (nI (W * H)) nr mk ds cnt dr X T).1) cnt))), (4, .int (nI (ay * W + ax))), (0, .ref m), (1, .int aa), (2, .int bb), (3, .int (nI T))]) (st' := [.int 1, .int (nI (ay * W + ax)), .ref aw]) _ (ms_deC dX6_outBy_114 ms_deN) rfl rfl ?_
            refine ms_goto (tgt := 119) dX6_outBy_115 (by decide) ?_
            refine ms_zastore dX6_outBy_119 hw_2 (vp_in_nI hlf (by omega)) ?_
            rw [show vp_nar .boolean 1 = 1 from rfl, show (nI (ay * W + ax)).toNatClampNeg = ay * W + ax from nI_clamp (by omega), wlF_back hw1]
            obtain ⟨G_22, eG_22⟩ : ∃ K9 : ms_H, K9 = ms_up K_ob2 aw (.inl (1, (W * H), .inl wl)) := ⟨_, rfl⟩
            refine ms_W.heq eG_22 ?_
            have hFo_23 : ms_fb (E5 m aw am ai ah) n G G_22 := by rw [eG_22]; exact ms_fb.up hFo_2 (by first | exact Or.inl (by omega) | exact Or.inr rfl | exact Or.inr (Or.inl rfl) | exact Or.inr (Or.inr (Or.inl rfl)) | exact Or.inr (Or.inr (Or.inr rfl)) | exact Or.inr (Or.inr rfl) | exact Or.inr (Or.inr (Or.inr (Or.inl rfl))) | exact Or.inr (Or.inr (Or.inr (Or.inr (Or.inl rfl)))) | exact Or.inr (Or.inr (Or.inr (Or.inr (Or.inr rfl)))))
            have hf_24 := (congrFun eG_22 m).trans ((ms_up_n K_ob2 _ (by omega)).trans hm_2)
            have hf_25 : G_22 aw = some (.inl (1, (W * H), .inl wl)) := by rw [eG_22]; exact ms_up_s _ _ _
            have hf_26 := (congrFun eG_22 am).trans ((ms_up_n K_ob2 _ (by omega)).trans hk_2)
            have hf_27 := (congrFun eG_22 ai).trans ((ms_up_n K_ob2 _ (by omega)).trans hi_2)
            have hf_28 := (congrFun eG_22 ah).trans ((ms_up_n K_ob2 _ (by omega)).trans hh_2)
            refine ms_run (pc' := 125) (lv' := [(6, .int (nI (ct (pOut (stXn (nI (W * H)) nr mk (dXa (W * H) nr (wlF wl (ay * W + ax)) mk ds 4) cnt dr X T).1) cnt))), (5, .int (nI (ct (pOut (stXn (nI (W * H)) nr mk ds cnt dr X T).1) cnt))), (4, .int (nI (ay * W + ax))), (0, .ref m), (1, .int aa), (2, .int bb), (3, .int (nI T))]) (st' := [.int ((nI (ct (pOut (stXn (nI (W * H)) nr mk (dXa (W * H) nr (wlF wl (ay * W + ax)) mk ds 4) cnt dr X T).1) cnt)) - (nI (ct (pOut (stXn (nI (W * H)) nr mk ds cnt dr X T).1) cnt)))]) _ (ms_deC dX6_outBy_120 (ms_deC dX6_outBy_122 (ms_deC dX6_outBy_124 ms_deN))) rfl rfl ?_
            refine ms_reti (st := []) (ty := .int) dX6_outBy_125 rfl rfl ?_
            exact mq_P.ok (by unfold th_oby; rw [if_neg (by rw [hfe]; exact nI_m1 (by omega)), if_neg (not_not_intro hah), hfe, cr_onI X.2.2.1 (by omega), if_neg (not_not_intro h_53)]) (by omega) hFo_23 (by rw [hfe, nI_clamp (n := ay * W + ax) (by omega)]) ⟨hf_24, hf_25, hf_26, ⟨_, hf_27, hit_2⟩, hf_28⟩
        · skip
          refine ms_run (pc' := 86) (lv' := [(5, .int (nI (ct (pOut (stXn (nI (W * H)) nr mk ds cnt dr X T).1) cnt))), (4, .int (nI (ay * W + ax))), (0, .ref m), (1, .int aa), (2, .int bb), (3, .int (nI T))]) (st' := [.int 1, .int (nI (ay * W + ax)), .ref aw]) _ (ms_deC dX6_outBy_85 ms_deN) rfl rfl ?_
          refine ms_goto (tgt := 90) dX6_outBy_86 (by decide) ?_
          refine ms_zastore dX6_outBy_90 hw_1 (vp_in_nI hlf (by omega)) ?_
          rw [show vp_nar .boolean 1 = 1 from rfl, show (nI (ay * W + ax)).toNatClampNeg = ay * W + ax from nI_clamp (by omega), wlF_1 h_82]
          obtain ⟨G_29, eG_29⟩ : ∃ K9 : ms_H, K9 = ms_up K_ob1 aw (.inl (1, (W * H), .inl (wlF wl (ay * W + ax)))) := ⟨_, rfl⟩
          refine ms_W.heq eG_29 ?_
          have hFo_30 : ms_fb (E5 m aw am ai ah) n G G_29 := by rw [eG_29]; exact ms_fb.up hFo_1 (by first | exact Or.inl (by omega) | exact Or.inr rfl | exact Or.inr (Or.inl rfl) | exact Or.inr (Or.inr (Or.inl rfl)) | exact Or.inr (Or.inr (Or.inr rfl)) | exact Or.inr (Or.inr rfl) | exact Or.inr (Or.inr (Or.inr (Or.inl rfl))) | exact Or.inr (Or.inr (Or.inr (Or.inr (Or.inl rfl)))) | exact Or.inr (Or.inr (Or.inr (Or.inr (Or.inr rfl)))))
          have hf_31 := (congrFun eG_29 m).trans ((ms_up_n K_ob1 _ (by omega)).trans hm_1)
          have hf_32 : G_29 aw = some (.inl (1, (W * H), .inl (wlF wl (ay * W + ax)))) := by rw [eG_29]; exact ms_up_s _ _ _
          have hf_33 := (congrFun eG_29 am).trans ((ms_up_n K_ob1 _ (by omega)).trans hk_1)
          have hf_34 := (congrFun eG_29 ai).trans ((ms_up_n K_ob1 _ (by omega)).trans hi_1)
          have hf_35 := (congrFun eG_29 ah).trans ((ms_up_n K_ob1 _ (by omega)).trans hh_1)
          refine ms_run (pc' := 93) (lv' := [(5, .int (nI (ct (pOut (stXn (nI (W * H)) nr mk ds cnt dr X T).1) cnt))), (4, .int (nI (ay * W + ax))), (0, .ref m), (1, .int aa), (2, .int bb), (3, .int (nI T))]) (st' := [.int (nI T), .ref m]) _ (ms_deC dX6_outBy_91 (ms_deC dX6_outBy_92 ms_deN)) rfl rfl ?_
          refine ms_W.room (k2 := 193 + 0) (z2 := 6285 + 0) ?_ (by omega) (by omega)
          refine ms_callV (As := [.int (nI T)]) dX6_outBy_93 (c_X6_outBehind (ds := (dXa (W * H) nr (wlF wl (ay * W + ax)) mk ds 4)) (show md_at G_29 m aw am ai ah W H 0 X.2.2.2 dr pa cnt (wlF wl (ay * W + ax)) mm X.2.1 X.1 from ⟨hf_31, hf_32, hf_33, ⟨_, hf_34, hit_1⟩, hf_35⟩) hl2 hW hH hW0 hc hne9 hL hmm (dsR_all h196) hd hN hV (T := T) (by omega) hT) cv_X6_161 hf_31 rfl ⟨Nat.le_of_ble_eq_true rfl, Nat.le_of_ble_eq_true rfl⟩ rfl (Nat.le_of_ble_eq_true rfl) (fun v9 n_2 K_ob2 hp9 => ?_)
          obtain ⟨hv9, hn_2, hF_ob2, hM_ob2⟩ := hp9
          cases hv9
          obtain ⟨hm_2, hw_2, hk_2, ⟨it_2, hi_2, hit_2⟩, hh_2⟩ := id hM_ob2
          have hl3 : md_lt n_2 m aw am ai ah := ⟨by omega, by omega, by omega, by omega, by omega⟩
          have hFo_2 := ms_fb.trans2 hFo_30 (hF_ob2.mono (fun a h => Or.inl h)) (by omega)
          refine ms_run (pc' := 99) (lv' := [(6, .int (nI (ct (pOut (stXn (nI (W * H)) nr mk (dXa (W * H) nr (wlF wl (ay * W + ax)) mk ds 4) cnt dr X T).1) cnt))), (5, .int (nI (ct (pOut (stXn (nI (W * H)) nr mk ds cnt dr X T).1) cnt))), (4, .int (nI (ay * W + ax))), (0, .ref m), (1, .int aa), (2, .int bb), (3, .int (nI T))]) (st' := [.ref m]) _ (ms_deC dX6_outBy_96 (ms_deC dX6_outBy_98 ms_deN)) rfl rfl ?_
          refine ms_getf dX6_outBy_99 fg_X6_29 hm_2 rfl ?_
          refine ms_run (pc' := 105) (lv' := [(6, .int (nI (ct (pOut (stXn (nI (W * H)) nr mk (dXa (W * H) nr (wlF wl (ay * W + ax)) mk ds 4) cnt dr X T).1) cnt))), (5, .int (nI (ct (pOut (stXn (nI (W * H)) nr mk ds cnt dr X T).1) cnt))), (4, .int (nI (ay * W + ax))), (0, .ref m), (1, .int aa), (2, .int bb), (3, .int (nI T))]) (st' := [.ref m, .int (nI (ay * W + ax)), .ref aw]) _ (ms_deC dX6_outBy_102 (ms_deC dX6_outBy_104 ms_deN)) rfl rfl ?_
          refine ms_getf dX6_outBy_105 fg_X6_29 hm_2 rfl ?_
          refine ms_run (pc' := 110) (lv' := [(6, .int (nI (ct (pOut (stXn (nI (W * H)) nr mk (dXa (W * H) nr (wlF wl (ay * W + ax)) mk ds 4) cnt dr X T).1) cnt))), (5, .int (nI (ct (pOut (stXn (nI (W * H)) nr mk ds cnt dr X T).1) cnt))), (4, .int (nI (ay * W + ax))), (0, .ref m), (1, .int aa), (2, .int bb), (3, .int (nI T))]) (st' := [.int (nI (ay * W + ax)), .ref aw, .int (nI (ay * W + ax)), .ref aw]) _ (ms_deC dX6_outBy_108 ms_deN) rfl rfl ?_
          refine ms_zaload dX6_outBy_110 hw_2 (vp_in_nI hlf (by omega)) ?_
          rw [show (wlF wl (ay * W + ax)) (nI (ay * W + ax)).toNatClampNeg = wlF wl (ay * W + ax) (ay * W + ax) from by rw [nI_clamp (by omega)]]
          refine ms_if_ne (tgt := 118) dX6_outBy_111 (by decide) (fun h_111 => ?_) (fun h_111 => ?_)
          · skip
            have hw0 : wl (ay * W + ax) = 0 := Decidable.byContradiction (fun z9 => h_111 (by rw [wlF_at, if_neg z9]))
            refine ms_run (pc' := 119) (lv' := [(6, .int (nI (ct (pOut (stXn (nI (W * H)) nr mk (dXa (W * H) nr (wlF wl (ay * W + ax)) mk ds 4) cnt dr X T).1) cnt))), (5, .int (nI (ct (pOut (stXn (nI (W * H)) nr mk ds cnt dr X T).1) cnt))), (4, .int (nI (ay * W + ax))), (0, .ref m), (1, .int aa), (2, .int bb), (3, .int (nI T))]) (st' := [.int 0, .int (nI (ay * W + ax)), .ref aw]) _ (ms_deC dX6_outBy_118 ms_deN) rfl rfl ?_
            refine ms_zastore dX6_outBy_119 hw_2 (vp_in_nI hlf (by omega)) ?_
            rw [show vp_nar .boolean 0 = 0 from rfl, show (nI (ay * W + ax)).toNatClampNeg = ay * W + ax from nI_clamp (by omega), wlF_back hw0]
            obtain ⟨G_36, eG_36⟩ : ∃ K9 : ms_H, K9 = ms_up K_ob2 aw (.inl (1, (W * H), .inl wl)) := ⟨_, rfl⟩
            refine ms_W.heq eG_36 ?_
            have hFo_37 : ms_fb (E5 m aw am ai ah) n G G_36 := by rw [eG_36]; exact ms_fb.up hFo_2 (by first | exact Or.inl (by omega) | exact Or.inr rfl | exact Or.inr (Or.inl rfl) | exact Or.inr (Or.inr (Or.inl rfl)) | exact Or.inr (Or.inr (Or.inr rfl)) | exact Or.inr (Or.inr rfl) | exact Or.inr (Or.inr (Or.inr (Or.inl rfl))) | exact Or.inr (Or.inr (Or.inr (Or.inr (Or.inl rfl)))) | exact Or.inr (Or.inr (Or.inr (Or.inr (Or.inr rfl)))))
            have hf_38 := (congrFun eG_36 m).trans ((ms_up_n K_ob2 _ (by omega)).trans hm_2)
            have hf_39 : G_36 aw = some (.inl (1, (W * H), .inl wl)) := by rw [eG_36]; exact ms_up_s _ _ _
            have hf_40 := (congrFun eG_36 am).trans ((ms_up_n K_ob2 _ (by omega)).trans hk_2)
            have hf_41 := (congrFun eG_36 ai).trans ((ms_up_n K_ob2 _ (by omega)).trans hi_2)
            have hf_42 := (congrFun eG_36 ah).trans ((ms_up_n K_ob2 _ (by omega)).trans hh_2)
            refine ms_run (pc' := 125) (lv' := [(6, .int (nI (ct (pOut (stXn (nI (W * H)) nr mk (dXa (W * H) nr (wlF wl (ay * W + ax)) mk ds 4) cnt dr X T).1) cnt))), (5, .int (nI (ct (pOut (stXn (nI (W * H)) nr mk ds cnt dr X T).1) cnt))), (4, .int (nI (ay * W + ax))), (0, .ref m), (1, .int aa), (2, .int bb), (3, .int (nI T))]) (st' := [.int ((nI (ct (pOut (stXn (nI (W * H)) nr mk (dXa (W * H) nr (wlF wl (ay * W + ax)) mk ds 4) cnt dr X T).1) cnt)) - (nI (ct (pOut (stXn (nI (W * H)) nr mk ds cnt dr X T).1) cnt)))]) _ (ms_deC dX6_outBy_120 (ms_deC dX6_outBy_122 (ms_deC dX6_outBy_124 ms_deN))) rfl rfl ?_
            refine ms_reti (st := []) (ty := .int) dX6_outBy_125 rfl rfl ?_
            exact mq_P.ok (by unfold th_oby; rw [if_neg (by rw [hfe]; exact nI_m1 (by omega)), if_neg (not_not_intro hah), hfe, cr_onI X.2.2.1 (by omega), if_neg (not_not_intro h_53)]) (by omega) hFo_37 (by rw [hfe, nI_clamp (n := ay * W + ax) (by omega)]) ⟨hf_38, hf_39, hf_40, ⟨_, hf_41, hit_2⟩, hf_42⟩
          · skip
            have hw1 : wl (ay * W + ax) = 1 := (hwl (ay * W + ax)).resolve_left (fun z9 => by rw [wlF_at, if_pos z9] at h_111; exact absurd h_111 (by decide))
            refine ms_run (pc' := 115) (lv' := [(6, .int (nI (ct (pOut (stXn (nI (W * H)) nr mk (dXa (W * H) nr (wlF wl (ay * W + ax)) mk ds 4) cnt dr X T).1) cnt))), (5, .int (nI (ct (pOut (stXn (nI (W * H)) nr mk ds cnt dr X T).1) cnt))), (4, .int (nI (ay * W + ax))), (0, .ref m), (1, .int aa), (2, .int bb), (3, .int (nI T))]) (st' := [.int 1, .int (nI (ay * W + ax)), .ref aw]) _ (ms_deC dX6_outBy_114 ms_deN) rfl rfl ?_
            refine ms_goto (tgt := 119) dX6_outBy_115 (by decide) ?_
            refine ms_zastore dX6_outBy_119 hw_2 (vp_in_nI hlf (by omega)) ?_
            rw [show vp_nar .boolean 1 = 1 from rfl, show (nI (ay * W + ax)).toNatClampNeg = ay * W + ax from nI_clamp (by omega), wlF_back hw1]
            obtain ⟨G_43, eG_43⟩ : ∃ K9 : ms_H, K9 = ms_up K_ob2 aw (.inl (1, (W * H), .inl wl)) := ⟨_, rfl⟩
            refine ms_W.heq eG_43 ?_
            have hFo_44 : ms_fb (E5 m aw am ai ah) n G G_43 := by rw [eG_43]; exact ms_fb.up hFo_2 (by first | exact Or.inl (by omega) | exact Or.inr rfl | exact Or.inr (Or.inl rfl) | exact Or.inr (Or.inr (Or.inl rfl)) | exact Or.inr (Or.inr (Or.inr rfl)) | exact Or.inr (Or.inr rfl) | exact Or.inr (Or.inr (Or.inr (Or.inl rfl))) | exact Or.inr (Or.inr (Or.inr (Or.inr (Or.inl rfl)))) | exact Or.inr (Or.inr (Or.inr (Or.inr (Or.inr rfl)))))
            have hf_45 := (congrFun eG_43 m).trans ((ms_up_n K_ob2 _ (by omega)).trans hm_2)
            have hf_46 : G_43 aw = some (.inl (1, (W * H), .inl wl)) := by rw [eG_43]; exact ms_up_s _ _ _
            have hf_47 := (congrFun eG_43 am).trans ((ms_up_n K_ob2 _ (by omega)).trans hk_2)
            have hf_48 := (congrFun eG_43 ai).trans ((ms_up_n K_ob2 _ (by omega)).trans hi_2)
            have hf_49 := (congrFun eG_43 ah).trans ((ms_up_n K_ob2 _ (by omega)).trans hh_2)
            refine ms_run (pc' := 125) (lv' := [(6, .int (nI (ct (pOut (stXn (nI (W * H)) nr mk (dXa (W * H) nr (wlF wl (ay * W + ax)) mk ds 4) cnt dr X T).1) cnt))), (5, .int (nI (ct (pOut (stXn (nI (W * H)) nr mk ds cnt dr X T).1) cnt))), (4, .int (nI (ay * W + ax))), (0, .ref m), (1, .int aa), (2, .int bb), (3, .int (nI T))]) (st' := [.int ((nI (ct (pOut (stXn (nI (W * H)) nr mk (dXa (W * H) nr (wlF wl (ay * W + ax)) mk ds 4) cnt dr X T).1) cnt)) - (nI (ct (pOut (stXn (nI (W * H)) nr mk ds cnt dr X T).1) cnt)))]) _ (ms_deC dX6_outBy_120 (ms_deC dX6_outBy_122 (ms_deC dX6_outBy_124 ms_deN))) rfl rfl ?_
            refine ms_reti (st := []) (ty := .int) dX6_outBy_125 rfl rfl ?_
            exact mq_P.ok (by unfold th_oby; rw [if_neg (by rw [hfe]; exact nI_m1 (by omega)), if_neg (not_not_intro hah), hfe, cr_onI X.2.2.1 (by omega), if_neg (not_not_intro h_53)]) (by omega) hFo_44 (by rw [hfe, nI_clamp (n := ay * W + ax) (by omega)]) ⟨hf_45, hf_46, hf_47, ⟨_, hf_48, hit_2⟩, hf_49⟩
      · skip
        refine ms_run (pc' := 58) (lv' := [(4, .int (nI (ay * W + ax))), (0, .ref m), (1, .int aa), (2, .int bb), (3, .int (nI T))]) (st' := [.int 3, .ref m]) _ (ms_deC dX6_outBy_56 (ms_deC dX6_outBy_57 ms_deN)) rfl rfl ?_
        refine ms_callV0 (As := [.int 3]) dX6_outBy_58 (c_X6_no (show md_at G_1 m aw am ai ah W H 0 X.2.2.2 dr pa cnt wl mm X.2.1 X.1 from ⟨hf_3, hf_4, hf_5, ⟨it, hf_6, hit⟩, hf_7⟩) hne9 3) cv_X6_79 hf_3 rfl ⟨Nat.le_of_ble_eq_true rfl, Nat.le_of_ble_eq_true rfl⟩ rfl (Nat.le_of_ble_eq_true rfl) (fun v9 n9 K_no hp9 => ?_)
        obtain ⟨hv9, rfl, hF_no, hM_no⟩ := hp9
        cases hv9
        refine ms_reti (st := []) (ty := .int) dX6_outBy_61 rfl rfl ?_
        exact mq_P.no (show th_oby W H X.2.2.1 aa bb (nI T) = some ISE from by unfold th_oby; rw [if_neg (by rw [hfe]; exact nI_m1 (by omega)), if_neg (not_not_intro hah), hfe, cr_onI X.2.2.1 (by omega), if_pos h_53]) (by omega) (ms_fb.trans2 hF_2 (hF_no.mono (fun a h => Or.inl h)) (by omega)) rfl hM_no
    · rw [show ms_b (1 ≤ tt ∧ tt ≤ 60) = 0 from if_neg hah]
      refine ms_if_ne (tgt := 36) dX6_outBy_27 (by decide) (fun h9 => absurd h9 (by decide)) (fun _ => ?_)
      refine ms_run (pc' := 32) (lv' := [(0, .ref m), (1, .int aa), (2, .int bb), (3, .int tt)]) (st' := [.int 2, .ref m]) _ (ms_deC dX6_outBy_30 (ms_deC dX6_outBy_31 ms_deN)) rfl rfl ?_
      refine ms_callV0 (As := [.int 2]) dX6_outBy_32 (c_X6_no (show md_at G_1 m aw am ai ah W H 0 X.2.2.2 dr pa cnt wl mm X.2.1 X.1 from ⟨hf_3, hf_4, hf_5, ⟨it, hf_6, hit⟩, hf_7⟩) hne9 2) cv_X6_79 hf_3 rfl ⟨Nat.le_of_ble_eq_true rfl, Nat.le_of_ble_eq_true rfl⟩ rfl (Nat.le_of_ble_eq_true rfl) (fun v9 n9 K_no hp9 => ?_)
      obtain ⟨hv9, rfl, hF_no, hM_no⟩ := hp9
      cases hv9
      refine ms_reti (st := []) (ty := .int) dX6_outBy_35 rfl rfl ?_
      exact mq_P.no (show th_oby W H X.2.2.1 aa bb tt = some IAE from by unfold th_oby; rw [if_neg (by rw [hfe]; exact nI_m1 (by omega)), if_pos hah]) (by omega) (ms_fb.trans2 hF_2 (hF_no.mono (fun a h => Or.inl h)) (by omega)) rfl hM_no
  · rw [show ms_b (gr_ins (nI W) (nI H) aa bb) = 0 from if_neg hins]
    refine ms_if_ne (tgt := 20) dX6_outBy_11 (by decide) (fun h9 => absurd h9 (by decide)) (fun _ => ?_)
    refine ms_run (pc' := 16) (lv' := [(0, .ref m), (1, .int aa), (2, .int bb), (3, .int tt)]) (st' := [.int 1, .ref m]) _ (ms_deC dX6_outBy_14 (ms_deC dX6_outBy_15 ms_deN)) rfl rfl ?_
    refine ms_callV0 (As := [.int 1]) dX6_outBy_16 (c_X6_no (show md_at G_1 m aw am ai ah W H 0 X.2.2.2 dr pa cnt wl mm X.2.1 X.1 from ⟨hf_3, hf_4, hf_5, ⟨it, hf_6, hit⟩, hf_7⟩) hne9 1) cv_X6_79 hf_3 rfl ⟨Nat.le_of_ble_eq_true rfl, Nat.le_of_ble_eq_true rfl⟩ rfl (Nat.le_of_ble_eq_true rfl) (fun v9 n9 K_no hp9 => ?_)
    obtain ⟨hv9, rfl, hF_no, hM_no⟩ := hp9
    cases hv9
    refine ms_reti (st := []) (ty := .int) dX6_outBy_19 rfl rfl ?_
    exact mq_P.no (show th_oby _ _ _ _ _ _ = some IOB from if_pos (ins_no hins)) (by omega) (ms_fb.trans2 hF_2 (hF_no.mono (fun a h => Or.inl h)) (by omega)) rfl hM_no

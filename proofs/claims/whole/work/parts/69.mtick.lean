/-! the model: tick -/
def mq_P (n : Nat) (G : ms_H) (E : Nat → Prop) (th : Option String) (cd : String → Int32) (v : Value) (Q : Int32 → ms_H → Prop) (Q2 : ms_H → Prop) : ms_P := fun r n1 G1 => n ≤ n1 ∧ ms_fb E n G G1 ∧ match th with
  | some e => r = .inl (some (.int 0)) ∧ Q (cd e) G1
  | none => r = .inl (some v) ∧ Q2 G1
theorem mq_P.no {n n1 : Nat} {G G1 : ms_H} {E : Nat → Prop} {th : Option String} {cd : String → Int32} {v : Value} {Q : Int32 → ms_H → Prop} {Q2 : ms_H → Prop} {e : String} {t : Int32} (h : th = some e) (hn : n ≤ n1) (hF : ms_fb E n G G1) (ht : cd e = t) (hQ : Q t G1) : mq_P n G E th cd v Q Q2 (.inl (some (.int 0))) n1 G1 := ⟨hn, hF, by rw [h]; exact ⟨rfl, by rw [ht]; exact hQ⟩⟩
theorem mq_P.ok {n n1 : Nat} {G G1 : ms_H} {E : Nat → Prop} {th : Option String} {cd : String → Int32} {v v' : Value} {Q : Int32 → ms_H → Prop} {Q2 : ms_H → Prop} (h : th = none) (hn : n ≤ n1) (hF : ms_fb E n G G1) (hv : v' = v) (hQ : Q2 G1) : mq_P n G E th cd v Q Q2 (.inl (some v')) n1 G1 := ⟨hn, hF, by rw [h]; exact ⟨by rw [hv], hQ⟩⟩
theorem wdV.n {W H cnt N : Nat} {nr mk ds : Nat → Int32} {dr : Int32} {X : cX} (hL : lk_ok W H (W * H) nr) (hW : W ≤ 14) (hH : H ≤ 14) (hc : cnt ≤ 24) (hV : wdV W H cnt N X) : ∀ k, N + k < 1000000 → wdV W H cnt (N + k) (stXn (nI (W * H)) nr mk ds cnt dr X k)
  | 0, _ => hV
  | k + 1, h => wdV.step (N := N + k) (by omega) hL hW hH hc (wdV.n hL hW hH hc hV k (by omega))
set_option maxHeartbeats 1000000 in
set_option maxRecDepth 20000 in
theorem l_X6_tick {n m aw am ai ah W H cnt N : Nat} {G : ms_H} {th dr pa : Int32} {wl mm : Nat → Int32} {X : cX} {nr mk ds : Nat → Int32} (hl : md_lt n m aw am ai ah) (hW : W ≤ 14) (hH : H ≤ 14) (hW0 : 0 < W) (hc : cnt ≤ 24) (hne : md_ne m aw am ai ah) (hL : lk_ok W H (W * H) nr) (hmm : mmR (W * H) mk mm) (hds : dsR (W * H) nr wl mk ds) (hd : 0 ≤ dr ∧ dr ≤ 9) (hN : N < 1000000) (hV : wdV W H cnt N X) {T : Nat} (hT : N + T < 1000000) (hT2 : T < 100) (hfa : fa_at G n n (n + 9) (W * H) (dXg (W * H) nr wl mk)) : ∀ (r k : Nat), k + r = T → ∀ (K : ms_H), md_at K m aw am ai ah W H th (stXn (nI (W * H)) nr mk ds cnt dr X k).2.2.2 dr pa cnt wl mm (stXn (nI (W * H)) nr mk ds cnt dr X k).2.1 (stXn (nI (W * H)) nr mk ds cnt dr X k).1 → ms_fb (E3 m ai ah) (n + 9) G K →  ms_W false m_X6_tick (fun r9 n1 Kf => r9 = .inl (some (.int (nI (ct (pOut (stXn (nI (W * H)) nr mk ds cnt dr X T).1) cnt) - nI (ct (pOut X.1) cnt)))) ∧ n1 = n + 9 + 3 * T ∧ ms_fb (E3 m ai ah) (n + 9) G Kf ∧ md_at Kf m aw am ai ah W H th (stXn (nI (W * H)) nr mk ds cnt dr X T).2.2.2 dr pa cnt wl mm (stXn (nI (W * H)) nr mk ds cnt dr X T).2.1 (stXn (nI (W * H)) nr mk ds cnt dr X T).1) 31 [(0, .ref m), (1, .int (nI T)), (2, .ref n), (3, .int (nI (ct (pOut (stXn (nI (W * H)) nr mk ds cnt dr X k).1) cnt) - nI (ct (pOut X.1) cnt))), (4, .int (nI k))] [] (n + 9 + 3 * k) K (3 * r) (72 * r) := by
  obtain ⟨l1, l2, l3, l4, l5⟩ := hl
  intro r
  induction r with
  | zero =>
    intro k hk K hM9 hF
    have hkN : k = T := by omega
    have hM8 := hM9
    obtain ⟨hm, hw_, hk_, ⟨it, hi_, hit⟩, hh_⟩ := hM8
    refine ms_run (pc' := 34) (lv' := [(0, .ref m), (1, .int (nI T)), (2, .ref n), (3, .int (nI (ct (pOut (stXn (nI (W * H)) nr mk ds cnt dr X k).1) cnt) - nI (ct (pOut X.1) cnt))), (4, .int (nI k))]) (st' := [.int (nI T), .int (nI k)]) _ (ms_deC dX6_tick_31 (ms_deC dX6_tick_33 ms_deN)) rfl rfl ?_
    refine ms_icmp_ge (tgt := 51) dX6_tick_34 (by decide) (fun h_34 => ?_) (fun h_34 => ?_)
    · skip
      refine ms_run (pc' := 52) (lv' := [(0, .ref m), (1, .int (nI T)), (2, .ref n), (3, .int (nI (ct (pOut (stXn (nI (W * H)) nr mk ds cnt dr X k).1) cnt) - nI (ct (pOut X.1) cnt))), (4, .int (nI k))]) (st' := [.int (nI (ct (pOut (stXn (nI (W * H)) nr mk ds cnt dr X k).1) cnt) - nI (ct (pOut X.1) cnt))]) _ (ms_deC dX6_tick_51 ms_deN) rfl rfl ?_
      refine ms_reti (st := []) (ty := .int) dX6_tick_52 rfl rfl ?_
      rw [hkN] at hM9
      exact ⟨by rw [hkN], by omega, hF, hM9⟩
    · skip
      exact absurd (by exact nI_le (b := k) (by omega) (by omega)) h_34
  | succ r ih =>
    intro k hk K hM9 hF
    have hlt : k < T := by omega
    have hM8 := hM9
    obtain ⟨hm, hw_, hk_, ⟨it, hi_, hit⟩, hh_⟩ := hM8
    refine ms_run (pc' := 34) (lv' := [(0, .ref m), (1, .int (nI T)), (2, .ref n), (3, .int (nI (ct (pOut (stXn (nI (W * H)) nr mk ds cnt dr X k).1) cnt) - nI (ct (pOut X.1) cnt))), (4, .int (nI k))]) (st' := [.int (nI T), .int (nI k)]) _ (ms_deC dX6_tick_31 (ms_deC dX6_tick_33 ms_deN)) rfl rfl ?_
    refine ms_icmp_ge (tgt := 51) dX6_tick_34 (by decide) (fun h_34 => ?_) (fun h_34 => ?_)
    · skip
      exact absurd h_34 (by exact nI_ge (b := T) (by omega) (by omega))
    · skip
      refine ms_run (pc' := 40) (lv' := [(0, .ref m), (1, .int (nI T)), (2, .ref n), (3, .int (nI (ct (pOut (stXn (nI (W * H)) nr mk ds cnt dr X k).1) cnt) - nI (ct (pOut X.1) cnt))), (4, .int (nI k))]) (st' := [.ref n, .ref m, .int (nI (ct (pOut (stXn (nI (W * H)) nr mk ds cnt dr X k).1) cnt) - nI (ct (pOut X.1) cnt))]) _ (ms_deC dX6_tick_37 (ms_deC dX6_tick_38 (ms_deC dX6_tick_39 ms_deN))) rfl rfl ?_
      refine ms_W.room (k2 := 3 + 3 * r) (z2 := 72 + 72 * r) ?_ (by omega) (by omega)
      have hV9 := wdV.n (mk := mk) (dr := dr) (nr := nr) (ds := ds) hL hW hH hc hV k (by omega)
      refine ms_callV (As := [.ref n]) dX6_tick_40 (c_X6_step hM9 ⟨by omega, by omega, by omega, by omega, by omega⟩ hW hH hW0 hc hne hL hmm hds hd (by omega) hV9 (hfa.fb hF (Nat.le_refl _) (by omega) (fun b h1 h2 => by rintro (z9 | z9 | z9) <;> omega) (by rintro (z9 | z9 | z9) <;> omega)) ⟨l1, l4, l5⟩ ⟨Nat.le_refl n, by omega⟩ (by omega)) cv_X6_125 hm rfl ⟨Nat.le_of_ble_eq_true rfl, Nat.le_of_ble_eq_true rfl⟩ rfl (Nat.le_of_ble_eq_true rfl) (fun v9 n9 K_st hp9 => ?_)
      obtain ⟨hv9, rfl, hF_st, hM_st⟩ := hp9
      cases hv9
      refine ms_run (pc' := 48) (lv' := [(4, .int ((nI k) + 1)), (3, .int ((nI (ct (pOut (stXn (nI (W * H)) nr mk ds cnt dr X k).1) cnt) - nI (ct (pOut X.1) cnt)) + (nI (ct (pOut (stXn (nI (W * H)) nr mk ds cnt dr X (k + 1)).1) cnt) - nI (ct (pOut (stXn (nI (W * H)) nr mk ds cnt dr X k).1) cnt)))), (0, .ref m), (1, .int (nI T)), (2, .ref n)]) (st' := []) _ (ms_deC dX6_tick_43 (ms_deC dX6_tick_44 (ms_deC dX6_tick_45 ms_deN))) rfl rfl ?_
      refine ms_goto (tgt := 31) dX6_tick_48 (by decide) ?_
      rw [show (nI (ct (pOut (stXn (nI (W * H)) nr mk ds cnt dr X k).1) cnt) - nI (ct (pOut X.1) cnt)) + (nI (ct (pOut (stXn (nI (W * H)) nr mk ds cnt dr X (k + 1)).1) cnt) - nI (ct (pOut (stXn (nI (W * H)) nr mk ds cnt dr X k).1) cnt)) = nI (ct (pOut (stXn (nI (W * H)) nr mk ds cnt dr X (k + 1)).1) cnt) - nI (ct (pOut X.1) cnt) from by grind]
      rw [nI_1 k]
      rw [show n + 9 + 3 * k + 3 = n + 9 + 3 * (k + 1) from by omega]
      refine ms_W.sub (lv2 := [(0, _), (1, _), (2, _), (3, _), (4, _)]) ?_ [2, 3, 4, 1, 0] rfl
      exact ih (k + 1) (by omega) K_st hM_st (hF.trans2 (hF_st) (by omega))
theorem ms_W.conseq {d : ms_D} {P P2 : ms_P} {pc : Nat} {lv : List (Nat × Value)} {st : List Value} {n : Nat} {G : ms_H} {kr zr : Nat} (h : ms_W false d P pc lv st n G kr zr) (hP : ∀ r n1 G1, P r n1 G1 → P2 r n1 G1) : ms_W false d P2 pc lv st n G kr zr := by
  intro mc ms p l e s m args below meth c D cA base H locs cells slots ls F c1 c2 c3 c4 c5 c6
  intro T hT X
  obtain ⟨t, h1, o, h2, h3, ⟨⟨w, G1, e1, e2, e3⟩, h4⟩⟩ := h mc ms p l e s m args below meth c D cA base H locs cells slots ls F c1 c2 c3 c4 c5 c6 T hT X
  exact ⟨t, h1, o, h2, h3, ⟨⟨w, G1, e1, hP _ _ _ e2, e3⟩, h4⟩⟩
set_option maxHeartbeats 1000000 in
set_option maxRecDepth 20000 in
theorem c_X6_tick {n m aw am ai ah W H cnt N : Nat} {G : ms_H} {th dr pa : Int32} {wl mm : Nat → Int32} {X : cX} {nr mk ds : Nat → Int32} (hM : md_at G m aw am ai ah W H th X.2.2.2 dr pa cnt wl mm X.2.1 X.1) (hl : md_lt n m aw am ai ah) (hW : W ≤ 14) (hH : H ≤ 14) (hW0 : 0 < W) (hc : cnt ≤ 24) (hne : md_ne m aw am ai ah) (hL : lk_ok W H (W * H) nr) (hmm : mmR (W * H) mk mm) (hds : dsR (W * H) nr wl mk ds) (hd : 0 ≤ dr ∧ dr ≤ 9) (hN : N < 1000000) (hV : wdV W H cnt N X) (hN2 : N < 100000) (tt : Int32) : ms_M m_X6_tick [.ref m, .int tt] n G 69 3012 (mq_P n G (E5 m aw am ai ah) (th_tick tt) (fun _ => 1) (.int (nI (ct (pOut (stXn (nI (W * H)) nr mk ds cnt dr X tt.toNatClampNeg).1) cnt) - nI (ct (pOut X.1) cnt))) (fun t G1 => md_at G1 m aw am ai ah W H t X.2.2.2 dr pa cnt wl mm X.2.1 X.1) (fun G1 => md_at G1 m aw am ai ah W H 0 (stXn (nI (W * H)) nr mk ds cnt dr X tt.toNatClampNeg).2.2.2 dr pa cnt wl mm (stXn (nI (W * H)) nr mk ds cnt dr X tt.toNatClampNeg).2.1 (stXn (nI (W * H)) nr mk ds cnt dr X tt.toNatClampNeg).1)) := by
  refine ms_M.of (by decide) (Nat.le_of_ble_eq_true rfl) ?_
  show ms_W false m_X6_tick _ 0 [(0, .ref m), (1, .int tt)] [] n G 69 3012
  have hl9 := hl
  have hne9 := hne
  obtain ⟨hm, hw_, hk_, ⟨it, hi_, hit⟩, hh_⟩ := hM
  obtain ⟨l1, l2, l3, l4, l5⟩ := hl
  obtain ⟨n1, n2, n3, n4, n5, n6, n7, n8, n9, n10⟩ := hne
  have h196 := fd_196 hW hH
  have hF : ms_fb (E5 m aw am ai ah) n G G := ms_fb.rf
  refine ms_run (pc' := 2) (lv' := [(0, .ref m), (1, .int tt)]) (st' := [.int 0, .ref m]) _ (ms_deC dX6_tick_0 (ms_deC dX6_tick_1 ms_deN)) rfl rfl ?_
  refine ms_putf dX6_tick_2 fp_X6_46 hm (Nat.le_of_ble_eq_true rfl) rfl rfl ?_
  obtain ⟨G_1, eG_1⟩ : ∃ K9 : ms_H, K9 = ms_up G m (.inr (6, [.int 0, .int (nI W), .int (nI H), .int X.2.2.2, .int dr, .int pa, .ref aw, .ref am, .int (nI cnt), .ref ai, .ref ah])) := ⟨_, rfl⟩
  refine ms_W.heq eG_1 ?_
  have hF_2 : ms_fb (E5 m aw am ai ah) n G G_1 := by rw [eG_1]; exact ms_fb.up hF (by first | exact Or.inl (by omega) | exact Or.inr rfl | exact Or.inr (Or.inl rfl) | exact Or.inr (Or.inr (Or.inl rfl)) | exact Or.inr (Or.inr (Or.inr rfl)) | exact Or.inr (Or.inr rfl))
  have hf_3 : G_1 m = some (.inr (6, [.int 0, .int (nI W), .int (nI H), .int X.2.2.2, .int dr, .int pa, .ref aw, .ref am, .int (nI cnt), .ref ai, .ref ah])) := by rw [eG_1]; exact ms_up_s _ _ _
  have hf_4 := (congrFun eG_1 aw).trans ((ms_up_n G _ (by omega)).trans hw_)
  have hf_5 := (congrFun eG_1 am).trans ((ms_up_n G _ (by omega)).trans hk_)
  have hf_6 := (congrFun eG_1 ai).trans ((ms_up_n G _ (by omega)).trans hi_)
  have hf_7 := (congrFun eG_1 ah).trans ((ms_up_n G _ (by omega)).trans hh_)
  refine ms_run (pc' := 9) (lv' := [(0, .ref m), (1, .int tt)]) (st' := [.int 20, .int 1, .int tt]) _ (ms_deC dX6_tick_5 (ms_deC dX6_tick_6 (ms_deC dX6_tick_7 ms_deN))) rfl rfl ?_
  refine ms_callSp (As := [.int tt, .int 1, .int 20]) dX6_tick_9 (c_X6_isIn tt 1 20) cs_X6_49 rfl ⟨Nat.le_of_ble_eq_true rfl, Nat.le_of_ble_eq_true rfl⟩ rfl (Nat.le_of_ble_eq_true rfl) ?_
  by_cases hin : 1 ≤ tt ∧ tt ≤ 20
  · rw [show ms_b (1 ≤ tt ∧ tt ≤ 20) = 1 from if_pos hin]
    refine ms_if_ne (tgt := 21) dX6_tick_12 (by decide) (fun _ => ?_) (fun h9 => absurd h9 (by decide))
    refine ms_run (pc' := 22) (lv' := [(0, .ref m), (1, .int tt)]) (st' := [.ref m]) _ (ms_deC dX6_tick_21 ms_deN) rfl rfl ?_
    refine ms_W.room (k2 := 9 + 60) (z2 := 1572 + 1440) ?_ (by omega) (by omega)
    refine ms_callV (As := []) dX6_tick_22 (c_X6_farAll (show md_at G_1 m aw am ai ah W H 0 X.2.2.2 dr pa cnt wl mm X.2.1 X.1 from ⟨hf_3, hf_4, hf_5, ⟨it, hf_6, hit⟩, hf_7⟩) hW hH hc hl9 hW0 hL hmm) cv_X6_121 hf_3 rfl ⟨Nat.le_of_ble_eq_true rfl, Nat.le_of_ble_eq_true rfl⟩ rfl (Nat.le_of_ble_eq_true rfl) (fun v9 n9 K_fa hp9 => ?_)
    obtain ⟨hv9, rfl, hF_fa, hfa⟩ := hp9
    cases hv9
    have hM2 := md_at.fb (show md_at G_1 m aw am ai ah W H 0 X.2.2.2 dr pa cnt wl mm X.2.1 X.1 from ⟨hf_3, hf_4, hf_5, ⟨it, hf_6, hit⟩, hf_7⟩) hF_fa hl9
    have hF2 := ms_fb.trans hF_2 hF_fa (Nat.le_refl n)
    refine ms_run (pc' := 31) (lv' := [(4, .int 0), (3, .int 0), (2, .ref n), (0, .ref m), (1, .int tt)]) (st' := []) _ (ms_deC dX6_tick_25 (ms_deC dX6_tick_26 (ms_deC dX6_tick_27 (ms_deC dX6_tick_28 (ms_deC dX6_tick_29 ms_deN))))) rfl rfl ?_
    obtain ⟨T, hT, hTe⟩ := nI_of2 (M := 20) (n := 20) rfl (by rw [Int32.not_lt]; exact Int32.le_trans (by decide) hin.1) hin.2
    have hth : th_tick tt = none := if_neg (by rintro (z9 | z9); exact Int32.not_lt.mpr hin.1 z9; exact Int32.not_lt.mpr hin.2 z9)
    subst hTe
    rw [nI_clamp (by omega)]
    refine ms_W.room (k2 := 3 * T) (z2 := 72 * T) ?_ (by omega) (by omega)
    refine ms_W.conseq (P := fun r9 n1 Kf => r9 = .inl (some (.int (nI (ct (pOut (stXn (nI (W * H)) nr mk ds cnt dr X T).1) cnt) - nI (ct (pOut X.1) cnt)))) ∧ n1 = n + 9 + 3 * T ∧ ms_fb (E3 m ai ah) (n + 9) K_fa Kf ∧ md_at Kf m aw am ai ah W H 0 (stXn (nI (W * H)) nr mk ds cnt dr X T).2.2.2 dr pa cnt wl mm (stXn (nI (W * H)) nr mk ds cnt dr X T).2.1 (stXn (nI (W * H)) nr mk ds cnt dr X T).1) ?_ (fun r9 n9 G9 h9 => ?_)
    refine ms_W.sub (lv2 := [(0, _), (1, _), (2, _), (3, _), (4, _)]) ?_ [3, 4, 2, 1, 0] rfl
    have h7 := l_X6_tick (dr := dr) hl9 hW hH hW0 hc hne9 hL hmm hds hd hN hV (T := T) (by omega) (by omega) hfa T 0 (by omega) K_fa hM2 ms_fb.rf
    rw [show nI (ct (pOut (stXn (nI (W * H)) nr mk ds cnt dr X 0).1) cnt) - nI (ct (pOut X.1) cnt) = 0 from by show nI _ - nI _ = 0; exact Int32.sub_self _] at h7
    exact h7
    obtain ⟨h1, h2, h3, h4⟩ := h9
    rw [h1]
    exact mq_P.ok hth (by omega) (hF2.trans2 ((h3.mono E35).less (by omega)) (Nat.le_refl n)) rfl h4
  · rw [show ms_b (1 ≤ tt ∧ tt ≤ 20) = 0 from if_neg hin]
    refine ms_if_ne (tgt := 21) dX6_tick_12 (by decide) (fun h9 => absurd h9 (by decide)) (fun _ => ?_)
    refine ms_run (pc' := 17) (lv' := [(0, .ref m), (1, .int tt)]) (st' := [.int 1, .ref m]) _ (ms_deC dX6_tick_15 (ms_deC dX6_tick_16 ms_deN)) rfl rfl ?_
    refine ms_callV0 (As := [.int 1]) dX6_tick_17 (c_X6_no (show md_at G_1 m aw am ai ah W H 0 X.2.2.2 dr pa cnt wl mm X.2.1 X.1 from ⟨hf_3, hf_4, hf_5, ⟨it, hf_6, hit⟩, hf_7⟩) hne9 1) cv_X6_79 hf_3 rfl ⟨Nat.le_of_ble_eq_true rfl, Nat.le_of_ble_eq_true rfl⟩ rfl (Nat.le_of_ble_eq_true rfl) (fun v9 n9 K_no hp9 => ?_)
    obtain ⟨hv9, rfl, hF_no, hM_no⟩ := hp9
    cases hv9
    refine ms_reti (st := []) (ty := .int) dX6_tick_20 rfl rfl ?_
    exact mq_P.no (by unfold th_tick; rw [if_pos (by rcases Decidable.not_and_iff_or_not.mp hin with z9 | z9; exact Or.inl (Int32.not_le.mp z9); exact Or.inr (Int32.not_le.mp z9))]) (by omega) (ms_fb.trans2 hF_2 (hF_no.mono (fun a h => Or.inl h)) (by omega)) rfl hM_no

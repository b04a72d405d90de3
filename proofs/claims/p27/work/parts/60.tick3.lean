/-! Flock: tick, the whole -/
theorem fk_at.ob {G : ms_H} {o x sb fa wa W H cnt : Nat} {dw cl dr pa dw2 cl2 dr2 pa2 : Int32} {wr : Nat → Nat} {fv u : Nat → Nat → Int32} (hM : fk_at G o x sb dw W H cl dr pa fa wa cnt wr fv u) (ly : fk_ly o fa W H wa cnt wr) (hW0 : 0 < W) : fk_at (ms_up G o (.inr (6, [.ref x, .ref sb, .int dw2, .int (nI W), .int (nI H), .int cl2, .int dr2, .int pa2, .ref fa, .ref wa]))) o x sb dw2 W H cl2 dr2 pa2 fa wa cnt wr fv u := by
  obtain ⟨y1, y2, y3⟩ := ly
  have had := ad_fa (fa := fa) (H := H) (i := W)
  exact ⟨ms_up_s _ _ _, hM.2.1.fr (fun a h1 h2 => ms_up_n _ _ (by omega)) hW0, hM.2.2.fr (ms_up_n _ _ (by omega)) (fun k hk => ms_up_n _ _ (by have := y3 k hk; omega))⟩
theorem fk_lt.le {n n2 o fa W H wa cnt : Nat} {wr : Nat → Nat} (h : fk_lt n o fa W H wa cnt wr) (e : n ≤ n2) : fk_lt n2 o fa W H wa cnt wr := ⟨by have := h.1; omega, by have := h.2.1; omega, by have := h.2.2.1; omega, fun k hk => by have := h.2.2.2 k hk; omega⟩
set_option maxHeartbeats 1000000 in
set_option maxRecDepth 20000 in
theorem c_X6_tick {n o x sb fa wa W H cnt N t0 : Nat} {G : ms_H} {dw dr pa : Int32} {wr : Nat → Nat} {fv : Nat → Nat → Int32} {X : cX} {nr wl mk ds : Nat → Int32} (fl : fk_lt n o fa W H wa cnt wr) (ly : fk_ly o fa W H wa cnt wr) (hW : W ≤ 14) (hH : H ≤ 14) (hc : cnt ≤ 24) (hW0 : 0 < W) (hL : lk_ok W H (W * H) nr) (hfv : fvR (W * H) wl mk fv) (hht : ∀ f, f < W * H → fv f 1 = X.2.1 f) (hds : dsR (W * H) nr wl mk ds) (hd9 : 0 ≤ dr ∧ dr ≤ 9) (hN : N < 1000000) (hV9 : wdV W H cnt N X) (ht0 : X.2.2.2 = nI t0) (ht9 : t0 < 900) (hM : fk_at G o x sb dw W H X.2.2.2 dr pa fa wa cnt wr fv X.1) : ms_M m_X6_tick [.ref o] n G 88 894 (fun r n1 G1 => r = .inl (some (.int (nI (ct (pGf (W * H) nr mk ds cnt dr X) cnt)))) ∧ n ≤ n1 ∧ (∀ a, a < fa → ¬ a = o → G1 a = G a) ∧ ∃ fv1, fk_at G1 o x sb dw W H (X.2.2.2 + 1) dr pa fa wa cnt wr fv1 (stX1 (nI (W * H)) nr mk ds cnt dr X).1 ∧ fvR (W * H) wl mk fv1 ∧ ∀ f, f < W * H → fv1 f 1 = (stX1 (nI (W * H)) nr mk ds cnt dr X).2.1 f) := by
  refine ms_M.of (by decide) (Nat.le_of_ble_eq_true rfl) ?_
  show ms_W false m_X6_tick _ 0 [(0, .ref o)] [] n G 88 894
  have h9 : W * H ≤ 196 := Nat.mul_le_mul hW hH
  have fl0 := fl
  have ly0 := ly
  obtain ⟨l1, l2, l3, l4⟩ := fl0
  obtain ⟨y1, y2, y3⟩ := ly0
  have had := ad_fa (fa := fa) (H := H) (i := W)
  refine ms_run (pc' := 2) (lv' := [(0, .ref o)]) (st' := [.ref o, .ref o]) _ (ms_deC dX6_tick_0 (ms_deC dX6_tick_1 ms_deN)) rfl rfl ?_
  refine ms_getf dX6_tick_2 fg_X6_60 hM.O rfl ?_
  refine ms_run (pc' := 7) (lv' := [(0, .ref o)]) (st' := [.int (X.2.2.2 + 1), .ref o]) _ (ms_deC dX6_tick_5 (ms_deC dX6_tick_6 ms_deN)) rfl rfl ?_
  refine ms_putf dX6_tick_7 fp_X6_60 hM.O (Nat.le_of_ble_eq_true rfl) rfl rfl ?_
  obtain ⟨K1, eK1⟩ : ∃ K9, K9 = ms_up G o (.inr (6, [.ref x, .ref sb, .int dw, .int (nI W), .int (nI H), .int (X.2.2.2 + 1), .int dr, .int pa, .ref fa, .ref wa])) := ⟨_, rfl⟩
  refine ms_W.heq eK1 ?_
  have hM1 : fk_at K1 o x sb dw W H (X.2.2.2 + 1) dr pa fa wa cnt wr fv X.1 := by rw [eK1]; exact hM.ob ly hW0
  have hR1 : ∀ a, a < n → ¬ a = o → K1 a = G a := fun a h1 h2 => by rw [eK1]; exact ms_up_n _ _ h2
  refine ms_run (pc' := 11) (lv' := [(0, .ref o)]) (st' := [.int 4]) _ (ms_deC dX6_tick_10 ms_deN) rfl rfl ?_
  refine ms_W.room (k2 := 1 + 87) (z2 := 4 + 890) ?_ (by omega) (by omega)
  refine ms_newB (N := 4) dX6_tick_11 al_X6_108 (by decide) rfl (Nat.le_of_ble_eq_true rfl) ?_
  obtain ⟨Kt, eKt⟩ : ∃ K9, K9 = ms_up K1 n (.inl (2, 4, .inr (.inr (.inr (.inr (fun _ => none)))))) := ⟨_, rfl⟩
  refine ms_W.heq eKt ?_
  have hlt9 : ∀ a, a < n → Kt a = K1 a := fun a ha => by rw [eKt]; exact ms_up_n _ _ (by omega)
  have htb0 : Kt n = some (.inl (2, 4, .inr (.inr (.inr (.inr (fun _ => none)))))) := by rw [eKt]; exact ms_up_s _ _ _
  have hM11 : fk_at Kt o x sb dw W H (X.2.2.2 + 1) dr pa fa wa cnt wr fv X.1 := hM1.hi fl hW0 (fun a ha => hlt9 a ha)
  have hR11 : ∀ a, a < n → ¬ a = o → Kt a = G a := fun a h1 h2 => (hlt9 a h1).trans (hR1 a h1 h2)
  refine ms_run (pc' := 18) (lv' := [(0, .ref o)]) (st' := [.int 0, .ref o, .int 0, .ref n, .ref n]) _ (ms_deC dX6_tick_14 (ms_deC dX6_tick_15 (ms_deC dX6_tick_16 (ms_deC dX6_tick_17 ms_deN)))) rfl rfl ?_
  refine ms_W.room (k2 := 15 + 72) (z2 := 210 + 680) ?_ (by omega) (by omega)
  refine ms_callV (As := [.int 0]) dX6_tick_18 (c_X6_far (n := (n + 1)) hM11 hW hH hc (fl.le (by omega)) hW0 hL hfv (gi := 0) (by omega)) cv_X6_129 hM11.O rfl ⟨Nat.le_of_ble_eq_true rfl, Nat.le_of_ble_eq_true rfl⟩ rfl (Nat.le_of_ble_eq_true rfl) (fun v9 n9 Kf0 hp9 => ?_)
  obtain ⟨hv9, rfl, hF0, hD0⟩ := hp9
  cases hv9
  have htf0 := (hF0.at n (by omega)).trans htb0
  have hM12 : fk_at Kf0 o x sb dw W H (X.2.2.2 + 1) dr pa fa wa cnt wr fv X.1 := hM11.hi fl hW0 (fun a ha => hF0.at a (by omega))
  have hR12 : ∀ a, a < n → ¬ a = o → Kf0 a = G a := fun a h1 h2 => (hF0.at a (by omega)).trans (hR11 a h1 h2)
  have hDc0 := hD0
  obtain ⟨⟨fc0, -, hc0⟩, -⟩ := hDc0
  refine ms_aastoreB dX6_tick_21 htf0 hc0 (vp_in_nI (n := 0) (by omega) (by omega)) ?_
  obtain ⟨Ks0, eKs0⟩ : ∃ K9, K9 = ms_up Kf0 n (.inl (2, 4, .inr (.inr (.inr (.inr (va_up (fun _ => none) 0 (some (n + 1)))))))) := ⟨_, rfl⟩
  refine ms_W.heq eKs0 ?_
  have hnKs0 : ∀ a, ¬ a = n → Ks0 a = Kf0 a := fun a ha => by rw [eKs0]; exact ms_up_n _ _ ha
  have htb1 : Ks0 n = some (.inl (2, 4, .inr (.inr (.inr (.inr (va_up (fun _ => none) 0 (some (n + 1)))))))) := by rw [eKs0]; exact ms_up_s _ _ _
  have hDs0_0 := hD0.fr (G1 := Ks0) (fun a h1 h2 => hnKs0 a (by omega))
  have hM13 : fk_at Ks0 o x sb dw W H (X.2.2.2 + 1) dr pa fa wa cnt wr fv X.1 := hM12.hi fl hW0 (fun a ha => hnKs0 a (by omega))
  have hR13 : ∀ a, a < n → ¬ a = o → Ks0 a = G a := fun a h1 h2 => (hnKs0 a (by omega)).trans (hR12 a h1 h2)
  refine ms_run (pc' := 26) (lv' := [(0, .ref o)]) (st' := [.int 1, .ref o, .int 1, .ref n, .ref n]) _ (ms_deC dX6_tick_22 (ms_deC dX6_tick_23 (ms_deC dX6_tick_24 (ms_deC dX6_tick_25 ms_deN)))) rfl rfl ?_
  refine ms_W.room (k2 := 15 + 57) (z2 := 210 + 470) ?_ (by omega) (by omega)
  refine ms_callV (As := [.int 1]) dX6_tick_26 (c_X6_far (n := (n + 1 + 1 + W)) hM13 hW hH hc (fl.le (by omega)) hW0 hL hfv (gi := 1) (by omega)) cv_X6_129 hM13.O rfl ⟨Nat.le_of_ble_eq_true rfl, Nat.le_of_ble_eq_true rfl⟩ rfl (Nat.le_of_ble_eq_true rfl) (fun v9 n9 Kf1 hp9 => ?_)
  obtain ⟨hv9, rfl, hF1, hD1⟩ := hp9
  cases hv9
  have hDf1_0 := hDs0_0.fr (G1 := Kf1) (fun a h1 h2 => hF1.at a (by omega))
  have htf1 := (hF1.at n (by omega)).trans htb1
  have hM14 : fk_at Kf1 o x sb dw W H (X.2.2.2 + 1) dr pa fa wa cnt wr fv X.1 := hM13.hi fl hW0 (fun a ha => hF1.at a (by omega))
  have hR14 : ∀ a, a < n → ¬ a = o → Kf1 a = G a := fun a h1 h2 => (hF1.at a (by omega)).trans (hR13 a h1 h2)
  have hDc1 := hD1
  obtain ⟨⟨fc1, -, hc1⟩, -⟩ := hDc1
  refine ms_aastoreB dX6_tick_29 htf1 hc1 (vp_in_nI (n := 1) (by omega) (by omega)) ?_
  obtain ⟨Ks1, eKs1⟩ : ∃ K9, K9 = ms_up Kf1 n (.inl (2, 4, .inr (.inr (.inr (.inr (va_up (va_up (fun _ => none) 0 (some (n + 1))) 1 (some (n + 1 + 1 + W)))))))) := ⟨_, rfl⟩
  refine ms_W.heq eKs1 ?_
  have hnKs1 : ∀ a, ¬ a = n → Ks1 a = Kf1 a := fun a ha => by rw [eKs1]; exact ms_up_n _ _ ha
  have htb2 : Ks1 n = some (.inl (2, 4, .inr (.inr (.inr (.inr (va_up (va_up (fun _ => none) 0 (some (n + 1))) 1 (some (n + 1 + 1 + W)))))))) := by rw [eKs1]; exact ms_up_s _ _ _
  have hDs1_0 := hDf1_0.fr (G1 := Ks1) (fun a h1 h2 => hnKs1 a (by omega))
  have hDs1_1 := hD1.fr (G1 := Ks1) (fun a h1 h2 => hnKs1 a (by omega))
  have hM15 : fk_at Ks1 o x sb dw W H (X.2.2.2 + 1) dr pa fa wa cnt wr fv X.1 := hM14.hi fl hW0 (fun a ha => hnKs1 a (by omega))
  have hR15 : ∀ a, a < n → ¬ a = o → Ks1 a = G a := fun a h1 h2 => (hnKs1 a (by omega)).trans (hR14 a h1 h2)
  refine ms_run (pc' := 34) (lv' := [(0, .ref o)]) (st' := [.int 2, .ref o, .int 2, .ref n, .ref n]) _ (ms_deC dX6_tick_30 (ms_deC dX6_tick_31 (ms_deC dX6_tick_32 (ms_deC dX6_tick_33 ms_deN)))) rfl rfl ?_
  refine ms_W.room (k2 := 15 + 42) (z2 := 210 + 260) ?_ (by omega) (by omega)
  refine ms_callV (As := [.int 2]) dX6_tick_34 (c_X6_far (n := (n + 1 + 1 + W + 1 + W)) hM15 hW hH hc (fl.le (by omega)) hW0 hL hfv (gi := 2) (by omega)) cv_X6_129 hM15.O rfl ⟨Nat.le_of_ble_eq_true rfl, Nat.le_of_ble_eq_true rfl⟩ rfl (Nat.le_of_ble_eq_true rfl) (fun v9 n9 Kf2 hp9 => ?_)
  obtain ⟨hv9, rfl, hF2, hD2⟩ := hp9
  cases hv9
  have hDf2_0 := hDs1_0.fr (G1 := Kf2) (fun a h1 h2 => hF2.at a (by omega))
  have hDf2_1 := hDs1_1.fr (G1 := Kf2) (fun a h1 h2 => hF2.at a (by omega))
  have htf2 := (hF2.at n (by omega)).trans htb2
  have hM16 : fk_at Kf2 o x sb dw W H (X.2.2.2 + 1) dr pa fa wa cnt wr fv X.1 := hM15.hi fl hW0 (fun a ha => hF2.at a (by omega))
  have hR16 : ∀ a, a < n → ¬ a = o → Kf2 a = G a := fun a h1 h2 => (hF2.at a (by omega)).trans (hR15 a h1 h2)
  have hDc2 := hD2
  obtain ⟨⟨fc2, -, hc2⟩, -⟩ := hDc2
  refine ms_aastoreB dX6_tick_37 htf2 hc2 (vp_in_nI (n := 2) (by omega) (by omega)) ?_
  obtain ⟨Ks2, eKs2⟩ : ∃ K9, K9 = ms_up Kf2 n (.inl (2, 4, .inr (.inr (.inr (.inr (va_up (va_up (va_up (fun _ => none) 0 (some (n + 1))) 1 (some (n + 1 + 1 + W))) 2 (some (n + 1 + 1 + W + 1 + W)))))))) := ⟨_, rfl⟩
  refine ms_W.heq eKs2 ?_
  have hnKs2 : ∀ a, ¬ a = n → Ks2 a = Kf2 a := fun a ha => by rw [eKs2]; exact ms_up_n _ _ ha
  have htb3 : Ks2 n = some (.inl (2, 4, .inr (.inr (.inr (.inr (va_up (va_up (va_up (fun _ => none) 0 (some (n + 1))) 1 (some (n + 1 + 1 + W))) 2 (some (n + 1 + 1 + W + 1 + W)))))))) := by rw [eKs2]; exact ms_up_s _ _ _
  have hDs2_0 := hDf2_0.fr (G1 := Ks2) (fun a h1 h2 => hnKs2 a (by omega))
  have hDs2_1 := hDf2_1.fr (G1 := Ks2) (fun a h1 h2 => hnKs2 a (by omega))
  have hDs2_2 := hD2.fr (G1 := Ks2) (fun a h1 h2 => hnKs2 a (by omega))
  have hM17 : fk_at Ks2 o x sb dw W H (X.2.2.2 + 1) dr pa fa wa cnt wr fv X.1 := hM16.hi fl hW0 (fun a ha => hnKs2 a (by omega))
  have hR17 : ∀ a, a < n → ¬ a = o → Ks2 a = G a := fun a h1 h2 => (hnKs2 a (by omega)).trans (hR16 a h1 h2)
  refine ms_run (pc' := 42) (lv' := [(0, .ref o)]) (st' := [.int 3, .ref o, .int 3, .ref n, .ref n]) _ (ms_deC dX6_tick_38 (ms_deC dX6_tick_39 (ms_deC dX6_tick_40 (ms_deC dX6_tick_41 ms_deN)))) rfl rfl ?_
  refine ms_W.room (k2 := 15 + 27) (z2 := 210 + 50) ?_ (by omega) (by omega)
  refine ms_callV (As := [.int 3]) dX6_tick_42 (c_X6_far (n := (n + 1 + 1 + W + 1 + W + 1 + W)) hM17 hW hH hc (fl.le (by omega)) hW0 hL hfv (gi := 3) (by omega)) cv_X6_129 hM17.O rfl ⟨Nat.le_of_ble_eq_true rfl, Nat.le_of_ble_eq_true rfl⟩ rfl (Nat.le_of_ble_eq_true rfl) (fun v9 n9 Kf3 hp9 => ?_)
  obtain ⟨hv9, rfl, hF3, hD3⟩ := hp9
  cases hv9
  have hDf3_0 := hDs2_0.fr (G1 := Kf3) (fun a h1 h2 => hF3.at a (by omega))
  have hDf3_1 := hDs2_1.fr (G1 := Kf3) (fun a h1 h2 => hF3.at a (by omega))
  have hDf3_2 := hDs2_2.fr (G1 := Kf3) (fun a h1 h2 => hF3.at a (by omega))
  have htf3 := (hF3.at n (by omega)).trans htb3
  have hM18 : fk_at Kf3 o x sb dw W H (X.2.2.2 + 1) dr pa fa wa cnt wr fv X.1 := hM17.hi fl hW0 (fun a ha => hF3.at a (by omega))
  have hR18 : ∀ a, a < n → ¬ a = o → Kf3 a = G a := fun a h1 h2 => (hF3.at a (by omega)).trans (hR17 a h1 h2)
  have hDc3 := hD3
  obtain ⟨⟨fc3, -, hc3⟩, -⟩ := hDc3
  refine ms_aastoreB dX6_tick_45 htf3 hc3 (vp_in_nI (n := 3) (by omega) (by omega)) ?_
  obtain ⟨Ks3, eKs3⟩ : ∃ K9, K9 = ms_up Kf3 n (.inl (2, 4, .inr (.inr (.inr (.inr (va_up (va_up (va_up (va_up (fun _ => none) 0 (some (n + 1))) 1 (some (n + 1 + 1 + W))) 2 (some (n + 1 + 1 + W + 1 + W))) 3 (some (n + 1 + 1 + W + 1 + W + 1 + W)))))))) := ⟨_, rfl⟩
  refine ms_W.heq eKs3 ?_
  have hnKs3 : ∀ a, ¬ a = n → Ks3 a = Kf3 a := fun a ha => by rw [eKs3]; exact ms_up_n _ _ ha
  have htb4 : Ks3 n = some (.inl (2, 4, .inr (.inr (.inr (.inr (va_up (va_up (va_up (va_up (fun _ => none) 0 (some (n + 1))) 1 (some (n + 1 + 1 + W))) 2 (some (n + 1 + 1 + W + 1 + W))) 3 (some (n + 1 + 1 + W + 1 + W + 1 + W)))))))) := by rw [eKs3]; exact ms_up_s _ _ _
  have hDs3_0 := hDf3_0.fr (G1 := Ks3) (fun a h1 h2 => hnKs3 a (by omega))
  have hDs3_1 := hDf3_1.fr (G1 := Ks3) (fun a h1 h2 => hnKs3 a (by omega))
  have hDs3_2 := hDf3_2.fr (G1 := Ks3) (fun a h1 h2 => hnKs3 a (by omega))
  have hDs3_3 := hD3.fr (G1 := Ks3) (fun a h1 h2 => hnKs3 a (by omega))
  have hM19 : fk_at Ks3 o x sb dw W H (X.2.2.2 + 1) dr pa fa wa cnt wr fv X.1 := hM18.hi fl hW0 (fun a ha => hnKs3 a (by omega))
  have hR19 : ∀ a, a < n → ¬ a = o → Ks3 a = G a := fun a h1 h2 => (hnKs3 a (by omega)).trans (hR18 a h1 h2)
  refine ms_run (pc' := 48) (lv' := [(1, .ref n), (0, .ref o)]) (st' := [.ref o]) _ (ms_deC dX6_tick_46 (ms_deC dX6_tick_47 ms_deN)) rfl rfl ?_
  refine ms_getf dX6_tick_48 fg_X6_36 hM19.O rfl ?_
  refine fk_len dX6_tick_51 hM19.2.2 ?_
  refine ms_run (pc' := 54) (lv' := [(2, .int (nI cnt)), (1, .ref n), (0, .ref o)]) (st' := [.int (nI cnt)]) _ (ms_deC dX6_tick_52 (ms_deC dX6_tick_53 ms_deN)) rfl rfl ?_
  refine ms_W.room (k2 := 1 + 26) (z2 := cnt + 26) ?_ (by omega) (by omega)
  refine ms_newI (N := cnt) dX6_tick_54 aw_int (nI_pos (by omega)) (nI_clamp (by omega)) (by omega) ?_
  obtain ⟨Kw, eKw⟩ : ∃ K9, K9 = ms_up Ks3 (n + 1 + 1 + W + 1 + W + 1 + W + 1 + W) (.inl (0, cnt, .inl (fun _ => 0))) := ⟨_, rfl⟩
  refine ms_W.heq eKw ?_
  have hnw : ∀ a, a < (n + 1 + 1 + W + 1 + W + 1 + W + 1 + W) → Kw a = Ks3 a := fun a ha => by rw [eKw]; exact ms_up_n _ _ (by omega)
  have hw0 : Kw (n + 1 + 1 + W + 1 + W + 1 + W + 1 + W) = some (.inl (0, cnt, .inl (fl2 (wfX (W * H) nr ds cnt dr X) 0))) := by rw [eKw, fl2_0]; exact ms_up_s _ _ _
  have hTB : tb_at Ks3 n W H (dXg (W * H) nr wl mk) := by
    refine ⟨_, htb4, fun g hg => ?_⟩
    match g, hg with
    | 0, _ => exact ⟨(n + 1), by omega, by omega, rfl, hDs3_0⟩
    | 1, _ => exact ⟨(n + 1 + 1 + W), by omega, by omega, rfl, hDs3_1⟩
    | 2, _ => exact ⟨(n + 1 + 1 + W + 1 + W), by omega, by omega, rfl, hDs3_2⟩
    | 3, _ => exact ⟨(n + 1 + 1 + W + 1 + W + 1 + W), by omega, by omega, rfl, hDs3_3⟩
    | g + 4, hg => omega
  have hTB2 := hTB.fr (G1 := Kw) (fun a _ h2 => hnw a h2)
  have hM20 : fk_at Kw o x sb dw W H (X.2.2.2 + 1) dr pa fa wa cnt wr fv X.1 := hM19.hi fl hW0 (fun a ha => hnw a (by omega))
  have hR20 : ∀ a, a < n → ¬ a = o → Kw a = G a := fun a h1 h2 => (hnw a (by omega)).trans (hR19 a h1 h2)
  refine ms_run (pc' := 60) (lv' := [(4, .int 0), (3, .ref (n + 1 + 1 + W + 1 + W + 1 + W + 1 + W)), (2, .int (nI cnt)), (1, .ref n), (0, .ref o)]) (st' := []) _ (ms_deC dX6_tick_56 (ms_deC dX6_tick_57 (ms_deC dX6_tick_58 ms_deN))) rfl rfl ?_
  refine ms_W.room (k2 := 26) (z2 := 26) ?_ (by omega) (by omega)
  refine ms_W.sub (lv2 := [(0, _), (1, _), (2, _), (3, _), (4, _)]) ?_ [4, 3, 2, 1, 0] rfl
  refine l1_X6_tick fl ly hW hH hc hW0 hL hfv hht hds hd9 hN hV9 ht0 ht9 ?_ cnt 0 (by omega) Kw hM20 hTB2 hw0 (fun a h1 h2 => hR20 a (by omega) h2)
  intro K9 hM9 hT9 hw9 hF9
  refine ms_run (pc' := 127) (lv' := [(0, .ref o), (1, .ref n), (2, .int (nI cnt)), (3, .ref (n + 1 + 1 + W + 1 + W + 1 + W + 1 + W))]) (st' := [.int (nI cnt)]) _ (ms_deC dX6_tick_126 ms_deN) rfl rfl ?_
  refine ms_W.room (k2 := 1 + 0) (z2 := cnt + 0) ?_ (by omega) (by omega)
  refine ms_newZ (N := cnt) dX6_tick_127 aw_boolean (nI_pos (by omega)) (nI_clamp (by omega)) (by omega) ?_
  obtain ⟨Kg, eKg⟩ : ∃ Kx, Kx = ms_up K9 (n + 1 + 1 + W + 1 + W + 1 + W + 1 + W + 1) (.inl (1, cnt, .inl (fun _ => 0))) := ⟨_, rfl⟩
  refine ms_W.heq eKg ?_
  have hng : ∀ a, a < (n + 1 + 1 + W + 1 + W + 1 + W + 1 + W + 1) → Kg a = K9 a := fun a ha => by rw [eKg]; exact ms_up_n _ _ (by omega)
  have hg0 : Kg (n + 1 + 1 + W + 1 + W + 1 + W + 1 + W + 1) = some (.inl (1, cnt, .inl (fun _ => 0))) := by rw [eKg]; exact ms_up_s _ _ _
  refine ms_run (pc' := 134) (lv' := [(5, .int 0), (4, .ref (n + 1 + 1 + W + 1 + W + 1 + W + 1 + W + 1)), (0, .ref o), (1, .ref n), (2, .int (nI cnt)), (3, .ref (n + 1 + 1 + W + 1 + W + 1 + W + 1 + W))]) (st' := []) _ (ms_deC dX6_tick_129 (ms_deC dX6_tick_131 (ms_deC dX6_tick_132 ms_deN))) rfl rfl ?_
  refine ms_W.sub (lv2 := [(0, _), (1, _), (2, _), (3, _), (4, _), (5, _)]) ?_ [2, 3, 4, 5, 1, 0] rfl
  refine l2a_X6_tick fl ly hW hH hc hW0 hL hfv hht hds hd9 hN hV9 ht0 ht9 ?_ W 0 (by omega) Kg (fun _ => 0) (hM9.hi fl hW0 (fun a ha => hng a (by omega))) ((hng _ (by omega)).trans hw9) hg0 (fun j hj => Or.inr ⟨rfl, fun f hf hp => absurd hp (by rintro (a | ⟨a, b⟩); exact absurd a (Nat.not_lt_zero _); exact absurd b (Nat.not_lt_zero _))⟩) (fun a h1 h2 => (hng a (by omega)).trans (hF9 a h1 h2))
  intro Kz go hMz hwz hgz hgo hFz
  refine ms_run (pc' := 301) (lv' := [(6, .int 0), (5, .int 0), (0, .ref o), (2, .int (nI cnt)), (3, .ref (n + 1 + 1 + W + 1 + W + 1 + W + 1 + W)), (4, .ref (n + 1 + 1 + W + 1 + W + 1 + W + 1 + W + 1))]) (st' := []) _ (ms_deC dX6_tick_295 (ms_deC dX6_tick_296 (ms_deC dX6_tick_298 (ms_deC dX6_tick_299 ms_deN)))) rfl rfl ?_
  refine ms_W.sub (lv2 := [(0, _), (2, _), (3, _), (4, _), (5, _), (6, _)]) ?_ [2, 3, 4, 5, 1, 0] rfl
  exact l3_X6_tick fl ly hW hH hc hW0 hL hfv hht hds hd9 hN hV9 ht0 ht9 hgo cnt 0 (by omega) Kz hMz.1 (hMz.2.1.fc (fun f hf c hc6 => by
    unfold fvh
    by_cases e : c = 1
    · rw [if_pos e, e]; exact hht f hf
    · rw [if_neg e])) (by rw [uw_0]; exact hMz.2.2) hwz hgz hFz

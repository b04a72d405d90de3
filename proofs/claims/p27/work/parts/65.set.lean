/-! Flock: set, tick of some ticks -/
theorem th_set_n {a b : Nat} (ha : a ≤ 9) (hb : 1 ≤ b ∧ b ≤ 20) : th_set (nI a) (nI b) = none := if_neg (fun z => by
  rcases z with z | z | z | z
  · exact nI_pos (by omega) z
  · exact absurd ((nI_ltI (a := 9) (by omega) (by omega)).mp z) (by omega)
  · exact absurd ((nI_ltI (b := 1) (by omega) (by omega)).mp z) (by omega)
  · exact absurd ((nI_ltI (a := 20) (by omega) (by omega)).mp z) (by omega))
theorem th_tick_n {a : Nat} (ha : 1 ≤ a ∧ a ≤ 20) : th_tick (nI a) = none := if_neg (fun z => by
  rcases z with z | z
  · exact absurd ((nI_ltI (b := 1) (by omega) (by omega)).mp z) (by omega)
  · exact absurd ((nI_ltI (a := 20) (by omega) (by omega)).mp z) (by omega))
set_option maxHeartbeats 1000000 in
set_option maxRecDepth 20000 in
theorem c_X6_set {n o x g q c j q2 c2 sb L d t W H cnt fa wa : Nat} {xs : Nat → Int32} {G : ms_H} {dr pa : Int32} {X : cX} {nr wl mk ds : Nat → Int32} {wr : Nat → Nat} {fv : Nat → Nat → Int32} (ho : ox x g q c j q2 c2) (hox : o < x) (hLb : L < 1000) (hd : d < 800) (ht : t < 790) (hS : fS o x g q c j q2 c2 sb n d t G W H cnt fa wa dr pa X nr wl mk ds wr fv) : ms_X (ms_S (sb, L, xs) m_X6_set) [.ref o] n G 1 6 (fe_P o x g q c j q2 c2 sb n d t) := by
  refine ms_X.of (show plainName m_X6_set.1.cls = true from by decide) (Nat.le_of_ble_eq_true rfl) ?_
  show ms_W true (ms_S (sb, L, xs) m_X6_set) _ 0 [(0, .ref o)] [] n G 1 6
  obtain ⟨hX, hM, fl, ly, hcf, hK⟩ := hS
  have hK0 := hK
  obtain ⟨⟨b1, b2, b3, b4⟩, hc, hL, hfv, hht, hds, hdr, ⟨p9, hp91, hp92, hpa⟩, hwl, ⟨hcl, ht9⟩, hV, hI, hHt⟩ := hK0
  have hW : W ≤ 14 := by omega
  have hH : H ≤ 14 := by omega
  have hW0 : 0 < W := by omega
  have h9 : W * H ≤ 196 := Nat.mul_le_mul hW hH
  have fl0 := fl
  have ly0 := ly
  obtain ⟨l1, l2, l3, l4⟩ := fl0
  obtain ⟨y1, y2, y3⟩ := ly0
  have had := ad_fa (fa := fa) (H := H) (i := W)
  refine ms_run (pc' := 1) (lv' := [(0, .ref o)]) (st' := [.ref o]) _ (ms_deC dX6_set_0 ms_deN) rfl rfl ?_
  refine ms_getf dX6_set_1 fg_X6_23 hM.O rfl ?_
  refine ms_run (pc' := 9) (lv' := [(1, .int dr), (0, .ref o)]) (st' := [.int 10, .ref o, .ref o]) _ (ms_deC dX6_set_4 (ms_deC dX6_set_5 (ms_deC dX6_set_6 (ms_deC dX6_set_7 ms_deN)))) rfl rfl ?_
  refine ms_callV0 (As := [.int 10]) dX6_set_9 (c_X6_draw (n := n) (L := L) (xs := xs) (d := d) (N := 10) hM.O (by omega) hLb (by omega) (by omega)) cv_X6_56 hM.O rfl ⟨Nat.le_of_ble_eq_true rfl, Nat.le_of_ble_eq_true rfl⟩ rfl (Nat.le_of_ble_eq_true rfl) (fun v9 n9 K1 hp9 => ?_)
  obtain ⟨v1, hv1, hr9, hnn9, eK1⟩ := hp9
  cases hr9
  rw [hnn9]
  have hM1 : fk_at K1 o x sb (nI (d + 1)) W H X.2.2.2 dr pa fa wa cnt wr fv X.1 := by rw [eK1]; exact hM.ob ly hW0
  have hX1 : xs_at K1 x g q c j q2 c2 W H nr wl mk ds cnt dr pa X := hX.cx ho (fun a h1 h2 => by rw [eK1]; exact ms_up_n _ _ (by omega))
  refine ms_putf dX6_set_12 fp_X6_23 hM1.O (Nat.le_of_ble_eq_true rfl) rfl rfl ?_
  obtain ⟨K2, eK2⟩ : ∃ K9, K9 = ms_up K1 o (.inr (6, [.ref x, .ref sb, .int (nI (d + 1)), .int (nI W), .int (nI H), .int X.2.2.2, .int (nI v1), .int pa, .ref fa, .ref wa])) := ⟨_, rfl⟩
  refine ms_W.heq eK2 ?_
  have hM2 : fk_at K2 o x sb (nI (d + 1)) W H X.2.2.2 (nI v1) pa fa wa cnt wr fv X.1 := by rw [eK2]; exact hM1.ob ly hW0
  have hX2 : xs_at K2 x g q c j q2 c2 W H nr wl mk ds cnt dr pa X := hX1.cx ho (fun a h1 h2 => by rw [eK2]; exact ms_up_n _ _ (by omega))
  refine ms_run (pc' := 19) (lv' := [(1, .int dr), (0, .ref o)]) (st' := [.int 4, .ref o, .int 1, .ref o]) _ (ms_deC dX6_set_15 (ms_deC dX6_set_16 (ms_deC dX6_set_17 (ms_deC dX6_set_18 ms_deN)))) rfl rfl ?_
  refine ms_callV0 (As := [.int 4]) dX6_set_19 (c_X6_draw (n := n) (L := L) (xs := xs) (d := (d + 1)) (N := 4) hM2.O (by omega) hLb (by omega) (by omega)) cv_X6_56 hM2.O rfl ⟨Nat.le_of_ble_eq_true rfl, Nat.le_of_ble_eq_true rfl⟩ rfl (Nat.le_of_ble_eq_true rfl) (fun v9 n9 K3 hp9 => ?_)
  obtain ⟨v3, hv3, hr9, hnn9, eK3⟩ := hp9
  cases hr9
  rw [hnn9]
  have hM3 : fk_at K3 o x sb (nI (d + 1 + 1)) W H X.2.2.2 (nI v1) pa fa wa cnt wr fv X.1 := by rw [eK3]; exact hM2.ob ly hW0
  have hX3 : xs_at K3 x g q c j q2 c2 W H nr wl mk ds cnt dr pa X := hX2.cx ho (fun a h1 h2 => by rw [eK3]; exact ms_up_n _ _ (by omega))
  refine ms_run (pc' := 23) (lv' := [(1, .int dr), (0, .ref o)]) (st' := [.int (1 + (nI v3)), .ref o]) _ (ms_deC dX6_set_22 ms_deN) rfl rfl ?_
  rw [show (1 : Int32) + nI v3 = nI (1 + v3) from nI_add 1 v3]
  refine ms_putf dX6_set_23 fp_X6_26 hM3.O (Nat.le_of_ble_eq_true rfl) rfl rfl ?_
  obtain ⟨K4, eK4⟩ : ∃ K9, K9 = ms_up K3 o (.inr (6, [.ref x, .ref sb, .int (nI (d + 1 + 1)), .int (nI W), .int (nI H), .int X.2.2.2, .int (nI v1), .int (nI (1 + v3)), .ref fa, .ref wa])) := ⟨_, rfl⟩
  refine ms_W.heq eK4 ?_
  have hM4 : fk_at K4 o x sb (nI (d + 1 + 1)) W H X.2.2.2 (nI v1) (nI (1 + v3)) fa wa cnt wr fv X.1 := by rw [eK4]; exact hM3.ob ly hW0
  have hX4 : xs_at K4 x g q c j q2 c2 W H nr wl mk ds cnt dr pa X := hX3.cx ho (fun a h1 h2 => by rw [eK4]; exact ms_up_n _ _ (by omega))
  refine ms_run (pc' := 27) (lv' := [(1, .int dr), (0, .ref o)]) (st' := [.ref o]) _ (ms_deC dX6_set_26 ms_deN) rfl rfl ?_
  refine ms_getf dX6_set_27 fg_X6_10 hM4.O rfl ?_
  refine ms_run (pc' := 31) (lv' := [(1, .int dr), (0, .ref o)]) (st' := [.ref o, .ref x]) _ (ms_deC dX6_set_30 ms_deN) rfl rfl ?_
  refine ms_getf dX6_set_31 fg_X6_23 hM4.O rfl ?_
  refine ms_run (pc' := 35) (lv' := [(1, .int dr), (0, .ref o)]) (st' := [.ref o, .int (nI v1), .ref x]) _ (ms_deC dX6_set_34 ms_deN) rfl rfl ?_
  refine ms_getf dX6_set_35 fg_X6_26 hM4.O rfl ?_
  refine ms_W.room (k2 := 1 + 0) (z2 := 6 + 0) ?_ (by omega) (by omega)
  have hth5 : th_set (nI v1) (nI (1 + v3)) = none := th_set_n (by omega) (by omega)
  refine ms_callVX (As := [.int (nI v1), .int (nI (1 + v3))]) dX6_set_38 (c_X5_set ho hX4 (nI v1) (nI (1 + v3))) cv_X6_92 hX4.1 rfl ⟨Nat.le_of_ble_eq_true rfl, Nat.le_of_ble_eq_true rfl⟩ rfl (Nat.le_of_ble_eq_true rfl) (fun v9 n5 K5 hp9 => ?_) (fun E9 n5 K5 q9 hp9 => ?_)
  · skip
    obtain ⟨-, hv9, hQ5, hn5⟩ := xq_P.val hp9
    cases hv9
    obtain ⟨hX5, hF5⟩ := hQ5
    have hM5 : fk_at K5 o x sb (nI (d + 1 + 1)) W H X.2.2.2 (nI v1) (nI (1 + v3)) fa wa cnt wr fv X.1 := hM4.cf (n := n) ly hW0 hox hcf hF5
    refine ms_run (pc' := 42) (lv' := [(1, .int dr), (0, .ref o)]) (st' := [.int dr, .int dr]) _ (ms_deC dX6_set_41 ms_deN) rfl rfl ?_
    refine ms_icmp_ne (tgt := 49) dX6_set_42 (by decide) (fun h_42 => ?_) (fun h_42 => ?_)
    · skip
      exact absurd rfl h_42
    · skip
      refine ms_run (pc' := 46) (lv' := [(1, .int dr), (0, .ref o)]) (st' := [.int 1]) _ (ms_deC dX6_set_45 ms_deN) rfl rfl ?_
      refine ms_goto (tgt := 50) dX6_set_46 (by decide) ?_
      refine ms_reti (st := []) (ty := .boolean) dX6_set_50 rfl rfl ?_
      refine ⟨rfl, by omega, d + 1 + 1, t, by omega, by omega, Nat.le_refl t, by omega, W, H, cnt, fa, wa, nI v1, nI (1 + v3), X, nr, wl, mk, ds, wr, fv, hX5, hM5, fl.le (by omega), ly, hcf, hK.set ⟨nI_pos' (by omega), show nI v1 ≤ nI 9 from nI_le (by omega) (by omega)⟩ (by omega)⟩
  · skip
    exact absurd ((xq_P.thw hp9).1.symm.trans hth5) (fun z => by cases z)
set_option maxHeartbeats 1000000 in
set_option maxRecDepth 20000 in
theorem l_X6_tick_ {n o x g q c j q2 c2 sb L d t W H cnt fa wa : Nat} {xs : Nat → Int32} {G : ms_H} {dr pa : Int32} {X : cX} {nr wl mk ds : Nat → Int32} {wr : Nat → Nat} {fv : Nat → Nat → Int32} (ho : ox x g q c j q2 c2) (hox : o < x) (hLb : L < 1000) (hd : d < 800) (ht : t < 790) (hS : fS o x g q c j q2 c2 sb n d t G W H cnt fa wa dr pa X nr wl mk ds wr fv) {M : Nat} (hM1 : 1 ≤ M) (hM3 : M ≤ 3) : ∀ (r k : Nat), k + r = M → ∀ (K : ms_H) (n1 : Nat) (fv1 : Nat → Nat → Int32), n ≤ n1 → fk_at K o x sb (nI (d + 1)) W H (stXn (nI (W * H)) nr mk ds cnt dr X k).2.2.2 dr pa fa wa cnt wr fv1 (stXn (nI (W * H)) nr mk ds cnt dr X k).1 → xs_at K x g q c j q2 c2 W H nr wl mk ds cnt dr pa X → fK W H cnt (t + k) dr pa (stXn (nI (W * H)) nr mk ds cnt dr X k) nr wl mk ds fv1 → ct (pOut X.1) cnt ≤ ct (pOut (stXn (nI (W * H)) nr mk ds cnt dr X k).1) cnt → ms_W true (ms_S (sb, L, xs) m_X6_tick_) (fe_P o x g q c j q2 c2 sb n d t) 13 [(0, .ref o), (2, .int (nI M)), (3, .int (nI (ct (pOut (stXn (nI (W * H)) nr mk ds cnt dr X k).1) cnt - ct (pOut X.1) cnt))), (4, .int (nI k))] [] n1 K (88 * r + 1) (894 * r + 6) := by
  obtain ⟨hX, hM, fl, ly, hcf, hK⟩ := hS
  have hK0 := hK
  obtain ⟨⟨b1, b2, b3, b4⟩, hc, hL, hfv, hht, hds, hdr, ⟨p9, hp91, hp92, hpa⟩, hwl, ⟨hcl, ht9⟩, hV, hI, hHt⟩ := hK0
  have hW : W ≤ 14 := by omega
  have hH : H ≤ 14 := by omega
  have hW0 : 0 < W := by omega
  have h9 : W * H ≤ 196 := Nat.mul_le_mul hW hH
  have fl0 := fl
  have ly0 := ly
  obtain ⟨l1, l2, l3, l4⟩ := fl0
  obtain ⟨y1, y2, y3⟩ := ly0
  have had := ad_fa (fa := fa) (H := H) (i := W)
  intro r
  induction r with
  | zero =>
    intro k hk K n1 fv1 hn1 hMK hXK hKK hle
    have hkN : k = M := by omega
    refine ms_run (pc' := 16) (lv' := [(0, .ref o), (2, .int (nI M)), (3, .int (nI (ct (pOut (stXn (nI (W * H)) nr mk ds cnt dr X k).1) cnt - ct (pOut X.1) cnt))), (4, .int (nI k))]) (st' := [.int (nI M), .int (nI k)]) _ (ms_deC dX6_tick__13 (ms_deC dX6_tick__15 ms_deN)) rfl rfl ?_
    refine ms_icmp_ge (tgt := 32) dX6_tick__16 (by decide) (fun h_16 => ?_) (fun h_16 => ?_)
    · skip
      refine ms_run (pc' := 33) (lv' := [(0, .ref o), (2, .int (nI M)), (3, .int (nI (ct (pOut (stXn (nI (W * H)) nr mk ds cnt dr X k).1) cnt - ct (pOut X.1) cnt))), (4, .int (nI k))]) (st' := [.ref o]) _ (ms_deC dX6_tick__32 ms_deN) rfl rfl ?_
      refine ms_getf dX6_tick__33 fg_X6_10 hMK.O rfl ?_
      refine ms_run (pc' := 37) (lv' := [(0, .ref o), (2, .int (nI M)), (3, .int (nI (ct (pOut (stXn (nI (W * H)) nr mk ds cnt dr X k).1) cnt - ct (pOut X.1) cnt))), (4, .int (nI k))]) (st' := [.int (nI M), .ref x]) _ (ms_deC dX6_tick__36 ms_deN) rfl rfl ?_
      refine ms_W.room (k2 := 1 + 0) (z2 := 6 + 0) ?_ (by omega) (by omega)
      have hth1 : th_tick (nI M) = none := th_tick_n (by omega)
      refine ms_callVX (As := [.int (nI M)]) dX6_tick__37 (c_X5_tick ho hXK hc hV.2.1 (nI M)) cv_X6_140 hXK.1 rfl ⟨Nat.le_of_ble_eq_true rfl, Nat.le_of_ble_eq_true rfl⟩ rfl (Nat.le_of_ble_eq_true rfl) (fun v9 n1 K1 hp9 => ?_) (fun E9 n1 K1 q9 hp9 => ?_)
      · skip
        obtain ⟨-, hv9, hQ1, hn1⟩ := xq_P.val hp9
        cases hv9
        obtain ⟨hX1, hF1⟩ := hQ1
        have hM1 : fk_at K1 o x sb (nI (d + 1)) W H (stXn (nI (W * H)) nr mk ds cnt dr X k).2.2.2 dr pa fa wa cnt wr fv1 (stXn (nI (W * H)) nr mk ds cnt dr X k).1 := hMK.cf (n := n) ly hW0 hox hcf hF1
        refine ms_run (pc' := 41) (lv' := [(0, .ref o), (2, .int (nI M)), (3, .int (nI (ct (pOut (stXn (nI (W * H)) nr mk ds cnt dr X k).1) cnt - ct (pOut X.1) cnt))), (4, .int (nI k))]) (st' := [.int (nI (ct (pOut (stXn (nI (W * H)) nr mk ds cnt dr X k).1) cnt - ct (pOut X.1) cnt)), .int (nI (ct (pOut (stXn (nI (W * H)) nr mk ds cnt dr X (nI M).toNatClampNeg).1) cnt) - nI (ct (pOut X.1) cnt))]) _ (ms_deC dX6_tick__40 ms_deN) rfl rfl ?_
        refine ms_icmp_ne (tgt := 48) dX6_tick__41 (by decide) (fun h_41 => ?_) (fun h_41 => ?_)
        · skip
          exact absurd (by rw [nI_clamp (by omega), ← hkN]; exact nI_sub (by have := ct_le (pOut (stXn (nI (W * H)) nr mk ds cnt dr X k).1) cnt; omega) hle) h_41
        · skip
          refine ms_run (pc' := 45) (lv' := [(0, .ref o), (2, .int (nI M)), (3, .int (nI (ct (pOut (stXn (nI (W * H)) nr mk ds cnt dr X k).1) cnt - ct (pOut X.1) cnt))), (4, .int (nI k))]) (st' := [.int 1]) _ (ms_deC dX6_tick__44 ms_deN) rfl rfl ?_
          refine ms_goto (tgt := 49) dX6_tick__45 (by decide) ?_
          refine ms_reti (st := []) (ty := .boolean) dX6_tick__49 rfl rfl ?_
          have hXe := hX1
          rw [nI_clamp (by omega), ← hkN] at hXe
          exact ⟨rfl, by omega, d + 1, t + k, by omega, by omega, by omega, by omega, W, H, cnt, fa, wa, dr, pa, (stXn (nI (W * H)) nr mk ds cnt dr X k), nr, wl, mk, ds, wr, fv1, hXe, hM1, fl.le (by omega), ly, hcf, hKK⟩
      · skip
        exact absurd ((xq_P.thw hp9).1.symm.trans hth1) (fun z => by cases z)
    · skip
      exact absurd (by exact nI_le (b := k) (by omega) (by omega)) h_16
  | succ r ih =>
    intro k hk K n1 fv1 hn1 hMK hXK hKK hle
    have hlt : k < M := by omega
    refine ms_run (pc' := 16) (lv' := [(0, .ref o), (2, .int (nI M)), (3, .int (nI (ct (pOut (stXn (nI (W * H)) nr mk ds cnt dr X k).1) cnt - ct (pOut X.1) cnt))), (4, .int (nI k))]) (st' := [.int (nI M), .int (nI k)]) _ (ms_deC dX6_tick__13 (ms_deC dX6_tick__15 ms_deN)) rfl rfl ?_
    refine ms_icmp_ge (tgt := 32) dX6_tick__16 (by decide) (fun h_16 => ?_) (fun h_16 => ?_)
    · skip
      exact absurd h_16 (by exact nI_ge (b := M) (by omega) (by omega))
    · skip
      refine ms_run (pc' := 21) (lv' := [(0, .ref o), (2, .int (nI M)), (3, .int (nI (ct (pOut (stXn (nI (W * H)) nr mk ds cnt dr X k).1) cnt - ct (pOut X.1) cnt))), (4, .int (nI k))]) (st' := [.ref o, .int (nI (ct (pOut (stXn (nI (W * H)) nr mk ds cnt dr X k).1) cnt - ct (pOut X.1) cnt))]) _ (ms_deC dX6_tick__19 (ms_deC dX6_tick__20 ms_deN)) rfl rfl ?_
      have hKK9 := hKK
      obtain ⟨-, -, -, gfv, ght, gds, -, -, -, ⟨gcl, gt⟩, gV, -, -⟩ := hKK9
      refine ms_W.room (k2 := 88 + (88 * r + 1)) (z2 := 894 + (894 * r + 6)) ?_ (by omega) (by omega)
      refine ms_callV (As := []) dX6_tick__21 (c_X6_tick (n := n1) (fl.le hn1) ly hW hH hc hW0 hL gfv ght gds hdr (N := t + k) (by omega) gV gcl (by omega) hMK) cv_X6_137 hMK.O rfl ⟨Nat.le_of_ble_eq_true rfl, Nat.le_of_ble_eq_true rfl⟩ rfl (Nat.le_of_ble_eq_true rfl) (fun v9 n9 K9 hp9 => ?_)
      obtain ⟨hr9, hn9, hF9, fv9, hM9, hfv9, hht9⟩ := hp9
      cases hr9
      have hpo := pGf_out (mk := mk) (ds := ds) (dr := dr) hL hW hH hc gV
      refine ms_run (pc' := 29) (lv' := [(4, .int ((nI k) + 1)), (3, .int ((nI (ct (pOut (stXn (nI (W * H)) nr mk ds cnt dr X k).1) cnt - ct (pOut X.1) cnt)) + (nI (ct (pGf (W * H) nr mk ds cnt dr (stXn (nI (W * H)) nr mk ds cnt dr X k)) cnt)))), (0, .ref o), (2, .int (nI M))]) (st' := []) _ (ms_deC dX6_tick__24 (ms_deC dX6_tick__25 (ms_deC dX6_tick__26 ms_deN))) rfl rfl ?_
      refine ms_goto (tgt := 13) dX6_tick__29 (by decide) ?_
      rw [nI_add, show ct (pOut (stXn (nI (W * H)) nr mk ds cnt dr X k).1) cnt - ct (pOut X.1) cnt + ct (pGf (W * H) nr mk ds cnt dr (stXn (nI (W * H)) nr mk ds cnt dr X k)) cnt = ct (pOut (stXn (nI (W * H)) nr mk ds cnt dr X (k + 1)).1) cnt - ct (pOut X.1) cnt from by rw [show ct (pOut (stXn (nI (W * H)) nr mk ds cnt dr X (k + 1)).1) cnt = _ from hpo]; omega]
      rw [nI_1 k]
      refine ms_W.sub (lv2 := [(0, _), (2, _), (3, _), (4, _)]) ?_ [2, 3, 1, 0] rfl
      exact ih (k + 1) (by omega) K9 n9 fv9 (by omega) hM9 (hXK.cx ho (fun a h1 h2 => hF9 a (by omega) (by omega))) (by rw [← Nat.add_assoc]; exact hKK.tick (by omega) hfv9 hht9) (by rw [show ct (pOut (stXn (nI (W * H)) nr mk ds cnt dr X (k + 1)).1) cnt = _ from hpo]; omega)
set_option maxHeartbeats 1000000 in
set_option maxRecDepth 20000 in
theorem c_X6_tick_ {n o x g q c j q2 c2 sb L d t W H cnt fa wa : Nat} {xs : Nat → Int32} {G : ms_H} {dr pa : Int32} {X : cX} {nr wl mk ds : Nat → Int32} {wr : Nat → Nat} {fv : Nat → Nat → Int32} (ho : ox x g q c j q2 c2) (hox : o < x) (hLb : L < 1000) (hd : d < 800) (ht : t < 790) (hS : fS o x g q c j q2 c2 sb n d t G W H cnt fa wa dr pa X nr wl mk ds wr fv) : ms_X (ms_S (sb, L, xs) m_X6_tick_) [.ref o, .int 3] n G 265 2688 (fe_P o x g q c j q2 c2 sb n d t) := by
  refine ms_X.of (show plainName m_X6_tick_.1.cls = true from by decide) (Nat.le_of_ble_eq_true rfl) ?_
  show ms_W true (ms_S (sb, L, xs) m_X6_tick_) _ 0 [(0, .ref o), (1, .int 3)] [] n G 265 2688
  have hS0 := hS
  obtain ⟨hX, hM, fl, ly, hcf, hK⟩ := hS
  have hK0 := hK
  obtain ⟨⟨b1, b2, b3, b4⟩, hc, hL, hfv, hht, hds, hdr, ⟨p9, hp91, hp92, hpa⟩, hwl, ⟨hcl, ht9⟩, hV, hI, hHt⟩ := hK0
  have hW : W ≤ 14 := by omega
  have hH : H ≤ 14 := by omega
  have hW0 : 0 < W := by omega
  have h9 : W * H ≤ 196 := Nat.mul_le_mul hW hH
  have fl0 := fl
  have ly0 := ly
  obtain ⟨l1, l2, l3, l4⟩ := fl0
  obtain ⟨y1, y2, y3⟩ := ly0
  have had := ad_fa (fa := fa) (H := H) (i := W)
  refine ms_run (pc' := 3) (lv' := [(0, .ref o), (1, .int 3)]) (st' := [.int 3, .ref o, .int 1]) _ (ms_deC dX6_tick__0 (ms_deC dX6_tick__1 (ms_deC dX6_tick__2 ms_deN))) rfl rfl ?_
  refine ms_callV0 (As := [.int 3]) dX6_tick__3 (c_X6_draw (n := n) (L := L) (xs := xs) (d := d) (N := 3) hM.O (by omega) hLb (by omega) (by omega)) cv_X6_56 hM.O rfl ⟨Nat.le_of_ble_eq_true rfl, Nat.le_of_ble_eq_true rfl⟩ rfl (Nat.le_of_ble_eq_true rfl) (fun v9 n9 K1 hp9 => ?_)
  obtain ⟨v1, hv1, hr9, hnn9, eK1⟩ := hp9
  cases hr9
  rw [hnn9]
  have hM1 : fk_at K1 o x sb (nI (d + 1)) W H X.2.2.2 dr pa fa wa cnt wr fv X.1 := by rw [eK1]; exact hM.ob ly hW0
  have hX1 : xs_at K1 x g q c j q2 c2 W H nr wl mk ds cnt dr pa X := hX.cx ho (fun a h1 h2 => by rw [eK1]; exact ms_up_n _ _ (by omega))
  refine ms_run (pc' := 7) (lv' := [(0, .ref o), (1, .int 3)]) (st' := [.int (1 + (nI v1))]) _ (ms_deC dX6_tick__6 ms_deN) rfl rfl ?_
  rw [show (1 : Int32) + nI v1 = nI (1 + v1) from nI_add 1 v1]
  refine ms_run (pc' := 13) (lv' := [(4, .int 0), (3, .int 0), (2, .int (nI (1 + v1))), (0, .ref o), (1, .int 3)]) (st' := []) _ (ms_deC dX6_tick__7 (ms_deC dX6_tick__8 (ms_deC dX6_tick__9 (ms_deC dX6_tick__10 (ms_deC dX6_tick__11 ms_deN))))) rfl rfl ?_
  refine ms_W.sub (lv2 := [(0, _), (2, _), (3, _), (4, _)]) ?_ [3, 2, 1, 0] rfl
  have hl := l_X6_tick_ (L := L) (xs := xs) ho hox hLb hd ht hS0 (M := 1 + v1) (by omega) (by omega) (1 + v1) 0 (by omega) K1 n fv (Nat.le_refl n) hM1 hX1 hK (Nat.le_refl _)
  rw [show ct (pOut (stXn (nI (W * H)) nr mk ds cnt dr X 0).1) cnt - ct (pOut X.1) cnt = 0 from Nat.sub_self _] at hl
  exact ms_W.room (k2 := 88 * (1 + v1) + 1) (z2 := 894 * (1 + v1) + 6) hl (by omega) (by omega)

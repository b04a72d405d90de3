/-! Flock: turnTo -/
theorem th_trn_i {W H cnt k g m : Nat} {mk : Nat → Int32} {u : Nat → Nat → Int32} (hc : cnt ≤ 24) (hk : k < cnt) (hg : g < 4) (hm : m ≤ 9) : th_trn W H mk cnt u (nI k) (nI g) (nI m) = if u k 3 = -1 ∨ sq_mk (nI (W * H)) mk (nI g) (u k 3) then some ISE else none := by
  unfold th_trn
  rw [if_neg (fun z => by rcases z with z | z; exact z (pIs_of hc hk); exact z ⟨nI_pos' (by omega), show nI g < nI 4 from nI_lt hg (by omega)⟩), if_neg (fun z => z ⟨nI_pos' (by omega), show nI m ≤ nI 9 from nI_le hm (by omega)⟩), nI_clamp (by omega)]
theorem wv_turn {W : Nat} {u : Nat → Int32} {g m : Int32} : ∀ c, c < 9 → upd (upd (wvX W u) 0 g) 2 m c = wvX W (upd (upd u 0 g) 2 m) c := fun c hc => by
  match c, hc with
  | 0, _ | 1, _ | 2, _ | 3, _ | 4, _ | 5, _ | 6, _ | 7, _ | 8, _ => rfl
  | c + 9, hc => omega
set_option maxHeartbeats 1000000 in
set_option maxRecDepth 20000 in
theorem c_X6_turnTo {n o x g q c j q2 c2 sb L d t W H cnt fa wa : Nat} {xs : Nat → Int32} {G : ms_H} {dr pa : Int32} {X : cX} {nr wl mk ds : Nat → Int32} {wr : Nat → Nat} {fv : Nat → Nat → Int32} (ho : ox x g q c j q2 c2) (hox : o < x) (hLb : L < 1000) (hd : d < 800) (ht : t < 790) (hS : fS o x g q c j q2 c2 sb n d t G W H cnt fa wa dr pa X nr wl mk ds wr fv) : ms_X (ms_S (sb, L, xs) m_X6_turnTo) [.ref o] n G 1 6 (fe_P o x g q c j q2 c2 sb n d t) := by
  refine ms_X.ofH (show plainName m_X6_turnTo.1.cls = true from by decide) (Nat.le_of_ble_eq_true rfl) (fun h => by cases h) ?_
  show ms_W true (ms_S (sb, L, xs) m_X6_turnTo) _ 0 [(0, .ref o)] [] n G 1 6
  obtain ⟨hX, hM, fl, ly, hcf, hK⟩ := hS
  have hK0 := hK
  obtain ⟨⟨b1, b2, b3, b4⟩, hc, hL, hfv, hht, hds, hdr, ⟨p9, hp91, hp92, hpa⟩, hwl, ⟨hcl, ht9⟩, hV, hI, hHt⟩ := hK0
  have hW : W ≤ 14 := by omega
  have hH : H ≤ 14 := by omega
  have hW0 : 0 < W := by omega
  have h9 : W * H ≤ 196 := Nat.mul_le_mul hW hH
  have fl0 := fl
  have ly0 := ly
  obtain ⟨l1, l2, l3, l4⟩ := fl0
  obtain ⟨y1, y2, y3⟩ := ly0
  have had := ad_fa (fa := fa) (H := H) (i := W)
  refine ms_run (pc' := 1) (lv' := [(0, .ref o)]) (st' := [.ref o]) _ (ms_deC dX6_turnTo_0 ms_deN) rfl rfl ?_
  refine ms_getf dX6_turnTo_1 fg_X6_36 hM.O rfl ?_
  refine fk_len dX6_turnTo_4 hM.2.2 ?_
  refine ms_if_ne (tgt := 10) dX6_turnTo_5 (by decide) (fun h_5 => ?_) (fun h_5 => ?_)
  · skip
    have hc0 : 0 < cnt := Nat.pos_of_ne_zero (fun z => h_5 (by rw [z]; rfl))
    refine ms_run (pc' := 12) (lv' := [(0, .ref o)]) (st' := [.ref o, .ref o]) _ (ms_deC dX6_turnTo_10 (ms_deC dX6_turnTo_11 ms_deN)) rfl rfl ?_
    refine ms_getf dX6_turnTo_12 fg_X6_36 hM.O rfl ?_
    refine fk_len dX6_turnTo_15 hM.2.2 ?_
    refine ms_callV0 (As := [.int (nI cnt)]) dX6_turnTo_16 (c_X6_draw (n := n) (L := L) (xs := xs) (d := d) (N := cnt) hM.O (by omega) hLb (by omega) (by omega)) cv_X6_56 hM.O rfl ⟨Nat.le_of_ble_eq_true rfl, Nat.le_of_ble_eq_true rfl⟩ rfl (Nat.le_of_ble_eq_true rfl) (fun v9 n9 K1 hp9 => ?_)
    obtain ⟨v1, hv1, hr9, hnn9, eK1⟩ := hp9
    cases hr9
    rw [hnn9]
    have hM1 : fk_at K1 o x sb (nI (d + 1)) W H X.2.2.2 dr pa fa wa cnt wr fv X.1 := by rw [eK1]; exact hM.ob ly hW0
    have hX1 : xs_at K1 x g q c j q2 c2 W H nr wl mk ds cnt dr pa X := hX.cx ho (fun a h1 h2 => by rw [eK1]; exact ms_up_n _ _ (by omega))
    refine ms_run (pc' := 22) (lv' := [(1, .int (nI v1)), (0, .ref o)]) (st' := [.int 3, .ref o]) _ (ms_deC dX6_turnTo_19 (ms_deC dX6_turnTo_20 (ms_deC dX6_turnTo_21 ms_deN))) rfl rfl ?_
    refine ms_callV0 (As := [.int 3]) dX6_turnTo_22 (c_X6_draw (n := n) (L := L) (xs := xs) (d := (d + 1)) (N := 3) hM1.O (by omega) hLb (by omega) (by omega)) cv_X6_56 hM1.O rfl ⟨Nat.le_of_ble_eq_true rfl, Nat.le_of_ble_eq_true rfl⟩ rfl (Nat.le_of_ble_eq_true rfl) (fun v9 n9 K2 hp9 => ?_)
    obtain ⟨v2, hv2, hr9, hnn9, eK2⟩ := hp9
    cases hr9
    rw [hnn9]
    have hM2 : fk_at K2 o x sb (nI (d + 1 + 1)) W H X.2.2.2 dr pa fa wa cnt wr fv X.1 := by rw [eK2]; exact hM1.ob ly hW0
    have hX2 : xs_at K2 x g q c j q2 c2 W H nr wl mk ds cnt dr pa X := hX1.cx ho (fun a h1 h2 => by rw [eK2]; exact ms_up_n _ _ (by omega))
    refine ms_run (pc' := 29) (lv' := [(2, .int (nI v2)), (1, .int (nI v1)), (0, .ref o)]) (st' := [.int 10, .ref o]) _ (ms_deC dX6_turnTo_25 (ms_deC dX6_turnTo_26 (ms_deC dX6_turnTo_27 ms_deN))) rfl rfl ?_
    refine ms_callV0 (As := [.int 10]) dX6_turnTo_29 (c_X6_draw (n := n) (L := L) (xs := xs) (d := (d + 1 + 1)) (N := 10) hM2.O (by omega) hLb (by omega) (by omega)) cv_X6_56 hM2.O rfl ⟨Nat.le_of_ble_eq_true rfl, Nat.le_of_ble_eq_true rfl⟩ rfl (Nat.le_of_ble_eq_true rfl) (fun v9 n9 K3 hp9 => ?_)
    obtain ⟨v3, hv3, hr9, hnn9, eK3⟩ := hp9
    cases hr9
    rw [hnn9]
    have hM3 : fk_at K3 o x sb (nI (d + 1 + 1 + 1)) W H X.2.2.2 dr pa fa wa cnt wr fv X.1 := by rw [eK3]; exact hM2.ob ly hW0
    have hX3 : xs_at K3 x g q c j q2 c2 W H nr wl mk ds cnt dr pa X := hX2.cx ho (fun a h1 h2 => by rw [eK3]; exact ms_up_n _ _ (by omega))
    refine ms_run (pc' := 33) (lv' := [(3, .int (nI v3)), (2, .int (nI v2)), (1, .int (nI v1)), (0, .ref o)]) (st' := []) _ (ms_deC dX6_turnTo_32 ms_deN) rfl rfl ?_
    have hv1b : v1 < 1000 := by omega
    have hthi := th_trn_i (W := W) (H := H) (mk := mk) (u := X.1) (g := v2) (m := v3) hc hv1 (by omega) (by omega)
    by_cases e9 : X.1 v1 3 = -1
    · skip
      refine ms_run (pc' := 34) (lv' := [(3, .int (nI v3)), (2, .int (nI v2)), (1, .int (nI v1)), (0, .ref o)]) (st' := [.ref o]) _ (ms_deC dX6_turnTo_33 ms_deN) rfl rfl ?_
      refine ms_getf dX6_turnTo_34 fg_X6_36 hM3.O rfl ?_
      refine ms_run (pc' := 38) (lv' := [(3, .int (nI v3)), (2, .int (nI v2)), (1, .int (nI v1)), (0, .ref o)]) (st' := [.int (nI v1), .ref wa]) _ (ms_deC dX6_turnTo_37 ms_deN) rfl rfl ?_
      refine fk_ldW (i := v1) dX6_turnTo_38 hM3.2.2 (by first | assumption | omega) hc ?_
      refine ms_run (pc' := 44) (lv' := [(4, .ref (wr v1)), (3, .int (nI v3)), (2, .int (nI v2)), (1, .int (nI v1)), (0, .ref o)]) (st' := [.int 3, .ref (wr v1)]) _ (ms_deC dX6_turnTo_39 (ms_deC dX6_turnTo_41 (ms_deC dX6_turnTo_43 ms_deN))) rfl rfl ?_
      refine fk_ldR (c := 3) dX6_turnTo_44 hM3.2.2 (by first | assumption | omega) (by decide) rfl ?_
      rw [show wvX W (X.1 v1) 3 = -1 from (xX_m e9).1]
      refine ms_if_lt (tgt := 73) dX6_turnTo_45 (by decide) (fun _ => ?_) (fun h9 => absurd h9 (by decide))
      refine ms_run (pc' := 77) (lv' := [(5, .int 0), (4, .ref (wr v1)), (3, .int (nI v3)), (2, .int (nI v2)), (1, .int (nI v1)), (0, .ref o)]) (st' := [.ref o]) _ (ms_deC dX6_turnTo_73 (ms_deC dX6_turnTo_74 (ms_deC dX6_turnTo_76 ms_deN))) rfl rfl ?_
      refine ms_getf dX6_turnTo_77 fg_X6_10 hM3.O rfl ?_
      refine ms_run (pc' := 83) (lv' := [(5, .int 0), (4, .ref (wr v1)), (3, .int (nI v3)), (2, .int (nI v2)), (1, .int (nI v1)), (0, .ref o)]) (st' := [.int (nI v3), .int (nI v2), .int (nI v1), .ref x]) _ (ms_deC dX6_turnTo_80 (ms_deC dX6_turnTo_81 (ms_deC dX6_turnTo_82 ms_deN))) rfl rfl ?_
      have hct := c_X5_turnTo (n := n) ho hX3 hc (nI v1) (nI v2) (nI v3)
      rw [nI_clamp (n := v1) (by omega)] at hct
      refine ms_W.room (k2 := 1 + 0) (z2 := 6 + 0) ?_ (by omega) (by omega)
      have hth4 : th_trn W H mk cnt X.1 (nI v1) (nI v2) (nI v3) = some ISE := hthi.trans (if_pos (Or.inl e9))
      refine ms_callVX (As := [.int (nI v1), .int (nI v2), .int (nI v3)]) dX6_turnTo_83 (hct) cv_X6_105 hX3.1 rfl ⟨Nat.le_of_ble_eq_true rfl, Nat.le_of_ble_eq_true rfl⟩ rfl (Nat.le_of_ble_eq_true rfl) (fun v9 n4 K4 hp9 => ?_) (fun E9 n4 K4 q9 hp9 => ?_)
      · skip
        exact absurd ((xq_P.val hp9).1.symm.trans hth4) (fun z => by cases z)
      · skip
        obtain ⟨he9, rfl, hn4⟩ := xq_P.thw hp9
        rw [hth4] at he9
        cases he9
        refine ⟨124, hd_X6_turnTo_83, ?_⟩
        refine ms_run (pc' := 128) (lv' := [(6, .ref q9), (5, .int 0), (4, .ref (wr v1)), (3, .int (nI v3)), (2, .int (nI v2)), (1, .int (nI v1)), (0, .ref o)]) (st' := [.int 0]) _ (ms_deC dX6_turnTo_124 (ms_deC dX6_turnTo_126 ms_deN)) rfl rfl ?_
        refine ms_if_ne (tgt := 135) dX6_turnTo_128 (by decide) (fun h9 => absurd h9 (by decide)) (fun _ => ?_)
        refine ms_run (pc' := 132) (lv' := [(6, .ref q9), (5, .int 0), (4, .ref (wr v1)), (3, .int (nI v3)), (2, .int (nI v2)), (1, .int (nI v1)), (0, .ref o)]) (st' := [.int 1]) _ (ms_deC dX6_turnTo_131 ms_deN) rfl rfl ?_
        refine ms_goto (tgt := 136) dX6_turnTo_132 (by decide) ?_
        refine ms_reti (st := []) (ty := .boolean) dX6_turnTo_136 rfl rfl ?_
        exact ⟨rfl, by omega, d + 1 + 1 + 1, t, by omega, by omega, Nat.le_refl t, by omega, W, H, cnt, fa, wa, dr, pa, X, nr, wl, mk, ds, wr, fv, hX3, hM3, fl.le (by omega), ly, hcf, hK⟩
    · skip
      obtain ⟨own, hown, hpo⟩ := pos_of hW hH hV.2.1 hv1 e9
      have hxy := xX_n (W := W) (o := own) (by omega) hpo
      have hd1 := fd_div hown
      have hsq := sq_mkI (n := W * H) (mk := mk) (g := v2) (by omega) hown h9
      refine ms_run (pc' := 34) (lv' := [(3, .int (nI v3)), (2, .int (nI v2)), (1, .int (nI v1)), (0, .ref o)]) (st' := [.ref o]) _ (ms_deC dX6_turnTo_33 ms_deN) rfl rfl ?_
      refine ms_getf dX6_turnTo_34 fg_X6_36 hM3.O rfl ?_
      refine ms_run (pc' := 38) (lv' := [(3, .int (nI v3)), (2, .int (nI v2)), (1, .int (nI v1)), (0, .ref o)]) (st' := [.int (nI v1), .ref wa]) _ (ms_deC dX6_turnTo_37 ms_deN) rfl rfl ?_
      refine fk_ldW (i := v1) dX6_turnTo_38 hM3.2.2 (by first | assumption | omega) hc ?_
      refine ms_run (pc' := 44) (lv' := [(4, .ref (wr v1)), (3, .int (nI v3)), (2, .int (nI v2)), (1, .int (nI v1)), (0, .ref o)]) (st' := [.int 3, .ref (wr v1)]) _ (ms_deC dX6_turnTo_39 (ms_deC dX6_turnTo_41 (ms_deC dX6_turnTo_43 ms_deN))) rfl rfl ?_
      refine fk_ldR (c := 3) dX6_turnTo_44 hM3.2.2 (by first | assumption | omega) (by decide) rfl ?_
      rw [show wvX W (X.1 v1) 3 = nI (own % W) from hxy.1]
      refine ms_if_lt (tgt := 73) dX6_turnTo_45 (by decide) (fun h_45 => ?_) (fun h_45 => ?_)
      · skip
        exact absurd h_45 (nI_pos (by omega))
      · skip
        refine ms_run (pc' := 49) (lv' := [(4, .ref (wr v1)), (3, .int (nI v3)), (2, .int (nI v2)), (1, .int (nI v1)), (0, .ref o)]) (st' := [.ref o]) _ (ms_deC dX6_turnTo_48 ms_deN) rfl rfl ?_
        refine ms_getf dX6_turnTo_49 fg_X6_31 hM3.O rfl ?_
        refine ms_run (pc' := 55) (lv' := [(4, .ref (wr v1)), (3, .int (nI v3)), (2, .int (nI v2)), (1, .int (nI v1)), (0, .ref o)]) (st' := [.int 3, .ref (wr v1), .ref fa]) _ (ms_deC dX6_turnTo_52 (ms_deC dX6_turnTo_54 ms_deN)) rfl rfl ?_
        refine fk_ldR (c := 3) dX6_turnTo_55 hM3.2.2 (by first | assumption | omega) (by decide) rfl ?_
        rw [show wvX W (X.1 v1) 3 = nI (own % W) from hxy.1]
        refine fk_ldA (i := (own % W)) dX6_turnTo_56 hM3.2.1 (by first | assumption | omega) hW ?_
        refine ms_run (pc' := 60) (lv' := [(4, .ref (wr v1)), (3, .int (nI v3)), (2, .int (nI v2)), (1, .int (nI v1)), (0, .ref o)]) (st' := [.int 4, .ref (wr v1), .ref (mn_ad fa H (own % W))]) _ (ms_deC dX6_turnTo_57 (ms_deC dX6_turnTo_59 ms_deN)) rfl rfl ?_
        refine fk_ldR (c := 4) dX6_turnTo_60 hM3.2.2 (by first | assumption | omega) (by decide) rfl ?_
        rw [show wvX W (X.1 v1) 4 = nI (own / W) from hxy.2]
        refine fk_ldB (j := (own / W)) dX6_turnTo_61 hM3.2.1 (by first | assumption | omega) (by first | assumption | omega) hH ?_
        refine ms_run (pc' := 65) (lv' := [(4, .ref (wr v1)), (3, .int (nI v3)), (2, .int (nI v2)), (1, .int (nI v1)), (0, .ref o)]) (st' := [.int (2 + (nI v2)), .ref (mn_ad fa H (own % W) + 1 + (own / W))]) _ (ms_deC dX6_turnTo_62 (ms_deC dX6_turnTo_63 (ms_deC dX6_turnTo_64 ms_deN))) rfl rfl ?_
        refine fk_ldC (c := (2 + v2)) dX6_turnTo_65 hM3.2.1 (by first | assumption | omega) (by first | assumption | omega) (by omega) (nI_add 2 v2) ?_
        rw [hd1.2.2, (hfv own hown).2 v2 (by omega)]
        refine ms_if_ne (tgt := 73) dX6_turnTo_66 (by decide) (fun h_66 => ?_) (fun h_66 => ?_)
        · skip
          have hmk : ¬ mk own &&& (1 <<< (nI v2 &&& 31)) = 0 := Decidable.byContradiction (fun z => h_66 (if_neg z))
          refine ms_run (pc' := 77) (lv' := [(5, .int 0), (4, .ref (wr v1)), (3, .int (nI v3)), (2, .int (nI v2)), (1, .int (nI v1)), (0, .ref o)]) (st' := [.ref o]) _ (ms_deC dX6_turnTo_73 (ms_deC dX6_turnTo_74 (ms_deC dX6_turnTo_76 ms_deN))) rfl rfl ?_
          refine ms_getf dX6_turnTo_77 fg_X6_10 hM3.O rfl ?_
          refine ms_run (pc' := 83) (lv' := [(5, .int 0), (4, .ref (wr v1)), (3, .int (nI v3)), (2, .int (nI v2)), (1, .int (nI v1)), (0, .ref o)]) (st' := [.int (nI v3), .int (nI v2), .int (nI v1), .ref x]) _ (ms_deC dX6_turnTo_80 (ms_deC dX6_turnTo_81 (ms_deC dX6_turnTo_82 ms_deN))) rfl rfl ?_
          have hct := c_X5_turnTo (n := n) ho hX3 hc (nI v1) (nI v2) (nI v3)
          rw [nI_clamp (n := v1) (by omega)] at hct
          refine ms_W.room (k2 := 1 + 0) (z2 := 6 + 0) ?_ (by omega) (by omega)
          have hth4 : th_trn W H mk cnt X.1 (nI v1) (nI v2) (nI v3) = some ISE := hthi.trans (if_pos (Or.inr (by rw [hpo]; exact hsq.mpr hmk)))
          refine ms_callVX (As := [.int (nI v1), .int (nI v2), .int (nI v3)]) dX6_turnTo_83 (hct) cv_X6_105 hX3.1 rfl ⟨Nat.le_of_ble_eq_true rfl, Nat.le_of_ble_eq_true rfl⟩ rfl (Nat.le_of_ble_eq_true rfl) (fun v9 n4 K4 hp9 => ?_) (fun E9 n4 K4 q9 hp9 => ?_)
          · skip
            exact absurd ((xq_P.val hp9).1.symm.trans hth4) (fun z => by cases z)
          · skip
            obtain ⟨he9, rfl, hn4⟩ := xq_P.thw hp9
            rw [hth4] at he9
            cases he9
            refine ⟨124, hd_X6_turnTo_83, ?_⟩
            refine ms_run (pc' := 128) (lv' := [(6, .ref q9), (5, .int 0), (4, .ref (wr v1)), (3, .int (nI v3)), (2, .int (nI v2)), (1, .int (nI v1)), (0, .ref o)]) (st' := [.int 0]) _ (ms_deC dX6_turnTo_124 (ms_deC dX6_turnTo_126 ms_deN)) rfl rfl ?_
            refine ms_if_ne (tgt := 135) dX6_turnTo_128 (by decide) (fun h9 => absurd h9 (by decide)) (fun _ => ?_)
            refine ms_run (pc' := 132) (lv' := [(6, .ref q9), (5, .int 0), (4, .ref (wr v1)), (3, .int (nI v3)), (2, .int (nI v2)), (1, .int (nI v1)), (0, .ref o)]) (st' := [.int 1]) _ (ms_deC dX6_turnTo_131 ms_deN) rfl rfl ?_
            refine ms_goto (tgt := 136) dX6_turnTo_132 (by decide) ?_
            refine ms_reti (st := []) (ty := .boolean) dX6_turnTo_136 rfl rfl ?_
            exact ⟨rfl, by omega, d + 1 + 1 + 1, t, by omega, by omega, Nat.le_refl t, by omega, W, H, cnt, fa, wa, dr, pa, X, nr, wl, mk, ds, wr, fv, hX3, hM3, fl.le (by omega), ly, hcf, hK⟩
        · skip
          have hmk : ¬ ¬ mk own &&& (1 <<< (nI v2 &&& 31)) = 0 := fun z => by rw [show ms_b (¬ mk own &&& (1 <<< (nI v2 &&& 31)) = 0) = 1 from if_pos z] at h_66; exact absurd h_66 (by decide)
          refine ms_run (pc' := 70) (lv' := [(4, .ref (wr v1)), (3, .int (nI v3)), (2, .int (nI v2)), (1, .int (nI v1)), (0, .ref o)]) (st' := [.int 1]) _ (ms_deC dX6_turnTo_69 ms_deN) rfl rfl ?_
          refine ms_goto (tgt := 74) dX6_turnTo_70 (by decide) ?_
          refine ms_run (pc' := 77) (lv' := [(5, .int 1), (4, .ref (wr v1)), (3, .int (nI v3)), (2, .int (nI v2)), (1, .int (nI v1)), (0, .ref o)]) (st' := [.ref o]) _ (ms_deC dX6_turnTo_74 (ms_deC dX6_turnTo_76 ms_deN)) rfl rfl ?_
          refine ms_getf dX6_turnTo_77 fg_X6_10 hM3.O rfl ?_
          refine ms_run (pc' := 83) (lv' := [(5, .int 1), (4, .ref (wr v1)), (3, .int (nI v3)), (2, .int (nI v2)), (1, .int (nI v1)), (0, .ref o)]) (st' := [.int (nI v3), .int (nI v2), .int (nI v1), .ref x]) _ (ms_deC dX6_turnTo_80 (ms_deC dX6_turnTo_81 (ms_deC dX6_turnTo_82 ms_deN))) rfl rfl ?_
          have hct := c_X5_turnTo (n := n) ho hX3 hc (nI v1) (nI v2) (nI v3)
          rw [nI_clamp (n := v1) (by omega)] at hct
          refine ms_W.room (k2 := 1 + 0) (z2 := 6 + 0) ?_ (by omega) (by omega)
          have hth4 : th_trn W H mk cnt X.1 (nI v1) (nI v2) (nI v3) = none := hthi.trans (if_neg (fun z => by rcases z with z | z; exact e9 z; rw [hpo] at z; exact hmk (hsq.mp z)))
          refine ms_callVX (As := [.int (nI v1), .int (nI v2), .int (nI v3)]) dX6_turnTo_83 (hct) cv_X6_105 hX3.1 rfl ⟨Nat.le_of_ble_eq_true rfl, Nat.le_of_ble_eq_true rfl⟩ rfl (Nat.le_of_ble_eq_true rfl) (fun v9 n4 K4 hp9 => ?_) (fun E9 n4 K4 q9 hp9 => ?_)
          · skip
            obtain ⟨-, hv9, hQ4, hn4⟩ := xq_P.val hp9
            cases hv9
            obtain ⟨hX4, hF4⟩ := hQ4
            have hM4 : fk_at K4 o x sb (nI (d + 1 + 1 + 1)) W H X.2.2.2 dr pa fa wa cnt wr fv X.1 := hM3.cf (n := n) ly hW0 hox hcf hF4
            have hVw := hM4.2.2.V.wide v1
            have y3k := y3 v1 hv1
            refine ms_run (pc' := 90) (lv' := [(6, .int (X.1 v1 0)), (5, .int 1), (4, .ref (wr v1)), (3, .int (nI v3)), (2, .int (nI v2)), (1, .int (nI v1)), (0, .ref o)]) (st' := [.int 1]) _ (ms_deC dX6_turnTo_86 (ms_deC dX6_turnTo_88 ms_deN)) rfl rfl ?_
            refine ms_if_ne (tgt := 95) dX6_turnTo_90 (by decide) (fun _ => ?_) (fun h9 => absurd h9 (by decide))
            refine ms_run (pc' := 98) (lv' := [(6, .int (X.1 v1 0)), (5, .int 1), (4, .ref (wr v1)), (3, .int (nI v3)), (2, .int (nI v2)), (1, .int (nI v1)), (0, .ref o)]) (st' := [.int 0, .ref (wr v1)]) _ (ms_deC dX6_turnTo_95 (ms_deC dX6_turnTo_97 ms_deN)) rfl rfl ?_
            refine fk_ldU (c := 0) (v := (X.1 v1 0)) dX6_turnTo_98 hVw hv1 (by decide) rfl (rfl) ?_
            refine ms_run (pc' := 105) (lv' := [(7, .int (X.1 v1 0)), (6, .int (X.1 v1 0)), (5, .int 1), (4, .ref (wr v1)), (3, .int (nI v3)), (2, .int (nI v2)), (1, .int (nI v1)), (0, .ref o)]) (st' := [.int (nI v2), .int 0, .ref (wr v1)]) _ (ms_deC dX6_turnTo_99 (ms_deC dX6_turnTo_101 (ms_deC dX6_turnTo_103 (ms_deC dX6_turnTo_104 ms_deN)))) rfl rfl ?_
            refine fk_stU (c := 0) dX6_turnTo_105 hVw hv1 (by decide) rfl (fun Ka5 hKa5 hV5 => ?_)
            have hO5 := (hKa5 o (by omega)).trans hM4.1
            have hFa5 := hM4.2.1.fr (G1 := Ka5) (fun a h1 h2 => hKa5 a (by omega)) hW0
            have hXa5 : xs_at Ka5 x g q c j q2 c2 W H nr wl mk ds cnt dr pa (trX X v1 (nI v2) (nI v3)) := hX4.cx ho (fun a h1 h2 => hKa5 a (by omega))
            refine ms_run (pc' := 110) (lv' := [(7, .int (X.1 v1 0)), (6, .int (X.1 v1 0)), (5, .int 1), (4, .ref (wr v1)), (3, .int (nI v3)), (2, .int (nI v2)), (1, .int (nI v1)), (0, .ref o)]) (st' := [.int (nI v3), .int 2, .ref (wr v1)]) _ (ms_deC dX6_turnTo_106 (ms_deC dX6_turnTo_108 (ms_deC dX6_turnTo_109 ms_deN))) rfl rfl ?_
            refine fk_stU (c := 2) dX6_turnTo_110 hV5 hv1 (by decide) rfl (fun Ka6 hKa6 hV6 => ?_)
            have hO6 := (hKa6 o (by omega)).trans hO5
            have hFa6 := hFa5.fr (G1 := Ka6) (fun a h1 h2 => hKa6 a (by omega)) hW0
            have hXa6 : xs_at Ka6 x g q c j q2 c2 W H nr wl mk ds cnt dr pa (trX X v1 (nI v2) (nI v3)) := hXa5.cx ho (fun a h1 h2 => hKa6 a (by omega))
            refine ms_run (pc' := 115) (lv' := [(7, .int (X.1 v1 0)), (6, .int (X.1 v1 0)), (5, .int 1), (4, .ref (wr v1)), (3, .int (nI v3)), (2, .int (nI v2)), (1, .int (nI v1)), (0, .ref o)]) (st' := [.int (X.1 v1 0), .int (X.1 v1 0)]) _ (ms_deC dX6_turnTo_111 (ms_deC dX6_turnTo_113 ms_deN)) rfl rfl ?_
            refine ms_icmp_ne (tgt := 122) dX6_turnTo_115 (by decide) (fun h_115 => ?_) (fun h_115 => ?_)
            · skip
              exact absurd rfl h_115
            · skip
              refine ms_run (pc' := 119) (lv' := [(7, .int (X.1 v1 0)), (6, .int (X.1 v1 0)), (5, .int 1), (4, .ref (wr v1)), (3, .int (nI v3)), (2, .int (nI v2)), (1, .int (nI v1)), (0, .ref o)]) (st' := [.int 1]) _ (ms_deC dX6_turnTo_118 ms_deN) rfl rfl ?_
              refine ms_goto (tgt := 123) dX6_turnTo_119 (by decide) ?_
              refine ms_reti (st := []) (ty := .boolean) dX6_turnTo_123 rfl rfl ?_
              refine ⟨rfl, by omega, d + 1 + 1 + 1, t, by omega, by omega, Nat.le_refl t, by omega, W, H, cnt, fa, wa, dr, pa, trX X v1 (nI v2) (nI v3), nr, wl, mk, ds, wr, fv, hXa6, ⟨hO6, hFa6, hV6.W (fun j hj c hc9 => ?_)⟩, fl.le (by omega), ly, hcf, hK.turn hv1 (by omega) ⟨nI_pos' (by omega), show nI v3 ≤ nI 9 from nI_le (by omega) (by omega)⟩ (fun f hf ef => ?_)⟩
              · by_cases ej : j = v1
                · subst ej
                  refine (congrFun (show va_up _ j _ j = _ from if_pos rfl) c).trans ?_
                  show _ = wvX W (va_up X.1 j (upd (upd (X.1 j) 0 (nI v2)) 2 (nI v3)) j) c
                  rw [show va_up X.1 j (upd (upd (X.1 j) 0 (nI v2)) 2 (nI v3)) j = upd (upd (X.1 j) 0 (nI v2)) 2 (nI v3) from if_pos rfl]
                  exact wv_turn c hc9
                · refine (congrFun (show va_up _ v1 _ j = _ from if_neg ej) c).trans ?_
                  show _ = wvX W (va_up X.1 v1 (upd (upd (X.1 v1) 0 (nI v2)) 2 (nI v3)) j) c
                  rw [show va_up X.1 v1 (upd (upd (X.1 v1) 0 (nI v2)) 2 (nI v3)) j = X.1 j from if_neg ej]
              · have e2 : own = f := (nI_eq (by omega) (by omega)).mp (hpo.symm.trans ef)
                rw [← e2]
                exact Decidable.not_not.mp hmk
          · skip
            exact absurd ((xq_P.thw hp9).1.symm.trans hth4) (fun z => by cases z)
  · skip
    refine ms_run (pc' := 9) (lv' := [(0, .ref o)]) (st' := [.int 1]) _ (ms_deC dX6_turnTo_8 ms_deN) rfl rfl ?_
    refine ms_reti (st := []) (ty := .boolean) dX6_turnTo_9 rfl rfl ?_
    exact ⟨rfl, Nat.le_refl n, d, t, Nat.le_refl d, by omega, Nat.le_refl t, by omega, W, H, cnt, fa, wa, dr, pa, X, nr, wl, mk, ds, wr, fv, hX, hM, fl, ly, hcf, hK⟩

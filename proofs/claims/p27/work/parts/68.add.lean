/-! Flock: add -/
theorem th_wlk_i {W H cnt g p m a b : Nat} {wl mk on : Nat → Int32} (hW : W ≤ 14) (hH : H ≤ 14) (hc : cnt ≤ 24) (hg : g < 4) (hp : 1 ≤ p ∧ p ≤ 3) (hm : m ≤ 9) (ha : a < W) (hb : b < H) : th_wlk W H wl mk cnt on (nI g) (nI p) (nI m) (nI a) (nI b) = if 24 ≤ cnt ∨ ¬ wl (b * W + a) = 0 ∨ ¬ mk (b * W + a) &&& (1 <<< (nI g &&& 31)) = 0 ∨ ¬ on (b * W + a) = -1 then some ISE else none := by
  have h9 : W * H ≤ 196 := Nat.mul_le_mul hW hH
  have hf := fij ha hb
  unfold th_wlk
  rw [gr_num_n hW hH ha hb, cr_on_n (by omega), if_neg (fun z => by rcases z with z | z; exact z ⟨nI_pos' (by omega), show nI g < nI 4 from nI_lt hg (by omega)⟩; exact nI_m1 (by omega) z),
    if_neg (fun z => by rcases z with z | z | z; exact absurd ((nI_ltI (b := 1) (by omega) (by omega)).mp z) (by omega); exact absurd ((nI_ltI (a := 3) (by omega) (by omega)).mp z) (by omega); exact z ⟨nI_pos' (by omega), show nI m ≤ nI 9 from nI_le hm (by omega)⟩)]
  have e1 : sq_fr (nI (W * H)) wl (nI (b * W + a)) ↔ wl (b * W + a) = 0 := by
    unfold sq_fr
    rw [nI_clamp (by omega)]
    exact ⟨fun z => z.2, fun z => ⟨⟨nI_pos' (by omega), nI_lt hf (by omega), show _ < nI 196 from nI_lt (by omega) (by omega)⟩, z⟩⟩
  have e2 := sq_mkI (n := W * H) (mk := mk) hg hf h9
  exact ite_congr (propext (or_congr Iff.rfl (or_congr (not_congr e1) (or_congr e2 Iff.rfl)))) (fun _ => rfl) (fun _ => rfl)
theorem wv_new {W t : Nat} {u : Nat → Int32} {g p m : Int32} (ht : t < 1000) : ∀ c, c < 9 → upd (upd (upd (upd (upd (upd (upd (upd (upd (fun _ => 0) 0 g) 1 p) 2 m) 3 (nI (t % W))) 4 (nI (t / W))) 5 4) 6 0) 7 0) 8 (-1) c = wvX W (wk_come u g p m (nI t)) c := fun c hc => by
  have h := xX_n (W := W) (o := t) ht rfl
  match c, hc with
  | 0, _ | 1, _ | 2, _ | 5, _ | 6, _ | 7, _ | 8, _ => rfl
  | 3, _ => exact h.1.symm
  | 4, _ => exact h.2.symm
  | c + 9, hc => omega
set_option maxHeartbeats 1000000 in
set_option maxRecDepth 20000 in
theorem c_X6_add {n o x g q c j q2 c2 sb L d t W H cnt fa wa : Nat} {xs : Nat → Int32} {G : ms_H} {dr pa : Int32} {X : cX} {nr wl mk ds : Nat → Int32} {wr : Nat → Nat} {fv : Nat → Nat → Int32} (ho : ox x g q c j q2 c2) (hox : o < x) (hLb : L < 1000) (hd : d < 800) (ht : t < 790) (hS : fS o x g q c j q2 c2 sb n d t G W H cnt fa wa dr pa X nr wl mk ds wr fv) : ms_X (ms_S (sb, L, xs) m_X6_add) [.ref o] n G 3 39 (fe_P o x g q c j q2 c2 sb n d t) := by
  refine ms_X.ofH (show plainName m_X6_add.1.cls = true from by decide) (Nat.le_of_ble_eq_true rfl) (fun h => by cases h) ?_
  show ms_W true (ms_S (sb, L, xs) m_X6_add) _ 0 [(0, .ref o)] [] n G 3 39
  obtain ⟨hX, hM, fl, ly, hcf, hK⟩ := hS
  have hK0 := hK
  obtain ⟨⟨b1, b2, b3, b4⟩, hc, hL, hfv, hht, hds, hdr, ⟨p9, hp91, hp92, hpa⟩, hwl, ⟨hcl, ht9⟩, hV, hI, hHt⟩ := hK0
  have hW : W ≤ 14 := by omega
  have hH : H ≤ 14 := by omega
  have hW0 : 0 < W := by omega
  have h9 : W * H ≤ 196 := Nat.mul_le_mul hW hH
  have fl0 := fl
  have ly0 := ly
  obtain ⟨l1, l2, l3, l4⟩ := fl0
  obtain ⟨y1, y2, y3⟩ := ly0
  have had := ad_fa (fa := fa) (H := H) (i := W)
  refine ms_run (pc' := 2) (lv' := [(0, .ref o)]) (st' := [.int 3, .ref o]) _ (ms_deC dX6_add_0 (ms_deC dX6_add_1 ms_deN)) rfl rfl ?_
  refine ms_callV0 (As := [.int 3]) dX6_add_2 (c_X6_draw (n := n) (L := L) (xs := xs) (d := d) (N := 3) hM.O (by omega) hLb (by omega) (by omega)) cv_X6_56 hM.O rfl ⟨Nat.le_of_ble_eq_true rfl, Nat.le_of_ble_eq_true rfl⟩ rfl (Nat.le_of_ble_eq_true rfl) (fun v9 n9 K1 hp9 => ?_)
  obtain ⟨v1, hv1, hr9, hnn9, eK1⟩ := hp9
  cases hr9
  rw [hnn9]
  have hM1 : fk_at K1 o x sb (nI (d + 1)) W H X.2.2.2 dr pa fa wa cnt wr fv X.1 := by rw [eK1]; exact hM.ob ly hW0
  have hX1 : xs_at K1 x g q c j q2 c2 W H nr wl mk ds cnt dr pa X := hX.cx ho (fun a h1 h2 => by rw [eK1]; exact ms_up_n _ _ (by omega))
  refine ms_run (pc' := 10) (lv' := [(1, .int (nI v1)), (0, .ref o)]) (st' := [.int 2, .ref o, .ref o, .int 1]) _ (ms_deC dX6_add_5 (ms_deC dX6_add_6 (ms_deC dX6_add_7 (ms_deC dX6_add_8 (ms_deC dX6_add_9 ms_deN))))) rfl rfl ?_
  refine ms_callV0 (As := [.int 2]) dX6_add_10 (c_X6_draw (n := n) (L := L) (xs := xs) (d := (d + 1)) (N := 2) hM1.O (by omega) hLb (by omega) (by omega)) cv_X6_56 hM1.O rfl ⟨Nat.le_of_ble_eq_true rfl, Nat.le_of_ble_eq_true rfl⟩ rfl (Nat.le_of_ble_eq_true rfl) (fun v9 n9 K2 hp9 => ?_)
  obtain ⟨v2, hv2, hr9, hnn9, eK2⟩ := hp9
  cases hr9
  rw [hnn9]
  have hM2 : fk_at K2 o x sb (nI (d + 1 + 1)) W H X.2.2.2 dr pa fa wa cnt wr fv X.1 := by rw [eK2]; exact hM1.ob ly hW0
  have hX2 : xs_at K2 x g q c j q2 c2 W H nr wl mk ds cnt dr pa X := hX1.cx ho (fun a h1 h2 => by rw [eK2]; exact ms_up_n _ _ (by omega))
  refine ms_if_ne (tgt := 20) dX6_add_13 (by decide) (fun h_13 => ?_) (fun h_13 => ?_)
  · skip
    refine ms_run (pc' := 21) (lv' := [(1, .int (nI v1)), (0, .ref o)]) (st' := [.int 3, .ref o, .int 1]) _ (ms_deC dX6_add_20 ms_deN) rfl rfl ?_
    refine ms_callV0 (As := [.int 3]) dX6_add_21 (c_X6_draw (n := n) (L := L) (xs := xs) (d := (d + 1 + 1)) (N := 3) hM2.O (by omega) hLb (by omega) (by omega)) cv_X6_56 hM2.O rfl ⟨Nat.le_of_ble_eq_true rfl, Nat.le_of_ble_eq_true rfl⟩ rfl (Nat.le_of_ble_eq_true rfl) (fun v9 n9 K3 hp9 => ?_)
    obtain ⟨v3, hv3, hr9, hnn9, eK3⟩ := hp9
    cases hr9
    rw [hnn9]
    have hM3 : fk_at K3 o x sb (nI (d + 1 + 1 + 1)) W H X.2.2.2 dr pa fa wa cnt wr fv X.1 := by rw [eK3]; exact hM2.ob ly hW0
    have hX3 : xs_at K3 x g q c j q2 c2 W H nr wl mk ds cnt dr pa X := hX2.cx ho (fun a h1 h2 => by rw [eK3]; exact ms_up_n _ _ (by omega))
    refine ms_run (pc' := 26) (lv' := [(2, .int (1 + (nI v3))), (1, .int (nI v1)), (0, .ref o)]) (st' := []) _ (ms_deC dX6_add_24 (ms_deC dX6_add_25 ms_deN)) rfl rfl ?_
    rw [show (1 : Int32) + nI v3 = nI (1 + v3) from nI_add 1 v3]
    refine ms_run (pc' := 28) (lv' := [(2, .int (nI (1 + v3))), (1, .int (nI v1)), (0, .ref o)]) (st' := [.int 2, .ref o]) _ (ms_deC dX6_add_26 (ms_deC dX6_add_27 ms_deN)) rfl rfl ?_
    refine ms_callV0 (As := [.int 2]) dX6_add_28 (c_X6_draw (n := n) (L := L) (xs := xs) (d := (d + 1 + 1 + 1)) (N := 2) hM3.O (by omega) hLb (by omega) (by omega)) cv_X6_56 hM3.O rfl ⟨Nat.le_of_ble_eq_true rfl, Nat.le_of_ble_eq_true rfl⟩ rfl (Nat.le_of_ble_eq_true rfl) (fun v9 n9 K4 hp9 => ?_)
    obtain ⟨v4, hv4, hr9, hnn9, eK4⟩ := hp9
    cases hr9
    rw [hnn9]
    have hM4 : fk_at K4 o x sb (nI (d + 1 + 1 + 1 + 1)) W H X.2.2.2 dr pa fa wa cnt wr fv X.1 := by rw [eK4]; exact hM3.ob ly hW0
    have hX4 : xs_at K4 x g q c j q2 c2 W H nr wl mk ds cnt dr pa X := hX3.cx ho (fun a h1 h2 => by rw [eK4]; exact ms_up_n _ _ (by omega))
    refine ms_if_ne (tgt := 43) dX6_add_31 (by decide) (fun h_31 => ?_) (fun h_31 => ?_)
    · skip
      refine ms_run (pc' := 45) (lv' := [(2, .int (nI (1 + v3))), (1, .int (nI v1)), (0, .ref o)]) (st' := [.int 3, .ref o]) _ (ms_deC dX6_add_43 (ms_deC dX6_add_44 ms_deN)) rfl rfl ?_
      refine ms_callV0 (As := [.int 3]) dX6_add_45 (c_X6_draw (n := n) (L := L) (xs := xs) (d := (d + 1 + 1 + 1 + 1)) (N := 3) hM4.O (by omega) hLb (by omega) (by omega)) cv_X6_56 hM4.O rfl ⟨Nat.le_of_ble_eq_true rfl, Nat.le_of_ble_eq_true rfl⟩ rfl (Nat.le_of_ble_eq_true rfl) (fun v9 n9 K5 hp9 => ?_)
      obtain ⟨v5, hv5, hr9, hnn9, eK5⟩ := hp9
      cases hr9
      rw [hnn9]
      have hM5 : fk_at K5 o x sb (nI (d + 1 + 1 + 1 + 1 + 1)) W H X.2.2.2 dr pa fa wa cnt wr fv X.1 := by rw [eK5]; exact hM4.ob ly hW0
      have hX5 : xs_at K5 x g q c j q2 c2 W H nr wl mk ds cnt dr pa X := hX4.cx ho (fun a h1 h2 => by rw [eK5]; exact ms_up_n _ _ (by omega))
      refine ms_run (pc' := 51) (lv' := [(3, .int (nI v5)), (2, .int (nI (1 + v3))), (1, .int (nI v1)), (0, .ref o)]) (st' := [.ref o, .ref o]) _ (ms_deC dX6_add_48 (ms_deC dX6_add_49 (ms_deC dX6_add_50 ms_deN))) rfl rfl ?_
      refine ms_getf dX6_add_51 fg_X6_16 hM5.O rfl ?_
      refine ms_callV0 (As := [.int (nI W)]) dX6_add_54 (c_X6_draw (n := n) (L := L) (xs := xs) (d := (d + 1 + 1 + 1 + 1 + 1)) (N := W) hM5.O (by omega) hLb (by omega) (by omega)) cv_X6_56 hM5.O rfl ⟨Nat.le_of_ble_eq_true rfl, Nat.le_of_ble_eq_true rfl⟩ rfl (Nat.le_of_ble_eq_true rfl) (fun v9 n9 K6 hp9 => ?_)
      obtain ⟨v6, hv6, hr9, hnn9, eK6⟩ := hp9
      cases hr9
      rw [hnn9]
      have hM6 : fk_at K6 o x sb (nI (d + 1 + 1 + 1 + 1 + 1 + 1)) W H X.2.2.2 dr pa fa wa cnt wr fv X.1 := by rw [eK6]; exact hM5.ob ly hW0
      have hX6 : xs_at K6 x g q c j q2 c2 W H nr wl mk ds cnt dr pa X := hX5.cx ho (fun a h1 h2 => by rw [eK6]; exact ms_up_n _ _ (by omega))
      refine ms_run (pc' := 61) (lv' := [(4, .int (nI v6)), (3, .int (nI v5)), (2, .int (nI (1 + v3))), (1, .int (nI v1)), (0, .ref o)]) (st' := [.ref o, .ref o]) _ (ms_deC dX6_add_57 (ms_deC dX6_add_59 (ms_deC dX6_add_60 ms_deN))) rfl rfl ?_
      refine ms_getf dX6_add_61 fg_X6_20 hM6.O rfl ?_
      refine ms_callV0 (As := [.int (nI H)]) dX6_add_64 (c_X6_draw (n := n) (L := L) (xs := xs) (d := (d + 1 + 1 + 1 + 1 + 1 + 1)) (N := H) hM6.O (by omega) hLb (by omega) (by omega)) cv_X6_56 hM6.O rfl ⟨Nat.le_of_ble_eq_true rfl, Nat.le_of_ble_eq_true rfl⟩ rfl (Nat.le_of_ble_eq_true rfl) (fun v9 n9 K7 hp9 => ?_)
      obtain ⟨v7, hv7, hr9, hnn9, eK7⟩ := hp9
      cases hr9
      rw [hnn9]
      have hM7 : fk_at K7 o x sb (nI (d + 1 + 1 + 1 + 1 + 1 + 1 + 1)) W H X.2.2.2 dr pa fa wa cnt wr fv X.1 := by rw [eK7]; exact hM6.ob ly hW0
      have hX7 : xs_at K7 x g q c j q2 c2 W H nr wl mk ds cnt dr pa X := hX6.cx ho (fun a h1 h2 => by rw [eK7]; exact ms_up_n _ _ (by omega))
      refine ms_run (pc' := 69) (lv' := [(5, .int (nI v7)), (4, .int (nI v6)), (3, .int (nI v5)), (2, .int (nI (1 + v3))), (1, .int (nI v1)), (0, .ref o)]) (st' := []) _ (ms_deC dX6_add_67 ms_deN) rfl rfl ?_
      have hf9 := fij hv6 hv7
      refine ms_run (pc' := 70) (lv' := [(5, .int (nI v7)), (4, .int (nI v6)), (3, .int (nI v5)), (2, .int (nI (1 + v3))), (1, .int (nI v1)), (0, .ref o)]) (st' := [.ref o]) _ (ms_deC dX6_add_69 ms_deN) rfl rfl ?_
      refine ms_getf dX6_add_70 fg_X6_36 hM7.O rfl ?_
      refine fk_len dX6_add_73 hM7.2.2 ?_
      refine ms_run (pc' := 76) (lv' := [(5, .int (nI v7)), (4, .int (nI v6)), (3, .int (nI v5)), (2, .int (nI (1 + v3))), (1, .int (nI v1)), (0, .ref o)]) (st' := [.int 24, .int (nI cnt)]) _ (ms_deC dX6_add_74 ms_deN) rfl rfl ?_
      refine ms_icmp_ge (tgt := 126) dX6_add_76 (by decide) (fun h_76 => ?_) (fun h_76 => ?_)
      · skip
        have hfull : 24 ≤ cnt := (nI_leI (a := 24) (by omega) (by omega)).mp h_76
        refine ms_run (pc' := 130) (lv' := [(6, .int 0), (5, .int (nI v7)), (4, .int (nI v6)), (3, .int (nI v5)), (2, .int (nI (1 + v3))), (1, .int (nI v1)), (0, .ref o)]) (st' := [.ref o]) _ (ms_deC dX6_add_126 (ms_deC dX6_add_127 (ms_deC dX6_add_129 ms_deN))) rfl rfl ?_
        refine ms_getf dX6_add_130 fg_X6_10 hM7.O rfl ?_
        refine ms_run (pc' := 140) (lv' := [(6, .int 0), (5, .int (nI v7)), (4, .int (nI v6)), (3, .int (nI v5)), (2, .int (nI (1 + v3))), (1, .int (nI v1)), (0, .ref o)]) (st' := [.int (nI v7), .int (nI v6), .int (nI v5), .int (nI (1 + v3)), .int (nI v1), .ref x]) _ (ms_deC dX6_add_133 (ms_deC dX6_add_134 (ms_deC dX6_add_135 (ms_deC dX6_add_136 (ms_deC dX6_add_138 ms_deN))))) rfl rfl ?_
        have hthi := th_wlk_i (wl := wl) (mk := mk) (on := X.2.2.1) hW hH hc (g := v1) (p := 1 + v3) (m := v5) (by omega) (by omega) (by omega) hv6 hv7
        have hct := c_X5_walker (n := n) ho hX7 (nI v1) (nI (1 + v3)) (nI v5) (nI v6) (nI v7) hc
        rw [gr_num_n hW hH hv6 hv7] at hct
        refine ms_W.room (k2 := 1 + 2) (z2 := 6 + 33) ?_ (by omega) (by omega)
        have hth8 : th_wlk W H wl mk cnt X.2.2.1 (nI v1) (nI (1 + v3)) (nI v5) (nI v6) (nI v7) = some ISE := hthi.trans (if_pos (by first | exact Or.inl hfull | exact Or.inr (Or.inl h_91) | exact Or.inr (Or.inr (Or.inl hmk)) | exact Or.inr (Or.inr (Or.inr hc_116))))
        refine ms_callVX (As := [.int (nI v1), .int (nI (1 + v3)), .int (nI v5), .int (nI v6), .int (nI v7)]) dX6_add_140 (hct) cv_X6_95 hX7.1 rfl ⟨Nat.le_of_ble_eq_true rfl, Nat.le_of_ble_eq_true rfl⟩ rfl (Nat.le_of_ble_eq_true rfl) (fun v9 n8 K8 hp9 => ?_) (fun E9 n8 K8 q9 hp9 => ?_)
        · skip
          exact absurd ((xq_P.val hp9).1.symm.trans hth8) (fun z => by cases z)
        · skip
          obtain ⟨he9, rfl, hn8⟩ := xq_P.thw hp9
          rw [hth8] at he9
          cases he9
          refine ⟨261, hd_X6_add_140, ?_⟩
          refine ms_run (pc' := 265) (lv' := [(7, .ref q9), (6, .int 0), (5, .int (nI v7)), (4, .int (nI v6)), (3, .int (nI v5)), (2, .int (nI (1 + v3))), (1, .int (nI v1)), (0, .ref o)]) (st' := [.int 0]) _ (ms_deC dX6_add_261 (ms_deC dX6_add_263 ms_deN)) rfl rfl ?_
          refine ms_if_ne (tgt := 272) dX6_add_265 (by decide) (fun h9 => absurd h9 (by decide)) (fun _ => ?_)
          refine ms_run (pc' := 269) (lv' := [(7, .ref q9), (6, .int 0), (5, .int (nI v7)), (4, .int (nI v6)), (3, .int (nI v5)), (2, .int (nI (1 + v3))), (1, .int (nI v1)), (0, .ref o)]) (st' := [.int 1]) _ (ms_deC dX6_add_268 ms_deN) rfl rfl ?_
          refine ms_goto (tgt := 273) dX6_add_269 (by decide) ?_
          refine ms_reti (st := []) (ty := .boolean) dX6_add_273 rfl rfl ?_
          exact ⟨rfl, by omega, d + 1 + 1 + 1 + 1 + 1 + 1 + 1, t, by omega, by omega, Nat.le_refl t, by omega, W, H, cnt, fa, wa, dr, pa, X, nr, wl, mk, ds, wr, fv, hX7, hM7, fl.le (by omega), ly, hcf, hK⟩
      · skip
        have hroom : ¬ 24 ≤ cnt := fun z => h_76 (show nI 24 ≤ nI cnt from nI_le z (by omega))
        refine ms_run (pc' := 80) (lv' := [(5, .int (nI v7)), (4, .int (nI v6)), (3, .int (nI v5)), (2, .int (nI (1 + v3))), (1, .int (nI v1)), (0, .ref o)]) (st' := [.ref o]) _ (ms_deC dX6_add_79 ms_deN) rfl rfl ?_
        refine ms_getf dX6_add_80 fg_X6_31 hM7.O rfl ?_
        refine ms_run (pc' := 85) (lv' := [(5, .int (nI v7)), (4, .int (nI v6)), (3, .int (nI v5)), (2, .int (nI (1 + v3))), (1, .int (nI v1)), (0, .ref o)]) (st' := [.int (nI v6), .ref fa]) _ (ms_deC dX6_add_83 ms_deN) rfl rfl ?_
        refine fk_ldA (i := v6) dX6_add_85 hM7.2.1 hv6 hW ?_
        refine ms_run (pc' := 88) (lv' := [(5, .int (nI v7)), (4, .int (nI v6)), (3, .int (nI v5)), (2, .int (nI (1 + v3))), (1, .int (nI v1)), (0, .ref o)]) (st' := [.int (nI v7), .ref (mn_ad fa H v6)]) _ (ms_deC dX6_add_86 ms_deN) rfl rfl ?_
        refine fk_ldB (j := v7) dX6_add_88 hM7.2.1 hv6 hv7 hH ?_
        refine ms_run (pc' := 90) (lv' := [(5, .int (nI v7)), (4, .int (nI v6)), (3, .int (nI v5)), (2, .int (nI (1 + v3))), (1, .int (nI v1)), (0, .ref o)]) (st' := [.int 0, .ref (mn_ad fa H v6 + 1 + v7)]) _ (ms_deC dX6_add_89 ms_deN) rfl rfl ?_
        refine fk_ldC (c := 0) dX6_add_90 hM7.2.1 hv6 hv7 (by decide) rfl ?_
        rw [(hfv (v7 * W + v6) hf9).1]
        refine ms_if_ne (tgt := 126) dX6_add_91 (by decide) (fun h_91 => ?_) (fun h_91 => ?_)
        · skip
          refine ms_run (pc' := 130) (lv' := [(6, .int 0), (5, .int (nI v7)), (4, .int (nI v6)), (3, .int (nI v5)), (2, .int (nI (1 + v3))), (1, .int (nI v1)), (0, .ref o)]) (st' := [.ref o]) _ (ms_deC dX6_add_126 (ms_deC dX6_add_127 (ms_deC dX6_add_129 ms_deN))) rfl rfl ?_
          refine ms_getf dX6_add_130 fg_X6_10 hM7.O rfl ?_
          refine ms_run (pc' := 140) (lv' := [(6, .int 0), (5, .int (nI v7)), (4, .int (nI v6)), (3, .int (nI v5)), (2, .int (nI (1 + v3))), (1, .int (nI v1)), (0, .ref o)]) (st' := [.int (nI v7), .int (nI v6), .int (nI v5), .int (nI (1 + v3)), .int (nI v1), .ref x]) _ (ms_deC dX6_add_133 (ms_deC dX6_add_134 (ms_deC dX6_add_135 (ms_deC dX6_add_136 (ms_deC dX6_add_138 ms_deN))))) rfl rfl ?_
          have hthi := th_wlk_i (wl := wl) (mk := mk) (on := X.2.2.1) hW hH hc (g := v1) (p := 1 + v3) (m := v5) (by omega) (by omega) (by omega) hv6 hv7
          have hct := c_X5_walker (n := n) ho hX7 (nI v1) (nI (1 + v3)) (nI v5) (nI v6) (nI v7) hc
          rw [gr_num_n hW hH hv6 hv7] at hct
          refine ms_W.room (k2 := 1 + 2) (z2 := 6 + 33) ?_ (by omega) (by omega)
          have hth8 : th_wlk W H wl mk cnt X.2.2.1 (nI v1) (nI (1 + v3)) (nI v5) (nI v6) (nI v7) = some ISE := hthi.trans (if_pos (by first | exact Or.inl hfull | exact Or.inr (Or.inl h_91) | exact Or.inr (Or.inr (Or.inl hmk)) | exact Or.inr (Or.inr (Or.inr hc_116))))
          refine ms_callVX (As := [.int (nI v1), .int (nI (1 + v3)), .int (nI v5), .int (nI v6), .int (nI v7)]) dX6_add_140 (hct) cv_X6_95 hX7.1 rfl ⟨Nat.le_of_ble_eq_true rfl, Nat.le_of_ble_eq_true rfl⟩ rfl (Nat.le_of_ble_eq_true rfl) (fun v9 n8 K8 hp9 => ?_) (fun E9 n8 K8 q9 hp9 => ?_)
          · skip
            exact absurd ((xq_P.val hp9).1.symm.trans hth8) (fun z => by cases z)
          · skip
            obtain ⟨he9, rfl, hn8⟩ := xq_P.thw hp9
            rw [hth8] at he9
            cases he9
            refine ⟨261, hd_X6_add_140, ?_⟩
            refine ms_run (pc' := 265) (lv' := [(7, .ref q9), (6, .int 0), (5, .int (nI v7)), (4, .int (nI v6)), (3, .int (nI v5)), (2, .int (nI (1 + v3))), (1, .int (nI v1)), (0, .ref o)]) (st' := [.int 0]) _ (ms_deC dX6_add_261 (ms_deC dX6_add_263 ms_deN)) rfl rfl ?_
            refine ms_if_ne (tgt := 272) dX6_add_265 (by decide) (fun h9 => absurd h9 (by decide)) (fun _ => ?_)
            refine ms_run (pc' := 269) (lv' := [(7, .ref q9), (6, .int 0), (5, .int (nI v7)), (4, .int (nI v6)), (3, .int (nI v5)), (2, .int (nI (1 + v3))), (1, .int (nI v1)), (0, .ref o)]) (st' := [.int 1]) _ (ms_deC dX6_add_268 ms_deN) rfl rfl ?_
            refine ms_goto (tgt := 273) dX6_add_269 (by decide) ?_
            refine ms_reti (st := []) (ty := .boolean) dX6_add_273 rfl rfl ?_
            exact ⟨rfl, by omega, d + 1 + 1 + 1 + 1 + 1 + 1 + 1, t, by omega, by omega, Nat.le_refl t, by omega, W, H, cnt, fa, wa, dr, pa, X, nr, wl, mk, ds, wr, fv, hX7, hM7, fl.le (by omega), ly, hcf, hK⟩
        · skip
          refine ms_run (pc' := 95) (lv' := [(5, .int (nI v7)), (4, .int (nI v6)), (3, .int (nI v5)), (2, .int (nI (1 + v3))), (1, .int (nI v1)), (0, .ref o)]) (st' := [.ref o]) _ (ms_deC dX6_add_94 ms_deN) rfl rfl ?_
          refine ms_getf dX6_add_95 fg_X6_31 hM7.O rfl ?_
          refine ms_run (pc' := 100) (lv' := [(5, .int (nI v7)), (4, .int (nI v6)), (3, .int (nI v5)), (2, .int (nI (1 + v3))), (1, .int (nI v1)), (0, .ref o)]) (st' := [.int (nI v6), .ref fa]) _ (ms_deC dX6_add_98 ms_deN) rfl rfl ?_
          refine fk_ldA (i := v6) dX6_add_100 hM7.2.1 hv6 hW ?_
          refine ms_run (pc' := 103) (lv' := [(5, .int (nI v7)), (4, .int (nI v6)), (3, .int (nI v5)), (2, .int (nI (1 + v3))), (1, .int (nI v1)), (0, .ref o)]) (st' := [.int (nI v7), .ref (mn_ad fa H v6)]) _ (ms_deC dX6_add_101 ms_deN) rfl rfl ?_
          refine fk_ldB (j := v7) dX6_add_103 hM7.2.1 hv6 hv7 hH ?_
          refine ms_run (pc' := 107) (lv' := [(5, .int (nI v7)), (4, .int (nI v6)), (3, .int (nI v5)), (2, .int (nI (1 + v3))), (1, .int (nI v1)), (0, .ref o)]) (st' := [.int (2 + (nI v1)), .ref (mn_ad fa H v6 + 1 + v7)]) _ (ms_deC dX6_add_104 (ms_deC dX6_add_105 (ms_deC dX6_add_106 ms_deN))) rfl rfl ?_
          refine fk_ldC (c := (2 + v1)) dX6_add_107 hM7.2.1 hv6 hv7 (by omega) (nI_add 2 v1) ?_
          rw [(hfv (v7 * W + v6) hf9).2 v1 (by omega)]
          refine ms_if_ne (tgt := 126) dX6_add_108 (by decide) (fun h_108 => ?_) (fun h_108 => ?_)
          · skip
            have hmk : ¬ mk (v7 * W + v6) &&& (1 <<< (nI v1 &&& 31)) = 0 := Decidable.byContradiction (fun z => h_108 (if_neg z))
            refine ms_run (pc' := 130) (lv' := [(6, .int 0), (5, .int (nI v7)), (4, .int (nI v6)), (3, .int (nI v5)), (2, .int (nI (1 + v3))), (1, .int (nI v1)), (0, .ref o)]) (st' := [.ref o]) _ (ms_deC dX6_add_126 (ms_deC dX6_add_127 (ms_deC dX6_add_129 ms_deN))) rfl rfl ?_
            refine ms_getf dX6_add_130 fg_X6_10 hM7.O rfl ?_
            refine ms_run (pc' := 140) (lv' := [(6, .int 0), (5, .int (nI v7)), (4, .int (nI v6)), (3, .int (nI v5)), (2, .int (nI (1 + v3))), (1, .int (nI v1)), (0, .ref o)]) (st' := [.int (nI v7), .int (nI v6), .int (nI v5), .int (nI (1 + v3)), .int (nI v1), .ref x]) _ (ms_deC dX6_add_133 (ms_deC dX6_add_134 (ms_deC dX6_add_135 (ms_deC dX6_add_136 (ms_deC dX6_add_138 ms_deN))))) rfl rfl ?_
            have hthi := th_wlk_i (wl := wl) (mk := mk) (on := X.2.2.1) hW hH hc (g := v1) (p := 1 + v3) (m := v5) (by omega) (by omega) (by omega) hv6 hv7
            have hct := c_X5_walker (n := n) ho hX7 (nI v1) (nI (1 + v3)) (nI v5) (nI v6) (nI v7) hc
            rw [gr_num_n hW hH hv6 hv7] at hct
            refine ms_W.room (k2 := 1 + 2) (z2 := 6 + 33) ?_ (by omega) (by omega)
            have hth8 : th_wlk W H wl mk cnt X.2.2.1 (nI v1) (nI (1 + v3)) (nI v5) (nI v6) (nI v7) = some ISE := hthi.trans (if_pos (by first | exact Or.inl hfull | exact Or.inr (Or.inl h_91) | exact Or.inr (Or.inr (Or.inl hmk)) | exact Or.inr (Or.inr (Or.inr hc_116))))
            refine ms_callVX (As := [.int (nI v1), .int (nI (1 + v3)), .int (nI v5), .int (nI v6), .int (nI v7)]) dX6_add_140 (hct) cv_X6_95 hX7.1 rfl ⟨Nat.le_of_ble_eq_true rfl, Nat.le_of_ble_eq_true rfl⟩ rfl (Nat.le_of_ble_eq_true rfl) (fun v9 n8 K8 hp9 => ?_) (fun E9 n8 K8 q9 hp9 => ?_)
            · skip
              exact absurd ((xq_P.val hp9).1.symm.trans hth8) (fun z => by cases z)
            · skip
              obtain ⟨he9, rfl, hn8⟩ := xq_P.thw hp9
              rw [hth8] at he9
              cases he9
              refine ⟨261, hd_X6_add_140, ?_⟩
              refine ms_run (pc' := 265) (lv' := [(7, .ref q9), (6, .int 0), (5, .int (nI v7)), (4, .int (nI v6)), (3, .int (nI v5)), (2, .int (nI (1 + v3))), (1, .int (nI v1)), (0, .ref o)]) (st' := [.int 0]) _ (ms_deC dX6_add_261 (ms_deC dX6_add_263 ms_deN)) rfl rfl ?_
              refine ms_if_ne (tgt := 272) dX6_add_265 (by decide) (fun h9 => absurd h9 (by decide)) (fun _ => ?_)
              refine ms_run (pc' := 269) (lv' := [(7, .ref q9), (6, .int 0), (5, .int (nI v7)), (4, .int (nI v6)), (3, .int (nI v5)), (2, .int (nI (1 + v3))), (1, .int (nI v1)), (0, .ref o)]) (st' := [.int 1]) _ (ms_deC dX6_add_268 ms_deN) rfl rfl ?_
              refine ms_goto (tgt := 273) dX6_add_269 (by decide) ?_
              refine ms_reti (st := []) (ty := .boolean) dX6_add_273 rfl rfl ?_
              exact ⟨rfl, by omega, d + 1 + 1 + 1 + 1 + 1 + 1 + 1, t, by omega, by omega, Nat.le_refl t, by omega, W, H, cnt, fa, wa, dr, pa, X, nr, wl, mk, ds, wr, fv, hX7, hM7, fl.le (by omega), ly, hcf, hK⟩
          · skip
            have hmk : mk (v7 * W + v6) &&& (1 <<< (nI v1 &&& 31)) = 0 := Decidable.byContradiction (fun z => by rw [show ms_b (¬ mk (v7 * W + v6) &&& (1 <<< (nI v1 &&& 31)) = 0) = 1 from if_pos z] at h_108; exact absurd h_108 (by decide))
            refine ms_run (pc' := 116) (lv' := [(5, .int (nI v7)), (4, .int (nI v6)), (3, .int (nI v5)), (2, .int (nI (1 + v3))), (1, .int (nI v1)), (0, .ref o)]) (st' := [.int (nI v7), .int (nI v6), .ref o]) _ (ms_deC dX6_add_111 (ms_deC dX6_add_112 (ms_deC dX6_add_114 ms_deN))) rfl rfl ?_
            refine ms_callVp (As := [.int (nI v6), .int (nI v7)]) dX6_add_116 (c_X6_isOn hM7 hW hH hc hV.1 hV.2.1 hv6 hv7) cv_X6_74 hM7.O rfl ⟨Nat.le_of_ble_eq_true rfl, Nat.le_of_ble_eq_true rfl⟩ rfl (Nat.le_of_ble_eq_true rfl) ?_
            by_cases hc_116 : ¬ X.2.2.1 (v7 * W + v6) = -1
            · rw [show ms_b (¬ X.2.2.1 (v7 * W + v6) = -1) = 1 from if_pos hc_116]
              refine ms_if_ne (tgt := 126) dX6_add_119 (by decide) (fun _ => ?_) (fun h9 => absurd h9 (by decide))
              refine ms_run (pc' := 130) (lv' := [(6, .int 0), (5, .int (nI v7)), (4, .int (nI v6)), (3, .int (nI v5)), (2, .int (nI (1 + v3))), (1, .int (nI v1)), (0, .ref o)]) (st' := [.ref o]) _ (ms_deC dX6_add_126 (ms_deC dX6_add_127 (ms_deC dX6_add_129 ms_deN))) rfl rfl ?_
              refine ms_getf dX6_add_130 fg_X6_10 hM7.O rfl ?_
              refine ms_run (pc' := 140) (lv' := [(6, .int 0), (5, .int (nI v7)), (4, .int (nI v6)), (3, .int (nI v5)), (2, .int (nI (1 + v3))), (1, .int (nI v1)), (0, .ref o)]) (st' := [.int (nI v7), .int (nI v6), .int (nI v5), .int (nI (1 + v3)), .int (nI v1), .ref x]) _ (ms_deC dX6_add_133 (ms_deC dX6_add_134 (ms_deC dX6_add_135 (ms_deC dX6_add_136 (ms_deC dX6_add_138 ms_deN))))) rfl rfl ?_
              have hthi := th_wlk_i (wl := wl) (mk := mk) (on := X.2.2.1) hW hH hc (g := v1) (p := 1 + v3) (m := v5) (by omega) (by omega) (by omega) hv6 hv7
              have hct := c_X5_walker (n := n) ho hX7 (nI v1) (nI (1 + v3)) (nI v5) (nI v6) (nI v7) hc
              rw [gr_num_n hW hH hv6 hv7] at hct
              refine ms_W.room (k2 := 1 + 2) (z2 := 6 + 33) ?_ (by omega) (by omega)
              have hth8 : th_wlk W H wl mk cnt X.2.2.1 (nI v1) (nI (1 + v3)) (nI v5) (nI v6) (nI v7) = some ISE := hthi.trans (if_pos (by first | exact Or.inl hfull | exact Or.inr (Or.inl h_91) | exact Or.inr (Or.inr (Or.inl hmk)) | exact Or.inr (Or.inr (Or.inr hc_116))))
              refine ms_callVX (As := [.int (nI v1), .int (nI (1 + v3)), .int (nI v5), .int (nI v6), .int (nI v7)]) dX6_add_140 (hct) cv_X6_95 hX7.1 rfl ⟨Nat.le_of_ble_eq_true rfl, Nat.le_of_ble_eq_true rfl⟩ rfl (Nat.le_of_ble_eq_true rfl) (fun v9 n8 K8 hp9 => ?_) (fun E9 n8 K8 q9 hp9 => ?_)
              · skip
                exact absurd ((xq_P.val hp9).1.symm.trans hth8) (fun z => by cases z)
              · skip
                obtain ⟨he9, rfl, hn8⟩ := xq_P.thw hp9
                rw [hth8] at he9
                cases he9
                refine ⟨261, hd_X6_add_140, ?_⟩
                refine ms_run (pc' := 265) (lv' := [(7, .ref q9), (6, .int 0), (5, .int (nI v7)), (4, .int (nI v6)), (3, .int (nI v5)), (2, .int (nI (1 + v3))), (1, .int (nI v1)), (0, .ref o)]) (st' := [.int 0]) _ (ms_deC dX6_add_261 (ms_deC dX6_add_263 ms_deN)) rfl rfl ?_
                refine ms_if_ne (tgt := 272) dX6_add_265 (by decide) (fun h9 => absurd h9 (by decide)) (fun _ => ?_)
                refine ms_run (pc' := 269) (lv' := [(7, .ref q9), (6, .int 0), (5, .int (nI v7)), (4, .int (nI v6)), (3, .int (nI v5)), (2, .int (nI (1 + v3))), (1, .int (nI v1)), (0, .ref o)]) (st' := [.int 1]) _ (ms_deC dX6_add_268 ms_deN) rfl rfl ?_
                refine ms_goto (tgt := 273) dX6_add_269 (by decide) ?_
                refine ms_reti (st := []) (ty := .boolean) dX6_add_273 rfl rfl ?_
                exact ⟨rfl, by omega, d + 1 + 1 + 1 + 1 + 1 + 1 + 1, t, by omega, by omega, Nat.le_refl t, by omega, W, H, cnt, fa, wa, dr, pa, X, nr, wl, mk, ds, wr, fv, hX7, hM7, fl.le (by omega), ly, hcf, hK⟩
            · rw [show ms_b (¬ X.2.2.1 (v7 * W + v6) = -1) = 0 from if_neg hc_116]
              refine ms_if_ne (tgt := 126) dX6_add_119 (by decide) (fun h9 => absurd h9 (by decide)) (fun _ => ?_)
              refine ms_run (pc' := 123) (lv' := [(5, .int (nI v7)), (4, .int (nI v6)), (3, .int (nI v5)), (2, .int (nI (1 + v3))), (1, .int (nI v1)), (0, .ref o)]) (st' := [.int 1]) _ (ms_deC dX6_add_122 ms_deN) rfl rfl ?_
              refine ms_goto (tgt := 127) dX6_add_123 (by decide) ?_
              refine ms_run (pc' := 130) (lv' := [(6, .int 1), (5, .int (nI v7)), (4, .int (nI v6)), (3, .int (nI v5)), (2, .int (nI (1 + v3))), (1, .int (nI v1)), (0, .ref o)]) (st' := [.ref o]) _ (ms_deC dX6_add_127 (ms_deC dX6_add_129 ms_deN)) rfl rfl ?_
              refine ms_getf dX6_add_130 fg_X6_10 hM7.O rfl ?_
              refine ms_run (pc' := 140) (lv' := [(6, .int 1), (5, .int (nI v7)), (4, .int (nI v6)), (3, .int (nI v5)), (2, .int (nI (1 + v3))), (1, .int (nI v1)), (0, .ref o)]) (st' := [.int (nI v7), .int (nI v6), .int (nI v5), .int (nI (1 + v3)), .int (nI v1), .ref x]) _ (ms_deC dX6_add_133 (ms_deC dX6_add_134 (ms_deC dX6_add_135 (ms_deC dX6_add_136 (ms_deC dX6_add_138 ms_deN))))) rfl rfl ?_
              have hthi := th_wlk_i (wl := wl) (mk := mk) (on := X.2.2.1) hW hH hc (g := v1) (p := 1 + v3) (m := v5) (by omega) (by omega) (by omega) hv6 hv7
              have hct := c_X5_walker (n := n) ho hX7 (nI v1) (nI (1 + v3)) (nI v5) (nI v6) (nI v7) hc
              rw [gr_num_n hW hH hv6 hv7] at hct
              refine ms_W.room (k2 := 1 + 2) (z2 := 6 + 33) ?_ (by omega) (by omega)
              have hth8 : th_wlk W H wl mk cnt X.2.2.1 (nI v1) (nI (1 + v3)) (nI v5) (nI v6) (nI v7) = none := hthi.trans (if_neg (fun z => by rcases z with z | z | z | z; exact hroom z; exact z h_91; exact z hmk; exact hc_116 z))
              refine ms_callVX (As := [.int (nI v1), .int (nI (1 + v3)), .int (nI v5), .int (nI v6), .int (nI v7)]) dX6_add_140 (hct) cv_X6_95 hX7.1 rfl ⟨Nat.le_of_ble_eq_true rfl, Nat.le_of_ble_eq_true rfl⟩ rfl (Nat.le_of_ble_eq_true rfl) (fun v9 n8 K8 hp9 => ?_) (fun E9 n8 K8 q9 hp9 => ?_)
              · skip
                obtain ⟨-, hv9, hQ8, hn8⟩ := xq_P.val hp9
                cases hv9
                obtain ⟨hX8, hF8⟩ := hQ8
                have hM8 : fk_at K8 o x sb (nI (d + 1 + 1 + 1 + 1 + 1 + 1 + 1)) W H X.2.2.2 dr pa fa wa cnt wr fv X.1 := hM7.cf (n := n) ly hW0 hox hcf hF8
                refine ms_run (pc' := 147) (lv' := [(7, .int (nI cnt)), (6, .int 1), (5, .int (nI v7)), (4, .int (nI v6)), (3, .int (nI v5)), (2, .int (nI (1 + v3))), (1, .int (nI v1)), (0, .ref o)]) (st' := [.int 1]) _ (ms_deC dX6_add_143 (ms_deC dX6_add_145 ms_deN)) rfl rfl ?_
                refine ms_if_ne (tgt := 152) dX6_add_147 (by decide) (fun _ => ?_) (fun h9 => absurd h9 (by decide))
                refine ms_run (pc' := 154) (lv' := [(7, .int (nI cnt)), (6, .int 1), (5, .int (nI v7)), (4, .int (nI v6)), (3, .int (nI v5)), (2, .int (nI (1 + v3))), (1, .int (nI v1)), (0, .ref o)]) (st' := [.int 9]) _ (ms_deC dX6_add_152 ms_deN) rfl rfl ?_
                obtain ⟨⟨fw, hfw, hgw⟩, hrw, hiw⟩ := hM8.2.2
                refine ms_W.room (k2 := 1 + 1) (z2 := 9 + 24) ?_ (by omega) (by omega)
                refine ms_newI (N := 9) dX6_add_154 aw_int (by decide) rfl (Nat.le_of_ble_eq_true rfl) ?_
                obtain ⟨G_1, eG_1⟩ : ∃ K9 : ms_H, K9 = ms_up K8 n8 (.inl (0, 9, .inl (fun _ => 0))) := ⟨_, rfl⟩
                refine ms_W.heq eG_1 ?_
                have hf_2 := (congrFun eG_1 o).trans ((ms_up_n K8 _ (by omega)).trans hM8.O)
                have hf_3 := (congrFun eG_1 wa).trans ((ms_up_n K8 _ (by omega)).trans hgw)
                have hf_4 : G_1 n8 = some (.inl (0, 9, .inl (fun _ => 0))) := by rw [eG_1]; exact ms_up_s _ _ _
                refine ms_run (pc' := 159) (lv' := [(7, .int (nI cnt)), (6, .int 1), (5, .int (nI v7)), (4, .int (nI v6)), (3, .int (nI v5)), (2, .int (nI (1 + v3))), (1, .int (nI v1)), (0, .ref o)]) (st' := [.int (nI v1), .int 0, .ref n8, .ref n8]) _ (ms_deC dX6_add_156 (ms_deC dX6_add_157 (ms_deC dX6_add_158 ms_deN))) rfl rfl ?_
                refine ms_iastore dX6_add_159 hf_4 (vp_in_nI (n := 0) (by omega) (by omega)) ?_
                obtain ⟨G_5, eG_5⟩ : ∃ K9 : ms_H, K9 = ms_up G_1 n8 (.inl (0, 9, .inl (upd (fun _ => 0) (0 : Int32).toNatClampNeg (nI v1)))) := ⟨_, rfl⟩
                refine ms_W.heq eG_5 ?_
                have hf_6 := (congrFun eG_5 o).trans ((ms_up_n G_1 _ (by omega)).trans hf_2)
                have hf_7 := (congrFun eG_5 wa).trans ((ms_up_n G_1 _ (by omega)).trans hf_3)
                have hf_8 : G_5 n8 = some (.inl (0, 9, .inl (upd (fun _ => 0) (0 : Int32).toNatClampNeg (nI v1)))) := by rw [eG_5]; exact ms_up_s _ _ _
                refine ms_run (pc' := 163) (lv' := [(7, .int (nI cnt)), (6, .int 1), (5, .int (nI v7)), (4, .int (nI v6)), (3, .int (nI v5)), (2, .int (nI (1 + v3))), (1, .int (nI v1)), (0, .ref o)]) (st' := [.int (nI (1 + v3)), .int 1, .ref n8, .ref n8]) _ (ms_deC dX6_add_160 (ms_deC dX6_add_161 (ms_deC dX6_add_162 ms_deN))) rfl rfl ?_
                refine ms_iastore dX6_add_163 hf_8 (vp_in_nI (n := 1) (by omega) (by omega)) ?_
                obtain ⟨G_9, eG_9⟩ : ∃ K9 : ms_H, K9 = ms_up G_5 n8 (.inl (0, 9, .inl (upd (upd (fun _ => 0) (0 : Int32).toNatClampNeg (nI v1)) (1 : Int32).toNatClampNeg (nI (1 + v3))))) := ⟨_, rfl⟩
                refine ms_W.heq eG_9 ?_
                have hf_10 := (congrFun eG_9 o).trans ((ms_up_n G_5 _ (by omega)).trans hf_6)
                have hf_11 := (congrFun eG_9 wa).trans ((ms_up_n G_5 _ (by omega)).trans hf_7)
                have hf_12 : G_9 n8 = some (.inl (0, 9, .inl (upd (upd (fun _ => 0) (0 : Int32).toNatClampNeg (nI v1)) (1 : Int32).toNatClampNeg (nI (1 + v3))))) := by rw [eG_9]; exact ms_up_s _ _ _
                refine ms_run (pc' := 167) (lv' := [(7, .int (nI cnt)), (6, .int 1), (5, .int (nI v7)), (4, .int (nI v6)), (3, .int (nI v5)), (2, .int (nI (1 + v3))), (1, .int (nI v1)), (0, .ref o)]) (st' := [.int (nI v5), .int 2, .ref n8, .ref n8]) _ (ms_deC dX6_add_164 (ms_deC dX6_add_165 (ms_deC dX6_add_166 ms_deN))) rfl rfl ?_
                refine ms_iastore dX6_add_167 hf_12 (vp_in_nI (n := 2) (by omega) (by omega)) ?_
                obtain ⟨G_13, eG_13⟩ : ∃ K9 : ms_H, K9 = ms_up G_9 n8 (.inl (0, 9, .inl (upd (upd (upd (fun _ => 0) (0 : Int32).toNatClampNeg (nI v1)) (1 : Int32).toNatClampNeg (nI (1 + v3))) (2 : Int32).toNatClampNeg (nI v5)))) := ⟨_, rfl⟩
                refine ms_W.heq eG_13 ?_
                have hf_14 := (congrFun eG_13 o).trans ((ms_up_n G_9 _ (by omega)).trans hf_10)
                have hf_15 := (congrFun eG_13 wa).trans ((ms_up_n G_9 _ (by omega)).trans hf_11)
                have hf_16 : G_13 n8 = some (.inl (0, 9, .inl (upd (upd (upd (fun _ => 0) (0 : Int32).toNatClampNeg (nI v1)) (1 : Int32).toNatClampNeg (nI (1 + v3))) (2 : Int32).toNatClampNeg (nI v5)))) := by rw [eG_13]; exact ms_up_s _ _ _
                refine ms_run (pc' := 172) (lv' := [(7, .int (nI cnt)), (6, .int 1), (5, .int (nI v7)), (4, .int (nI v6)), (3, .int (nI v5)), (2, .int (nI (1 + v3))), (1, .int (nI v1)), (0, .ref o)]) (st' := [.int (nI v6), .int 3, .ref n8, .ref n8]) _ (ms_deC dX6_add_168 (ms_deC dX6_add_169 (ms_deC dX6_add_170 ms_deN))) rfl rfl ?_
                refine ms_iastore dX6_add_172 hf_16 (vp_in_nI (n := 3) (by omega) (by omega)) ?_
                obtain ⟨G_17, eG_17⟩ : ∃ K9 : ms_H, K9 = ms_up G_13 n8 (.inl (0, 9, .inl (upd (upd (upd (upd (fun _ => 0) (0 : Int32).toNatClampNeg (nI v1)) (1 : Int32).toNatClampNeg (nI (1 + v3))) (2 : Int32).toNatClampNeg (nI v5)) (3 : Int32).toNatClampNeg (nI v6)))) := ⟨_, rfl⟩
                refine ms_W.heq eG_17 ?_
                have hf_18 := (congrFun eG_17 o).trans ((ms_up_n G_13 _ (by omega)).trans hf_14)
                have hf_19 := (congrFun eG_17 wa).trans ((ms_up_n G_13 _ (by omega)).trans hf_15)
                have hf_20 : G_17 n8 = some (.inl (0, 9, .inl (upd (upd (upd (upd (fun _ => 0) (0 : Int32).toNatClampNeg (nI v1)) (1 : Int32).toNatClampNeg (nI (1 + v3))) (2 : Int32).toNatClampNeg (nI v5)) (3 : Int32).toNatClampNeg (nI v6)))) := by rw [eG_17]; exact ms_up_s _ _ _
                refine ms_run (pc' := 177) (lv' := [(7, .int (nI cnt)), (6, .int 1), (5, .int (nI v7)), (4, .int (nI v6)), (3, .int (nI v5)), (2, .int (nI (1 + v3))), (1, .int (nI v1)), (0, .ref o)]) (st' := [.int (nI v7), .int 4, .ref n8, .ref n8]) _ (ms_deC dX6_add_173 (ms_deC dX6_add_174 (ms_deC dX6_add_175 ms_deN))) rfl rfl ?_
                refine ms_iastore dX6_add_177 hf_20 (vp_in_nI (n := 4) (by omega) (by omega)) ?_
                obtain ⟨G_21, eG_21⟩ : ∃ K9 : ms_H, K9 = ms_up G_17 n8 (.inl (0, 9, .inl (upd (upd (upd (upd (upd (fun _ => 0) (0 : Int32).toNatClampNeg (nI v1)) (1 : Int32).toNatClampNeg (nI (1 + v3))) (2 : Int32).toNatClampNeg (nI v5)) (3 : Int32).toNatClampNeg (nI v6)) (4 : Int32).toNatClampNeg (nI v7)))) := ⟨_, rfl⟩
                refine ms_W.heq eG_21 ?_
                have hf_22 := (congrFun eG_21 o).trans ((ms_up_n G_17 _ (by omega)).trans hf_18)
                have hf_23 := (congrFun eG_21 wa).trans ((ms_up_n G_17 _ (by omega)).trans hf_19)
                have hf_24 : G_21 n8 = some (.inl (0, 9, .inl (upd (upd (upd (upd (upd (fun _ => 0) (0 : Int32).toNatClampNeg (nI v1)) (1 : Int32).toNatClampNeg (nI (1 + v3))) (2 : Int32).toNatClampNeg (nI v5)) (3 : Int32).toNatClampNeg (nI v6)) (4 : Int32).toNatClampNeg (nI v7)))) := by rw [eG_21]; exact ms_up_s _ _ _
                refine ms_run (pc' := 181) (lv' := [(7, .int (nI cnt)), (6, .int 1), (5, .int (nI v7)), (4, .int (nI v6)), (3, .int (nI v5)), (2, .int (nI (1 + v3))), (1, .int (nI v1)), (0, .ref o)]) (st' := [.int 4, .int 5, .ref n8, .ref n8]) _ (ms_deC dX6_add_178 (ms_deC dX6_add_179 (ms_deC dX6_add_180 ms_deN))) rfl rfl ?_
                refine ms_iastore dX6_add_181 hf_24 (vp_in_nI (n := 5) (by omega) (by omega)) ?_
                obtain ⟨G_25, eG_25⟩ : ∃ K9 : ms_H, K9 = ms_up G_21 n8 (.inl (0, 9, .inl (upd (upd (upd (upd (upd (upd (fun _ => 0) (0 : Int32).toNatClampNeg (nI v1)) (1 : Int32).toNatClampNeg (nI (1 + v3))) (2 : Int32).toNatClampNeg (nI v5)) (3 : Int32).toNatClampNeg (nI v6)) (4 : Int32).toNatClampNeg (nI v7)) (5 : Int32).toNatClampNeg 4))) := ⟨_, rfl⟩
                refine ms_W.heq eG_25 ?_
                have hf_26 := (congrFun eG_25 o).trans ((ms_up_n G_21 _ (by omega)).trans hf_22)
                have hf_27 := (congrFun eG_25 wa).trans ((ms_up_n G_21 _ (by omega)).trans hf_23)
                have hf_28 : G_25 n8 = some (.inl (0, 9, .inl (upd (upd (upd (upd (upd (upd (fun _ => 0) (0 : Int32).toNatClampNeg (nI v1)) (1 : Int32).toNatClampNeg (nI (1 + v3))) (2 : Int32).toNatClampNeg (nI v5)) (3 : Int32).toNatClampNeg (nI v6)) (4 : Int32).toNatClampNeg (nI v7)) (5 : Int32).toNatClampNeg 4))) := by rw [eG_25]; exact ms_up_s _ _ _
                refine ms_run (pc' := 186) (lv' := [(7, .int (nI cnt)), (6, .int 1), (5, .int (nI v7)), (4, .int (nI v6)), (3, .int (nI v5)), (2, .int (nI (1 + v3))), (1, .int (nI v1)), (0, .ref o)]) (st' := [.int 0, .int 6, .ref n8, .ref n8]) _ (ms_deC dX6_add_182 (ms_deC dX6_add_183 (ms_deC dX6_add_185 ms_deN))) rfl rfl ?_
                refine ms_iastore dX6_add_186 hf_28 (vp_in_nI (n := 6) (by omega) (by omega)) ?_
                obtain ⟨G_29, eG_29⟩ : ∃ K9 : ms_H, K9 = ms_up G_25 n8 (.inl (0, 9, .inl (upd (upd (upd (upd (upd (upd (upd (fun _ => 0) (0 : Int32).toNatClampNeg (nI v1)) (1 : Int32).toNatClampNeg (nI (1 + v3))) (2 : Int32).toNatClampNeg (nI v5)) (3 : Int32).toNatClampNeg (nI v6)) (4 : Int32).toNatClampNeg (nI v7)) (5 : Int32).toNatClampNeg 4) (6 : Int32).toNatClampNeg 0))) := ⟨_, rfl⟩
                refine ms_W.heq eG_29 ?_
                have hf_30 := (congrFun eG_29 o).trans ((ms_up_n G_25 _ (by omega)).trans hf_26)
                have hf_31 := (congrFun eG_29 wa).trans ((ms_up_n G_25 _ (by omega)).trans hf_27)
                have hf_32 : G_29 n8 = some (.inl (0, 9, .inl (upd (upd (upd (upd (upd (upd (upd (fun _ => 0) (0 : Int32).toNatClampNeg (nI v1)) (1 : Int32).toNatClampNeg (nI (1 + v3))) (2 : Int32).toNatClampNeg (nI v5)) (3 : Int32).toNatClampNeg (nI v6)) (4 : Int32).toNatClampNeg (nI v7)) (5 : Int32).toNatClampNeg 4) (6 : Int32).toNatClampNeg 0))) := by rw [eG_29]; exact ms_up_s _ _ _
                refine ms_run (pc' := 191) (lv' := [(7, .int (nI cnt)), (6, .int 1), (5, .int (nI v7)), (4, .int (nI v6)), (3, .int (nI v5)), (2, .int (nI (1 + v3))), (1, .int (nI v1)), (0, .ref o)]) (st' := [.int 0, .int 7, .ref n8, .ref n8]) _ (ms_deC dX6_add_187 (ms_deC dX6_add_188 (ms_deC dX6_add_190 ms_deN))) rfl rfl ?_
                refine ms_iastore dX6_add_191 hf_32 (vp_in_nI (n := 7) (by omega) (by omega)) ?_
                obtain ⟨G_33, eG_33⟩ : ∃ K9 : ms_H, K9 = ms_up G_29 n8 (.inl (0, 9, .inl (upd (upd (upd (upd (upd (upd (upd (upd (fun _ => 0) (0 : Int32).toNatClampNeg (nI v1)) (1 : Int32).toNatClampNeg (nI (1 + v3))) (2 : Int32).toNatClampNeg (nI v5)) (3 : Int32).toNatClampNeg (nI v6)) (4 : Int32).toNatClampNeg (nI v7)) (5 : Int32).toNatClampNeg 4) (6 : Int32).toNatClampNeg 0) (7 : Int32).toNatClampNeg 0))) := ⟨_, rfl⟩
                refine ms_W.heq eG_33 ?_
                have hf_34 := (congrFun eG_33 o).trans ((ms_up_n G_29 _ (by omega)).trans hf_30)
                have hf_35 := (congrFun eG_33 wa).trans ((ms_up_n G_29 _ (by omega)).trans hf_31)
                have hf_36 : G_33 n8 = some (.inl (0, 9, .inl (upd (upd (upd (upd (upd (upd (upd (upd (fun _ => 0) (0 : Int32).toNatClampNeg (nI v1)) (1 : Int32).toNatClampNeg (nI (1 + v3))) (2 : Int32).toNatClampNeg (nI v5)) (3 : Int32).toNatClampNeg (nI v6)) (4 : Int32).toNatClampNeg (nI v7)) (5 : Int32).toNatClampNeg 4) (6 : Int32).toNatClampNeg 0) (7 : Int32).toNatClampNeg 0))) := by rw [eG_33]; exact ms_up_s _ _ _
                refine ms_run (pc' := 196) (lv' := [(7, .int (nI cnt)), (6, .int 1), (5, .int (nI v7)), (4, .int (nI v6)), (3, .int (nI v5)), (2, .int (nI (1 + v3))), (1, .int (nI v1)), (0, .ref o)]) (st' := [.int (-1), .int 8, .ref n8, .ref n8]) _ (ms_deC dX6_add_192 (ms_deC dX6_add_193 (ms_deC dX6_add_195 ms_deN))) rfl rfl ?_
                refine ms_iastore dX6_add_196 hf_36 (vp_in_nI (n := 8) (by omega) (by omega)) ?_
                obtain ⟨G_37, eG_37⟩ : ∃ K9 : ms_H, K9 = ms_up G_33 n8 (.inl (0, 9, .inl (upd (upd (upd (upd (upd (upd (upd (upd (upd (fun _ => 0) (0 : Int32).toNatClampNeg (nI v1)) (1 : Int32).toNatClampNeg (nI (1 + v3))) (2 : Int32).toNatClampNeg (nI v5)) (3 : Int32).toNatClampNeg (nI v6)) (4 : Int32).toNatClampNeg (nI v7)) (5 : Int32).toNatClampNeg 4) (6 : Int32).toNatClampNeg 0) (7 : Int32).toNatClampNeg 0) (8 : Int32).toNatClampNeg (-1)))) := ⟨_, rfl⟩
                refine ms_W.heq eG_37 ?_
                have hf_38 := (congrFun eG_37 o).trans ((ms_up_n G_33 _ (by omega)).trans hf_34)
                have hf_39 := (congrFun eG_37 wa).trans ((ms_up_n G_33 _ (by omega)).trans hf_35)
                have hf_40 : G_37 n8 = some (.inl (0, 9, .inl (upd (upd (upd (upd (upd (upd (upd (upd (upd (fun _ => 0) (0 : Int32).toNatClampNeg (nI v1)) (1 : Int32).toNatClampNeg (nI (1 + v3))) (2 : Int32).toNatClampNeg (nI v5)) (3 : Int32).toNatClampNeg (nI v6)) (4 : Int32).toNatClampNeg (nI v7)) (5 : Int32).toNatClampNeg 4) (6 : Int32).toNatClampNeg 0) (7 : Int32).toNatClampNeg 0) (8 : Int32).toNatClampNeg (-1)))) := by rw [eG_37]; exact ms_up_s _ _ _
                refine ms_run (pc' := 200) (lv' := [(8, .ref n8), (7, .int (nI cnt)), (6, .int 1), (5, .int (nI v7)), (4, .int (nI v6)), (3, .int (nI v5)), (2, .int (nI (1 + v3))), (1, .int (nI v1)), (0, .ref o)]) (st' := [.ref o]) _ (ms_deC dX6_add_197 (ms_deC dX6_add_199 ms_deN)) rfl rfl ?_
                refine ms_getf dX6_add_200 fg_X6_36 hf_38 rfl ?_
                refine ms_alen (kd := 4) (v := nI cnt) (ty := fun c => (c, .array .int)) dX6_add_203 hf_39 (by decide) rfl ?_
                refine ms_run (pc' := 206) (lv' := [(8, .ref n8), (7, .int (nI cnt)), (6, .int 1), (5, .int (nI v7)), (4, .int (nI v6)), (3, .int (nI v5)), (2, .int (nI (1 + v3))), (1, .int (nI v1)), (0, .ref o)]) (st' := [.int ((nI cnt) + 1)]) _ (ms_deC dX6_add_204 (ms_deC dX6_add_205 ms_deN)) rfl rfl ?_
                rw [nI_1 cnt]
                refine ms_W.room (k2 := 1 + 0) (z2 := cnt + 1 + 0) ?_ (by omega) (by omega)
                refine ms_newA (N := cnt + 1) dX6_add_206 al_X6_34 (nI_pos (by omega)) (nI_clamp (by omega)) (by omega) ?_
                obtain ⟨G_41, eG_41⟩ : ∃ K9 : ms_H, K9 = ms_up G_37 (n8 + 1) (.inl (4, (cnt + 1), .inr (.inr (.inr (.inr (fun _ => none)))))) := ⟨_, rfl⟩
                refine ms_W.heq eG_41 ?_
                have hf_42 := (congrFun eG_41 o).trans ((ms_up_n G_37 _ (by omega)).trans hf_38)
                have hf_43 := (congrFun eG_41 wa).trans ((ms_up_n G_37 _ (by omega)).trans hf_39)
                have hf_44 := (congrFun eG_41 n8).trans ((ms_up_n G_37 _ (by omega)).trans hf_40)
                have hf_45 : G_41 (n8 + 1) = some (.inl (4, (cnt + 1), .inr (.inr (.inr (.inr (fun _ => none)))))) := by rw [eG_41]; exact ms_up_s _ _ _
                refine ms_run (pc' := 212) (lv' := [(9, .ref (n8 + 1)), (8, .ref n8), (7, .int (nI cnt)), (6, .int 1), (5, .int (nI v7)), (4, .int (nI v6)), (3, .int (nI v5)), (2, .int (nI (1 + v3))), (1, .int (nI v1)), (0, .ref o)]) (st' := [.ref o]) _ (ms_deC dX6_add_209 (ms_deC dX6_add_211 ms_deN)) rfl rfl ?_
                refine ms_getf dX6_add_212 fg_X6_36 hf_42 rfl ?_
                refine ms_run (pc' := 220) (lv' := [(9, .ref (n8 + 1)), (8, .ref n8), (7, .int (nI cnt)), (6, .int 1), (5, .int (nI v7)), (4, .int (nI v6)), (3, .int (nI v5)), (2, .int (nI (1 + v3))), (1, .int (nI v1)), (0, .ref o)]) (st' := [.ref o, .int 0, .ref (n8 + 1), .int 0, .ref wa]) _ (ms_deC dX6_add_215 (ms_deC dX6_add_216 (ms_deC dX6_add_218 (ms_deC dX6_add_219 ms_deN)))) rfl rfl ?_
                refine ms_getf dX6_add_220 fg_X6_36 hf_42 rfl ?_
                refine ms_alen (kd := 4) (v := nI cnt) (ty := fun c => (c, .array .int)) dX6_add_223 hf_43 (by decide) rfl ?_
                have hold : ∀ a, a < n8 → G_41 a = K8 a := fun a ha => (congrFun eG_41 a).trans ((ms_up_n _ _ (by omega)).trans ((congrFun eG_37 a).trans ((ms_up_n _ _ (by omega)).trans ((congrFun eG_33 a).trans ((ms_up_n _ _ (by omega)).trans ((congrFun eG_29 a).trans ((ms_up_n _ _ (by omega)).trans ((congrFun eG_25 a).trans ((ms_up_n _ _ (by omega)).trans ((congrFun eG_21 a).trans ((ms_up_n _ _ (by omega)).trans ((congrFun eG_17 a).trans ((ms_up_n _ _ (by omega)).trans ((congrFun eG_13 a).trans ((ms_up_n _ _ (by omega)).trans ((congrFun eG_9 a).trans ((ms_up_n _ _ (by omega)).trans ((congrFun eG_5 a).trans ((ms_up_n _ _ (by omega)).trans ((congrFun eG_1 a).trans ((ms_up_n _ _ (by omega)).trans (rfl))))))))))))))))))))))
                refine ms_copyA dX6_add_224 ac_X6_99 hf_43 hf_45 (by decide) (by decide) (nI_pos (by omega)) (by rw [nI_clamp (by omega)]; exact Nat.le_of_eq (Nat.zero_add _)) (by rw [nI_clamp (by omega)]; show 0 + cnt ≤ cnt + 1; omega) (fun i hi y hy => by
                    rw [nI_clamp (by omega)] at hi
                    rw [show (0 : Int32).toNatClampNeg + i = i from Nat.zero_add i, hfw i hi] at hy
                    cases hy
                    obtain ⟨r9, -, b9⟩ := hrw i hi
                    exact ⟨9, r9, (hold _ (by have := l4 i hi; omega)).trans b9⟩) ⟨Nat.le_of_ble_eq_true rfl, (show 8 + (nativeFrameWords "java/lang/System" "arraycopy" 5 + 11) ≤ m_X6_add.2.2.2.2.2.1 from by decide +kernel)⟩ (Nat.le_of_ble_eq_true rfl) ?_
                rw [nI_clamp (n := cnt) (by omega)]
                obtain ⟨G_46, eG_46⟩ : ∃ K9 : ms_H, K9 = ms_up G_41 (n8 + 1) (.inl (4, (cnt + 1), .inr (.inr (.inr (.inr (va_cpy fw (fun _ => none) (0 : Int32).toNatClampNeg (0 : Int32).toNatClampNeg cnt)))))) := ⟨_, rfl⟩
                refine ms_W.heq eG_46 ?_
                have hf_47 := (congrFun eG_46 o).trans ((ms_up_n G_41 _ (by omega)).trans hf_42)
                have hf_48 := (congrFun eG_46 wa).trans ((ms_up_n G_41 _ (by omega)).trans hf_43)
                have hf_49 := (congrFun eG_46 n8).trans ((ms_up_n G_41 _ (by omega)).trans hf_44)
                have hf_50 : G_46 (n8 + 1) = some (.inl (4, (cnt + 1), .inr (.inr (.inr (.inr (va_cpy fw (fun _ => none) (0 : Int32).toNatClampNeg (0 : Int32).toNatClampNeg cnt)))))) := by rw [eG_46]; exact ms_up_s _ _ _
                refine ms_run (pc' := 230) (lv' := [(9, .ref (n8 + 1)), (8, .ref n8), (7, .int (nI cnt)), (6, .int 1), (5, .int (nI v7)), (4, .int (nI v6)), (3, .int (nI v5)), (2, .int (nI (1 + v3))), (1, .int (nI v1)), (0, .ref o)]) (st' := [.ref o, .ref (n8 + 1)]) _ (ms_deC dX6_add_227 (ms_deC dX6_add_229 ms_deN)) rfl rfl ?_
                refine ms_getf dX6_add_230 fg_X6_36 hf_47 rfl ?_
                refine ms_alen (kd := 4) (v := nI cnt) (ty := fun c => (c, .array .int)) dX6_add_233 hf_48 (by decide) rfl ?_
                refine ms_run (pc' := 236) (lv' := [(9, .ref (n8 + 1)), (8, .ref n8), (7, .int (nI cnt)), (6, .int 1), (5, .int (nI v7)), (4, .int (nI v6)), (3, .int (nI v5)), (2, .int (nI (1 + v3))), (1, .int (nI v1)), (0, .ref o)]) (st' := [.ref n8, .int (nI cnt), .ref (n8 + 1)]) _ (ms_deC dX6_add_234 ms_deN) rfl rfl ?_
                refine ms_aastoreA dX6_add_236 hf_50 hf_49 (vp_in_nI (n := cnt) (by omega) (by omega)) ?_
                rw [nI_clamp (n := cnt) (by omega)]
                obtain ⟨G_51, eG_51⟩ : ∃ K9 : ms_H, K9 = ms_up G_46 (n8 + 1) (.inl (4, (cnt + 1), .inr (.inr (.inr (.inr (va_up (va_cpy fw (fun _ => none) (0 : Int32).toNatClampNeg (0 : Int32).toNatClampNeg cnt) cnt (some n8))))))) := ⟨_, rfl⟩
                refine ms_W.heq eG_51 ?_
                have hf_52 := (congrFun eG_51 o).trans ((ms_up_n G_46 _ (by omega)).trans hf_47)
                have hf_53 := (congrFun eG_51 wa).trans ((ms_up_n G_46 _ (by omega)).trans hf_48)
                have hf_54 := (congrFun eG_51 n8).trans ((ms_up_n G_46 _ (by omega)).trans hf_49)
                have hf_55 : G_51 (n8 + 1) = some (.inl (4, (cnt + 1), .inr (.inr (.inr (.inr (va_up (va_cpy fw (fun _ => none) (0 : Int32).toNatClampNeg (0 : Int32).toNatClampNeg cnt) cnt (some n8))))))) := by rw [eG_51]; exact ms_up_s _ _ _
                refine ms_run (pc' := 240) (lv' := [(9, .ref (n8 + 1)), (8, .ref n8), (7, .int (nI cnt)), (6, .int 1), (5, .int (nI v7)), (4, .int (nI v6)), (3, .int (nI v5)), (2, .int (nI (1 + v3))), (1, .int (nI v1)), (0, .ref o)]) (st' := [.ref (n8 + 1), .ref o]) _ (ms_deC dX6_add_237 (ms_deC dX6_add_238 ms_deN)) rfl rfl ?_
                refine ms_putf dX6_add_240 fp_X6_36 hf_52 (Nat.le_of_ble_eq_true rfl) rfl rfl ?_
                obtain ⟨G_56, eG_56⟩ : ∃ K9 : ms_H, K9 = ms_up G_51 o (.inr (6, [.ref x, .ref sb, .int (nI (d + 1 + 1 + 1 + 1 + 1 + 1 + 1)), .int (nI W), .int (nI H), .int X.2.2.2, .int dr, .int pa, .ref fa, .ref (n8 + 1)])) := ⟨_, rfl⟩
                refine ms_W.heq eG_56 ?_
                have hf_57 : G_56 o = some (.inr (6, [.ref x, .ref sb, .int (nI (d + 1 + 1 + 1 + 1 + 1 + 1 + 1)), .int (nI W), .int (nI H), .int X.2.2.2, .int dr, .int pa, .ref fa, .ref (n8 + 1)])) := by rw [eG_56]; exact ms_up_s _ _ _
                have hf_58 := (congrFun eG_56 wa).trans ((ms_up_n G_51 _ (by omega)).trans hf_53)
                have hf_59 := (congrFun eG_56 n8).trans ((ms_up_n G_51 _ (by omega)).trans hf_54)
                have hf_60 := (congrFun eG_56 (n8 + 1)).trans ((ms_up_n G_51 _ (by omega)).trans hf_55)
                refine ms_run (pc' := 246) (lv' := [(9, .ref (n8 + 1)), (8, .ref n8), (7, .int (nI cnt)), (6, .int 1), (5, .int (nI v7)), (4, .int (nI v6)), (3, .int (nI v5)), (2, .int (nI (1 + v3))), (1, .int (nI v1)), (0, .ref o)]) (st' := [.ref o, .int (nI cnt)]) _ (ms_deC dX6_add_243 (ms_deC dX6_add_245 ms_deN)) rfl rfl ?_
                refine ms_getf dX6_add_246 fg_X6_36 hf_57 rfl ?_
                refine ms_alen (kd := 4) (v := nI (cnt + 1)) (ty := fun c => (c, .array .int)) dX6_add_249 hf_60 (by decide) rfl ?_
                refine ms_run (pc' := 252) (lv' := [(9, .ref (n8 + 1)), (8, .ref n8), (7, .int (nI cnt)), (6, .int 1), (5, .int (nI v7)), (4, .int (nI v6)), (3, .int (nI v5)), (2, .int (nI (1 + v3))), (1, .int (nI v1)), (0, .ref o)]) (st' := [.int ((nI (cnt + 1)) - 1), .int (nI cnt)]) _ (ms_deC dX6_add_250 (ms_deC dX6_add_251 ms_deN)) rfl rfl ?_
                rw [nI_pred cnt]
                refine ms_icmp_ne (tgt := 259) dX6_add_252 (by decide) (fun h_252 => ?_) (fun h_252 => ?_)
                · skip
                  exact absurd rfl h_252
                · skip
                  refine ms_run (pc' := 256) (lv' := [(9, .ref (n8 + 1)), (8, .ref n8), (7, .int (nI cnt)), (6, .int 1), (5, .int (nI v7)), (4, .int (nI v6)), (3, .int (nI v5)), (2, .int (nI (1 + v3))), (1, .int (nI v1)), (0, .ref o)]) (st' := [.int 1]) _ (ms_deC dX6_add_255 ms_deN) rfl rfl ?_
                  refine ms_goto (tgt := 260) dX6_add_256 (by decide) ?_
                  refine ms_reti (st := []) (ty := .boolean) dX6_add_260 rfl rfl ?_
                  have hfin : ∀ a, a < n8 → ¬ a = o → G_56 a = K8 a := fun a ha ha2 => (congrFun eG_56 a).trans ((ms_up_n _ _ (by omega)).trans ((congrFun eG_51 a).trans ((ms_up_n _ _ (by omega)).trans ((congrFun eG_46 a).trans ((ms_up_n _ _ (by omega)).trans ((congrFun eG_41 a).trans ((ms_up_n _ _ (by omega)).trans ((congrFun eG_37 a).trans ((ms_up_n _ _ (by omega)).trans ((congrFun eG_33 a).trans ((ms_up_n _ _ (by omega)).trans ((congrFun eG_29 a).trans ((ms_up_n _ _ (by omega)).trans ((congrFun eG_25 a).trans ((ms_up_n _ _ (by omega)).trans ((congrFun eG_21 a).trans ((ms_up_n _ _ (by omega)).trans ((congrFun eG_17 a).trans ((ms_up_n _ _ (by omega)).trans ((congrFun eG_13 a).trans ((ms_up_n _ _ (by omega)).trans ((congrFun eG_9 a).trans ((ms_up_n _ _ (by omega)).trans ((congrFun eG_5 a).trans ((ms_up_n _ _ (by omega)).trans ((congrFun eG_1 a).trans ((ms_up_n _ _ (by omega)).trans (rfl))))))))))))))))))))))))))))
                  have hmd := fd_mod (y := v7) hv6
                  refine ⟨rfl, by omega, d + 1 + 1 + 1 + 1 + 1 + 1 + 1, t, by omega, by omega, Nat.le_refl t, by omega, W, H, cnt + 1, fa, (n8 + 1), dr, pa, (adX cnt X (nI v1) (nI (1 + v3)) (nI v5) (nI (v7 * W + v6))), nr, wl, mk, ds, va_up wr cnt n8, fv, hX8.cx ho (fun a h1 h2 => hfin a (by omega) (by omega)), ⟨hf_57, hM8.2.1.fr (fun a h1 h2 => hfin a (by omega) (by omega)) hW0, ⟨⟨_, fun k hk => ?_, hf_60⟩, fun k hk => ?_, fun i k hi hk e => ?_⟩⟩, ⟨by omega, by omega, by omega, fun k hk => ?_⟩, ⟨by omega, by omega, fun k hk => ?_⟩, hcf, hK.add (by omega) (by omega) (by omega) ⟨nI_pos' (by omega), show nI v5 ≤ nI 9 from nI_le (by omega) (by omega)⟩ hf9 h_91 hmk (Decidable.not_not.mp hc_116)⟩
                  · by_cases ek : k = cnt
                    · subst ek
                      exact (show va_up _ k _ k = _ from if_pos rfl).trans (congrArg some (show va_up wr k _ k = _ from if_pos rfl).symm)
                    · refine (show va_up _ cnt _ k = _ from if_neg ek).trans ((show va_cpy fw (fun _ => none) 0 0 cnt k = fw k from ?_).trans ((hfw k (by omega)).trans (congrArg some (show va_up wr cnt _ k = _ from if_neg ek).symm)))
                      unfold va_cpy
                      rw [if_pos (by omega)]
                      exact congrArg fw (by omega)
                  · by_cases ek : k = cnt
                    · subst ek
                      rw [show va_up wr k n8 k = n8 from if_pos rfl]
                      refine ⟨_, fun c hc9 => ?_, hf_59⟩
                      rw [show (adX k X (nI v1) (nI (1 + v3)) (nI v5) (nI (v7 * W + v6))).1 k = wk_come (X.1 k) (nI v1) (nI (1 + v3)) (nI v5) (nI (v7 * W + v6)) from if_pos rfl]
                      have h5 := wv_new (W := W) (t := (v7 * W + v6)) (u := X.1 k) (g := nI v1) (p := nI (1 + v3)) (m := nI v5) (by omega) c hc9
                      rw [hmd.1, hmd.2] at h5
                      exact h5
                    · obtain ⟨r9, a9, b9⟩ := hrw k (by omega)
                      rw [show va_up wr cnt n8 k = wr k from if_neg ek]
                      have hlk := l4 k (by omega)
                      have hyk := y3 k (by omega)
                      refine ⟨r9, fun c hc9 => ?_, (hfin _ (by omega) (by omega)).trans b9⟩
                      rw [show (adX cnt X (nI v1) (nI (1 + v3)) (nI v5) (nI (v7 * W + v6))).1 k = X.1 k from if_neg ek]
                      exact a9 c hc9
                  · unfold va_up at e
                    by_cases e1 : i = cnt
                    · by_cases e2 : k = cnt
                      · omega
                      · rw [if_pos e1, if_neg e2] at e
                        have := l4 k (by omega)
                        omega
                    · by_cases e2 : k = cnt
                      · rw [if_neg e1, if_pos e2] at e
                        have := l4 i (by omega)
                        omega
                      · rw [if_neg e1, if_neg e2] at e
                        exact hiw i k (by omega) (by omega) e
                  · unfold va_up
                    split
                    · omega
                    · have := l4 k (by omega)
                      omega
                  · unfold va_up
                    split
                    · omega
                    · exact y3 k (by omega)
              · skip
                exact absurd ((xq_P.thw hp9).1.symm.trans hth8) (fun z => by cases z)
    · skip
      refine ms_run (pc' := 37) (lv' := [(2, .int (nI (1 + v3))), (1, .int (nI v1)), (0, .ref o)]) (st' := [.int 10, .ref o]) _ (ms_deC dX6_add_34 (ms_deC dX6_add_35 ms_deN)) rfl rfl ?_
      refine ms_callV0 (As := [.int 10]) dX6_add_37 (c_X6_draw (n := n) (L := L) (xs := xs) (d := (d + 1 + 1 + 1 + 1)) (N := 10) hM4.O (by omega) hLb (by omega) (by omega)) cv_X6_56 hM4.O rfl ⟨Nat.le_of_ble_eq_true rfl, Nat.le_of_ble_eq_true rfl⟩ rfl (Nat.le_of_ble_eq_true rfl) (fun v9 n9 K5 hp9 => ?_)
      obtain ⟨v5, hv5, hr9, hnn9, eK5⟩ := hp9
      cases hr9
      rw [hnn9]
      have hM5 : fk_at K5 o x sb (nI (d + 1 + 1 + 1 + 1 + 1)) W H X.2.2.2 dr pa fa wa cnt wr fv X.1 := by rw [eK5]; exact hM4.ob ly hW0
      have hX5 : xs_at K5 x g q c j q2 c2 W H nr wl mk ds cnt dr pa X := hX4.cx ho (fun a h1 h2 => by rw [eK5]; exact ms_up_n _ _ (by omega))
      refine ms_goto (tgt := 48) dX6_add_40 (by decide) ?_
      refine ms_run (pc' := 51) (lv' := [(3, .int (nI v5)), (2, .int (nI (1 + v3))), (1, .int (nI v1)), (0, .ref o)]) (st' := [.ref o, .ref o]) _ (ms_deC dX6_add_48 (ms_deC dX6_add_49 (ms_deC dX6_add_50 ms_deN))) rfl rfl ?_
      refine ms_getf dX6_add_51 fg_X6_16 hM5.O rfl ?_
      refine ms_callV0 (As := [.int (nI W)]) dX6_add_54 (c_X6_draw (n := n) (L := L) (xs := xs) (d := (d + 1 + 1 + 1 + 1 + 1)) (N := W) hM5.O (by omega) hLb (by omega) (by omega)) cv_X6_56 hM5.O rfl ⟨Nat.le_of_ble_eq_true rfl, Nat.le_of_ble_eq_true rfl⟩ rfl (Nat.le_of_ble_eq_true rfl) (fun v9 n9 K6 hp9 => ?_)
      obtain ⟨v6, hv6, hr9, hnn9, eK6⟩ := hp9
      cases hr9
      rw [hnn9]
      have hM6 : fk_at K6 o x sb (nI (d + 1 + 1 + 1 + 1 + 1 + 1)) W H X.2.2.2 dr pa fa wa cnt wr fv X.1 := by rw [eK6]; exact hM5.ob ly hW0
      have hX6 : xs_at K6 x g q c j q2 c2 W H nr wl mk ds cnt dr pa X := hX5.cx ho (fun a h1 h2 => by rw [eK6]; exact ms_up_n _ _ (by omega))
      refine ms_run (pc' := 61) (lv' := [(4, .int (nI v6)), (3, .int (nI v5)), (2, .int (nI (1 + v3))), (1, .int (nI v1)), (0, .ref o)]) (st' := [.ref o, .ref o]) _ (ms_deC dX6_add_57 (ms_deC dX6_add_59 (ms_deC dX6_add_60 ms_deN))) rfl rfl ?_
      refine ms_getf dX6_add_61 fg_X6_20 hM6.O rfl ?_
      refine ms_callV0 (As := [.int (nI H)]) dX6_add_64 (c_X6_draw (n := n) (L := L) (xs := xs) (d := (d + 1 + 1 + 1 + 1 + 1 + 1)) (N := H) hM6.O (by omega) hLb (by omega) (by omega)) cv_X6_56 hM6.O rfl ⟨Nat.le_of_ble_eq_true rfl, Nat.le_of_ble_eq_true rfl⟩ rfl (Nat.le_of_ble_eq_true rfl) (fun v9 n9 K7 hp9 => ?_)
      obtain ⟨v7, hv7, hr9, hnn9, eK7⟩ := hp9
      cases hr9
      rw [hnn9]
      have hM7 : fk_at K7 o x sb (nI (d + 1 + 1 + 1 + 1 + 1 + 1 + 1)) W H X.2.2.2 dr pa fa wa cnt wr fv X.1 := by rw [eK7]; exact hM6.ob ly hW0
      have hX7 : xs_at K7 x g q c j q2 c2 W H nr wl mk ds cnt dr pa X := hX6.cx ho (fun a h1 h2 => by rw [eK7]; exact ms_up_n _ _ (by omega))
      refine ms_run (pc' := 69) (lv' := [(5, .int (nI v7)), (4, .int (nI v6)), (3, .int (nI v5)), (2, .int (nI (1 + v3))), (1, .int (nI v1)), (0, .ref o)]) (st' := []) _ (ms_deC dX6_add_67 ms_deN) rfl rfl ?_
      have hf9 := fij hv6 hv7
      refine ms_run (pc' := 70) (lv' := [(5, .int (nI v7)), (4, .int (nI v6)), (3, .int (nI v5)), (2, .int (nI (1 + v3))), (1, .int (nI v1)), (0, .ref o)]) (st' := [.ref o]) _ (ms_deC dX6_add_69 ms_deN) rfl rfl ?_
      refine ms_getf dX6_add_70 fg_X6_36 hM7.O rfl ?_
      refine fk_len dX6_add_73 hM7.2.2 ?_
      refine ms_run (pc' := 76) (lv' := [(5, .int (nI v7)), (4, .int (nI v6)), (3, .int (nI v5)), (2, .int (nI (1 + v3))), (1, .int (nI v1)), (0, .ref o)]) (st' := [.int 24, .int (nI cnt)]) _ (ms_deC dX6_add_74 ms_deN) rfl rfl ?_
      refine ms_icmp_ge (tgt := 126) dX6_add_76 (by decide) (fun h_76 => ?_) (fun h_76 => ?_)
      · skip
        have hfull : 24 ≤ cnt := (nI_leI (a := 24) (by omega) (by omega)).mp h_76
        refine ms_run (pc' := 130) (lv' := [(6, .int 0), (5, .int (nI v7)), (4, .int (nI v6)), (3, .int (nI v5)), (2, .int (nI (1 + v3))), (1, .int (nI v1)), (0, .ref o)]) (st' := [.ref o]) _ (ms_deC dX6_add_126 (ms_deC dX6_add_127 (ms_deC dX6_add_129 ms_deN))) rfl rfl ?_
        refine ms_getf dX6_add_130 fg_X6_10 hM7.O rfl ?_
        refine ms_run (pc' := 140) (lv' := [(6, .int 0), (5, .int (nI v7)), (4, .int (nI v6)), (3, .int (nI v5)), (2, .int (nI (1 + v3))), (1, .int (nI v1)), (0, .ref o)]) (st' := [.int (nI v7), .int (nI v6), .int (nI v5), .int (nI (1 + v3)), .int (nI v1), .ref x]) _ (ms_deC dX6_add_133 (ms_deC dX6_add_134 (ms_deC dX6_add_135 (ms_deC dX6_add_136 (ms_deC dX6_add_138 ms_deN))))) rfl rfl ?_
        have hthi := th_wlk_i (wl := wl) (mk := mk) (on := X.2.2.1) hW hH hc (g := v1) (p := 1 + v3) (m := v5) (by omega) (by omega) (by omega) hv6 hv7
        have hct := c_X5_walker (n := n) ho hX7 (nI v1) (nI (1 + v3)) (nI v5) (nI v6) (nI v7) hc
        rw [gr_num_n hW hH hv6 hv7] at hct
        refine ms_W.room (k2 := 1 + 2) (z2 := 6 + 33) ?_ (by omega) (by omega)
        have hth8 : th_wlk W H wl mk cnt X.2.2.1 (nI v1) (nI (1 + v3)) (nI v5) (nI v6) (nI v7) = some ISE := hthi.trans (if_pos (by first | exact Or.inl hfull | exact Or.inr (Or.inl h_91) | exact Or.inr (Or.inr (Or.inl hmk)) | exact Or.inr (Or.inr (Or.inr hc_116))))
        refine ms_callVX (As := [.int (nI v1), .int (nI (1 + v3)), .int (nI v5), .int (nI v6), .int (nI v7)]) dX6_add_140 (hct) cv_X6_95 hX7.1 rfl ⟨Nat.le_of_ble_eq_true rfl, Nat.le_of_ble_eq_true rfl⟩ rfl (Nat.le_of_ble_eq_true rfl) (fun v9 n8 K8 hp9 => ?_) (fun E9 n8 K8 q9 hp9 => ?_)
        · skip
          exact absurd ((xq_P.val hp9).1.symm.trans hth8) (fun z => by cases z)
        · skip
          obtain ⟨he9, rfl, hn8⟩ := xq_P.thw hp9
          rw [hth8] at he9
          cases he9
          refine ⟨261, hd_X6_add_140, ?_⟩
          refine ms_run (pc' := 265) (lv' := [(7, .ref q9), (6, .int 0), (5, .int (nI v7)), (4, .int (nI v6)), (3, .int (nI v5)), (2, .int (nI (1 + v3))), (1, .int (nI v1)), (0, .ref o)]) (st' := [.int 0]) _ (ms_deC dX6_add_261 (ms_deC dX6_add_263 ms_deN)) rfl rfl ?_
          refine ms_if_ne (tgt := 272) dX6_add_265 (by decide) (fun h9 => absurd h9 (by decide)) (fun _ => ?_)
          refine ms_run (pc' := 269) (lv' := [(7, .ref q9), (6, .int 0), (5, .int (nI v7)), (4, .int (nI v6)), (3, .int (nI v5)), (2, .int (nI (1 + v3))), (1, .int (nI v1)), (0, .ref o)]) (st' := [.int 1]) _ (ms_deC dX6_add_268 ms_deN) rfl rfl ?_
          refine ms_goto (tgt := 273) dX6_add_269 (by decide) ?_
          refine ms_reti (st := []) (ty := .boolean) dX6_add_273 rfl rfl ?_
          exact ⟨rfl, by omega, d + 1 + 1 + 1 + 1 + 1 + 1 + 1, t, by omega, by omega, Nat.le_refl t, by omega, W, H, cnt, fa, wa, dr, pa, X, nr, wl, mk, ds, wr, fv, hX7, hM7, fl.le (by omega), ly, hcf, hK⟩
      · skip
        have hroom : ¬ 24 ≤ cnt := fun z => h_76 (show nI 24 ≤ nI cnt from nI_le z (by omega))
        refine ms_run (pc' := 80) (lv' := [(5, .int (nI v7)), (4, .int (nI v6)), (3, .int (nI v5)), (2, .int (nI (1 + v3))), (1, .int (nI v1)), (0, .ref o)]) (st' := [.ref o]) _ (ms_deC dX6_add_79 ms_deN) rfl rfl ?_
        refine ms_getf dX6_add_80 fg_X6_31 hM7.O rfl ?_
        refine ms_run (pc' := 85) (lv' := [(5, .int (nI v7)), (4, .int (nI v6)), (3, .int (nI v5)), (2, .int (nI (1 + v3))), (1, .int (nI v1)), (0, .ref o)]) (st' := [.int (nI v6), .ref fa]) _ (ms_deC dX6_add_83 ms_deN) rfl rfl ?_
        refine fk_ldA (i := v6) dX6_add_85 hM7.2.1 hv6 hW ?_
        refine ms_run (pc' := 88) (lv' := [(5, .int (nI v7)), (4, .int (nI v6)), (3, .int (nI v5)), (2, .int (nI (1 + v3))), (1, .int (nI v1)), (0, .ref o)]) (st' := [.int (nI v7), .ref (mn_ad fa H v6)]) _ (ms_deC dX6_add_86 ms_deN) rfl rfl ?_
        refine fk_ldB (j := v7) dX6_add_88 hM7.2.1 hv6 hv7 hH ?_
        refine ms_run (pc' := 90) (lv' := [(5, .int (nI v7)), (4, .int (nI v6)), (3, .int (nI v5)), (2, .int (nI (1 + v3))), (1, .int (nI v1)), (0, .ref o)]) (st' := [.int 0, .ref (mn_ad fa H v6 + 1 + v7)]) _ (ms_deC dX6_add_89 ms_deN) rfl rfl ?_
        refine fk_ldC (c := 0) dX6_add_90 hM7.2.1 hv6 hv7 (by decide) rfl ?_
        rw [(hfv (v7 * W + v6) hf9).1]
        refine ms_if_ne (tgt := 126) dX6_add_91 (by decide) (fun h_91 => ?_) (fun h_91 => ?_)
        · skip
          refine ms_run (pc' := 130) (lv' := [(6, .int 0), (5, .int (nI v7)), (4, .int (nI v6)), (3, .int (nI v5)), (2, .int (nI (1 + v3))), (1, .int (nI v1)), (0, .ref o)]) (st' := [.ref o]) _ (ms_deC dX6_add_126 (ms_deC dX6_add_127 (ms_deC dX6_add_129 ms_deN))) rfl rfl ?_
          refine ms_getf dX6_add_130 fg_X6_10 hM7.O rfl ?_
          refine ms_run (pc' := 140) (lv' := [(6, .int 0), (5, .int (nI v7)), (4, .int (nI v6)), (3, .int (nI v5)), (2, .int (nI (1 + v3))), (1, .int (nI v1)), (0, .ref o)]) (st' := [.int (nI v7), .int (nI v6), .int (nI v5), .int (nI (1 + v3)), .int (nI v1), .ref x]) _ (ms_deC dX6_add_133 (ms_deC dX6_add_134 (ms_deC dX6_add_135 (ms_deC dX6_add_136 (ms_deC dX6_add_138 ms_deN))))) rfl rfl ?_
          have hthi := th_wlk_i (wl := wl) (mk := mk) (on := X.2.2.1) hW hH hc (g := v1) (p := 1 + v3) (m := v5) (by omega) (by omega) (by omega) hv6 hv7
          have hct := c_X5_walker (n := n) ho hX7 (nI v1) (nI (1 + v3)) (nI v5) (nI v6) (nI v7) hc
          rw [gr_num_n hW hH hv6 hv7] at hct
          refine ms_W.room (k2 := 1 + 2) (z2 := 6 + 33) ?_ (by omega) (by omega)
          have hth8 : th_wlk W H wl mk cnt X.2.2.1 (nI v1) (nI (1 + v3)) (nI v5) (nI v6) (nI v7) = some ISE := hthi.trans (if_pos (by first | exact Or.inl hfull | exact Or.inr (Or.inl h_91) | exact Or.inr (Or.inr (Or.inl hmk)) | exact Or.inr (Or.inr (Or.inr hc_116))))
          refine ms_callVX (As := [.int (nI v1), .int (nI (1 + v3)), .int (nI v5), .int (nI v6), .int (nI v7)]) dX6_add_140 (hct) cv_X6_95 hX7.1 rfl ⟨Nat.le_of_ble_eq_true rfl, Nat.le_of_ble_eq_true rfl⟩ rfl (Nat.le_of_ble_eq_true rfl) (fun v9 n8 K8 hp9 => ?_) (fun E9 n8 K8 q9 hp9 => ?_)
          · skip
            exact absurd ((xq_P.val hp9).1.symm.trans hth8) (fun z => by cases z)
          · skip
            obtain ⟨he9, rfl, hn8⟩ := xq_P.thw hp9
            rw [hth8] at he9
            cases he9
            refine ⟨261, hd_X6_add_140, ?_⟩
            refine ms_run (pc' := 265) (lv' := [(7, .ref q9), (6, .int 0), (5, .int (nI v7)), (4, .int (nI v6)), (3, .int (nI v5)), (2, .int (nI (1 + v3))), (1, .int (nI v1)), (0, .ref o)]) (st' := [.int 0]) _ (ms_deC dX6_add_261 (ms_deC dX6_add_263 ms_deN)) rfl rfl ?_
            refine ms_if_ne (tgt := 272) dX6_add_265 (by decide) (fun h9 => absurd h9 (by decide)) (fun _ => ?_)
            refine ms_run (pc' := 269) (lv' := [(7, .ref q9), (6, .int 0), (5, .int (nI v7)), (4, .int (nI v6)), (3, .int (nI v5)), (2, .int (nI (1 + v3))), (1, .int (nI v1)), (0, .ref o)]) (st' := [.int 1]) _ (ms_deC dX6_add_268 ms_deN) rfl rfl ?_
            refine ms_goto (tgt := 273) dX6_add_269 (by decide) ?_
            refine ms_reti (st := []) (ty := .boolean) dX6_add_273 rfl rfl ?_
            exact ⟨rfl, by omega, d + 1 + 1 + 1 + 1 + 1 + 1 + 1, t, by omega, by omega, Nat.le_refl t, by omega, W, H, cnt, fa, wa, dr, pa, X, nr, wl, mk, ds, wr, fv, hX7, hM7, fl.le (by omega), ly, hcf, hK⟩
        · skip
          refine ms_run (pc' := 95) (lv' := [(5, .int (nI v7)), (4, .int (nI v6)), (3, .int (nI v5)), (2, .int (nI (1 + v3))), (1, .int (nI v1)), (0, .ref o)]) (st' := [.ref o]) _ (ms_deC dX6_add_94 ms_deN) rfl rfl ?_
          refine ms_getf dX6_add_95 fg_X6_31 hM7.O rfl ?_
          refine ms_run (pc' := 100) (lv' := [(5, .int (nI v7)), (4, .int (nI v6)), (3, .int (nI v5)), (2, .int (nI (1 + v3))), (1, .int (nI v1)), (0, .ref o)]) (st' := [.int (nI v6), .ref fa]) _ (ms_deC dX6_add_98 ms_deN) rfl rfl ?_
          refine fk_ldA (i := v6) dX6_add_100 hM7.2.1 hv6 hW ?_
          refine ms_run (pc' := 103) (lv' := [(5, .int (nI v7)), (4, .int (nI v6)), (3, .int (nI v5)), (2, .int (nI (1 + v3))), (1, .int (nI v1)), (0, .ref o)]) (st' := [.int (nI v7), .ref (mn_ad fa H v6)]) _ (ms_deC dX6_add_101 ms_deN) rfl rfl ?_
          refine fk_ldB (j := v7) dX6_add_103 hM7.2.1 hv6 hv7 hH ?_
          refine ms_run (pc' := 107) (lv' := [(5, .int (nI v7)), (4, .int (nI v6)), (3, .int (nI v5)), (2, .int (nI (1 + v3))), (1, .int (nI v1)), (0, .ref o)]) (st' := [.int (2 + (nI v1)), .ref (mn_ad fa H v6 + 1 + v7)]) _ (ms_deC dX6_add_104 (ms_deC dX6_add_105 (ms_deC dX6_add_106 ms_deN))) rfl rfl ?_
          refine fk_ldC (c := (2 + v1)) dX6_add_107 hM7.2.1 hv6 hv7 (by omega) (nI_add 2 v1) ?_
          rw [(hfv (v7 * W + v6) hf9).2 v1 (by omega)]
          refine ms_if_ne (tgt := 126) dX6_add_108 (by decide) (fun h_108 => ?_) (fun h_108 => ?_)
          · skip
            have hmk : ¬ mk (v7 * W + v6) &&& (1 <<< (nI v1 &&& 31)) = 0 := Decidable.byContradiction (fun z => h_108 (if_neg z))
            refine ms_run (pc' := 130) (lv' := [(6, .int 0), (5, .int (nI v7)), (4, .int (nI v6)), (3, .int (nI v5)), (2, .int (nI (1 + v3))), (1, .int (nI v1)), (0, .ref o)]) (st' := [.ref o]) _ (ms_deC dX6_add_126 (ms_deC dX6_add_127 (ms_deC dX6_add_129 ms_deN))) rfl rfl ?_
            refine ms_getf dX6_add_130 fg_X6_10 hM7.O rfl ?_
            refine ms_run (pc' := 140) (lv' := [(6, .int 0), (5, .int (nI v7)), (4, .int (nI v6)), (3, .int (nI v5)), (2, .int (nI (1 + v3))), (1, .int (nI v1)), (0, .ref o)]) (st' := [.int (nI v7), .int (nI v6), .int (nI v5), .int (nI (1 + v3)), .int (nI v1), .ref x]) _ (ms_deC dX6_add_133 (ms_deC dX6_add_134 (ms_deC dX6_add_135 (ms_deC dX6_add_136 (ms_deC dX6_add_138 ms_deN))))) rfl rfl ?_
            have hthi := th_wlk_i (wl := wl) (mk := mk) (on := X.2.2.1) hW hH hc (g := v1) (p := 1 + v3) (m := v5) (by omega) (by omega) (by omega) hv6 hv7
            have hct := c_X5_walker (n := n) ho hX7 (nI v1) (nI (1 + v3)) (nI v5) (nI v6) (nI v7) hc
            rw [gr_num_n hW hH hv6 hv7] at hct
            refine ms_W.room (k2 := 1 + 2) (z2 := 6 + 33) ?_ (by omega) (by omega)
            have hth8 : th_wlk W H wl mk cnt X.2.2.1 (nI v1) (nI (1 + v3)) (nI v5) (nI v6) (nI v7) = some ISE := hthi.trans (if_pos (by first | exact Or.inl hfull | exact Or.inr (Or.inl h_91) | exact Or.inr (Or.inr (Or.inl hmk)) | exact Or.inr (Or.inr (Or.inr hc_116))))
            refine ms_callVX (As := [.int (nI v1), .int (nI (1 + v3)), .int (nI v5), .int (nI v6), .int (nI v7)]) dX6_add_140 (hct) cv_X6_95 hX7.1 rfl ⟨Nat.le_of_ble_eq_true rfl, Nat.le_of_ble_eq_true rfl⟩ rfl (Nat.le_of_ble_eq_true rfl) (fun v9 n8 K8 hp9 => ?_) (fun E9 n8 K8 q9 hp9 => ?_)
            · skip
              exact absurd ((xq_P.val hp9).1.symm.trans hth8) (fun z => by cases z)
            · skip
              obtain ⟨he9, rfl, hn8⟩ := xq_P.thw hp9
              rw [hth8] at he9
              cases he9
              refine ⟨261, hd_X6_add_140, ?_⟩
              refine ms_run (pc' := 265) (lv' := [(7, .ref q9), (6, .int 0), (5, .int (nI v7)), (4, .int (nI v6)), (3, .int (nI v5)), (2, .int (nI (1 + v3))), (1, .int (nI v1)), (0, .ref o)]) (st' := [.int 0]) _ (ms_deC dX6_add_261 (ms_deC dX6_add_263 ms_deN)) rfl rfl ?_
              refine ms_if_ne (tgt := 272) dX6_add_265 (by decide) (fun h9 => absurd h9 (by decide)) (fun _ => ?_)
              refine ms_run (pc' := 269) (lv' := [(7, .ref q9), (6, .int 0), (5, .int (nI v7)), (4, .int (nI v6)), (3, .int (nI v5)), (2, .int (nI (1 + v3))), (1, .int (nI v1)), (0, .ref o)]) (st' := [.int 1]) _ (ms_deC dX6_add_268 ms_deN) rfl rfl ?_
              refine ms_goto (tgt := 273) dX6_add_269 (by decide) ?_
              refine ms_reti (st := []) (ty := .boolean) dX6_add_273 rfl rfl ?_
              exact ⟨rfl, by omega, d + 1 + 1 + 1 + 1 + 1 + 1 + 1, t, by omega, by omega, Nat.le_refl t, by omega, W, H, cnt, fa, wa, dr, pa, X, nr, wl, mk, ds, wr, fv, hX7, hM7, fl.le (by omega), ly, hcf, hK⟩
          · skip
            have hmk : mk (v7 * W + v6) &&& (1 <<< (nI v1 &&& 31)) = 0 := Decidable.byContradiction (fun z => by rw [show ms_b (¬ mk (v7 * W + v6) &&& (1 <<< (nI v1 &&& 31)) = 0) = 1 from if_pos z] at h_108; exact absurd h_108 (by decide))
            refine ms_run (pc' := 116) (lv' := [(5, .int (nI v7)), (4, .int (nI v6)), (3, .int (nI v5)), (2, .int (nI (1 + v3))), (1, .int (nI v1)), (0, .ref o)]) (st' := [.int (nI v7), .int (nI v6), .ref o]) _ (ms_deC dX6_add_111 (ms_deC dX6_add_112 (ms_deC dX6_add_114 ms_deN))) rfl rfl ?_
            refine ms_callVp (As := [.int (nI v6), .int (nI v7)]) dX6_add_116 (c_X6_isOn hM7 hW hH hc hV.1 hV.2.1 hv6 hv7) cv_X6_74 hM7.O rfl ⟨Nat.le_of_ble_eq_true rfl, Nat.le_of_ble_eq_true rfl⟩ rfl (Nat.le_of_ble_eq_true rfl) ?_
            by_cases hc_116 : ¬ X.2.2.1 (v7 * W + v6) = -1
            · rw [show ms_b (¬ X.2.2.1 (v7 * W + v6) = -1) = 1 from if_pos hc_116]
              refine ms_if_ne (tgt := 126) dX6_add_119 (by decide) (fun _ => ?_) (fun h9 => absurd h9 (by decide))
              refine ms_run (pc' := 130) (lv' := [(6, .int 0), (5, .int (nI v7)), (4, .int (nI v6)), (3, .int (nI v5)), (2, .int (nI (1 + v3))), (1, .int (nI v1)), (0, .ref o)]) (st' := [.ref o]) _ (ms_deC dX6_add_126 (ms_deC dX6_add_127 (ms_deC dX6_add_129 ms_deN))) rfl rfl ?_
              refine ms_getf dX6_add_130 fg_X6_10 hM7.O rfl ?_
              refine ms_run (pc' := 140) (lv' := [(6, .int 0), (5, .int (nI v7)), (4, .int (nI v6)), (3, .int (nI v5)), (2, .int (nI (1 + v3))), (1, .int (nI v1)), (0, .ref o)]) (st' := [.int (nI v7), .int (nI v6), .int (nI v5), .int (nI (1 + v3)), .int (nI v1), .ref x]) _ (ms_deC dX6_add_133 (ms_deC dX6_add_134 (ms_deC dX6_add_135 (ms_deC dX6_add_136 (ms_deC dX6_add_138 ms_deN))))) rfl rfl ?_
              have hthi := th_wlk_i (wl := wl) (mk := mk) (on := X.2.2.1) hW hH hc (g := v1) (p := 1 + v3) (m := v5) (by omega) (by omega) (by omega) hv6 hv7
              have hct := c_X5_walker (n := n) ho hX7 (nI v1) (nI (1 + v3)) (nI v5) (nI v6) (nI v7) hc
              rw [gr_num_n hW hH hv6 hv7] at hct
              refine ms_W.room (k2 := 1 + 2) (z2 := 6 + 33) ?_ (by omega) (by omega)
              have hth8 : th_wlk W H wl mk cnt X.2.2.1 (nI v1) (nI (1 + v3)) (nI v5) (nI v6) (nI v7) = some ISE := hthi.trans (if_pos (by first | exact Or.inl hfull | exact Or.inr (Or.inl h_91) | exact Or.inr (Or.inr (Or.inl hmk)) | exact Or.inr (Or.inr (Or.inr hc_116))))
              refine ms_callVX (As := [.int (nI v1), .int (nI (1 + v3)), .int (nI v5), .int (nI v6), .int (nI v7)]) dX6_add_140 (hct) cv_X6_95 hX7.1 rfl ⟨Nat.le_of_ble_eq_true rfl, Nat.le_of_ble_eq_true rfl⟩ rfl (Nat.le_of_ble_eq_true rfl) (fun v9 n8 K8 hp9 => ?_) (fun E9 n8 K8 q9 hp9 => ?_)
              · skip
                exact absurd ((xq_P.val hp9).1.symm.trans hth8) (fun z => by cases z)
              · skip
                obtain ⟨he9, rfl, hn8⟩ := xq_P.thw hp9
                rw [hth8] at he9
                cases he9
                refine ⟨261, hd_X6_add_140, ?_⟩
                refine ms_run (pc' := 265) (lv' := [(7, .ref q9), (6, .int 0), (5, .int (nI v7)), (4, .int (nI v6)), (3, .int (nI v5)), (2, .int (nI (1 + v3))), (1, .int (nI v1)), (0, .ref o)]) (st' := [.int 0]) _ (ms_deC dX6_add_261 (ms_deC dX6_add_263 ms_deN)) rfl rfl ?_
                refine ms_if_ne (tgt := 272) dX6_add_265 (by decide) (fun h9 => absurd h9 (by decide)) (fun _ => ?_)
                refine ms_run (pc' := 269) (lv' := [(7, .ref q9), (6, .int 0), (5, .int (nI v7)), (4, .int (nI v6)), (3, .int (nI v5)), (2, .int (nI (1 + v3))), (1, .int (nI v1)), (0, .ref o)]) (st' := [.int 1]) _ (ms_deC dX6_add_268 ms_deN) rfl rfl ?_
                refine ms_goto (tgt := 273) dX6_add_269 (by decide) ?_
                refine ms_reti (st := []) (ty := .boolean) dX6_add_273 rfl rfl ?_
                exact ⟨rfl, by omega, d + 1 + 1 + 1 + 1 + 1 + 1 + 1, t, by omega, by omega, Nat.le_refl t, by omega, W, H, cnt, fa, wa, dr, pa, X, nr, wl, mk, ds, wr, fv, hX7, hM7, fl.le (by omega), ly, hcf, hK⟩
            · rw [show ms_b (¬ X.2.2.1 (v7 * W + v6) = -1) = 0 from if_neg hc_116]
              refine ms_if_ne (tgt := 126) dX6_add_119 (by decide) (fun h9 => absurd h9 (by decide)) (fun _ => ?_)
              refine ms_run (pc' := 123) (lv' := [(5, .int (nI v7)), (4, .int (nI v6)), (3, .int (nI v5)), (2, .int (nI (1 + v3))), (1, .int (nI v1)), (0, .ref o)]) (st' := [.int 1]) _ (ms_deC dX6_add_122 ms_deN) rfl rfl ?_
              refine ms_goto (tgt := 127) dX6_add_123 (by decide) ?_
              refine ms_run (pc' := 130) (lv' := [(6, .int 1), (5, .int (nI v7)), (4, .int (nI v6)), (3, .int (nI v5)), (2, .int (nI (1 + v3))), (1, .int (nI v1)), (0, .ref o)]) (st' := [.ref o]) _ (ms_deC dX6_add_127 (ms_deC dX6_add_129 ms_deN)) rfl rfl ?_
              refine ms_getf dX6_add_130 fg_X6_10 hM7.O rfl ?_
              refine ms_run (pc' := 140) (lv' := [(6, .int 1), (5, .int (nI v7)), (4, .int (nI v6)), (3, .int (nI v5)), (2, .int (nI (1 + v3))), (1, .int (nI v1)), (0, .ref o)]) (st' := [.int (nI v7), .int (nI v6), .int (nI v5), .int (nI (1 + v3)), .int (nI v1), .ref x]) _ (ms_deC dX6_add_133 (ms_deC dX6_add_134 (ms_deC dX6_add_135 (ms_deC dX6_add_136 (ms_deC dX6_add_138 ms_deN))))) rfl rfl ?_
              have hthi := th_wlk_i (wl := wl) (mk := mk) (on := X.2.2.1) hW hH hc (g := v1) (p := 1 + v3) (m := v5) (by omega) (by omega) (by omega) hv6 hv7
              have hct := c_X5_walker (n := n) ho hX7 (nI v1) (nI (1 + v3)) (nI v5) (nI v6) (nI v7) hc
              rw [gr_num_n hW hH hv6 hv7] at hct
              refine ms_W.room (k2 := 1 + 2) (z2 := 6 + 33) ?_ (by omega) (by omega)
              have hth8 : th_wlk W H wl mk cnt X.2.2.1 (nI v1) (nI (1 + v3)) (nI v5) (nI v6) (nI v7) = none := hthi.trans (if_neg (fun z => by rcases z with z | z | z | z; exact hroom z; exact z h_91; exact z hmk; exact hc_116 z))
              refine ms_callVX (As := [.int (nI v1), .int (nI (1 + v3)), .int (nI v5), .int (nI v6), .int (nI v7)]) dX6_add_140 (hct) cv_X6_95 hX7.1 rfl ⟨Nat.le_of_ble_eq_true rfl, Nat.le_of_ble_eq_true rfl⟩ rfl (Nat.le_of_ble_eq_true rfl) (fun v9 n8 K8 hp9 => ?_) (fun E9 n8 K8 q9 hp9 => ?_)
              · skip
                obtain ⟨-, hv9, hQ8, hn8⟩ := xq_P.val hp9
                cases hv9
                obtain ⟨hX8, hF8⟩ := hQ8
                have hM8 : fk_at K8 o x sb (nI (d + 1 + 1 + 1 + 1 + 1 + 1 + 1)) W H X.2.2.2 dr pa fa wa cnt wr fv X.1 := hM7.cf (n := n) ly hW0 hox hcf hF8
                refine ms_run (pc' := 147) (lv' := [(7, .int (nI cnt)), (6, .int 1), (5, .int (nI v7)), (4, .int (nI v6)), (3, .int (nI v5)), (2, .int (nI (1 + v3))), (1, .int (nI v1)), (0, .ref o)]) (st' := [.int 1]) _ (ms_deC dX6_add_143 (ms_deC dX6_add_145 ms_deN)) rfl rfl ?_
                refine ms_if_ne (tgt := 152) dX6_add_147 (by decide) (fun _ => ?_) (fun h9 => absurd h9 (by decide))
                refine ms_run (pc' := 154) (lv' := [(7, .int (nI cnt)), (6, .int 1), (5, .int (nI v7)), (4, .int (nI v6)), (3, .int (nI v5)), (2, .int (nI (1 + v3))), (1, .int (nI v1)), (0, .ref o)]) (st' := [.int 9]) _ (ms_deC dX6_add_152 ms_deN) rfl rfl ?_
                obtain ⟨⟨fw, hfw, hgw⟩, hrw, hiw⟩ := hM8.2.2
                refine ms_W.room (k2 := 1 + 1) (z2 := 9 + 24) ?_ (by omega) (by omega)
                refine ms_newI (N := 9) dX6_add_154 aw_int (by decide) rfl (Nat.le_of_ble_eq_true rfl) ?_
                obtain ⟨G_61, eG_61⟩ : ∃ K9 : ms_H, K9 = ms_up K8 n8 (.inl (0, 9, .inl (fun _ => 0))) := ⟨_, rfl⟩
                refine ms_W.heq eG_61 ?_
                have hf_62 := (congrFun eG_61 o).trans ((ms_up_n K8 _ (by omega)).trans hM8.O)
                have hf_63 := (congrFun eG_61 wa).trans ((ms_up_n K8 _ (by omega)).trans hgw)
                have hf_64 : G_61 n8 = some (.inl (0, 9, .inl (fun _ => 0))) := by rw [eG_61]; exact ms_up_s _ _ _
                refine ms_run (pc' := 159) (lv' := [(7, .int (nI cnt)), (6, .int 1), (5, .int (nI v7)), (4, .int (nI v6)), (3, .int (nI v5)), (2, .int (nI (1 + v3))), (1, .int (nI v1)), (0, .ref o)]) (st' := [.int (nI v1), .int 0, .ref n8, .ref n8]) _ (ms_deC dX6_add_156 (ms_deC dX6_add_157 (ms_deC dX6_add_158 ms_deN))) rfl rfl ?_
                refine ms_iastore dX6_add_159 hf_64 (vp_in_nI (n := 0) (by omega) (by omega)) ?_
                obtain ⟨G_65, eG_65⟩ : ∃ K9 : ms_H, K9 = ms_up G_61 n8 (.inl (0, 9, .inl (upd (fun _ => 0) (0 : Int32).toNatClampNeg (nI v1)))) := ⟨_, rfl⟩
                refine ms_W.heq eG_65 ?_
                have hf_66 := (congrFun eG_65 o).trans ((ms_up_n G_61 _ (by omega)).trans hf_62)
                have hf_67 := (congrFun eG_65 wa).trans ((ms_up_n G_61 _ (by omega)).trans hf_63)
                have hf_68 : G_65 n8 = some (.inl (0, 9, .inl (upd (fun _ => 0) (0 : Int32).toNatClampNeg (nI v1)))) := by rw [eG_65]; exact ms_up_s _ _ _
                refine ms_run (pc' := 163) (lv' := [(7, .int (nI cnt)), (6, .int 1), (5, .int (nI v7)), (4, .int (nI v6)), (3, .int (nI v5)), (2, .int (nI (1 + v3))), (1, .int (nI v1)), (0, .ref o)]) (st' := [.int (nI (1 + v3)), .int 1, .ref n8, .ref n8]) _ (ms_deC dX6_add_160 (ms_deC dX6_add_161 (ms_deC dX6_add_162 ms_deN))) rfl rfl ?_
                refine ms_iastore dX6_add_163 hf_68 (vp_in_nI (n := 1) (by omega) (by omega)) ?_
                obtain ⟨G_69, eG_69⟩ : ∃ K9 : ms_H, K9 = ms_up G_65 n8 (.inl (0, 9, .inl (upd (upd (fun _ => 0) (0 : Int32).toNatClampNeg (nI v1)) (1 : Int32).toNatClampNeg (nI (1 + v3))))) := ⟨_, rfl⟩
                refine ms_W.heq eG_69 ?_
                have hf_70 := (congrFun eG_69 o).trans ((ms_up_n G_65 _ (by omega)).trans hf_66)
                have hf_71 := (congrFun eG_69 wa).trans ((ms_up_n G_65 _ (by omega)).trans hf_67)
                have hf_72 : G_69 n8 = some (.inl (0, 9, .inl (upd (upd (fun _ => 0) (0 : Int32).toNatClampNeg (nI v1)) (1 : Int32).toNatClampNeg (nI (1 + v3))))) := by rw [eG_69]; exact ms_up_s _ _ _
                refine ms_run (pc' := 167) (lv' := [(7, .int (nI cnt)), (6, .int 1), (5, .int (nI v7)), (4, .int (nI v6)), (3, .int (nI v5)), (2, .int (nI (1 + v3))), (1, .int (nI v1)), (0, .ref o)]) (st' := [.int (nI v5), .int 2, .ref n8, .ref n8]) _ (ms_deC dX6_add_164 (ms_deC dX6_add_165 (ms_deC dX6_add_166 ms_deN))) rfl rfl ?_
                refine ms_iastore dX6_add_167 hf_72 (vp_in_nI (n := 2) (by omega) (by omega)) ?_
                obtain ⟨G_73, eG_73⟩ : ∃ K9 : ms_H, K9 = ms_up G_69 n8 (.inl (0, 9, .inl (upd (upd (upd (fun _ => 0) (0 : Int32).toNatClampNeg (nI v1)) (1 : Int32).toNatClampNeg (nI (1 + v3))) (2 : Int32).toNatClampNeg (nI v5)))) := ⟨_, rfl⟩
                refine ms_W.heq eG_73 ?_
                have hf_74 := (congrFun eG_73 o).trans ((ms_up_n G_69 _ (by omega)).trans hf_70)
                have hf_75 := (congrFun eG_73 wa).trans ((ms_up_n G_69 _ (by omega)).trans hf_71)
                have hf_76 : G_73 n8 = some (.inl (0, 9, .inl (upd (upd (upd (fun _ => 0) (0 : Int32).toNatClampNeg (nI v1)) (1 : Int32).toNatClampNeg (nI (1 + v3))) (2 : Int32).toNatClampNeg (nI v5)))) := by rw [eG_73]; exact ms_up_s _ _ _
                refine ms_run (pc' := 172) (lv' := [(7, .int (nI cnt)), (6, .int 1), (5, .int (nI v7)), (4, .int (nI v6)), (3, .int (nI v5)), (2, .int (nI (1 + v3))), (1, .int (nI v1)), (0, .ref o)]) (st' := [.int (nI v6), .int 3, .ref n8, .ref n8]) _ (ms_deC dX6_add_168 (ms_deC dX6_add_169 (ms_deC dX6_add_170 ms_deN))) rfl rfl ?_
                refine ms_iastore dX6_add_172 hf_76 (vp_in_nI (n := 3) (by omega) (by omega)) ?_
                obtain ⟨G_77, eG_77⟩ : ∃ K9 : ms_H, K9 = ms_up G_73 n8 (.inl (0, 9, .inl (upd (upd (upd (upd (fun _ => 0) (0 : Int32).toNatClampNeg (nI v1)) (1 : Int32).toNatClampNeg (nI (1 + v3))) (2 : Int32).toNatClampNeg (nI v5)) (3 : Int32).toNatClampNeg (nI v6)))) := ⟨_, rfl⟩
                refine ms_W.heq eG_77 ?_
                have hf_78 := (congrFun eG_77 o).trans ((ms_up_n G_73 _ (by omega)).trans hf_74)
                have hf_79 := (congrFun eG_77 wa).trans ((ms_up_n G_73 _ (by omega)).trans hf_75)
                have hf_80 : G_77 n8 = some (.inl (0, 9, .inl (upd (upd (upd (upd (fun _ => 0) (0 : Int32).toNatClampNeg (nI v1)) (1 : Int32).toNatClampNeg (nI (1 + v3))) (2 : Int32).toNatClampNeg (nI v5)) (3 : Int32).toNatClampNeg (nI v6)))) := by rw [eG_77]; exact ms_up_s _ _ _
                refine ms_run (pc' := 177) (lv' := [(7, .int (nI cnt)), (6, .int 1), (5, .int (nI v7)), (4, .int (nI v6)), (3, .int (nI v5)), (2, .int (nI (1 + v3))), (1, .int (nI v1)), (0, .ref o)]) (st' := [.int (nI v7), .int 4, .ref n8, .ref n8]) _ (ms_deC dX6_add_173 (ms_deC dX6_add_174 (ms_deC dX6_add_175 ms_deN))) rfl rfl ?_
                refine ms_iastore dX6_add_177 hf_80 (vp_in_nI (n := 4) (by omega) (by omega)) ?_
                obtain ⟨G_81, eG_81⟩ : ∃ K9 : ms_H, K9 = ms_up G_77 n8 (.inl (0, 9, .inl (upd (upd (upd (upd (upd (fun _ => 0) (0 : Int32).toNatClampNeg (nI v1)) (1 : Int32).toNatClampNeg (nI (1 + v3))) (2 : Int32).toNatClampNeg (nI v5)) (3 : Int32).toNatClampNeg (nI v6)) (4 : Int32).toNatClampNeg (nI v7)))) := ⟨_, rfl⟩
                refine ms_W.heq eG_81 ?_
                have hf_82 := (congrFun eG_81 o).trans ((ms_up_n G_77 _ (by omega)).trans hf_78)
                have hf_83 := (congrFun eG_81 wa).trans ((ms_up_n G_77 _ (by omega)).trans hf_79)
                have hf_84 : G_81 n8 = some (.inl (0, 9, .inl (upd (upd (upd (upd (upd (fun _ => 0) (0 : Int32).toNatClampNeg (nI v1)) (1 : Int32).toNatClampNeg (nI (1 + v3))) (2 : Int32).toNatClampNeg (nI v5)) (3 : Int32).toNatClampNeg (nI v6)) (4 : Int32).toNatClampNeg (nI v7)))) := by rw [eG_81]; exact ms_up_s _ _ _
                refine ms_run (pc' := 181) (lv' := [(7, .int (nI cnt)), (6, .int 1), (5, .int (nI v7)), (4, .int (nI v6)), (3, .int (nI v5)), (2, .int (nI (1 + v3))), (1, .int (nI v1)), (0, .ref o)]) (st' := [.int 4, .int 5, .ref n8, .ref n8]) _ (ms_deC dX6_add_178 (ms_deC dX6_add_179 (ms_deC dX6_add_180 ms_deN))) rfl rfl ?_
                refine ms_iastore dX6_add_181 hf_84 (vp_in_nI (n := 5) (by omega) (by omega)) ?_
                obtain ⟨G_85, eG_85⟩ : ∃ K9 : ms_H, K9 = ms_up G_81 n8 (.inl (0, 9, .inl (upd (upd (upd (upd (upd (upd (fun _ => 0) (0 : Int32).toNatClampNeg (nI v1)) (1 : Int32).toNatClampNeg (nI (1 + v3))) (2 : Int32).toNatClampNeg (nI v5)) (3 : Int32).toNatClampNeg (nI v6)) (4 : Int32).toNatClampNeg (nI v7)) (5 : Int32).toNatClampNeg 4))) := ⟨_, rfl⟩
                refine ms_W.heq eG_85 ?_
                have hf_86 := (congrFun eG_85 o).trans ((ms_up_n G_81 _ (by omega)).trans hf_82)
                have hf_87 := (congrFun eG_85 wa).trans ((ms_up_n G_81 _ (by omega)).trans hf_83)
                have hf_88 : G_85 n8 = some (.inl (0, 9, .inl (upd (upd (upd (upd (upd (upd (fun _ => 0) (0 : Int32).toNatClampNeg (nI v1)) (1 : Int32).toNatClampNeg (nI (1 + v3))) (2 : Int32).toNatClampNeg (nI v5)) (3 : Int32).toNatClampNeg (nI v6)) (4 : Int32).toNatClampNeg (nI v7)) (5 : Int32).toNatClampNeg 4))) := by rw [eG_85]; exact ms_up_s _ _ _
                refine ms_run (pc' := 186) (lv' := [(7, .int (nI cnt)), (6, .int 1), (5, .int (nI v7)), (4, .int (nI v6)), (3, .int (nI v5)), (2, .int (nI (1 + v3))), (1, .int (nI v1)), (0, .ref o)]) (st' := [.int 0, .int 6, .ref n8, .ref n8]) _ (ms_deC dX6_add_182 (ms_deC dX6_add_183 (ms_deC dX6_add_185 ms_deN))) rfl rfl ?_
                refine ms_iastore dX6_add_186 hf_88 (vp_in_nI (n := 6) (by omega) (by omega)) ?_
                obtain ⟨G_89, eG_89⟩ : ∃ K9 : ms_H, K9 = ms_up G_85 n8 (.inl (0, 9, .inl (upd (upd (upd (upd (upd (upd (upd (fun _ => 0) (0 : Int32).toNatClampNeg (nI v1)) (1 : Int32).toNatClampNeg (nI (1 + v3))) (2 : Int32).toNatClampNeg (nI v5)) (3 : Int32).toNatClampNeg (nI v6)) (4 : Int32).toNatClampNeg (nI v7)) (5 : Int32).toNatClampNeg 4) (6 : Int32).toNatClampNeg 0))) := ⟨_, rfl⟩
                refine ms_W.heq eG_89 ?_
                have hf_90 := (congrFun eG_89 o).trans ((ms_up_n G_85 _ (by omega)).trans hf_86)
                have hf_91 := (congrFun eG_89 wa).trans ((ms_up_n G_85 _ (by omega)).trans hf_87)
                have hf_92 : G_89 n8 = some (.inl (0, 9, .inl (upd (upd (upd (upd (upd (upd (upd (fun _ => 0) (0 : Int32).toNatClampNeg (nI v1)) (1 : Int32).toNatClampNeg (nI (1 + v3))) (2 : Int32).toNatClampNeg (nI v5)) (3 : Int32).toNatClampNeg (nI v6)) (4 : Int32).toNatClampNeg (nI v7)) (5 : Int32).toNatClampNeg 4) (6 : Int32).toNatClampNeg 0))) := by rw [eG_89]; exact ms_up_s _ _ _
                refine ms_run (pc' := 191) (lv' := [(7, .int (nI cnt)), (6, .int 1), (5, .int (nI v7)), (4, .int (nI v6)), (3, .int (nI v5)), (2, .int (nI (1 + v3))), (1, .int (nI v1)), (0, .ref o)]) (st' := [.int 0, .int 7, .ref n8, .ref n8]) _ (ms_deC dX6_add_187 (ms_deC dX6_add_188 (ms_deC dX6_add_190 ms_deN))) rfl rfl ?_
                refine ms_iastore dX6_add_191 hf_92 (vp_in_nI (n := 7) (by omega) (by omega)) ?_
                obtain ⟨G_93, eG_93⟩ : ∃ K9 : ms_H, K9 = ms_up G_89 n8 (.inl (0, 9, .inl (upd (upd (upd (upd (upd (upd (upd (upd (fun _ => 0) (0 : Int32).toNatClampNeg (nI v1)) (1 : Int32).toNatClampNeg (nI (1 + v3))) (2 : Int32).toNatClampNeg (nI v5)) (3 : Int32).toNatClampNeg (nI v6)) (4 : Int32).toNatClampNeg (nI v7)) (5 : Int32).toNatClampNeg 4) (6 : Int32).toNatClampNeg 0) (7 : Int32).toNatClampNeg 0))) := ⟨_, rfl⟩
                refine ms_W.heq eG_93 ?_
                have hf_94 := (congrFun eG_93 o).trans ((ms_up_n G_89 _ (by omega)).trans hf_90)
                have hf_95 := (congrFun eG_93 wa).trans ((ms_up_n G_89 _ (by omega)).trans hf_91)
                have hf_96 : G_93 n8 = some (.inl (0, 9, .inl (upd (upd (upd (upd (upd (upd (upd (upd (fun _ => 0) (0 : Int32).toNatClampNeg (nI v1)) (1 : Int32).toNatClampNeg (nI (1 + v3))) (2 : Int32).toNatClampNeg (nI v5)) (3 : Int32).toNatClampNeg (nI v6)) (4 : Int32).toNatClampNeg (nI v7)) (5 : Int32).toNatClampNeg 4) (6 : Int32).toNatClampNeg 0) (7 : Int32).toNatClampNeg 0))) := by rw [eG_93]; exact ms_up_s _ _ _
                refine ms_run (pc' := 196) (lv' := [(7, .int (nI cnt)), (6, .int 1), (5, .int (nI v7)), (4, .int (nI v6)), (3, .int (nI v5)), (2, .int (nI (1 + v3))), (1, .int (nI v1)), (0, .ref o)]) (st' := [.int (-1), .int 8, .ref n8, .ref n8]) _ (ms_deC dX6_add_192 (ms_deC dX6_add_193 (ms_deC dX6_add_195 ms_deN))) rfl rfl ?_
                refine ms_iastore dX6_add_196 hf_96 (vp_in_nI (n := 8) (by omega) (by omega)) ?_
                obtain ⟨G_97, eG_97⟩ : ∃ K9 : ms_H, K9 = ms_up G_93 n8 (.inl (0, 9, .inl (upd (upd (upd (upd (upd (upd (upd (upd (upd (fun _ => 0) (0 : Int32).toNatClampNeg (nI v1)) (1 : Int32).toNatClampNeg (nI (1 + v3))) (2 : Int32).toNatClampNeg (nI v5)) (3 : Int32).toNatClampNeg (nI v6)) (4 : Int32).toNatClampNeg (nI v7)) (5 : Int32).toNatClampNeg 4) (6 : Int32).toNatClampNeg 0) (7 : Int32).toNatClampNeg 0) (8 : Int32).toNatClampNeg (-1)))) := ⟨_, rfl⟩
                refine ms_W.heq eG_97 ?_
                have hf_98 := (congrFun eG_97 o).trans ((ms_up_n G_93 _ (by omega)).trans hf_94)
                have hf_99 := (congrFun eG_97 wa).trans ((ms_up_n G_93 _ (by omega)).trans hf_95)
                have hf_100 : G_97 n8 = some (.inl (0, 9, .inl (upd (upd (upd (upd (upd (upd (upd (upd (upd (fun _ => 0) (0 : Int32).toNatClampNeg (nI v1)) (1 : Int32).toNatClampNeg (nI (1 + v3))) (2 : Int32).toNatClampNeg (nI v5)) (3 : Int32).toNatClampNeg (nI v6)) (4 : Int32).toNatClampNeg (nI v7)) (5 : Int32).toNatClampNeg 4) (6 : Int32).toNatClampNeg 0) (7 : Int32).toNatClampNeg 0) (8 : Int32).toNatClampNeg (-1)))) := by rw [eG_97]; exact ms_up_s _ _ _
                refine ms_run (pc' := 200) (lv' := [(8, .ref n8), (7, .int (nI cnt)), (6, .int 1), (5, .int (nI v7)), (4, .int (nI v6)), (3, .int (nI v5)), (2, .int (nI (1 + v3))), (1, .int (nI v1)), (0, .ref o)]) (st' := [.ref o]) _ (ms_deC dX6_add_197 (ms_deC dX6_add_199 ms_deN)) rfl rfl ?_
                refine ms_getf dX6_add_200 fg_X6_36 hf_98 rfl ?_
                refine ms_alen (kd := 4) (v := nI cnt) (ty := fun c => (c, .array .int)) dX6_add_203 hf_99 (by decide) rfl ?_
                refine ms_run (pc' := 206) (lv' := [(8, .ref n8), (7, .int (nI cnt)), (6, .int 1), (5, .int (nI v7)), (4, .int (nI v6)), (3, .int (nI v5)), (2, .int (nI (1 + v3))), (1, .int (nI v1)), (0, .ref o)]) (st' := [.int ((nI cnt) + 1)]) _ (ms_deC dX6_add_204 (ms_deC dX6_add_205 ms_deN)) rfl rfl ?_
                rw [nI_1 cnt]
                refine ms_W.room (k2 := 1 + 0) (z2 := cnt + 1 + 0) ?_ (by omega) (by omega)
                refine ms_newA (N := cnt + 1) dX6_add_206 al_X6_34 (nI_pos (by omega)) (nI_clamp (by omega)) (by omega) ?_
                obtain ⟨G_101, eG_101⟩ : ∃ K9 : ms_H, K9 = ms_up G_97 (n8 + 1) (.inl (4, (cnt + 1), .inr (.inr (.inr (.inr (fun _ => none)))))) := ⟨_, rfl⟩
                refine ms_W.heq eG_101 ?_
                have hf_102 := (congrFun eG_101 o).trans ((ms_up_n G_97 _ (by omega)).trans hf_98)
                have hf_103 := (congrFun eG_101 wa).trans ((ms_up_n G_97 _ (by omega)).trans hf_99)
                have hf_104 := (congrFun eG_101 n8).trans ((ms_up_n G_97 _ (by omega)).trans hf_100)
                have hf_105 : G_101 (n8 + 1) = some (.inl (4, (cnt + 1), .inr (.inr (.inr (.inr (fun _ => none)))))) := by rw [eG_101]; exact ms_up_s _ _ _
                refine ms_run (pc' := 212) (lv' := [(9, .ref (n8 + 1)), (8, .ref n8), (7, .int (nI cnt)), (6, .int 1), (5, .int (nI v7)), (4, .int (nI v6)), (3, .int (nI v5)), (2, .int (nI (1 + v3))), (1, .int (nI v1)), (0, .ref o)]) (st' := [.ref o]) _ (ms_deC dX6_add_209 (ms_deC dX6_add_211 ms_deN)) rfl rfl ?_
                refine ms_getf dX6_add_212 fg_X6_36 hf_102 rfl ?_
                refine ms_run (pc' := 220) (lv' := [(9, .ref (n8 + 1)), (8, .ref n8), (7, .int (nI cnt)), (6, .int 1), (5, .int (nI v7)), (4, .int (nI v6)), (3, .int (nI v5)), (2, .int (nI (1 + v3))), (1, .int (nI v1)), (0, .ref o)]) (st' := [.ref o, .int 0, .ref (n8 + 1), .int 0, .ref wa]) _ (ms_deC dX6_add_215 (ms_deC dX6_add_216 (ms_deC dX6_add_218 (ms_deC dX6_add_219 ms_deN)))) rfl rfl ?_
                refine ms_getf dX6_add_220 fg_X6_36 hf_102 rfl ?_
                refine ms_alen (kd := 4) (v := nI cnt) (ty := fun c => (c, .array .int)) dX6_add_223 hf_103 (by decide) rfl ?_
                have hold : ∀ a, a < n8 → G_101 a = K8 a := fun a ha => (congrFun eG_101 a).trans ((ms_up_n _ _ (by omega)).trans ((congrFun eG_97 a).trans ((ms_up_n _ _ (by omega)).trans ((congrFun eG_93 a).trans ((ms_up_n _ _ (by omega)).trans ((congrFun eG_89 a).trans ((ms_up_n _ _ (by omega)).trans ((congrFun eG_85 a).trans ((ms_up_n _ _ (by omega)).trans ((congrFun eG_81 a).trans ((ms_up_n _ _ (by omega)).trans ((congrFun eG_77 a).trans ((ms_up_n _ _ (by omega)).trans ((congrFun eG_73 a).trans ((ms_up_n _ _ (by omega)).trans ((congrFun eG_69 a).trans ((ms_up_n _ _ (by omega)).trans ((congrFun eG_65 a).trans ((ms_up_n _ _ (by omega)).trans ((congrFun eG_61 a).trans ((ms_up_n _ _ (by omega)).trans (rfl))))))))))))))))))))))
                refine ms_copyA dX6_add_224 ac_X6_99 hf_103 hf_105 (by decide) (by decide) (nI_pos (by omega)) (by rw [nI_clamp (by omega)]; exact Nat.le_of_eq (Nat.zero_add _)) (by rw [nI_clamp (by omega)]; show 0 + cnt ≤ cnt + 1; omega) (fun i hi y hy => by
                    rw [nI_clamp (by omega)] at hi
                    rw [show (0 : Int32).toNatClampNeg + i = i from Nat.zero_add i, hfw i hi] at hy
                    cases hy
                    obtain ⟨r9, -, b9⟩ := hrw i hi
                    exact ⟨9, r9, (hold _ (by have := l4 i hi; omega)).trans b9⟩) ⟨Nat.le_of_ble_eq_true rfl, (show 8 + (nativeFrameWords "java/lang/System" "arraycopy" 5 + 11) ≤ m_X6_add.2.2.2.2.2.1 from by decide +kernel)⟩ (Nat.le_of_ble_eq_true rfl) ?_
                rw [nI_clamp (n := cnt) (by omega)]
                obtain ⟨G_106, eG_106⟩ : ∃ K9 : ms_H, K9 = ms_up G_101 (n8 + 1) (.inl (4, (cnt + 1), .inr (.inr (.inr (.inr (va_cpy fw (fun _ => none) (0 : Int32).toNatClampNeg (0 : Int32).toNatClampNeg cnt)))))) := ⟨_, rfl⟩
                refine ms_W.heq eG_106 ?_
                have hf_107 := (congrFun eG_106 o).trans ((ms_up_n G_101 _ (by omega)).trans hf_102)
                have hf_108 := (congrFun eG_106 wa).trans ((ms_up_n G_101 _ (by omega)).trans hf_103)
                have hf_109 := (congrFun eG_106 n8).trans ((ms_up_n G_101 _ (by omega)).trans hf_104)
                have hf_110 : G_106 (n8 + 1) = some (.inl (4, (cnt + 1), .inr (.inr (.inr (.inr (va_cpy fw (fun _ => none) (0 : Int32).toNatClampNeg (0 : Int32).toNatClampNeg cnt)))))) := by rw [eG_106]; exact ms_up_s _ _ _
                refine ms_run (pc' := 230) (lv' := [(9, .ref (n8 + 1)), (8, .ref n8), (7, .int (nI cnt)), (6, .int 1), (5, .int (nI v7)), (4, .int (nI v6)), (3, .int (nI v5)), (2, .int (nI (1 + v3))), (1, .int (nI v1)), (0, .ref o)]) (st' := [.ref o, .ref (n8 + 1)]) _ (ms_deC dX6_add_227 (ms_deC dX6_add_229 ms_deN)) rfl rfl ?_
                refine ms_getf dX6_add_230 fg_X6_36 hf_107 rfl ?_
                refine ms_alen (kd := 4) (v := nI cnt) (ty := fun c => (c, .array .int)) dX6_add_233 hf_108 (by decide) rfl ?_
                refine ms_run (pc' := 236) (lv' := [(9, .ref (n8 + 1)), (8, .ref n8), (7, .int (nI cnt)), (6, .int 1), (5, .int (nI v7)), (4, .int (nI v6)), (3, .int (nI v5)), (2, .int (nI (1 + v3))), (1, .int (nI v1)), (0, .ref o)]) (st' := [.ref n8, .int (nI cnt), .ref (n8 + 1)]) _ (ms_deC dX6_add_234 ms_deN) rfl rfl ?_
                refine ms_aastoreA dX6_add_236 hf_110 hf_109 (vp_in_nI (n := cnt) (by omega) (by omega)) ?_
                rw [nI_clamp (n := cnt) (by omega)]
                obtain ⟨G_111, eG_111⟩ : ∃ K9 : ms_H, K9 = ms_up G_106 (n8 + 1) (.inl (4, (cnt + 1), .inr (.inr (.inr (.inr (va_up (va_cpy fw (fun _ => none) (0 : Int32).toNatClampNeg (0 : Int32).toNatClampNeg cnt) cnt (some n8))))))) := ⟨_, rfl⟩
                refine ms_W.heq eG_111 ?_
                have hf_112 := (congrFun eG_111 o).trans ((ms_up_n G_106 _ (by omega)).trans hf_107)
                have hf_113 := (congrFun eG_111 wa).trans ((ms_up_n G_106 _ (by omega)).trans hf_108)
                have hf_114 := (congrFun eG_111 n8).trans ((ms_up_n G_106 _ (by omega)).trans hf_109)
                have hf_115 : G_111 (n8 + 1) = some (.inl (4, (cnt + 1), .inr (.inr (.inr (.inr (va_up (va_cpy fw (fun _ => none) (0 : Int32).toNatClampNeg (0 : Int32).toNatClampNeg cnt) cnt (some n8))))))) := by rw [eG_111]; exact ms_up_s _ _ _
                refine ms_run (pc' := 240) (lv' := [(9, .ref (n8 + 1)), (8, .ref n8), (7, .int (nI cnt)), (6, .int 1), (5, .int (nI v7)), (4, .int (nI v6)), (3, .int (nI v5)), (2, .int (nI (1 + v3))), (1, .int (nI v1)), (0, .ref o)]) (st' := [.ref (n8 + 1), .ref o]) _ (ms_deC dX6_add_237 (ms_deC dX6_add_238 ms_deN)) rfl rfl ?_
                refine ms_putf dX6_add_240 fp_X6_36 hf_112 (Nat.le_of_ble_eq_true rfl) rfl rfl ?_
                obtain ⟨G_116, eG_116⟩ : ∃ K9 : ms_H, K9 = ms_up G_111 o (.inr (6, [.ref x, .ref sb, .int (nI (d + 1 + 1 + 1 + 1 + 1 + 1 + 1)), .int (nI W), .int (nI H), .int X.2.2.2, .int dr, .int pa, .ref fa, .ref (n8 + 1)])) := ⟨_, rfl⟩
                refine ms_W.heq eG_116 ?_
                have hf_117 : G_116 o = some (.inr (6, [.ref x, .ref sb, .int (nI (d + 1 + 1 + 1 + 1 + 1 + 1 + 1)), .int (nI W), .int (nI H), .int X.2.2.2, .int dr, .int pa, .ref fa, .ref (n8 + 1)])) := by rw [eG_116]; exact ms_up_s _ _ _
                have hf_118 := (congrFun eG_116 wa).trans ((ms_up_n G_111 _ (by omega)).trans hf_113)
                have hf_119 := (congrFun eG_116 n8).trans ((ms_up_n G_111 _ (by omega)).trans hf_114)
                have hf_120 := (congrFun eG_116 (n8 + 1)).trans ((ms_up_n G_111 _ (by omega)).trans hf_115)
                refine ms_run (pc' := 246) (lv' := [(9, .ref (n8 + 1)), (8, .ref n8), (7, .int (nI cnt)), (6, .int 1), (5, .int (nI v7)), (4, .int (nI v6)), (3, .int (nI v5)), (2, .int (nI (1 + v3))), (1, .int (nI v1)), (0, .ref o)]) (st' := [.ref o, .int (nI cnt)]) _ (ms_deC dX6_add_243 (ms_deC dX6_add_245 ms_deN)) rfl rfl ?_
                refine ms_getf dX6_add_246 fg_X6_36 hf_117 rfl ?_
                refine ms_alen (kd := 4) (v := nI (cnt + 1)) (ty := fun c => (c, .array .int)) dX6_add_249 hf_120 (by decide) rfl ?_
                refine ms_run (pc' := 252) (lv' := [(9, .ref (n8 + 1)), (8, .ref n8), (7, .int (nI cnt)), (6, .int 1), (5, .int (nI v7)), (4, .int (nI v6)), (3, .int (nI v5)), (2, .int (nI (1 + v3))), (1, .int (nI v1)), (0, .ref o)]) (st' := [.int ((nI (cnt + 1)) - 1), .int (nI cnt)]) _ (ms_deC dX6_add_250 (ms_deC dX6_add_251 ms_deN)) rfl rfl ?_
                rw [nI_pred cnt]
                refine ms_icmp_ne (tgt := 259) dX6_add_252 (by decide) (fun h_252 => ?_) (fun h_252 => ?_)
                · skip
                  exact absurd rfl h_252
                · skip
                  refine ms_run (pc' := 256) (lv' := [(9, .ref (n8 + 1)), (8, .ref n8), (7, .int (nI cnt)), (6, .int 1), (5, .int (nI v7)), (4, .int (nI v6)), (3, .int (nI v5)), (2, .int (nI (1 + v3))), (1, .int (nI v1)), (0, .ref o)]) (st' := [.int 1]) _ (ms_deC dX6_add_255 ms_deN) rfl rfl ?_
                  refine ms_goto (tgt := 260) dX6_add_256 (by decide) ?_
                  refine ms_reti (st := []) (ty := .boolean) dX6_add_260 rfl rfl ?_
                  have hfin : ∀ a, a < n8 → ¬ a = o → G_116 a = K8 a := fun a ha ha2 => (congrFun eG_116 a).trans ((ms_up_n _ _ (by omega)).trans ((congrFun eG_111 a).trans ((ms_up_n _ _ (by omega)).trans ((congrFun eG_106 a).trans ((ms_up_n _ _ (by omega)).trans ((congrFun eG_101 a).trans ((ms_up_n _ _ (by omega)).trans ((congrFun eG_97 a).trans ((ms_up_n _ _ (by omega)).trans ((congrFun eG_93 a).trans ((ms_up_n _ _ (by omega)).trans ((congrFun eG_89 a).trans ((ms_up_n _ _ (by omega)).trans ((congrFun eG_85 a).trans ((ms_up_n _ _ (by omega)).trans ((congrFun eG_81 a).trans ((ms_up_n _ _ (by omega)).trans ((congrFun eG_77 a).trans ((ms_up_n _ _ (by omega)).trans ((congrFun eG_73 a).trans ((ms_up_n _ _ (by omega)).trans ((congrFun eG_69 a).trans ((ms_up_n _ _ (by omega)).trans ((congrFun eG_65 a).trans ((ms_up_n _ _ (by omega)).trans ((congrFun eG_61 a).trans ((ms_up_n _ _ (by omega)).trans (rfl))))))))))))))))))))))))))))
                  have hmd := fd_mod (y := v7) hv6
                  refine ⟨rfl, by omega, d + 1 + 1 + 1 + 1 + 1 + 1 + 1, t, by omega, by omega, Nat.le_refl t, by omega, W, H, cnt + 1, fa, (n8 + 1), dr, pa, (adX cnt X (nI v1) (nI (1 + v3)) (nI v5) (nI (v7 * W + v6))), nr, wl, mk, ds, va_up wr cnt n8, fv, hX8.cx ho (fun a h1 h2 => hfin a (by omega) (by omega)), ⟨hf_117, hM8.2.1.fr (fun a h1 h2 => hfin a (by omega) (by omega)) hW0, ⟨⟨_, fun k hk => ?_, hf_120⟩, fun k hk => ?_, fun i k hi hk e => ?_⟩⟩, ⟨by omega, by omega, by omega, fun k hk => ?_⟩, ⟨by omega, by omega, fun k hk => ?_⟩, hcf, hK.add (by omega) (by omega) (by omega) ⟨nI_pos' (by omega), show nI v5 ≤ nI 9 from nI_le (by omega) (by omega)⟩ hf9 h_91 hmk (Decidable.not_not.mp hc_116)⟩
                  · by_cases ek : k = cnt
                    · subst ek
                      exact (show va_up _ k _ k = _ from if_pos rfl).trans (congrArg some (show va_up wr k _ k = _ from if_pos rfl).symm)
                    · refine (show va_up _ cnt _ k = _ from if_neg ek).trans ((show va_cpy fw (fun _ => none) 0 0 cnt k = fw k from ?_).trans ((hfw k (by omega)).trans (congrArg some (show va_up wr cnt _ k = _ from if_neg ek).symm)))
                      unfold va_cpy
                      rw [if_pos (by omega)]
                      exact congrArg fw (by omega)
                  · by_cases ek : k = cnt
                    · subst ek
                      rw [show va_up wr k n8 k = n8 from if_pos rfl]
                      refine ⟨_, fun c hc9 => ?_, hf_119⟩
                      rw [show (adX k X (nI v1) (nI (1 + v3)) (nI v5) (nI (v7 * W + v6))).1 k = wk_come (X.1 k) (nI v1) (nI (1 + v3)) (nI v5) (nI (v7 * W + v6)) from if_pos rfl]
                      have h5 := wv_new (W := W) (t := (v7 * W + v6)) (u := X.1 k) (g := nI v1) (p := nI (1 + v3)) (m := nI v5) (by omega) c hc9
                      rw [hmd.1, hmd.2] at h5
                      exact h5
                    · obtain ⟨r9, a9, b9⟩ := hrw k (by omega)
                      rw [show va_up wr cnt n8 k = wr k from if_neg ek]
                      have hlk := l4 k (by omega)
                      have hyk := y3 k (by omega)
                      refine ⟨r9, fun c hc9 => ?_, (hfin _ (by omega) (by omega)).trans b9⟩
                      rw [show (adX cnt X (nI v1) (nI (1 + v3)) (nI v5) (nI (v7 * W + v6))).1 k = X.1 k from if_neg ek]
                      exact a9 c hc9
                  · unfold va_up at e
                    by_cases e1 : i = cnt
                    · by_cases e2 : k = cnt
                      · omega
                      · rw [if_pos e1, if_neg e2] at e
                        have := l4 k (by omega)
                        omega
                    · by_cases e2 : k = cnt
                      · rw [if_neg e1, if_pos e2] at e
                        have := l4 i (by omega)
                        omega
                      · rw [if_neg e1, if_neg e2] at e
                        exact hiw i k (by omega) (by omega) e
                  · unfold va_up
                    split
                    · omega
                    · have := l4 k (by omega)
                      omega
                  · unfold va_up
                    split
                    · omega
                    · exact y3 k (by omega)
              · skip
                exact absurd ((xq_P.thw hp9).1.symm.trans hth8) (fun z => by cases z)
  · skip
    refine ms_run (pc' := 17) (lv' := [(1, .int (nI v1)), (0, .ref o)]) (st' := [.int 1, .ref o, .int 1]) _ (ms_deC dX6_add_16 ms_deN) rfl rfl ?_
    refine ms_goto (tgt := 21) dX6_add_17 (by decide) ?_
    refine ms_callV0 (As := [.int 1]) dX6_add_21 (c_X6_draw (n := n) (L := L) (xs := xs) (d := (d + 1 + 1)) (N := 1) hM2.O (by omega) hLb (by omega) (by omega)) cv_X6_56 hM2.O rfl ⟨Nat.le_of_ble_eq_true rfl, Nat.le_of_ble_eq_true rfl⟩ rfl (Nat.le_of_ble_eq_true rfl) (fun v9 n9 K3 hp9 => ?_)
    obtain ⟨v3, hv3, hr9, hnn9, eK3⟩ := hp9
    cases hr9
    rw [hnn9]
    have hM3 : fk_at K3 o x sb (nI (d + 1 + 1 + 1)) W H X.2.2.2 dr pa fa wa cnt wr fv X.1 := by rw [eK3]; exact hM2.ob ly hW0
    have hX3 : xs_at K3 x g q c j q2 c2 W H nr wl mk ds cnt dr pa X := hX2.cx ho (fun a h1 h2 => by rw [eK3]; exact ms_up_n _ _ (by omega))
    refine ms_run (pc' := 26) (lv' := [(2, .int (1 + (nI v3))), (1, .int (nI v1)), (0, .ref o)]) (st' := []) _ (ms_deC dX6_add_24 (ms_deC dX6_add_25 ms_deN)) rfl rfl ?_
    rw [show (1 : Int32) + nI v3 = nI (1 + v3) from nI_add 1 v3]
    refine ms_run (pc' := 28) (lv' := [(2, .int (nI (1 + v3))), (1, .int (nI v1)), (0, .ref o)]) (st' := [.int 2, .ref o]) _ (ms_deC dX6_add_26 (ms_deC dX6_add_27 ms_deN)) rfl rfl ?_
    refine ms_callV0 (As := [.int 2]) dX6_add_28 (c_X6_draw (n := n) (L := L) (xs := xs) (d := (d + 1 + 1 + 1)) (N := 2) hM3.O (by omega) hLb (by omega) (by omega)) cv_X6_56 hM3.O rfl ⟨Nat.le_of_ble_eq_true rfl, Nat.le_of_ble_eq_true rfl⟩ rfl (Nat.le_of_ble_eq_true rfl) (fun v9 n9 K4 hp9 => ?_)
    obtain ⟨v4, hv4, hr9, hnn9, eK4⟩ := hp9
    cases hr9
    rw [hnn9]
    have hM4 : fk_at K4 o x sb (nI (d + 1 + 1 + 1 + 1)) W H X.2.2.2 dr pa fa wa cnt wr fv X.1 := by rw [eK4]; exact hM3.ob ly hW0
    have hX4 : xs_at K4 x g q c j q2 c2 W H nr wl mk ds cnt dr pa X := hX3.cx ho (fun a h1 h2 => by rw [eK4]; exact ms_up_n _ _ (by omega))
    refine ms_if_ne (tgt := 43) dX6_add_31 (by decide) (fun h_31 => ?_) (fun h_31 => ?_)
    · skip
      refine ms_run (pc' := 45) (lv' := [(2, .int (nI (1 + v3))), (1, .int (nI v1)), (0, .ref o)]) (st' := [.int 3, .ref o]) _ (ms_deC dX6_add_43 (ms_deC dX6_add_44 ms_deN)) rfl rfl ?_
      refine ms_callV0 (As := [.int 3]) dX6_add_45 (c_X6_draw (n := n) (L := L) (xs := xs) (d := (d + 1 + 1 + 1 + 1)) (N := 3) hM4.O (by omega) hLb (by omega) (by omega)) cv_X6_56 hM4.O rfl ⟨Nat.le_of_ble_eq_true rfl, Nat.le_of_ble_eq_true rfl⟩ rfl (Nat.le_of_ble_eq_true rfl) (fun v9 n9 K5 hp9 => ?_)
      obtain ⟨v5, hv5, hr9, hnn9, eK5⟩ := hp9
      cases hr9
      rw [hnn9]
      have hM5 : fk_at K5 o x sb (nI (d + 1 + 1 + 1 + 1 + 1)) W H X.2.2.2 dr pa fa wa cnt wr fv X.1 := by rw [eK5]; exact hM4.ob ly hW0
      have hX5 : xs_at K5 x g q c j q2 c2 W H nr wl mk ds cnt dr pa X := hX4.cx ho (fun a h1 h2 => by rw [eK5]; exact ms_up_n _ _ (by omega))
      refine ms_run (pc' := 51) (lv' := [(3, .int (nI v5)), (2, .int (nI (1 + v3))), (1, .int (nI v1)), (0, .ref o)]) (st' := [.ref o, .ref o]) _ (ms_deC dX6_add_48 (ms_deC dX6_add_49 (ms_deC dX6_add_50 ms_deN))) rfl rfl ?_
      refine ms_getf dX6_add_51 fg_X6_16 hM5.O rfl ?_
      refine ms_callV0 (As := [.int (nI W)]) dX6_add_54 (c_X6_draw (n := n) (L := L) (xs := xs) (d := (d + 1 + 1 + 1 + 1 + 1)) (N := W) hM5.O (by omega) hLb (by omega) (by omega)) cv_X6_56 hM5.O rfl ⟨Nat.le_of_ble_eq_true rfl, Nat.le_of_ble_eq_true rfl⟩ rfl (Nat.le_of_ble_eq_true rfl) (fun v9 n9 K6 hp9 => ?_)
      obtain ⟨v6, hv6, hr9, hnn9, eK6⟩ := hp9
      cases hr9
      rw [hnn9]
      have hM6 : fk_at K6 o x sb (nI (d + 1 + 1 + 1 + 1 + 1 + 1)) W H X.2.2.2 dr pa fa wa cnt wr fv X.1 := by rw [eK6]; exact hM5.ob ly hW0
      have hX6 : xs_at K6 x g q c j q2 c2 W H nr wl mk ds cnt dr pa X := hX5.cx ho (fun a h1 h2 => by rw [eK6]; exact ms_up_n _ _ (by omega))
      refine ms_run (pc' := 61) (lv' := [(4, .int (nI v6)), (3, .int (nI v5)), (2, .int (nI (1 + v3))), (1, .int (nI v1)), (0, .ref o)]) (st' := [.ref o, .ref o]) _ (ms_deC dX6_add_57 (ms_deC dX6_add_59 (ms_deC dX6_add_60 ms_deN))) rfl rfl ?_
      refine ms_getf dX6_add_61 fg_X6_20 hM6.O rfl ?_
      refine ms_callV0 (As := [.int (nI H)]) dX6_add_64 (c_X6_draw (n := n) (L := L) (xs := xs) (d := (d + 1 + 1 + 1 + 1 + 1 + 1)) (N := H) hM6.O (by omega) hLb (by omega) (by omega)) cv_X6_56 hM6.O rfl ⟨Nat.le_of_ble_eq_true rfl, Nat.le_of_ble_eq_true rfl⟩ rfl (Nat.le_of_ble_eq_true rfl) (fun v9 n9 K7 hp9 => ?_)
      obtain ⟨v7, hv7, hr9, hnn9, eK7⟩ := hp9
      cases hr9
      rw [hnn9]
      have hM7 : fk_at K7 o x sb (nI (d + 1 + 1 + 1 + 1 + 1 + 1 + 1)) W H X.2.2.2 dr pa fa wa cnt wr fv X.1 := by rw [eK7]; exact hM6.ob ly hW0
      have hX7 : xs_at K7 x g q c j q2 c2 W H nr wl mk ds cnt dr pa X := hX6.cx ho (fun a h1 h2 => by rw [eK7]; exact ms_up_n _ _ (by omega))
      refine ms_run (pc' := 69) (lv' := [(5, .int (nI v7)), (4, .int (nI v6)), (3, .int (nI v5)), (2, .int (nI (1 + v3))), (1, .int (nI v1)), (0, .ref o)]) (st' := []) _ (ms_deC dX6_add_67 ms_deN) rfl rfl ?_
      have hf9 := fij hv6 hv7
      refine ms_run (pc' := 70) (lv' := [(5, .int (nI v7)), (4, .int (nI v6)), (3, .int (nI v5)), (2, .int (nI (1 + v3))), (1, .int (nI v1)), (0, .ref o)]) (st' := [.ref o]) _ (ms_deC dX6_add_69 ms_deN) rfl rfl ?_
      refine ms_getf dX6_add_70 fg_X6_36 hM7.O rfl ?_
      refine fk_len dX6_add_73 hM7.2.2 ?_
      refine ms_run (pc' := 76) (lv' := [(5, .int (nI v7)), (4, .int (nI v6)), (3, .int (nI v5)), (2, .int (nI (1 + v3))), (1, .int (nI v1)), (0, .ref o)]) (st' := [.int 24, .int (nI cnt)]) _ (ms_deC dX6_add_74 ms_deN) rfl rfl ?_
      refine ms_icmp_ge (tgt := 126) dX6_add_76 (by decide) (fun h_76 => ?_) (fun h_76 => ?_)
      · skip
        have hfull : 24 ≤ cnt := (nI_leI (a := 24) (by omega) (by omega)).mp h_76
        refine ms_run (pc' := 130) (lv' := [(6, .int 0), (5, .int (nI v7)), (4, .int (nI v6)), (3, .int (nI v5)), (2, .int (nI (1 + v3))), (1, .int (nI v1)), (0, .ref o)]) (st' := [.ref o]) _ (ms_deC dX6_add_126 (ms_deC dX6_add_127 (ms_deC dX6_add_129 ms_deN))) rfl rfl ?_
        refine ms_getf dX6_add_130 fg_X6_10 hM7.O rfl ?_
        refine ms_run (pc' := 140) (lv' := [(6, .int 0), (5, .int (nI v7)), (4, .int (nI v6)), (3, .int (nI v5)), (2, .int (nI (1 + v3))), (1, .int (nI v1)), (0, .ref o)]) (st' := [.int (nI v7), .int (nI v6), .int (nI v5), .int (nI (1 + v3)), .int (nI v1), .ref x]) _ (ms_deC dX6_add_133 (ms_deC dX6_add_134 (ms_deC dX6_add_135 (ms_deC dX6_add_136 (ms_deC dX6_add_138 ms_deN))))) rfl rfl ?_
        have hthi := th_wlk_i (wl := wl) (mk := mk) (on := X.2.2.1) hW hH hc (g := v1) (p := 1 + v3) (m := v5) (by omega) (by omega) (by omega) hv6 hv7
        have hct := c_X5_walker (n := n) ho hX7 (nI v1) (nI (1 + v3)) (nI v5) (nI v6) (nI v7) hc
        rw [gr_num_n hW hH hv6 hv7] at hct
        refine ms_W.room (k2 := 1 + 2) (z2 := 6 + 33) ?_ (by omega) (by omega)
        have hth8 : th_wlk W H wl mk cnt X.2.2.1 (nI v1) (nI (1 + v3)) (nI v5) (nI v6) (nI v7) = some ISE := hthi.trans (if_pos (by first | exact Or.inl hfull | exact Or.inr (Or.inl h_91) | exact Or.inr (Or.inr (Or.inl hmk)) | exact Or.inr (Or.inr (Or.inr hc_116))))
        refine ms_callVX (As := [.int (nI v1), .int (nI (1 + v3)), .int (nI v5), .int (nI v6), .int (nI v7)]) dX6_add_140 (hct) cv_X6_95 hX7.1 rfl ⟨Nat.le_of_ble_eq_true rfl, Nat.le_of_ble_eq_true rfl⟩ rfl (Nat.le_of_ble_eq_true rfl) (fun v9 n8 K8 hp9 => ?_) (fun E9 n8 K8 q9 hp9 => ?_)
        · skip
          exact absurd ((xq_P.val hp9).1.symm.trans hth8) (fun z => by cases z)
        · skip
          obtain ⟨he9, rfl, hn8⟩ := xq_P.thw hp9
          rw [hth8] at he9
          cases he9
          refine ⟨261, hd_X6_add_140, ?_⟩
          refine ms_run (pc' := 265) (lv' := [(7, .ref q9), (6, .int 0), (5, .int (nI v7)), (4, .int (nI v6)), (3, .int (nI v5)), (2, .int (nI (1 + v3))), (1, .int (nI v1)), (0, .ref o)]) (st' := [.int 0]) _ (ms_deC dX6_add_261 (ms_deC dX6_add_263 ms_deN)) rfl rfl ?_
          refine ms_if_ne (tgt := 272) dX6_add_265 (by decide) (fun h9 => absurd h9 (by decide)) (fun _ => ?_)
          refine ms_run (pc' := 269) (lv' := [(7, .ref q9), (6, .int 0), (5, .int (nI v7)), (4, .int (nI v6)), (3, .int (nI v5)), (2, .int (nI (1 + v3))), (1, .int (nI v1)), (0, .ref o)]) (st' := [.int 1]) _ (ms_deC dX6_add_268 ms_deN) rfl rfl ?_
          refine ms_goto (tgt := 273) dX6_add_269 (by decide) ?_
          refine ms_reti (st := []) (ty := .boolean) dX6_add_273 rfl rfl ?_
          exact ⟨rfl, by omega, d + 1 + 1 + 1 + 1 + 1 + 1 + 1, t, by omega, by omega, Nat.le_refl t, by omega, W, H, cnt, fa, wa, dr, pa, X, nr, wl, mk, ds, wr, fv, hX7, hM7, fl.le (by omega), ly, hcf, hK⟩
      · skip
        have hroom : ¬ 24 ≤ cnt := fun z => h_76 (show nI 24 ≤ nI cnt from nI_le z (by omega))
        refine ms_run (pc' := 80) (lv' := [(5, .int (nI v7)), (4, .int (nI v6)), (3, .int (nI v5)), (2, .int (nI (1 + v3))), (1, .int (nI v1)), (0, .ref o)]) (st' := [.ref o]) _ (ms_deC dX6_add_79 ms_deN) rfl rfl ?_
        refine ms_getf dX6_add_80 fg_X6_31 hM7.O rfl ?_
        refine ms_run (pc' := 85) (lv' := [(5, .int (nI v7)), (4, .int (nI v6)), (3, .int (nI v5)), (2, .int (nI (1 + v3))), (1, .int (nI v1)), (0, .ref o)]) (st' := [.int (nI v6), .ref fa]) _ (ms_deC dX6_add_83 ms_deN) rfl rfl ?_
        refine fk_ldA (i := v6) dX6_add_85 hM7.2.1 hv6 hW ?_
        refine ms_run (pc' := 88) (lv' := [(5, .int (nI v7)), (4, .int (nI v6)), (3, .int (nI v5)), (2, .int (nI (1 + v3))), (1, .int (nI v1)), (0, .ref o)]) (st' := [.int (nI v7), .ref (mn_ad fa H v6)]) _ (ms_deC dX6_add_86 ms_deN) rfl rfl ?_
        refine fk_ldB (j := v7) dX6_add_88 hM7.2.1 hv6 hv7 hH ?_
        refine ms_run (pc' := 90) (lv' := [(5, .int (nI v7)), (4, .int (nI v6)), (3, .int (nI v5)), (2, .int (nI (1 + v3))), (1, .int (nI v1)), (0, .ref o)]) (st' := [.int 0, .ref (mn_ad fa H v6 + 1 + v7)]) _ (ms_deC dX6_add_89 ms_deN) rfl rfl ?_
        refine fk_ldC (c := 0) dX6_add_90 hM7.2.1 hv6 hv7 (by decide) rfl ?_
        rw [(hfv (v7 * W + v6) hf9).1]
        refine ms_if_ne (tgt := 126) dX6_add_91 (by decide) (fun h_91 => ?_) (fun h_91 => ?_)
        · skip
          refine ms_run (pc' := 130) (lv' := [(6, .int 0), (5, .int (nI v7)), (4, .int (nI v6)), (3, .int (nI v5)), (2, .int (nI (1 + v3))), (1, .int (nI v1)), (0, .ref o)]) (st' := [.ref o]) _ (ms_deC dX6_add_126 (ms_deC dX6_add_127 (ms_deC dX6_add_129 ms_deN))) rfl rfl ?_
          refine ms_getf dX6_add_130 fg_X6_10 hM7.O rfl ?_
          refine ms_run (pc' := 140) (lv' := [(6, .int 0), (5, .int (nI v7)), (4, .int (nI v6)), (3, .int (nI v5)), (2, .int (nI (1 + v3))), (1, .int (nI v1)), (0, .ref o)]) (st' := [.int (nI v7), .int (nI v6), .int (nI v5), .int (nI (1 + v3)), .int (nI v1), .ref x]) _ (ms_deC dX6_add_133 (ms_deC dX6_add_134 (ms_deC dX6_add_135 (ms_deC dX6_add_136 (ms_deC dX6_add_138 ms_deN))))) rfl rfl ?_
          have hthi := th_wlk_i (wl := wl) (mk := mk) (on := X.2.2.1) hW hH hc (g := v1) (p := 1 + v3) (m := v5) (by omega) (by omega) (by omega) hv6 hv7
          have hct := c_X5_walker (n := n) ho hX7 (nI v1) (nI (1 + v3)) (nI v5) (nI v6) (nI v7) hc
          rw [gr_num_n hW hH hv6 hv7] at hct
          refine ms_W.room (k2 := 1 + 2) (z2 := 6 + 33) ?_ (by omega) (by omega)
          have hth8 : th_wlk W H wl mk cnt X.2.2.1 (nI v1) (nI (1 + v3)) (nI v5) (nI v6) (nI v7) = some ISE := hthi.trans (if_pos (by first | exact Or.inl hfull | exact Or.inr (Or.inl h_91) | exact Or.inr (Or.inr (Or.inl hmk)) | exact Or.inr (Or.inr (Or.inr hc_116))))
          refine ms_callVX (As := [.int (nI v1), .int (nI (1 + v3)), .int (nI v5), .int (nI v6), .int (nI v7)]) dX6_add_140 (hct) cv_X6_95 hX7.1 rfl ⟨Nat.le_of_ble_eq_true rfl, Nat.le_of_ble_eq_true rfl⟩ rfl (Nat.le_of_ble_eq_true rfl) (fun v9 n8 K8 hp9 => ?_) (fun E9 n8 K8 q9 hp9 => ?_)
          · skip
            exact absurd ((xq_P.val hp9).1.symm.trans hth8) (fun z => by cases z)
          · skip
            obtain ⟨he9, rfl, hn8⟩ := xq_P.thw hp9
            rw [hth8] at he9
            cases he9
            refine ⟨261, hd_X6_add_140, ?_⟩
            refine ms_run (pc' := 265) (lv' := [(7, .ref q9), (6, .int 0), (5, .int (nI v7)), (4, .int (nI v6)), (3, .int (nI v5)), (2, .int (nI (1 + v3))), (1, .int (nI v1)), (0, .ref o)]) (st' := [.int 0]) _ (ms_deC dX6_add_261 (ms_deC dX6_add_263 ms_deN)) rfl rfl ?_
            refine ms_if_ne (tgt := 272) dX6_add_265 (by decide) (fun h9 => absurd h9 (by decide)) (fun _ => ?_)
            refine ms_run (pc' := 269) (lv' := [(7, .ref q9), (6, .int 0), (5, .int (nI v7)), (4, .int (nI v6)), (3, .int (nI v5)), (2, .int (nI (1 + v3))), (1, .int (nI v1)), (0, .ref o)]) (st' := [.int 1]) _ (ms_deC dX6_add_268 ms_deN) rfl rfl ?_
            refine ms_goto (tgt := 273) dX6_add_269 (by decide) ?_
            refine ms_reti (st := []) (ty := .boolean) dX6_add_273 rfl rfl ?_
            exact ⟨rfl, by omega, d + 1 + 1 + 1 + 1 + 1 + 1 + 1, t, by omega, by omega, Nat.le_refl t, by omega, W, H, cnt, fa, wa, dr, pa, X, nr, wl, mk, ds, wr, fv, hX7, hM7, fl.le (by omega), ly, hcf, hK⟩
        · skip
          refine ms_run (pc' := 95) (lv' := [(5, .int (nI v7)), (4, .int (nI v6)), (3, .int (nI v5)), (2, .int (nI (1 + v3))), (1, .int (nI v1)), (0, .ref o)]) (st' := [.ref o]) _ (ms_deC dX6_add_94 ms_deN) rfl rfl ?_
          refine ms_getf dX6_add_95 fg_X6_31 hM7.O rfl ?_
          refine ms_run (pc' := 100) (lv' := [(5, .int (nI v7)), (4, .int (nI v6)), (3, .int (nI v5)), (2, .int (nI (1 + v3))), (1, .int (nI v1)), (0, .ref o)]) (st' := [.int (nI v6), .ref fa]) _ (ms_deC dX6_add_98 ms_deN) rfl rfl ?_
          refine fk_ldA (i := v6) dX6_add_100 hM7.2.1 hv6 hW ?_
          refine ms_run (pc' := 103) (lv' := [(5, .int (nI v7)), (4, .int (nI v6)), (3, .int (nI v5)), (2, .int (nI (1 + v3))), (1, .int (nI v1)), (0, .ref o)]) (st' := [.int (nI v7), .ref (mn_ad fa H v6)]) _ (ms_deC dX6_add_101 ms_deN) rfl rfl ?_
          refine fk_ldB (j := v7) dX6_add_103 hM7.2.1 hv6 hv7 hH ?_
          refine ms_run (pc' := 107) (lv' := [(5, .int (nI v7)), (4, .int (nI v6)), (3, .int (nI v5)), (2, .int (nI (1 + v3))), (1, .int (nI v1)), (0, .ref o)]) (st' := [.int (2 + (nI v1)), .ref (mn_ad fa H v6 + 1 + v7)]) _ (ms_deC dX6_add_104 (ms_deC dX6_add_105 (ms_deC dX6_add_106 ms_deN))) rfl rfl ?_
          refine fk_ldC (c := (2 + v1)) dX6_add_107 hM7.2.1 hv6 hv7 (by omega) (nI_add 2 v1) ?_
          rw [(hfv (v7 * W + v6) hf9).2 v1 (by omega)]
          refine ms_if_ne (tgt := 126) dX6_add_108 (by decide) (fun h_108 => ?_) (fun h_108 => ?_)
          · skip
            have hmk : ¬ mk (v7 * W + v6) &&& (1 <<< (nI v1 &&& 31)) = 0 := Decidable.byContradiction (fun z => h_108 (if_neg z))
            refine ms_run (pc' := 130) (lv' := [(6, .int 0), (5, .int (nI v7)), (4, .int (nI v6)), (3, .int (nI v5)), (2, .int (nI (1 + v3))), (1, .int (nI v1)), (0, .ref o)]) (st' := [.ref o]) _ (ms_deC dX6_add_126 (ms_deC dX6_add_127 (ms_deC dX6_add_129 ms_deN))) rfl rfl ?_
            refine ms_getf dX6_add_130 fg_X6_10 hM7.O rfl ?_
            refine ms_run (pc' := 140) (lv' := [(6, .int 0), (5, .int (nI v7)), (4, .int (nI v6)), (3, .int (nI v5)), (2, .int (nI (1 + v3))), (1, .int (nI v1)), (0, .ref o)]) (st' := [.int (nI v7), .int (nI v6), .int (nI v5), .int (nI (1 + v3)), .int (nI v1), .ref x]) _ (ms_deC dX6_add_133 (ms_deC dX6_add_134 (ms_deC dX6_add_135 (ms_deC dX6_add_136 (ms_deC dX6_add_138 ms_deN))))) rfl rfl ?_
            have hthi := th_wlk_i (wl := wl) (mk := mk) (on := X.2.2.1) hW hH hc (g := v1) (p := 1 + v3) (m := v5) (by omega) (by omega) (by omega) hv6 hv7
            have hct := c_X5_walker (n := n) ho hX7 (nI v1) (nI (1 + v3)) (nI v5) (nI v6) (nI v7) hc
            rw [gr_num_n hW hH hv6 hv7] at hct
            refine ms_W.room (k2 := 1 + 2) (z2 := 6 + 33) ?_ (by omega) (by omega)
            have hth8 : th_wlk W H wl mk cnt X.2.2.1 (nI v1) (nI (1 + v3)) (nI v5) (nI v6) (nI v7) = some ISE := hthi.trans (if_pos (by first | exact Or.inl hfull | exact Or.inr (Or.inl h_91) | exact Or.inr (Or.inr (Or.inl hmk)) | exact Or.inr (Or.inr (Or.inr hc_116))))
            refine ms_callVX (As := [.int (nI v1), .int (nI (1 + v3)), .int (nI v5), .int (nI v6), .int (nI v7)]) dX6_add_140 (hct) cv_X6_95 hX7.1 rfl ⟨Nat.le_of_ble_eq_true rfl, Nat.le_of_ble_eq_true rfl⟩ rfl (Nat.le_of_ble_eq_true rfl) (fun v9 n8 K8 hp9 => ?_) (fun E9 n8 K8 q9 hp9 => ?_)
            · skip
              exact absurd ((xq_P.val hp9).1.symm.trans hth8) (fun z => by cases z)
            · skip
              obtain ⟨he9, rfl, hn8⟩ := xq_P.thw hp9
              rw [hth8] at he9
              cases he9
              refine ⟨261, hd_X6_add_140, ?_⟩
              refine ms_run (pc' := 265) (lv' := [(7, .ref q9), (6, .int 0), (5, .int (nI v7)), (4, .int (nI v6)), (3, .int (nI v5)), (2, .int (nI (1 + v3))), (1, .int (nI v1)), (0, .ref o)]) (st' := [.int 0]) _ (ms_deC dX6_add_261 (ms_deC dX6_add_263 ms_deN)) rfl rfl ?_
              refine ms_if_ne (tgt := 272) dX6_add_265 (by decide) (fun h9 => absurd h9 (by decide)) (fun _ => ?_)
              refine ms_run (pc' := 269) (lv' := [(7, .ref q9), (6, .int 0), (5, .int (nI v7)), (4, .int (nI v6)), (3, .int (nI v5)), (2, .int (nI (1 + v3))), (1, .int (nI v1)), (0, .ref o)]) (st' := [.int 1]) _ (ms_deC dX6_add_268 ms_deN) rfl rfl ?_
              refine ms_goto (tgt := 273) dX6_add_269 (by decide) ?_
              refine ms_reti (st := []) (ty := .boolean) dX6_add_273 rfl rfl ?_
              exact ⟨rfl, by omega, d + 1 + 1 + 1 + 1 + 1 + 1 + 1, t, by omega, by omega, Nat.le_refl t, by omega, W, H, cnt, fa, wa, dr, pa, X, nr, wl, mk, ds, wr, fv, hX7, hM7, fl.le (by omega), ly, hcf, hK⟩
          · skip
            have hmk : mk (v7 * W + v6) &&& (1 <<< (nI v1 &&& 31)) = 0 := Decidable.byContradiction (fun z => by rw [show ms_b (¬ mk (v7 * W + v6) &&& (1 <<< (nI v1 &&& 31)) = 0) = 1 from if_pos z] at h_108; exact absurd h_108 (by decide))
            refine ms_run (pc' := 116) (lv' := [(5, .int (nI v7)), (4, .int (nI v6)), (3, .int (nI v5)), (2, .int (nI (1 + v3))), (1, .int (nI v1)), (0, .ref o)]) (st' := [.int (nI v7), .int (nI v6), .ref o]) _ (ms_deC dX6_add_111 (ms_deC dX6_add_112 (ms_deC dX6_add_114 ms_deN))) rfl rfl ?_
            refine ms_callVp (As := [.int (nI v6), .int (nI v7)]) dX6_add_116 (c_X6_isOn hM7 hW hH hc hV.1 hV.2.1 hv6 hv7) cv_X6_74 hM7.O rfl ⟨Nat.le_of_ble_eq_true rfl, Nat.le_of_ble_eq_true rfl⟩ rfl (Nat.le_of_ble_eq_true rfl) ?_
            by_cases hc_116 : ¬ X.2.2.1 (v7 * W + v6) = -1
            · rw [show ms_b (¬ X.2.2.1 (v7 * W + v6) = -1) = 1 from if_pos hc_116]
              refine ms_if_ne (tgt := 126) dX6_add_119 (by decide) (fun _ => ?_) (fun h9 => absurd h9 (by decide))
              refine ms_run (pc' := 130) (lv' := [(6, .int 0), (5, .int (nI v7)), (4, .int (nI v6)), (3, .int (nI v5)), (2, .int (nI (1 + v3))), (1, .int (nI v1)), (0, .ref o)]) (st' := [.ref o]) _ (ms_deC dX6_add_126 (ms_deC dX6_add_127 (ms_deC dX6_add_129 ms_deN))) rfl rfl ?_
              refine ms_getf dX6_add_130 fg_X6_10 hM7.O rfl ?_
              refine ms_run (pc' := 140) (lv' := [(6, .int 0), (5, .int (nI v7)), (4, .int (nI v6)), (3, .int (nI v5)), (2, .int (nI (1 + v3))), (1, .int (nI v1)), (0, .ref o)]) (st' := [.int (nI v7), .int (nI v6), .int (nI v5), .int (nI (1 + v3)), .int (nI v1), .ref x]) _ (ms_deC dX6_add_133 (ms_deC dX6_add_134 (ms_deC dX6_add_135 (ms_deC dX6_add_136 (ms_deC dX6_add_138 ms_deN))))) rfl rfl ?_
              have hthi := th_wlk_i (wl := wl) (mk := mk) (on := X.2.2.1) hW hH hc (g := v1) (p := 1 + v3) (m := v5) (by omega) (by omega) (by omega) hv6 hv7
              have hct := c_X5_walker (n := n) ho hX7 (nI v1) (nI (1 + v3)) (nI v5) (nI v6) (nI v7) hc
              rw [gr_num_n hW hH hv6 hv7] at hct
              refine ms_W.room (k2 := 1 + 2) (z2 := 6 + 33) ?_ (by omega) (by omega)
              have hth8 : th_wlk W H wl mk cnt X.2.2.1 (nI v1) (nI (1 + v3)) (nI v5) (nI v6) (nI v7) = some ISE := hthi.trans (if_pos (by first | exact Or.inl hfull | exact Or.inr (Or.inl h_91) | exact Or.inr (Or.inr (Or.inl hmk)) | exact Or.inr (Or.inr (Or.inr hc_116))))
              refine ms_callVX (As := [.int (nI v1), .int (nI (1 + v3)), .int (nI v5), .int (nI v6), .int (nI v7)]) dX6_add_140 (hct) cv_X6_95 hX7.1 rfl ⟨Nat.le_of_ble_eq_true rfl, Nat.le_of_ble_eq_true rfl⟩ rfl (Nat.le_of_ble_eq_true rfl) (fun v9 n8 K8 hp9 => ?_) (fun E9 n8 K8 q9 hp9 => ?_)
              · skip
                exact absurd ((xq_P.val hp9).1.symm.trans hth8) (fun z => by cases z)
              · skip
                obtain ⟨he9, rfl, hn8⟩ := xq_P.thw hp9
                rw [hth8] at he9
                cases he9
                refine ⟨261, hd_X6_add_140, ?_⟩
                refine ms_run (pc' := 265) (lv' := [(7, .ref q9), (6, .int 0), (5, .int (nI v7)), (4, .int (nI v6)), (3, .int (nI v5)), (2, .int (nI (1 + v3))), (1, .int (nI v1)), (0, .ref o)]) (st' := [.int 0]) _ (ms_deC dX6_add_261 (ms_deC dX6_add_263 ms_deN)) rfl rfl ?_
                refine ms_if_ne (tgt := 272) dX6_add_265 (by decide) (fun h9 => absurd h9 (by decide)) (fun _ => ?_)
                refine ms_run (pc' := 269) (lv' := [(7, .ref q9), (6, .int 0), (5, .int (nI v7)), (4, .int (nI v6)), (3, .int (nI v5)), (2, .int (nI (1 + v3))), (1, .int (nI v1)), (0, .ref o)]) (st' := [.int 1]) _ (ms_deC dX6_add_268 ms_deN) rfl rfl ?_
                refine ms_goto (tgt := 273) dX6_add_269 (by decide) ?_
                refine ms_reti (st := []) (ty := .boolean) dX6_add_273 rfl rfl ?_
                exact ⟨rfl, by omega, d + 1 + 1 + 1 + 1 + 1 + 1 + 1, t, by omega, by omega, Nat.le_refl t, by omega, W, H, cnt, fa, wa, dr, pa, X, nr, wl, mk, ds, wr, fv, hX7, hM7, fl.le (by omega), ly, hcf, hK⟩
            · rw [show ms_b (¬ X.2.2.1 (v7 * W + v6) = -1) = 0 from if_neg hc_116]
              refine ms_if_ne (tgt := 126) dX6_add_119 (by decide) (fun h9 => absurd h9 (by decide)) (fun _ => ?_)
              refine ms_run (pc' := 123) (lv' := [(5, .int (nI v7)), (4, .int (nI v6)), (3, .int (nI v5)), (2, .int (nI (1 + v3))), (1, .int (nI v1)), (0, .ref o)]) (st' := [.int 1]) _ (ms_deC dX6_add_122 ms_deN) rfl rfl ?_
              refine ms_goto (tgt := 127) dX6_add_123 (by decide) ?_
              refine ms_run (pc' := 130) (lv' := [(6, .int 1), (5, .int (nI v7)), (4, .int (nI v6)), (3, .int (nI v5)), (2, .int (nI (1 + v3))), (1, .int (nI v1)), (0, .ref o)]) (st' := [.ref o]) _ (ms_deC dX6_add_127 (ms_deC dX6_add_129 ms_deN)) rfl rfl ?_
              refine ms_getf dX6_add_130 fg_X6_10 hM7.O rfl ?_
              refine ms_run (pc' := 140) (lv' := [(6, .int 1), (5, .int (nI v7)), (4, .int (nI v6)), (3, .int (nI v5)), (2, .int (nI (1 + v3))), (1, .int (nI v1)), (0, .ref o)]) (st' := [.int (nI v7), .int (nI v6), .int (nI v5), .int (nI (1 + v3)), .int (nI v1), .ref x]) _ (ms_deC dX6_add_133 (ms_deC dX6_add_134 (ms_deC dX6_add_135 (ms_deC dX6_add_136 (ms_deC dX6_add_138 ms_deN))))) rfl rfl ?_
              have hthi := th_wlk_i (wl := wl) (mk := mk) (on := X.2.2.1) hW hH hc (g := v1) (p := 1 + v3) (m := v5) (by omega) (by omega) (by omega) hv6 hv7
              have hct := c_X5_walker (n := n) ho hX7 (nI v1) (nI (1 + v3)) (nI v5) (nI v6) (nI v7) hc
              rw [gr_num_n hW hH hv6 hv7] at hct
              refine ms_W.room (k2 := 1 + 2) (z2 := 6 + 33) ?_ (by omega) (by omega)
              have hth8 : th_wlk W H wl mk cnt X.2.2.1 (nI v1) (nI (1 + v3)) (nI v5) (nI v6) (nI v7) = none := hthi.trans (if_neg (fun z => by rcases z with z | z | z | z; exact hroom z; exact z h_91; exact z hmk; exact hc_116 z))
              refine ms_callVX (As := [.int (nI v1), .int (nI (1 + v3)), .int (nI v5), .int (nI v6), .int (nI v7)]) dX6_add_140 (hct) cv_X6_95 hX7.1 rfl ⟨Nat.le_of_ble_eq_true rfl, Nat.le_of_ble_eq_true rfl⟩ rfl (Nat.le_of_ble_eq_true rfl) (fun v9 n8 K8 hp9 => ?_) (fun E9 n8 K8 q9 hp9 => ?_)
              · skip
                obtain ⟨-, hv9, hQ8, hn8⟩ := xq_P.val hp9
                cases hv9
                obtain ⟨hX8, hF8⟩ := hQ8
                have hM8 : fk_at K8 o x sb (nI (d + 1 + 1 + 1 + 1 + 1 + 1 + 1)) W H X.2.2.2 dr pa fa wa cnt wr fv X.1 := hM7.cf (n := n) ly hW0 hox hcf hF8
                refine ms_run (pc' := 147) (lv' := [(7, .int (nI cnt)), (6, .int 1), (5, .int (nI v7)), (4, .int (nI v6)), (3, .int (nI v5)), (2, .int (nI (1 + v3))), (1, .int (nI v1)), (0, .ref o)]) (st' := [.int 1]) _ (ms_deC dX6_add_143 (ms_deC dX6_add_145 ms_deN)) rfl rfl ?_
                refine ms_if_ne (tgt := 152) dX6_add_147 (by decide) (fun _ => ?_) (fun h9 => absurd h9 (by decide))
                refine ms_run (pc' := 154) (lv' := [(7, .int (nI cnt)), (6, .int 1), (5, .int (nI v7)), (4, .int (nI v6)), (3, .int (nI v5)), (2, .int (nI (1 + v3))), (1, .int (nI v1)), (0, .ref o)]) (st' := [.int 9]) _ (ms_deC dX6_add_152 ms_deN) rfl rfl ?_
                obtain ⟨⟨fw, hfw, hgw⟩, hrw, hiw⟩ := hM8.2.2
                refine ms_W.room (k2 := 1 + 1) (z2 := 9 + 24) ?_ (by omega) (by omega)
                refine ms_newI (N := 9) dX6_add_154 aw_int (by decide) rfl (Nat.le_of_ble_eq_true rfl) ?_
                obtain ⟨G_121, eG_121⟩ : ∃ K9 : ms_H, K9 = ms_up K8 n8 (.inl (0, 9, .inl (fun _ => 0))) := ⟨_, rfl⟩
                refine ms_W.heq eG_121 ?_
                have hf_122 := (congrFun eG_121 o).trans ((ms_up_n K8 _ (by omega)).trans hM8.O)
                have hf_123 := (congrFun eG_121 wa).trans ((ms_up_n K8 _ (by omega)).trans hgw)
                have hf_124 : G_121 n8 = some (.inl (0, 9, .inl (fun _ => 0))) := by rw [eG_121]; exact ms_up_s _ _ _
                refine ms_run (pc' := 159) (lv' := [(7, .int (nI cnt)), (6, .int 1), (5, .int (nI v7)), (4, .int (nI v6)), (3, .int (nI v5)), (2, .int (nI (1 + v3))), (1, .int (nI v1)), (0, .ref o)]) (st' := [.int (nI v1), .int 0, .ref n8, .ref n8]) _ (ms_deC dX6_add_156 (ms_deC dX6_add_157 (ms_deC dX6_add_158 ms_deN))) rfl rfl ?_
                refine ms_iastore dX6_add_159 hf_124 (vp_in_nI (n := 0) (by omega) (by omega)) ?_
                obtain ⟨G_125, eG_125⟩ : ∃ K9 : ms_H, K9 = ms_up G_121 n8 (.inl (0, 9, .inl (upd (fun _ => 0) (0 : Int32).toNatClampNeg (nI v1)))) := ⟨_, rfl⟩
                refine ms_W.heq eG_125 ?_
                have hf_126 := (congrFun eG_125 o).trans ((ms_up_n G_121 _ (by omega)).trans hf_122)
                have hf_127 := (congrFun eG_125 wa).trans ((ms_up_n G_121 _ (by omega)).trans hf_123)
                have hf_128 : G_125 n8 = some (.inl (0, 9, .inl (upd (fun _ => 0) (0 : Int32).toNatClampNeg (nI v1)))) := by rw [eG_125]; exact ms_up_s _ _ _
                refine ms_run (pc' := 163) (lv' := [(7, .int (nI cnt)), (6, .int 1), (5, .int (nI v7)), (4, .int (nI v6)), (3, .int (nI v5)), (2, .int (nI (1 + v3))), (1, .int (nI v1)), (0, .ref o)]) (st' := [.int (nI (1 + v3)), .int 1, .ref n8, .ref n8]) _ (ms_deC dX6_add_160 (ms_deC dX6_add_161 (ms_deC dX6_add_162 ms_deN))) rfl rfl ?_
                refine ms_iastore dX6_add_163 hf_128 (vp_in_nI (n := 1) (by omega) (by omega)) ?_
                obtain ⟨G_129, eG_129⟩ : ∃ K9 : ms_H, K9 = ms_up G_125 n8 (.inl (0, 9, .inl (upd (upd (fun _ => 0) (0 : Int32).toNatClampNeg (nI v1)) (1 : Int32).toNatClampNeg (nI (1 + v3))))) := ⟨_, rfl⟩
                refine ms_W.heq eG_129 ?_
                have hf_130 := (congrFun eG_129 o).trans ((ms_up_n G_125 _ (by omega)).trans hf_126)
                have hf_131 := (congrFun eG_129 wa).trans ((ms_up_n G_125 _ (by omega)).trans hf_127)
                have hf_132 : G_129 n8 = some (.inl (0, 9, .inl (upd (upd (fun _ => 0) (0 : Int32).toNatClampNeg (nI v1)) (1 : Int32).toNatClampNeg (nI (1 + v3))))) := by rw [eG_129]; exact ms_up_s _ _ _
                refine ms_run (pc' := 167) (lv' := [(7, .int (nI cnt)), (6, .int 1), (5, .int (nI v7)), (4, .int (nI v6)), (3, .int (nI v5)), (2, .int (nI (1 + v3))), (1, .int (nI v1)), (0, .ref o)]) (st' := [.int (nI v5), .int 2, .ref n8, .ref n8]) _ (ms_deC dX6_add_164 (ms_deC dX6_add_165 (ms_deC dX6_add_166 ms_deN))) rfl rfl ?_
                refine ms_iastore dX6_add_167 hf_132 (vp_in_nI (n := 2) (by omega) (by omega)) ?_
                obtain ⟨G_133, eG_133⟩ : ∃ K9 : ms_H, K9 = ms_up G_129 n8 (.inl (0, 9, .inl (upd (upd (upd (fun _ => 0) (0 : Int32).toNatClampNeg (nI v1)) (1 : Int32).toNatClampNeg (nI (1 + v3))) (2 : Int32).toNatClampNeg (nI v5)))) := ⟨_, rfl⟩
                refine ms_W.heq eG_133 ?_
                have hf_134 := (congrFun eG_133 o).trans ((ms_up_n G_129 _ (by omega)).trans hf_130)
                have hf_135 := (congrFun eG_133 wa).trans ((ms_up_n G_129 _ (by omega)).trans hf_131)
                have hf_136 : G_133 n8 = some (.inl (0, 9, .inl (upd (upd (upd (fun _ => 0) (0 : Int32).toNatClampNeg (nI v1)) (1 : Int32).toNatClampNeg (nI (1 + v3))) (2 : Int32).toNatClampNeg (nI v5)))) := by rw [eG_133]; exact ms_up_s _ _ _
                refine ms_run (pc' := 172) (lv' := [(7, .int (nI cnt)), (6, .int 1), (5, .int (nI v7)), (4, .int (nI v6)), (3, .int (nI v5)), (2, .int (nI (1 + v3))), (1, .int (nI v1)), (0, .ref o)]) (st' := [.int (nI v6), .int 3, .ref n8, .ref n8]) _ (ms_deC dX6_add_168 (ms_deC dX6_add_169 (ms_deC dX6_add_170 ms_deN))) rfl rfl ?_
                refine ms_iastore dX6_add_172 hf_136 (vp_in_nI (n := 3) (by omega) (by omega)) ?_
                obtain ⟨G_137, eG_137⟩ : ∃ K9 : ms_H, K9 = ms_up G_133 n8 (.inl (0, 9, .inl (upd (upd (upd (upd (fun _ => 0) (0 : Int32).toNatClampNeg (nI v1)) (1 : Int32).toNatClampNeg (nI (1 + v3))) (2 : Int32).toNatClampNeg (nI v5)) (3 : Int32).toNatClampNeg (nI v6)))) := ⟨_, rfl⟩
                refine ms_W.heq eG_137 ?_
                have hf_138 := (congrFun eG_137 o).trans ((ms_up_n G_133 _ (by omega)).trans hf_134)
                have hf_139 := (congrFun eG_137 wa).trans ((ms_up_n G_133 _ (by omega)).trans hf_135)
                have hf_140 : G_137 n8 = some (.inl (0, 9, .inl (upd (upd (upd (upd (fun _ => 0) (0 : Int32).toNatClampNeg (nI v1)) (1 : Int32).toNatClampNeg (nI (1 + v3))) (2 : Int32).toNatClampNeg (nI v5)) (3 : Int32).toNatClampNeg (nI v6)))) := by rw [eG_137]; exact ms_up_s _ _ _
                refine ms_run (pc' := 177) (lv' := [(7, .int (nI cnt)), (6, .int 1), (5, .int (nI v7)), (4, .int (nI v6)), (3, .int (nI v5)), (2, .int (nI (1 + v3))), (1, .int (nI v1)), (0, .ref o)]) (st' := [.int (nI v7), .int 4, .ref n8, .ref n8]) _ (ms_deC dX6_add_173 (ms_deC dX6_add_174 (ms_deC dX6_add_175 ms_deN))) rfl rfl ?_
                refine ms_iastore dX6_add_177 hf_140 (vp_in_nI (n := 4) (by omega) (by omega)) ?_
                obtain ⟨G_141, eG_141⟩ : ∃ K9 : ms_H, K9 = ms_up G_137 n8 (.inl (0, 9, .inl (upd (upd (upd (upd (upd (fun _ => 0) (0 : Int32).toNatClampNeg (nI v1)) (1 : Int32).toNatClampNeg (nI (1 + v3))) (2 : Int32).toNatClampNeg (nI v5)) (3 : Int32).toNatClampNeg (nI v6)) (4 : Int32).toNatClampNeg (nI v7)))) := ⟨_, rfl⟩
                refine ms_W.heq eG_141 ?_
                have hf_142 := (congrFun eG_141 o).trans ((ms_up_n G_137 _ (by omega)).trans hf_138)
                have hf_143 := (congrFun eG_141 wa).trans ((ms_up_n G_137 _ (by omega)).trans hf_139)
                have hf_144 : G_141 n8 = some (.inl (0, 9, .inl (upd (upd (upd (upd (upd (fun _ => 0) (0 : Int32).toNatClampNeg (nI v1)) (1 : Int32).toNatClampNeg (nI (1 + v3))) (2 : Int32).toNatClampNeg (nI v5)) (3 : Int32).toNatClampNeg (nI v6)) (4 : Int32).toNatClampNeg (nI v7)))) := by rw [eG_141]; exact ms_up_s _ _ _
                refine ms_run (pc' := 181) (lv' := [(7, .int (nI cnt)), (6, .int 1), (5, .int (nI v7)), (4, .int (nI v6)), (3, .int (nI v5)), (2, .int (nI (1 + v3))), (1, .int (nI v1)), (0, .ref o)]) (st' := [.int 4, .int 5, .ref n8, .ref n8]) _ (ms_deC dX6_add_178 (ms_deC dX6_add_179 (ms_deC dX6_add_180 ms_deN))) rfl rfl ?_
                refine ms_iastore dX6_add_181 hf_144 (vp_in_nI (n := 5) (by omega) (by omega)) ?_
                obtain ⟨G_145, eG_145⟩ : ∃ K9 : ms_H, K9 = ms_up G_141 n8 (.inl (0, 9, .inl (upd (upd (upd (upd (upd (upd (fun _ => 0) (0 : Int32).toNatClampNeg (nI v1)) (1 : Int32).toNatClampNeg (nI (1 + v3))) (2 : Int32).toNatClampNeg (nI v5)) (3 : Int32).toNatClampNeg (nI v6)) (4 : Int32).toNatClampNeg (nI v7)) (5 : Int32).toNatClampNeg 4))) := ⟨_, rfl⟩
                refine ms_W.heq eG_145 ?_
                have hf_146 := (congrFun eG_145 o).trans ((ms_up_n G_141 _ (by omega)).trans hf_142)
                have hf_147 := (congrFun eG_145 wa).trans ((ms_up_n G_141 _ (by omega)).trans hf_143)
                have hf_148 : G_145 n8 = some (.inl (0, 9, .inl (upd (upd (upd (upd (upd (upd (fun _ => 0) (0 : Int32).toNatClampNeg (nI v1)) (1 : Int32).toNatClampNeg (nI (1 + v3))) (2 : Int32).toNatClampNeg (nI v5)) (3 : Int32).toNatClampNeg (nI v6)) (4 : Int32).toNatClampNeg (nI v7)) (5 : Int32).toNatClampNeg 4))) := by rw [eG_145]; exact ms_up_s _ _ _
                refine ms_run (pc' := 186) (lv' := [(7, .int (nI cnt)), (6, .int 1), (5, .int (nI v7)), (4, .int (nI v6)), (3, .int (nI v5)), (2, .int (nI (1 + v3))), (1, .int (nI v1)), (0, .ref o)]) (st' := [.int 0, .int 6, .ref n8, .ref n8]) _ (ms_deC dX6_add_182 (ms_deC dX6_add_183 (ms_deC dX6_add_185 ms_deN))) rfl rfl ?_
                refine ms_iastore dX6_add_186 hf_148 (vp_in_nI (n := 6) (by omega) (by omega)) ?_
                obtain ⟨G_149, eG_149⟩ : ∃ K9 : ms_H, K9 = ms_up G_145 n8 (.inl (0, 9, .inl (upd (upd (upd (upd (upd (upd (upd (fun _ => 0) (0 : Int32).toNatClampNeg (nI v1)) (1 : Int32).toNatClampNeg (nI (1 + v3))) (2 : Int32).toNatClampNeg (nI v5)) (3 : Int32).toNatClampNeg (nI v6)) (4 : Int32).toNatClampNeg (nI v7)) (5 : Int32).toNatClampNeg 4) (6 : Int32).toNatClampNeg 0))) := ⟨_, rfl⟩
                refine ms_W.heq eG_149 ?_
                have hf_150 := (congrFun eG_149 o).trans ((ms_up_n G_145 _ (by omega)).trans hf_146)
                have hf_151 := (congrFun eG_149 wa).trans ((ms_up_n G_145 _ (by omega)).trans hf_147)
                have hf_152 : G_149 n8 = some (.inl (0, 9, .inl (upd (upd (upd (upd (upd (upd (upd (fun _ => 0) (0 : Int32).toNatClampNeg (nI v1)) (1 : Int32).toNatClampNeg (nI (1 + v3))) (2 : Int32).toNatClampNeg (nI v5)) (3 : Int32).toNatClampNeg (nI v6)) (4 : Int32).toNatClampNeg (nI v7)) (5 : Int32).toNatClampNeg 4) (6 : Int32).toNatClampNeg 0))) := by rw [eG_149]; exact ms_up_s _ _ _
                refine ms_run (pc' := 191) (lv' := [(7, .int (nI cnt)), (6, .int 1), (5, .int (nI v7)), (4, .int (nI v6)), (3, .int (nI v5)), (2, .int (nI (1 + v3))), (1, .int (nI v1)), (0, .ref o)]) (st' := [.int 0, .int 7, .ref n8, .ref n8]) _ (ms_deC dX6_add_187 (ms_deC dX6_add_188 (ms_deC dX6_add_190 ms_deN))) rfl rfl ?_
                refine ms_iastore dX6_add_191 hf_152 (vp_in_nI (n := 7) (by omega) (by omega)) ?_
                obtain ⟨G_153, eG_153⟩ : ∃ K9 : ms_H, K9 = ms_up G_149 n8 (.inl (0, 9, .inl (upd (upd (upd (upd (upd (upd (upd (upd (fun _ => 0) (0 : Int32).toNatClampNeg (nI v1)) (1 : Int32).toNatClampNeg (nI (1 + v3))) (2 : Int32).toNatClampNeg (nI v5)) (3 : Int32).toNatClampNeg (nI v6)) (4 : Int32).toNatClampNeg (nI v7)) (5 : Int32).toNatClampNeg 4) (6 : Int32).toNatClampNeg 0) (7 : Int32).toNatClampNeg 0))) := ⟨_, rfl⟩
                refine ms_W.heq eG_153 ?_
                have hf_154 := (congrFun eG_153 o).trans ((ms_up_n G_149 _ (by omega)).trans hf_150)
                have hf_155 := (congrFun eG_153 wa).trans ((ms_up_n G_149 _ (by omega)).trans hf_151)
                have hf_156 : G_153 n8 = some (.inl (0, 9, .inl (upd (upd (upd (upd (upd (upd (upd (upd (fun _ => 0) (0 : Int32).toNatClampNeg (nI v1)) (1 : Int32).toNatClampNeg (nI (1 + v3))) (2 : Int32).toNatClampNeg (nI v5)) (3 : Int32).toNatClampNeg (nI v6)) (4 : Int32).toNatClampNeg (nI v7)) (5 : Int32).toNatClampNeg 4) (6 : Int32).toNatClampNeg 0) (7 : Int32).toNatClampNeg 0))) := by rw [eG_153]; exact ms_up_s _ _ _
                refine ms_run (pc' := 196) (lv' := [(7, .int (nI cnt)), (6, .int 1), (5, .int (nI v7)), (4, .int (nI v6)), (3, .int (nI v5)), (2, .int (nI (1 + v3))), (1, .int (nI v1)), (0, .ref o)]) (st' := [.int (-1), .int 8, .ref n8, .ref n8]) _ (ms_deC dX6_add_192 (ms_deC dX6_add_193 (ms_deC dX6_add_195 ms_deN))) rfl rfl ?_
                refine ms_iastore dX6_add_196 hf_156 (vp_in_nI (n := 8) (by omega) (by omega)) ?_
                obtain ⟨G_157, eG_157⟩ : ∃ K9 : ms_H, K9 = ms_up G_153 n8 (.inl (0, 9, .inl (upd (upd (upd (upd (upd (upd (upd (upd (upd (fun _ => 0) (0 : Int32).toNatClampNeg (nI v1)) (1 : Int32).toNatClampNeg (nI (1 + v3))) (2 : Int32).toNatClampNeg (nI v5)) (3 : Int32).toNatClampNeg (nI v6)) (4 : Int32).toNatClampNeg (nI v7)) (5 : Int32).toNatClampNeg 4) (6 : Int32).toNatClampNeg 0) (7 : Int32).toNatClampNeg 0) (8 : Int32).toNatClampNeg (-1)))) := ⟨_, rfl⟩
                refine ms_W.heq eG_157 ?_
                have hf_158 := (congrFun eG_157 o).trans ((ms_up_n G_153 _ (by omega)).trans hf_154)
                have hf_159 := (congrFun eG_157 wa).trans ((ms_up_n G_153 _ (by omega)).trans hf_155)
                have hf_160 : G_157 n8 = some (.inl (0, 9, .inl (upd (upd (upd (upd (upd (upd (upd (upd (upd (fun _ => 0) (0 : Int32).toNatClampNeg (nI v1)) (1 : Int32).toNatClampNeg (nI (1 + v3))) (2 : Int32).toNatClampNeg (nI v5)) (3 : Int32).toNatClampNeg (nI v6)) (4 : Int32).toNatClampNeg (nI v7)) (5 : Int32).toNatClampNeg 4) (6 : Int32).toNatClampNeg 0) (7 : Int32).toNatClampNeg 0) (8 : Int32).toNatClampNeg (-1)))) := by rw [eG_157]; exact ms_up_s _ _ _
                refine ms_run (pc' := 200) (lv' := [(8, .ref n8), (7, .int (nI cnt)), (6, .int 1), (5, .int (nI v7)), (4, .int (nI v6)), (3, .int (nI v5)), (2, .int (nI (1 + v3))), (1, .int (nI v1)), (0, .ref o)]) (st' := [.ref o]) _ (ms_deC dX6_add_197 (ms_deC dX6_add_199 ms_deN)) rfl rfl ?_
                refine ms_getf dX6_add_200 fg_X6_36 hf_158 rfl ?_
                refine ms_alen (kd := 4) (v := nI cnt) (ty := fun c => (c, .array .int)) dX6_add_203 hf_159 (by decide) rfl ?_
                refine ms_run (pc' := 206) (lv' := [(8, .ref n8), (7, .int (nI cnt)), (6, .int 1), (5, .int (nI v7)), (4, .int (nI v6)), (3, .int (nI v5)), (2, .int (nI (1 + v3))), (1, .int (nI v1)), (0, .ref o)]) (st' := [.int ((nI cnt) + 1)]) _ (ms_deC dX6_add_204 (ms_deC dX6_add_205 ms_deN)) rfl rfl ?_
                rw [nI_1 cnt]
                refine ms_W.room (k2 := 1 + 0) (z2 := cnt + 1 + 0) ?_ (by omega) (by omega)
                refine ms_newA (N := cnt + 1) dX6_add_206 al_X6_34 (nI_pos (by omega)) (nI_clamp (by omega)) (by omega) ?_
                obtain ⟨G_161, eG_161⟩ : ∃ K9 : ms_H, K9 = ms_up G_157 (n8 + 1) (.inl (4, (cnt + 1), .inr (.inr (.inr (.inr (fun _ => none)))))) := ⟨_, rfl⟩
                refine ms_W.heq eG_161 ?_
                have hf_162 := (congrFun eG_161 o).trans ((ms_up_n G_157 _ (by omega)).trans hf_158)
                have hf_163 := (congrFun eG_161 wa).trans ((ms_up_n G_157 _ (by omega)).trans hf_159)
                have hf_164 := (congrFun eG_161 n8).trans ((ms_up_n G_157 _ (by omega)).trans hf_160)
                have hf_165 : G_161 (n8 + 1) = some (.inl (4, (cnt + 1), .inr (.inr (.inr (.inr (fun _ => none)))))) := by rw [eG_161]; exact ms_up_s _ _ _
                refine ms_run (pc' := 212) (lv' := [(9, .ref (n8 + 1)), (8, .ref n8), (7, .int (nI cnt)), (6, .int 1), (5, .int (nI v7)), (4, .int (nI v6)), (3, .int (nI v5)), (2, .int (nI (1 + v3))), (1, .int (nI v1)), (0, .ref o)]) (st' := [.ref o]) _ (ms_deC dX6_add_209 (ms_deC dX6_add_211 ms_deN)) rfl rfl ?_
                refine ms_getf dX6_add_212 fg_X6_36 hf_162 rfl ?_
                refine ms_run (pc' := 220) (lv' := [(9, .ref (n8 + 1)), (8, .ref n8), (7, .int (nI cnt)), (6, .int 1), (5, .int (nI v7)), (4, .int (nI v6)), (3, .int (nI v5)), (2, .int (nI (1 + v3))), (1, .int (nI v1)), (0, .ref o)]) (st' := [.ref o, .int 0, .ref (n8 + 1), .int 0, .ref wa]) _ (ms_deC dX6_add_215 (ms_deC dX6_add_216 (ms_deC dX6_add_218 (ms_deC dX6_add_219 ms_deN)))) rfl rfl ?_
                refine ms_getf dX6_add_220 fg_X6_36 hf_162 rfl ?_
                refine ms_alen (kd := 4) (v := nI cnt) (ty := fun c => (c, .array .int)) dX6_add_223 hf_163 (by decide) rfl ?_
                have hold : ∀ a, a < n8 → G_161 a = K8 a := fun a ha => (congrFun eG_161 a).trans ((ms_up_n _ _ (by omega)).trans ((congrFun eG_157 a).trans ((ms_up_n _ _ (by omega)).trans ((congrFun eG_153 a).trans ((ms_up_n _ _ (by omega)).trans ((congrFun eG_149 a).trans ((ms_up_n _ _ (by omega)).trans ((congrFun eG_145 a).trans ((ms_up_n _ _ (by omega)).trans ((congrFun eG_141 a).trans ((ms_up_n _ _ (by omega)).trans ((congrFun eG_137 a).trans ((ms_up_n _ _ (by omega)).trans ((congrFun eG_133 a).trans ((ms_up_n _ _ (by omega)).trans ((congrFun eG_129 a).trans ((ms_up_n _ _ (by omega)).trans ((congrFun eG_125 a).trans ((ms_up_n _ _ (by omega)).trans ((congrFun eG_121 a).trans ((ms_up_n _ _ (by omega)).trans (rfl))))))))))))))))))))))
                refine ms_copyA dX6_add_224 ac_X6_99 hf_163 hf_165 (by decide) (by decide) (nI_pos (by omega)) (by rw [nI_clamp (by omega)]; exact Nat.le_of_eq (Nat.zero_add _)) (by rw [nI_clamp (by omega)]; show 0 + cnt ≤ cnt + 1; omega) (fun i hi y hy => by
                    rw [nI_clamp (by omega)] at hi
                    rw [show (0 : Int32).toNatClampNeg + i = i from Nat.zero_add i, hfw i hi] at hy
                    cases hy
                    obtain ⟨r9, -, b9⟩ := hrw i hi
                    exact ⟨9, r9, (hold _ (by have := l4 i hi; omega)).trans b9⟩) ⟨Nat.le_of_ble_eq_true rfl, (show 8 + (nativeFrameWords "java/lang/System" "arraycopy" 5 + 11) ≤ m_X6_add.2.2.2.2.2.1 from by decide +kernel)⟩ (Nat.le_of_ble_eq_true rfl) ?_
                rw [nI_clamp (n := cnt) (by omega)]
                obtain ⟨G_166, eG_166⟩ : ∃ K9 : ms_H, K9 = ms_up G_161 (n8 + 1) (.inl (4, (cnt + 1), .inr (.inr (.inr (.inr (va_cpy fw (fun _ => none) (0 : Int32).toNatClampNeg (0 : Int32).toNatClampNeg cnt)))))) := ⟨_, rfl⟩
                refine ms_W.heq eG_166 ?_
                have hf_167 := (congrFun eG_166 o).trans ((ms_up_n G_161 _ (by omega)).trans hf_162)
                have hf_168 := (congrFun eG_166 wa).trans ((ms_up_n G_161 _ (by omega)).trans hf_163)
                have hf_169 := (congrFun eG_166 n8).trans ((ms_up_n G_161 _ (by omega)).trans hf_164)
                have hf_170 : G_166 (n8 + 1) = some (.inl (4, (cnt + 1), .inr (.inr (.inr (.inr (va_cpy fw (fun _ => none) (0 : Int32).toNatClampNeg (0 : Int32).toNatClampNeg cnt)))))) := by rw [eG_166]; exact ms_up_s _ _ _
                refine ms_run (pc' := 230) (lv' := [(9, .ref (n8 + 1)), (8, .ref n8), (7, .int (nI cnt)), (6, .int 1), (5, .int (nI v7)), (4, .int (nI v6)), (3, .int (nI v5)), (2, .int (nI (1 + v3))), (1, .int (nI v1)), (0, .ref o)]) (st' := [.ref o, .ref (n8 + 1)]) _ (ms_deC dX6_add_227 (ms_deC dX6_add_229 ms_deN)) rfl rfl ?_
                refine ms_getf dX6_add_230 fg_X6_36 hf_167 rfl ?_
                refine ms_alen (kd := 4) (v := nI cnt) (ty := fun c => (c, .array .int)) dX6_add_233 hf_168 (by decide) rfl ?_
                refine ms_run (pc' := 236) (lv' := [(9, .ref (n8 + 1)), (8, .ref n8), (7, .int (nI cnt)), (6, .int 1), (5, .int (nI v7)), (4, .int (nI v6)), (3, .int (nI v5)), (2, .int (nI (1 + v3))), (1, .int (nI v1)), (0, .ref o)]) (st' := [.ref n8, .int (nI cnt), .ref (n8 + 1)]) _ (ms_deC dX6_add_234 ms_deN) rfl rfl ?_
                refine ms_aastoreA dX6_add_236 hf_170 hf_169 (vp_in_nI (n := cnt) (by omega) (by omega)) ?_
                rw [nI_clamp (n := cnt) (by omega)]
                obtain ⟨G_171, eG_171⟩ : ∃ K9 : ms_H, K9 = ms_up G_166 (n8 + 1) (.inl (4, (cnt + 1), .inr (.inr (.inr (.inr (va_up (va_cpy fw (fun _ => none) (0 : Int32).toNatClampNeg (0 : Int32).toNatClampNeg cnt) cnt (some n8))))))) := ⟨_, rfl⟩
                refine ms_W.heq eG_171 ?_
                have hf_172 := (congrFun eG_171 o).trans ((ms_up_n G_166 _ (by omega)).trans hf_167)
                have hf_173 := (congrFun eG_171 wa).trans ((ms_up_n G_166 _ (by omega)).trans hf_168)
                have hf_174 := (congrFun eG_171 n8).trans ((ms_up_n G_166 _ (by omega)).trans hf_169)
                have hf_175 : G_171 (n8 + 1) = some (.inl (4, (cnt + 1), .inr (.inr (.inr (.inr (va_up (va_cpy fw (fun _ => none) (0 : Int32).toNatClampNeg (0 : Int32).toNatClampNeg cnt) cnt (some n8))))))) := by rw [eG_171]; exact ms_up_s _ _ _
                refine ms_run (pc' := 240) (lv' := [(9, .ref (n8 + 1)), (8, .ref n8), (7, .int (nI cnt)), (6, .int 1), (5, .int (nI v7)), (4, .int (nI v6)), (3, .int (nI v5)), (2, .int (nI (1 + v3))), (1, .int (nI v1)), (0, .ref o)]) (st' := [.ref (n8 + 1), .ref o]) _ (ms_deC dX6_add_237 (ms_deC dX6_add_238 ms_deN)) rfl rfl ?_
                refine ms_putf dX6_add_240 fp_X6_36 hf_172 (Nat.le_of_ble_eq_true rfl) rfl rfl ?_
                obtain ⟨G_176, eG_176⟩ : ∃ K9 : ms_H, K9 = ms_up G_171 o (.inr (6, [.ref x, .ref sb, .int (nI (d + 1 + 1 + 1 + 1 + 1 + 1 + 1)), .int (nI W), .int (nI H), .int X.2.2.2, .int dr, .int pa, .ref fa, .ref (n8 + 1)])) := ⟨_, rfl⟩
                refine ms_W.heq eG_176 ?_
                have hf_177 : G_176 o = some (.inr (6, [.ref x, .ref sb, .int (nI (d + 1 + 1 + 1 + 1 + 1 + 1 + 1)), .int (nI W), .int (nI H), .int X.2.2.2, .int dr, .int pa, .ref fa, .ref (n8 + 1)])) := by rw [eG_176]; exact ms_up_s _ _ _
                have hf_178 := (congrFun eG_176 wa).trans ((ms_up_n G_171 _ (by omega)).trans hf_173)
                have hf_179 := (congrFun eG_176 n8).trans ((ms_up_n G_171 _ (by omega)).trans hf_174)
                have hf_180 := (congrFun eG_176 (n8 + 1)).trans ((ms_up_n G_171 _ (by omega)).trans hf_175)
                refine ms_run (pc' := 246) (lv' := [(9, .ref (n8 + 1)), (8, .ref n8), (7, .int (nI cnt)), (6, .int 1), (5, .int (nI v7)), (4, .int (nI v6)), (3, .int (nI v5)), (2, .int (nI (1 + v3))), (1, .int (nI v1)), (0, .ref o)]) (st' := [.ref o, .int (nI cnt)]) _ (ms_deC dX6_add_243 (ms_deC dX6_add_245 ms_deN)) rfl rfl ?_
                refine ms_getf dX6_add_246 fg_X6_36 hf_177 rfl ?_
                refine ms_alen (kd := 4) (v := nI (cnt + 1)) (ty := fun c => (c, .array .int)) dX6_add_249 hf_180 (by decide) rfl ?_
                refine ms_run (pc' := 252) (lv' := [(9, .ref (n8 + 1)), (8, .ref n8), (7, .int (nI cnt)), (6, .int 1), (5, .int (nI v7)), (4, .int (nI v6)), (3, .int (nI v5)), (2, .int (nI (1 + v3))), (1, .int (nI v1)), (0, .ref o)]) (st' := [.int ((nI (cnt + 1)) - 1), .int (nI cnt)]) _ (ms_deC dX6_add_250 (ms_deC dX6_add_251 ms_deN)) rfl rfl ?_
                rw [nI_pred cnt]
                refine ms_icmp_ne (tgt := 259) dX6_add_252 (by decide) (fun h_252 => ?_) (fun h_252 => ?_)
                · skip
                  exact absurd rfl h_252
                · skip
                  refine ms_run (pc' := 256) (lv' := [(9, .ref (n8 + 1)), (8, .ref n8), (7, .int (nI cnt)), (6, .int 1), (5, .int (nI v7)), (4, .int (nI v6)), (3, .int (nI v5)), (2, .int (nI (1 + v3))), (1, .int (nI v1)), (0, .ref o)]) (st' := [.int 1]) _ (ms_deC dX6_add_255 ms_deN) rfl rfl ?_
                  refine ms_goto (tgt := 260) dX6_add_256 (by decide) ?_
                  refine ms_reti (st := []) (ty := .boolean) dX6_add_260 rfl rfl ?_
                  have hfin : ∀ a, a < n8 → ¬ a = o → G_176 a = K8 a := fun a ha ha2 => (congrFun eG_176 a).trans ((ms_up_n _ _ (by omega)).trans ((congrFun eG_171 a).trans ((ms_up_n _ _ (by omega)).trans ((congrFun eG_166 a).trans ((ms_up_n _ _ (by omega)).trans ((congrFun eG_161 a).trans ((ms_up_n _ _ (by omega)).trans ((congrFun eG_157 a).trans ((ms_up_n _ _ (by omega)).trans ((congrFun eG_153 a).trans ((ms_up_n _ _ (by omega)).trans ((congrFun eG_149 a).trans ((ms_up_n _ _ (by omega)).trans ((congrFun eG_145 a).trans ((ms_up_n _ _ (by omega)).trans ((congrFun eG_141 a).trans ((ms_up_n _ _ (by omega)).trans ((congrFun eG_137 a).trans ((ms_up_n _ _ (by omega)).trans ((congrFun eG_133 a).trans ((ms_up_n _ _ (by omega)).trans ((congrFun eG_129 a).trans ((ms_up_n _ _ (by omega)).trans ((congrFun eG_125 a).trans ((ms_up_n _ _ (by omega)).trans ((congrFun eG_121 a).trans ((ms_up_n _ _ (by omega)).trans (rfl))))))))))))))))))))))))))))
                  have hmd := fd_mod (y := v7) hv6
                  refine ⟨rfl, by omega, d + 1 + 1 + 1 + 1 + 1 + 1 + 1, t, by omega, by omega, Nat.le_refl t, by omega, W, H, cnt + 1, fa, (n8 + 1), dr, pa, (adX cnt X (nI v1) (nI (1 + v3)) (nI v5) (nI (v7 * W + v6))), nr, wl, mk, ds, va_up wr cnt n8, fv, hX8.cx ho (fun a h1 h2 => hfin a (by omega) (by omega)), ⟨hf_177, hM8.2.1.fr (fun a h1 h2 => hfin a (by omega) (by omega)) hW0, ⟨⟨_, fun k hk => ?_, hf_180⟩, fun k hk => ?_, fun i k hi hk e => ?_⟩⟩, ⟨by omega, by omega, by omega, fun k hk => ?_⟩, ⟨by omega, by omega, fun k hk => ?_⟩, hcf, hK.add (by omega) (by omega) (by omega) ⟨nI_pos' (by omega), show nI v5 ≤ nI 9 from nI_le (by omega) (by omega)⟩ hf9 h_91 hmk (Decidable.not_not.mp hc_116)⟩
                  · by_cases ek : k = cnt
                    · subst ek
                      exact (show va_up _ k _ k = _ from if_pos rfl).trans (congrArg some (show va_up wr k _ k = _ from if_pos rfl).symm)
                    · refine (show va_up _ cnt _ k = _ from if_neg ek).trans ((show va_cpy fw (fun _ => none) 0 0 cnt k = fw k from ?_).trans ((hfw k (by omega)).trans (congrArg some (show va_up wr cnt _ k = _ from if_neg ek).symm)))
                      unfold va_cpy
                      rw [if_pos (by omega)]
                      exact congrArg fw (by omega)
                  · by_cases ek : k = cnt
                    · subst ek
                      rw [show va_up wr k n8 k = n8 from if_pos rfl]
                      refine ⟨_, fun c hc9 => ?_, hf_179⟩
                      rw [show (adX k X (nI v1) (nI (1 + v3)) (nI v5) (nI (v7 * W + v6))).1 k = wk_come (X.1 k) (nI v1) (nI (1 + v3)) (nI v5) (nI (v7 * W + v6)) from if_pos rfl]
                      have h5 := wv_new (W := W) (t := (v7 * W + v6)) (u := X.1 k) (g := nI v1) (p := nI (1 + v3)) (m := nI v5) (by omega) c hc9
                      rw [hmd.1, hmd.2] at h5
                      exact h5
                    · obtain ⟨r9, a9, b9⟩ := hrw k (by omega)
                      rw [show va_up wr cnt n8 k = wr k from if_neg ek]
                      have hlk := l4 k (by omega)
                      have hyk := y3 k (by omega)
                      refine ⟨r9, fun c hc9 => ?_, (hfin _ (by omega) (by omega)).trans b9⟩
                      rw [show (adX cnt X (nI v1) (nI (1 + v3)) (nI v5) (nI (v7 * W + v6))).1 k = X.1 k from if_neg ek]
                      exact a9 c hc9
                  · unfold va_up at e
                    by_cases e1 : i = cnt
                    · by_cases e2 : k = cnt
                      · omega
                      · rw [if_pos e1, if_neg e2] at e
                        have := l4 k (by omega)
                        omega
                    · by_cases e2 : k = cnt
                      · rw [if_neg e1, if_pos e2] at e
                        have := l4 i (by omega)
                        omega
                      · rw [if_neg e1, if_neg e2] at e
                        exact hiw i k (by omega) (by omega) e
                  · unfold va_up
                    split
                    · omega
                    · have := l4 k (by omega)
                      omega
                  · unfold va_up
                    split
                    · omega
                    · exact y3 k (by omega)
              · skip
                exact absurd ((xq_P.thw hp9).1.symm.trans hth8) (fun z => by cases z)
    · skip
      refine ms_run (pc' := 37) (lv' := [(2, .int (nI (1 + v3))), (1, .int (nI v1)), (0, .ref o)]) (st' := [.int 10, .ref o]) _ (ms_deC dX6_add_34 (ms_deC dX6_add_35 ms_deN)) rfl rfl ?_
      refine ms_callV0 (As := [.int 10]) dX6_add_37 (c_X6_draw (n := n) (L := L) (xs := xs) (d := (d + 1 + 1 + 1 + 1)) (N := 10) hM4.O (by omega) hLb (by omega) (by omega)) cv_X6_56 hM4.O rfl ⟨Nat.le_of_ble_eq_true rfl, Nat.le_of_ble_eq_true rfl⟩ rfl (Nat.le_of_ble_eq_true rfl) (fun v9 n9 K5 hp9 => ?_)
      obtain ⟨v5, hv5, hr9, hnn9, eK5⟩ := hp9
      cases hr9
      rw [hnn9]
      have hM5 : fk_at K5 o x sb (nI (d + 1 + 1 + 1 + 1 + 1)) W H X.2.2.2 dr pa fa wa cnt wr fv X.1 := by rw [eK5]; exact hM4.ob ly hW0
      have hX5 : xs_at K5 x g q c j q2 c2 W H nr wl mk ds cnt dr pa X := hX4.cx ho (fun a h1 h2 => by rw [eK5]; exact ms_up_n _ _ (by omega))
      refine ms_goto (tgt := 48) dX6_add_40 (by decide) ?_
      refine ms_run (pc' := 51) (lv' := [(3, .int (nI v5)), (2, .int (nI (1 + v3))), (1, .int (nI v1)), (0, .ref o)]) (st' := [.ref o, .ref o]) _ (ms_deC dX6_add_48 (ms_deC dX6_add_49 (ms_deC dX6_add_50 ms_deN))) rfl rfl ?_
      refine ms_getf dX6_add_51 fg_X6_16 hM5.O rfl ?_
      refine ms_callV0 (As := [.int (nI W)]) dX6_add_54 (c_X6_draw (n := n) (L := L) (xs := xs) (d := (d + 1 + 1 + 1 + 1 + 1)) (N := W) hM5.O (by omega) hLb (by omega) (by omega)) cv_X6_56 hM5.O rfl ⟨Nat.le_of_ble_eq_true rfl, Nat.le_of_ble_eq_true rfl⟩ rfl (Nat.le_of_ble_eq_true rfl) (fun v9 n9 K6 hp9 => ?_)
      obtain ⟨v6, hv6, hr9, hnn9, eK6⟩ := hp9
      cases hr9
      rw [hnn9]
      have hM6 : fk_at K6 o x sb (nI (d + 1 + 1 + 1 + 1 + 1 + 1)) W H X.2.2.2 dr pa fa wa cnt wr fv X.1 := by rw [eK6]; exact hM5.ob ly hW0
      have hX6 : xs_at K6 x g q c j q2 c2 W H nr wl mk ds cnt dr pa X := hX5.cx ho (fun a h1 h2 => by rw [eK6]; exact ms_up_n _ _ (by omega))
      refine ms_run (pc' := 61) (lv' := [(4, .int (nI v6)), (3, .int (nI v5)), (2, .int (nI (1 + v3))), (1, .int (nI v1)), (0, .ref o)]) (st' := [.ref o, .ref o]) _ (ms_deC dX6_add_57 (ms_deC dX6_add_59 (ms_deC dX6_add_60 ms_deN))) rfl rfl ?_
      refine ms_getf dX6_add_61 fg_X6_20 hM6.O rfl ?_
      refine ms_callV0 (As := [.int (nI H)]) dX6_add_64 (c_X6_draw (n := n) (L := L) (xs := xs) (d := (d + 1 + 1 + 1 + 1 + 1 + 1)) (N := H) hM6.O (by omega) hLb (by omega) (by omega)) cv_X6_56 hM6.O rfl ⟨Nat.le_of_ble_eq_true rfl, Nat.le_of_ble_eq_true rfl⟩ rfl (Nat.le_of_ble_eq_true rfl) (fun v9 n9 K7 hp9 => ?_)
      obtain ⟨v7, hv7, hr9, hnn9, eK7⟩ := hp9
      cases hr9
      rw [hnn9]
      have hM7 : fk_at K7 o x sb (nI (d + 1 + 1 + 1 + 1 + 1 + 1 + 1)) W H X.2.2.2 dr pa fa wa cnt wr fv X.1 := by rw [eK7]; exact hM6.ob ly hW0
      have hX7 : xs_at K7 x g q c j q2 c2 W H nr wl mk ds cnt dr pa X := hX6.cx ho (fun a h1 h2 => by rw [eK7]; exact ms_up_n _ _ (by omega))
      refine ms_run (pc' := 69) (lv' := [(5, .int (nI v7)), (4, .int (nI v6)), (3, .int (nI v5)), (2, .int (nI (1 + v3))), (1, .int (nI v1)), (0, .ref o)]) (st' := []) _ (ms_deC dX6_add_67 ms_deN) rfl rfl ?_
      have hf9 := fij hv6 hv7
      refine ms_run (pc' := 70) (lv' := [(5, .int (nI v7)), (4, .int (nI v6)), (3, .int (nI v5)), (2, .int (nI (1 + v3))), (1, .int (nI v1)), (0, .ref o)]) (st' := [.ref o]) _ (ms_deC dX6_add_69 ms_deN) rfl rfl ?_
      refine ms_getf dX6_add_70 fg_X6_36 hM7.O rfl ?_
      refine fk_len dX6_add_73 hM7.2.2 ?_
      refine ms_run (pc' := 76) (lv' := [(5, .int (nI v7)), (4, .int (nI v6)), (3, .int (nI v5)), (2, .int (nI (1 + v3))), (1, .int (nI v1)), (0, .ref o)]) (st' := [.int 24, .int (nI cnt)]) _ (ms_deC dX6_add_74 ms_deN) rfl rfl ?_
      refine ms_icmp_ge (tgt := 126) dX6_add_76 (by decide) (fun h_76 => ?_) (fun h_76 => ?_)
      · skip
        have hfull : 24 ≤ cnt := (nI_leI (a := 24) (by omega) (by omega)).mp h_76
        refine ms_run (pc' := 130) (lv' := [(6, .int 0), (5, .int (nI v7)), (4, .int (nI v6)), (3, .int (nI v5)), (2, .int (nI (1 + v3))), (1, .int (nI v1)), (0, .ref o)]) (st' := [.ref o]) _ (ms_deC dX6_add_126 (ms_deC dX6_add_127 (ms_deC dX6_add_129 ms_deN))) rfl rfl ?_
        refine ms_getf dX6_add_130 fg_X6_10 hM7.O rfl ?_
        refine ms_run (pc' := 140) (lv' := [(6, .int 0), (5, .int (nI v7)), (4, .int (nI v6)), (3, .int (nI v5)), (2, .int (nI (1 + v3))), (1, .int (nI v1)), (0, .ref o)]) (st' := [.int (nI v7), .int (nI v6), .int (nI v5), .int (nI (1 + v3)), .int (nI v1), .ref x]) _ (ms_deC dX6_add_133 (ms_deC dX6_add_134 (ms_deC dX6_add_135 (ms_deC dX6_add_136 (ms_deC dX6_add_138 ms_deN))))) rfl rfl ?_
        have hthi := th_wlk_i (wl := wl) (mk := mk) (on := X.2.2.1) hW hH hc (g := v1) (p := 1 + v3) (m := v5) (by omega) (by omega) (by omega) hv6 hv7
        have hct := c_X5_walker (n := n) ho hX7 (nI v1) (nI (1 + v3)) (nI v5) (nI v6) (nI v7) hc
        rw [gr_num_n hW hH hv6 hv7] at hct
        refine ms_W.room (k2 := 1 + 2) (z2 := 6 + 33) ?_ (by omega) (by omega)
        have hth8 : th_wlk W H wl mk cnt X.2.2.1 (nI v1) (nI (1 + v3)) (nI v5) (nI v6) (nI v7) = some ISE := hthi.trans (if_pos (by first | exact Or.inl hfull | exact Or.inr (Or.inl h_91) | exact Or.inr (Or.inr (Or.inl hmk)) | exact Or.inr (Or.inr (Or.inr hc_116))))
        refine ms_callVX (As := [.int (nI v1), .int (nI (1 + v3)), .int (nI v5), .int (nI v6), .int (nI v7)]) dX6_add_140 (hct) cv_X6_95 hX7.1 rfl ⟨Nat.le_of_ble_eq_true rfl, Nat.le_of_ble_eq_true rfl⟩ rfl (Nat.le_of_ble_eq_true rfl) (fun v9 n8 K8 hp9 => ?_) (fun E9 n8 K8 q9 hp9 => ?_)
        · skip
          exact absurd ((xq_P.val hp9).1.symm.trans hth8) (fun z => by cases z)
        · skip
          obtain ⟨he9, rfl, hn8⟩ := xq_P.thw hp9
          rw [hth8] at he9
          cases he9
          refine ⟨261, hd_X6_add_140, ?_⟩
          refine ms_run (pc' := 265) (lv' := [(7, .ref q9), (6, .int 0), (5, .int (nI v7)), (4, .int (nI v6)), (3, .int (nI v5)), (2, .int (nI (1 + v3))), (1, .int (nI v1)), (0, .ref o)]) (st' := [.int 0]) _ (ms_deC dX6_add_261 (ms_deC dX6_add_263 ms_deN)) rfl rfl ?_
          refine ms_if_ne (tgt := 272) dX6_add_265 (by decide) (fun h9 => absurd h9 (by decide)) (fun _ => ?_)
          refine ms_run (pc' := 269) (lv' := [(7, .ref q9), (6, .int 0), (5, .int (nI v7)), (4, .int (nI v6)), (3, .int (nI v5)), (2, .int (nI (1 + v3))), (1, .int (nI v1)), (0, .ref o)]) (st' := [.int 1]) _ (ms_deC dX6_add_268 ms_deN) rfl rfl ?_
          refine ms_goto (tgt := 273) dX6_add_269 (by decide) ?_
          refine ms_reti (st := []) (ty := .boolean) dX6_add_273 rfl rfl ?_
          exact ⟨rfl, by omega, d + 1 + 1 + 1 + 1 + 1 + 1 + 1, t, by omega, by omega, Nat.le_refl t, by omega, W, H, cnt, fa, wa, dr, pa, X, nr, wl, mk, ds, wr, fv, hX7, hM7, fl.le (by omega), ly, hcf, hK⟩
      · skip
        have hroom : ¬ 24 ≤ cnt := fun z => h_76 (show nI 24 ≤ nI cnt from nI_le z (by omega))
        refine ms_run (pc' := 80) (lv' := [(5, .int (nI v7)), (4, .int (nI v6)), (3, .int (nI v5)), (2, .int (nI (1 + v3))), (1, .int (nI v1)), (0, .ref o)]) (st' := [.ref o]) _ (ms_deC dX6_add_79 ms_deN) rfl rfl ?_
        refine ms_getf dX6_add_80 fg_X6_31 hM7.O rfl ?_
        refine ms_run (pc' := 85) (lv' := [(5, .int (nI v7)), (4, .int (nI v6)), (3, .int (nI v5)), (2, .int (nI (1 + v3))), (1, .int (nI v1)), (0, .ref o)]) (st' := [.int (nI v6), .ref fa]) _ (ms_deC dX6_add_83 ms_deN) rfl rfl ?_
        refine fk_ldA (i := v6) dX6_add_85 hM7.2.1 hv6 hW ?_
        refine ms_run (pc' := 88) (lv' := [(5, .int (nI v7)), (4, .int (nI v6)), (3, .int (nI v5)), (2, .int (nI (1 + v3))), (1, .int (nI v1)), (0, .ref o)]) (st' := [.int (nI v7), .ref (mn_ad fa H v6)]) _ (ms_deC dX6_add_86 ms_deN) rfl rfl ?_
        refine fk_ldB (j := v7) dX6_add_88 hM7.2.1 hv6 hv7 hH ?_
        refine ms_run (pc' := 90) (lv' := [(5, .int (nI v7)), (4, .int (nI v6)), (3, .int (nI v5)), (2, .int (nI (1 + v3))), (1, .int (nI v1)), (0, .ref o)]) (st' := [.int 0, .ref (mn_ad fa H v6 + 1 + v7)]) _ (ms_deC dX6_add_89 ms_deN) rfl rfl ?_
        refine fk_ldC (c := 0) dX6_add_90 hM7.2.1 hv6 hv7 (by decide) rfl ?_
        rw [(hfv (v7 * W + v6) hf9).1]
        refine ms_if_ne (tgt := 126) dX6_add_91 (by decide) (fun h_91 => ?_) (fun h_91 => ?_)
        · skip
          refine ms_run (pc' := 130) (lv' := [(6, .int 0), (5, .int (nI v7)), (4, .int (nI v6)), (3, .int (nI v5)), (2, .int (nI (1 + v3))), (1, .int (nI v1)), (0, .ref o)]) (st' := [.ref o]) _ (ms_deC dX6_add_126 (ms_deC dX6_add_127 (ms_deC dX6_add_129 ms_deN))) rfl rfl ?_
          refine ms_getf dX6_add_130 fg_X6_10 hM7.O rfl ?_
          refine ms_run (pc' := 140) (lv' := [(6, .int 0), (5, .int (nI v7)), (4, .int (nI v6)), (3, .int (nI v5)), (2, .int (nI (1 + v3))), (1, .int (nI v1)), (0, .ref o)]) (st' := [.int (nI v7), .int (nI v6), .int (nI v5), .int (nI (1 + v3)), .int (nI v1), .ref x]) _ (ms_deC dX6_add_133 (ms_deC dX6_add_134 (ms_deC dX6_add_135 (ms_deC dX6_add_136 (ms_deC dX6_add_138 ms_deN))))) rfl rfl ?_
          have hthi := th_wlk_i (wl := wl) (mk := mk) (on := X.2.2.1) hW hH hc (g := v1) (p := 1 + v3) (m := v5) (by omega) (by omega) (by omega) hv6 hv7
          have hct := c_X5_walker (n := n) ho hX7 (nI v1) (nI (1 + v3)) (nI v5) (nI v6) (nI v7) hc
          rw [gr_num_n hW hH hv6 hv7] at hct
          refine ms_W.room (k2 := 1 + 2) (z2 := 6 + 33) ?_ (by omega) (by omega)
          have hth8 : th_wlk W H wl mk cnt X.2.2.1 (nI v1) (nI (1 + v3)) (nI v5) (nI v6) (nI v7) = some ISE := hthi.trans (if_pos (by first | exact Or.inl hfull | exact Or.inr (Or.inl h_91) | exact Or.inr (Or.inr (Or.inl hmk)) | exact Or.inr (Or.inr (Or.inr hc_116))))
          refine ms_callVX (As := [.int (nI v1), .int (nI (1 + v3)), .int (nI v5), .int (nI v6), .int (nI v7)]) dX6_add_140 (hct) cv_X6_95 hX7.1 rfl ⟨Nat.le_of_ble_eq_true rfl, Nat.le_of_ble_eq_true rfl⟩ rfl (Nat.le_of_ble_eq_true rfl) (fun v9 n8 K8 hp9 => ?_) (fun E9 n8 K8 q9 hp9 => ?_)
          · skip
            exact absurd ((xq_P.val hp9).1.symm.trans hth8) (fun z => by cases z)
          · skip
            obtain ⟨he9, rfl, hn8⟩ := xq_P.thw hp9
            rw [hth8] at he9
            cases he9
            refine ⟨261, hd_X6_add_140, ?_⟩
            refine ms_run (pc' := 265) (lv' := [(7, .ref q9), (6, .int 0), (5, .int (nI v7)), (4, .int (nI v6)), (3, .int (nI v5)), (2, .int (nI (1 + v3))), (1, .int (nI v1)), (0, .ref o)]) (st' := [.int 0]) _ (ms_deC dX6_add_261 (ms_deC dX6_add_263 ms_deN)) rfl rfl ?_
            refine ms_if_ne (tgt := 272) dX6_add_265 (by decide) (fun h9 => absurd h9 (by decide)) (fun _ => ?_)
            refine ms_run (pc' := 269) (lv' := [(7, .ref q9), (6, .int 0), (5, .int (nI v7)), (4, .int (nI v6)), (3, .int (nI v5)), (2, .int (nI (1 + v3))), (1, .int (nI v1)), (0, .ref o)]) (st' := [.int 1]) _ (ms_deC dX6_add_268 ms_deN) rfl rfl ?_
            refine ms_goto (tgt := 273) dX6_add_269 (by decide) ?_
            refine ms_reti (st := []) (ty := .boolean) dX6_add_273 rfl rfl ?_
            exact ⟨rfl, by omega, d + 1 + 1 + 1 + 1 + 1 + 1 + 1, t, by omega, by omega, Nat.le_refl t, by omega, W, H, cnt, fa, wa, dr, pa, X, nr, wl, mk, ds, wr, fv, hX7, hM7, fl.le (by omega), ly, hcf, hK⟩
        · skip
          refine ms_run (pc' := 95) (lv' := [(5, .int (nI v7)), (4, .int (nI v6)), (3, .int (nI v5)), (2, .int (nI (1 + v3))), (1, .int (nI v1)), (0, .ref o)]) (st' := [.ref o]) _ (ms_deC dX6_add_94 ms_deN) rfl rfl ?_
          refine ms_getf dX6_add_95 fg_X6_31 hM7.O rfl ?_
          refine ms_run (pc' := 100) (lv' := [(5, .int (nI v7)), (4, .int (nI v6)), (3, .int (nI v5)), (2, .int (nI (1 + v3))), (1, .int (nI v1)), (0, .ref o)]) (st' := [.int (nI v6), .ref fa]) _ (ms_deC dX6_add_98 ms_deN) rfl rfl ?_
          refine fk_ldA (i := v6) dX6_add_100 hM7.2.1 hv6 hW ?_
          refine ms_run (pc' := 103) (lv' := [(5, .int (nI v7)), (4, .int (nI v6)), (3, .int (nI v5)), (2, .int (nI (1 + v3))), (1, .int (nI v1)), (0, .ref o)]) (st' := [.int (nI v7), .ref (mn_ad fa H v6)]) _ (ms_deC dX6_add_101 ms_deN) rfl rfl ?_
          refine fk_ldB (j := v7) dX6_add_103 hM7.2.1 hv6 hv7 hH ?_
          refine ms_run (pc' := 107) (lv' := [(5, .int (nI v7)), (4, .int (nI v6)), (3, .int (nI v5)), (2, .int (nI (1 + v3))), (1, .int (nI v1)), (0, .ref o)]) (st' := [.int (2 + (nI v1)), .ref (mn_ad fa H v6 + 1 + v7)]) _ (ms_deC dX6_add_104 (ms_deC dX6_add_105 (ms_deC dX6_add_106 ms_deN))) rfl rfl ?_
          refine fk_ldC (c := (2 + v1)) dX6_add_107 hM7.2.1 hv6 hv7 (by omega) (nI_add 2 v1) ?_
          rw [(hfv (v7 * W + v6) hf9).2 v1 (by omega)]
          refine ms_if_ne (tgt := 126) dX6_add_108 (by decide) (fun h_108 => ?_) (fun h_108 => ?_)
          · skip
            have hmk : ¬ mk (v7 * W + v6) &&& (1 <<< (nI v1 &&& 31)) = 0 := Decidable.byContradiction (fun z => h_108 (if_neg z))
            refine ms_run (pc' := 130) (lv' := [(6, .int 0), (5, .int (nI v7)), (4, .int (nI v6)), (3, .int (nI v5)), (2, .int (nI (1 + v3))), (1, .int (nI v1)), (0, .ref o)]) (st' := [.ref o]) _ (ms_deC dX6_add_126 (ms_deC dX6_add_127 (ms_deC dX6_add_129 ms_deN))) rfl rfl ?_
            refine ms_getf dX6_add_130 fg_X6_10 hM7.O rfl ?_
            refine ms_run (pc' := 140) (lv' := [(6, .int 0), (5, .int (nI v7)), (4, .int (nI v6)), (3, .int (nI v5)), (2, .int (nI (1 + v3))), (1, .int (nI v1)), (0, .ref o)]) (st' := [.int (nI v7), .int (nI v6), .int (nI v5), .int (nI (1 + v3)), .int (nI v1), .ref x]) _ (ms_deC dX6_add_133 (ms_deC dX6_add_134 (ms_deC dX6_add_135 (ms_deC dX6_add_136 (ms_deC dX6_add_138 ms_deN))))) rfl rfl ?_
            have hthi := th_wlk_i (wl := wl) (mk := mk) (on := X.2.2.1) hW hH hc (g := v1) (p := 1 + v3) (m := v5) (by omega) (by omega) (by omega) hv6 hv7
            have hct := c_X5_walker (n := n) ho hX7 (nI v1) (nI (1 + v3)) (nI v5) (nI v6) (nI v7) hc
            rw [gr_num_n hW hH hv6 hv7] at hct
            refine ms_W.room (k2 := 1 + 2) (z2 := 6 + 33) ?_ (by omega) (by omega)
            have hth8 : th_wlk W H wl mk cnt X.2.2.1 (nI v1) (nI (1 + v3)) (nI v5) (nI v6) (nI v7) = some ISE := hthi.trans (if_pos (by first | exact Or.inl hfull | exact Or.inr (Or.inl h_91) | exact Or.inr (Or.inr (Or.inl hmk)) | exact Or.inr (Or.inr (Or.inr hc_116))))
            refine ms_callVX (As := [.int (nI v1), .int (nI (1 + v3)), .int (nI v5), .int (nI v6), .int (nI v7)]) dX6_add_140 (hct) cv_X6_95 hX7.1 rfl ⟨Nat.le_of_ble_eq_true rfl, Nat.le_of_ble_eq_true rfl⟩ rfl (Nat.le_of_ble_eq_true rfl) (fun v9 n8 K8 hp9 => ?_) (fun E9 n8 K8 q9 hp9 => ?_)
            · skip
              exact absurd ((xq_P.val hp9).1.symm.trans hth8) (fun z => by cases z)
            · skip
              obtain ⟨he9, rfl, hn8⟩ := xq_P.thw hp9
              rw [hth8] at he9
              cases he9
              refine ⟨261, hd_X6_add_140, ?_⟩
              refine ms_run (pc' := 265) (lv' := [(7, .ref q9), (6, .int 0), (5, .int (nI v7)), (4, .int (nI v6)), (3, .int (nI v5)), (2, .int (nI (1 + v3))), (1, .int (nI v1)), (0, .ref o)]) (st' := [.int 0]) _ (ms_deC dX6_add_261 (ms_deC dX6_add_263 ms_deN)) rfl rfl ?_
              refine ms_if_ne (tgt := 272) dX6_add_265 (by decide) (fun h9 => absurd h9 (by decide)) (fun _ => ?_)
              refine ms_run (pc' := 269) (lv' := [(7, .ref q9), (6, .int 0), (5, .int (nI v7)), (4, .int (nI v6)), (3, .int (nI v5)), (2, .int (nI (1 + v3))), (1, .int (nI v1)), (0, .ref o)]) (st' := [.int 1]) _ (ms_deC dX6_add_268 ms_deN) rfl rfl ?_
              refine ms_goto (tgt := 273) dX6_add_269 (by decide) ?_
              refine ms_reti (st := []) (ty := .boolean) dX6_add_273 rfl rfl ?_
              exact ⟨rfl, by omega, d + 1 + 1 + 1 + 1 + 1 + 1 + 1, t, by omega, by omega, Nat.le_refl t, by omega, W, H, cnt, fa, wa, dr, pa, X, nr, wl, mk, ds, wr, fv, hX7, hM7, fl.le (by omega), ly, hcf, hK⟩
          · skip
            have hmk : mk (v7 * W + v6) &&& (1 <<< (nI v1 &&& 31)) = 0 := Decidable.byContradiction (fun z => by rw [show ms_b (¬ mk (v7 * W + v6) &&& (1 <<< (nI v1 &&& 31)) = 0) = 1 from if_pos z] at h_108; exact absurd h_108 (by decide))
            refine ms_run (pc' := 116) (lv' := [(5, .int (nI v7)), (4, .int (nI v6)), (3, .int (nI v5)), (2, .int (nI (1 + v3))), (1, .int (nI v1)), (0, .ref o)]) (st' := [.int (nI v7), .int (nI v6), .ref o]) _ (ms_deC dX6_add_111 (ms_deC dX6_add_112 (ms_deC dX6_add_114 ms_deN))) rfl rfl ?_
            refine ms_callVp (As := [.int (nI v6), .int (nI v7)]) dX6_add_116 (c_X6_isOn hM7 hW hH hc hV.1 hV.2.1 hv6 hv7) cv_X6_74 hM7.O rfl ⟨Nat.le_of_ble_eq_true rfl, Nat.le_of_ble_eq_true rfl⟩ rfl (Nat.le_of_ble_eq_true rfl) ?_
            by_cases hc_116 : ¬ X.2.2.1 (v7 * W + v6) = -1
            · rw [show ms_b (¬ X.2.2.1 (v7 * W + v6) = -1) = 1 from if_pos hc_116]
              refine ms_if_ne (tgt := 126) dX6_add_119 (by decide) (fun _ => ?_) (fun h9 => absurd h9 (by decide))
              refine ms_run (pc' := 130) (lv' := [(6, .int 0), (5, .int (nI v7)), (4, .int (nI v6)), (3, .int (nI v5)), (2, .int (nI (1 + v3))), (1, .int (nI v1)), (0, .ref o)]) (st' := [.ref o]) _ (ms_deC dX6_add_126 (ms_deC dX6_add_127 (ms_deC dX6_add_129 ms_deN))) rfl rfl ?_
              refine ms_getf dX6_add_130 fg_X6_10 hM7.O rfl ?_
              refine ms_run (pc' := 140) (lv' := [(6, .int 0), (5, .int (nI v7)), (4, .int (nI v6)), (3, .int (nI v5)), (2, .int (nI (1 + v3))), (1, .int (nI v1)), (0, .ref o)]) (st' := [.int (nI v7), .int (nI v6), .int (nI v5), .int (nI (1 + v3)), .int (nI v1), .ref x]) _ (ms_deC dX6_add_133 (ms_deC dX6_add_134 (ms_deC dX6_add_135 (ms_deC dX6_add_136 (ms_deC dX6_add_138 ms_deN))))) rfl rfl ?_
              have hthi := th_wlk_i (wl := wl) (mk := mk) (on := X.2.2.1) hW hH hc (g := v1) (p := 1 + v3) (m := v5) (by omega) (by omega) (by omega) hv6 hv7
              have hct := c_X5_walker (n := n) ho hX7 (nI v1) (nI (1 + v3)) (nI v5) (nI v6) (nI v7) hc
              rw [gr_num_n hW hH hv6 hv7] at hct
              refine ms_W.room (k2 := 1 + 2) (z2 := 6 + 33) ?_ (by omega) (by omega)
              have hth8 : th_wlk W H wl mk cnt X.2.2.1 (nI v1) (nI (1 + v3)) (nI v5) (nI v6) (nI v7) = some ISE := hthi.trans (if_pos (by first | exact Or.inl hfull | exact Or.inr (Or.inl h_91) | exact Or.inr (Or.inr (Or.inl hmk)) | exact Or.inr (Or.inr (Or.inr hc_116))))
              refine ms_callVX (As := [.int (nI v1), .int (nI (1 + v3)), .int (nI v5), .int (nI v6), .int (nI v7)]) dX6_add_140 (hct) cv_X6_95 hX7.1 rfl ⟨Nat.le_of_ble_eq_true rfl, Nat.le_of_ble_eq_true rfl⟩ rfl (Nat.le_of_ble_eq_true rfl) (fun v9 n8 K8 hp9 => ?_) (fun E9 n8 K8 q9 hp9 => ?_)
              · skip
                exact absurd ((xq_P.val hp9).1.symm.trans hth8) (fun z => by cases z)
              · skip
                obtain ⟨he9, rfl, hn8⟩ := xq_P.thw hp9
                rw [hth8] at he9
                cases he9
                refine ⟨261, hd_X6_add_140, ?_⟩
                refine ms_run (pc' := 265) (lv' := [(7, .ref q9), (6, .int 0), (5, .int (nI v7)), (4, .int (nI v6)), (3, .int (nI v5)), (2, .int (nI (1 + v3))), (1, .int (nI v1)), (0, .ref o)]) (st' := [.int 0]) _ (ms_deC dX6_add_261 (ms_deC dX6_add_263 ms_deN)) rfl rfl ?_
                refine ms_if_ne (tgt := 272) dX6_add_265 (by decide) (fun h9 => absurd h9 (by decide)) (fun _ => ?_)
                refine ms_run (pc' := 269) (lv' := [(7, .ref q9), (6, .int 0), (5, .int (nI v7)), (4, .int (nI v6)), (3, .int (nI v5)), (2, .int (nI (1 + v3))), (1, .int (nI v1)), (0, .ref o)]) (st' := [.int 1]) _ (ms_deC dX6_add_268 ms_deN) rfl rfl ?_
                refine ms_goto (tgt := 273) dX6_add_269 (by decide) ?_
                refine ms_reti (st := []) (ty := .boolean) dX6_add_273 rfl rfl ?_
                exact ⟨rfl, by omega, d + 1 + 1 + 1 + 1 + 1 + 1 + 1, t, by omega, by omega, Nat.le_refl t, by omega, W, H, cnt, fa, wa, dr, pa, X, nr, wl, mk, ds, wr, fv, hX7, hM7, fl.le (by omega), ly, hcf, hK⟩
            · rw [show ms_b (¬ X.2.2.1 (v7 * W + v6) = -1) = 0 from if_neg hc_116]
              refine ms_if_ne (tgt := 126) dX6_add_119 (by decide) (fun h9 => absurd h9 (by decide)) (fun _ => ?_)
              refine ms_run (pc' := 123) (lv' := [(5, .int (nI v7)), (4, .int (nI v6)), (3, .int (nI v5)), (2, .int (nI (1 + v3))), (1, .int (nI v1)), (0, .ref o)]) (st' := [.int 1]) _ (ms_deC dX6_add_122 ms_deN) rfl rfl ?_
              refine ms_goto (tgt := 127) dX6_add_123 (by decide) ?_
              refine ms_run (pc' := 130) (lv' := [(6, .int 1), (5, .int (nI v7)), (4, .int (nI v6)), (3, .int (nI v5)), (2, .int (nI (1 + v3))), (1, .int (nI v1)), (0, .ref o)]) (st' := [.ref o]) _ (ms_deC dX6_add_127 (ms_deC dX6_add_129 ms_deN)) rfl rfl ?_
              refine ms_getf dX6_add_130 fg_X6_10 hM7.O rfl ?_
              refine ms_run (pc' := 140) (lv' := [(6, .int 1), (5, .int (nI v7)), (4, .int (nI v6)), (3, .int (nI v5)), (2, .int (nI (1 + v3))), (1, .int (nI v1)), (0, .ref o)]) (st' := [.int (nI v7), .int (nI v6), .int (nI v5), .int (nI (1 + v3)), .int (nI v1), .ref x]) _ (ms_deC dX6_add_133 (ms_deC dX6_add_134 (ms_deC dX6_add_135 (ms_deC dX6_add_136 (ms_deC dX6_add_138 ms_deN))))) rfl rfl ?_
              have hthi := th_wlk_i (wl := wl) (mk := mk) (on := X.2.2.1) hW hH hc (g := v1) (p := 1 + v3) (m := v5) (by omega) (by omega) (by omega) hv6 hv7
              have hct := c_X5_walker (n := n) ho hX7 (nI v1) (nI (1 + v3)) (nI v5) (nI v6) (nI v7) hc
              rw [gr_num_n hW hH hv6 hv7] at hct
              refine ms_W.room (k2 := 1 + 2) (z2 := 6 + 33) ?_ (by omega) (by omega)
              have hth8 : th_wlk W H wl mk cnt X.2.2.1 (nI v1) (nI (1 + v3)) (nI v5) (nI v6) (nI v7) = none := hthi.trans (if_neg (fun z => by rcases z with z | z | z | z; exact hroom z; exact z h_91; exact z hmk; exact hc_116 z))
              refine ms_callVX (As := [.int (nI v1), .int (nI (1 + v3)), .int (nI v5), .int (nI v6), .int (nI v7)]) dX6_add_140 (hct) cv_X6_95 hX7.1 rfl ⟨Nat.le_of_ble_eq_true rfl, Nat.le_of_ble_eq_true rfl⟩ rfl (Nat.le_of_ble_eq_true rfl) (fun v9 n8 K8 hp9 => ?_) (fun E9 n8 K8 q9 hp9 => ?_)
              · skip
                obtain ⟨-, hv9, hQ8, hn8⟩ := xq_P.val hp9
                cases hv9
                obtain ⟨hX8, hF8⟩ := hQ8
                have hM8 : fk_at K8 o x sb (nI (d + 1 + 1 + 1 + 1 + 1 + 1 + 1)) W H X.2.2.2 dr pa fa wa cnt wr fv X.1 := hM7.cf (n := n) ly hW0 hox hcf hF8
                refine ms_run (pc' := 147) (lv' := [(7, .int (nI cnt)), (6, .int 1), (5, .int (nI v7)), (4, .int (nI v6)), (3, .int (nI v5)), (2, .int (nI (1 + v3))), (1, .int (nI v1)), (0, .ref o)]) (st' := [.int 1]) _ (ms_deC dX6_add_143 (ms_deC dX6_add_145 ms_deN)) rfl rfl ?_
                refine ms_if_ne (tgt := 152) dX6_add_147 (by decide) (fun _ => ?_) (fun h9 => absurd h9 (by decide))
                refine ms_run (pc' := 154) (lv' := [(7, .int (nI cnt)), (6, .int 1), (5, .int (nI v7)), (4, .int (nI v6)), (3, .int (nI v5)), (2, .int (nI (1 + v3))), (1, .int (nI v1)), (0, .ref o)]) (st' := [.int 9]) _ (ms_deC dX6_add_152 ms_deN) rfl rfl ?_
                obtain ⟨⟨fw, hfw, hgw⟩, hrw, hiw⟩ := hM8.2.2
                refine ms_W.room (k2 := 1 + 1) (z2 := 9 + 24) ?_ (by omega) (by omega)
                refine ms_newI (N := 9) dX6_add_154 aw_int (by decide) rfl (Nat.le_of_ble_eq_true rfl) ?_
                obtain ⟨G_181, eG_181⟩ : ∃ K9 : ms_H, K9 = ms_up K8 n8 (.inl (0, 9, .inl (fun _ => 0))) := ⟨_, rfl⟩
                refine ms_W.heq eG_181 ?_
                have hf_182 := (congrFun eG_181 o).trans ((ms_up_n K8 _ (by omega)).trans hM8.O)
                have hf_183 := (congrFun eG_181 wa).trans ((ms_up_n K8 _ (by omega)).trans hgw)
                have hf_184 : G_181 n8 = some (.inl (0, 9, .inl (fun _ => 0))) := by rw [eG_181]; exact ms_up_s _ _ _
                refine ms_run (pc' := 159) (lv' := [(7, .int (nI cnt)), (6, .int 1), (5, .int (nI v7)), (4, .int (nI v6)), (3, .int (nI v5)), (2, .int (nI (1 + v3))), (1, .int (nI v1)), (0, .ref o)]) (st' := [.int (nI v1), .int 0, .ref n8, .ref n8]) _ (ms_deC dX6_add_156 (ms_deC dX6_add_157 (ms_deC dX6_add_158 ms_deN))) rfl rfl ?_
                refine ms_iastore dX6_add_159 hf_184 (vp_in_nI (n := 0) (by omega) (by omega)) ?_
                obtain ⟨G_185, eG_185⟩ : ∃ K9 : ms_H, K9 = ms_up G_181 n8 (.inl (0, 9, .inl (upd (fun _ => 0) (0 : Int32).toNatClampNeg (nI v1)))) := ⟨_, rfl⟩
                refine ms_W.heq eG_185 ?_
                have hf_186 := (congrFun eG_185 o).trans ((ms_up_n G_181 _ (by omega)).trans hf_182)
                have hf_187 := (congrFun eG_185 wa).trans ((ms_up_n G_181 _ (by omega)).trans hf_183)
                have hf_188 : G_185 n8 = some (.inl (0, 9, .inl (upd (fun _ => 0) (0 : Int32).toNatClampNeg (nI v1)))) := by rw [eG_185]; exact ms_up_s _ _ _
                refine ms_run (pc' := 163) (lv' := [(7, .int (nI cnt)), (6, .int 1), (5, .int (nI v7)), (4, .int (nI v6)), (3, .int (nI v5)), (2, .int (nI (1 + v3))), (1, .int (nI v1)), (0, .ref o)]) (st' := [.int (nI (1 + v3)), .int 1, .ref n8, .ref n8]) _ (ms_deC dX6_add_160 (ms_deC dX6_add_161 (ms_deC dX6_add_162 ms_deN))) rfl rfl ?_
                refine ms_iastore dX6_add_163 hf_188 (vp_in_nI (n := 1) (by omega) (by omega)) ?_
                obtain ⟨G_189, eG_189⟩ : ∃ K9 : ms_H, K9 = ms_up G_185 n8 (.inl (0, 9, .inl (upd (upd (fun _ => 0) (0 : Int32).toNatClampNeg (nI v1)) (1 : Int32).toNatClampNeg (nI (1 + v3))))) := ⟨_, rfl⟩
                refine ms_W.heq eG_189 ?_
                have hf_190 := (congrFun eG_189 o).trans ((ms_up_n G_185 _ (by omega)).trans hf_186)
                have hf_191 := (congrFun eG_189 wa).trans ((ms_up_n G_185 _ (by omega)).trans hf_187)
                have hf_192 : G_189 n8 = some (.inl (0, 9, .inl (upd (upd (fun _ => 0) (0 : Int32).toNatClampNeg (nI v1)) (1 : Int32).toNatClampNeg (nI (1 + v3))))) := by rw [eG_189]; exact ms_up_s _ _ _
                refine ms_run (pc' := 167) (lv' := [(7, .int (nI cnt)), (6, .int 1), (5, .int (nI v7)), (4, .int (nI v6)), (3, .int (nI v5)), (2, .int (nI (1 + v3))), (1, .int (nI v1)), (0, .ref o)]) (st' := [.int (nI v5), .int 2, .ref n8, .ref n8]) _ (ms_deC dX6_add_164 (ms_deC dX6_add_165 (ms_deC dX6_add_166 ms_deN))) rfl rfl ?_
                refine ms_iastore dX6_add_167 hf_192 (vp_in_nI (n := 2) (by omega) (by omega)) ?_
                obtain ⟨G_193, eG_193⟩ : ∃ K9 : ms_H, K9 = ms_up G_189 n8 (.inl (0, 9, .inl (upd (upd (upd (fun _ => 0) (0 : Int32).toNatClampNeg (nI v1)) (1 : Int32).toNatClampNeg (nI (1 + v3))) (2 : Int32).toNatClampNeg (nI v5)))) := ⟨_, rfl⟩
                refine ms_W.heq eG_193 ?_
                have hf_194 := (congrFun eG_193 o).trans ((ms_up_n G_189 _ (by omega)).trans hf_190)
                have hf_195 := (congrFun eG_193 wa).trans ((ms_up_n G_189 _ (by omega)).trans hf_191)
                have hf_196 : G_193 n8 = some (.inl (0, 9, .inl (upd (upd (upd (fun _ => 0) (0 : Int32).toNatClampNeg (nI v1)) (1 : Int32).toNatClampNeg (nI (1 + v3))) (2 : Int32).toNatClampNeg (nI v5)))) := by rw [eG_193]; exact ms_up_s _ _ _
                refine ms_run (pc' := 172) (lv' := [(7, .int (nI cnt)), (6, .int 1), (5, .int (nI v7)), (4, .int (nI v6)), (3, .int (nI v5)), (2, .int (nI (1 + v3))), (1, .int (nI v1)), (0, .ref o)]) (st' := [.int (nI v6), .int 3, .ref n8, .ref n8]) _ (ms_deC dX6_add_168 (ms_deC dX6_add_169 (ms_deC dX6_add_170 ms_deN))) rfl rfl ?_
                refine ms_iastore dX6_add_172 hf_196 (vp_in_nI (n := 3) (by omega) (by omega)) ?_
                obtain ⟨G_197, eG_197⟩ : ∃ K9 : ms_H, K9 = ms_up G_193 n8 (.inl (0, 9, .inl (upd (upd (upd (upd (fun _ => 0) (0 : Int32).toNatClampNeg (nI v1)) (1 : Int32).toNatClampNeg (nI (1 + v3))) (2 : Int32).toNatClampNeg (nI v5)) (3 : Int32).toNatClampNeg (nI v6)))) := ⟨_, rfl⟩
                refine ms_W.heq eG_197 ?_
                have hf_198 := (congrFun eG_197 o).trans ((ms_up_n G_193 _ (by omega)).trans hf_194)
                have hf_199 := (congrFun eG_197 wa).trans ((ms_up_n G_193 _ (by omega)).trans hf_195)
                have hf_200 : G_197 n8 = some (.inl (0, 9, .inl (upd (upd (upd (upd (fun _ => 0) (0 : Int32).toNatClampNeg (nI v1)) (1 : Int32).toNatClampNeg (nI (1 + v3))) (2 : Int32).toNatClampNeg (nI v5)) (3 : Int32).toNatClampNeg (nI v6)))) := by rw [eG_197]; exact ms_up_s _ _ _
                refine ms_run (pc' := 177) (lv' := [(7, .int (nI cnt)), (6, .int 1), (5, .int (nI v7)), (4, .int (nI v6)), (3, .int (nI v5)), (2, .int (nI (1 + v3))), (1, .int (nI v1)), (0, .ref o)]) (st' := [.int (nI v7), .int 4, .ref n8, .ref n8]) _ (ms_deC dX6_add_173 (ms_deC dX6_add_174 (ms_deC dX6_add_175 ms_deN))) rfl rfl ?_
                refine ms_iastore dX6_add_177 hf_200 (vp_in_nI (n := 4) (by omega) (by omega)) ?_
                obtain ⟨G_201, eG_201⟩ : ∃ K9 : ms_H, K9 = ms_up G_197 n8 (.inl (0, 9, .inl (upd (upd (upd (upd (upd (fun _ => 0) (0 : Int32).toNatClampNeg (nI v1)) (1 : Int32).toNatClampNeg (nI (1 + v3))) (2 : Int32).toNatClampNeg (nI v5)) (3 : Int32).toNatClampNeg (nI v6)) (4 : Int32).toNatClampNeg (nI v7)))) := ⟨_, rfl⟩
                refine ms_W.heq eG_201 ?_
                have hf_202 := (congrFun eG_201 o).trans ((ms_up_n G_197 _ (by omega)).trans hf_198)
                have hf_203 := (congrFun eG_201 wa).trans ((ms_up_n G_197 _ (by omega)).trans hf_199)
                have hf_204 : G_201 n8 = some (.inl (0, 9, .inl (upd (upd (upd (upd (upd (fun _ => 0) (0 : Int32).toNatClampNeg (nI v1)) (1 : Int32).toNatClampNeg (nI (1 + v3))) (2 : Int32).toNatClampNeg (nI v5)) (3 : Int32).toNatClampNeg (nI v6)) (4 : Int32).toNatClampNeg (nI v7)))) := by rw [eG_201]; exact ms_up_s _ _ _
                refine ms_run (pc' := 181) (lv' := [(7, .int (nI cnt)), (6, .int 1), (5, .int (nI v7)), (4, .int (nI v6)), (3, .int (nI v5)), (2, .int (nI (1 + v3))), (1, .int (nI v1)), (0, .ref o)]) (st' := [.int 4, .int 5, .ref n8, .ref n8]) _ (ms_deC dX6_add_178 (ms_deC dX6_add_179 (ms_deC dX6_add_180 ms_deN))) rfl rfl ?_
                refine ms_iastore dX6_add_181 hf_204 (vp_in_nI (n := 5) (by omega) (by omega)) ?_
                obtain ⟨G_205, eG_205⟩ : ∃ K9 : ms_H, K9 = ms_up G_201 n8 (.inl (0, 9, .inl (upd (upd (upd (upd (upd (upd (fun _ => 0) (0 : Int32).toNatClampNeg (nI v1)) (1 : Int32).toNatClampNeg (nI (1 + v3))) (2 : Int32).toNatClampNeg (nI v5)) (3 : Int32).toNatClampNeg (nI v6)) (4 : Int32).toNatClampNeg (nI v7)) (5 : Int32).toNatClampNeg 4))) := ⟨_, rfl⟩
                refine ms_W.heq eG_205 ?_
                have hf_206 := (congrFun eG_205 o).trans ((ms_up_n G_201 _ (by omega)).trans hf_202)
                have hf_207 := (congrFun eG_205 wa).trans ((ms_up_n G_201 _ (by omega)).trans hf_203)
                have hf_208 : G_205 n8 = some (.inl (0, 9, .inl (upd (upd (upd (upd (upd (upd (fun _ => 0) (0 : Int32).toNatClampNeg (nI v1)) (1 : Int32).toNatClampNeg (nI (1 + v3))) (2 : Int32).toNatClampNeg (nI v5)) (3 : Int32).toNatClampNeg (nI v6)) (4 : Int32).toNatClampNeg (nI v7)) (5 : Int32).toNatClampNeg 4))) := by rw [eG_205]; exact ms_up_s _ _ _
                refine ms_run (pc' := 186) (lv' := [(7, .int (nI cnt)), (6, .int 1), (5, .int (nI v7)), (4, .int (nI v6)), (3, .int (nI v5)), (2, .int (nI (1 + v3))), (1, .int (nI v1)), (0, .ref o)]) (st' := [.int 0, .int 6, .ref n8, .ref n8]) _ (ms_deC dX6_add_182 (ms_deC dX6_add_183 (ms_deC dX6_add_185 ms_deN))) rfl rfl ?_
                refine ms_iastore dX6_add_186 hf_208 (vp_in_nI (n := 6) (by omega) (by omega)) ?_
                obtain ⟨G_209, eG_209⟩ : ∃ K9 : ms_H, K9 = ms_up G_205 n8 (.inl (0, 9, .inl (upd (upd (upd (upd (upd (upd (upd (fun _ => 0) (0 : Int32).toNatClampNeg (nI v1)) (1 : Int32).toNatClampNeg (nI (1 + v3))) (2 : Int32).toNatClampNeg (nI v5)) (3 : Int32).toNatClampNeg (nI v6)) (4 : Int32).toNatClampNeg (nI v7)) (5 : Int32).toNatClampNeg 4) (6 : Int32).toNatClampNeg 0))) := ⟨_, rfl⟩
                refine ms_W.heq eG_209 ?_
                have hf_210 := (congrFun eG_209 o).trans ((ms_up_n G_205 _ (by omega)).trans hf_206)
                have hf_211 := (congrFun eG_209 wa).trans ((ms_up_n G_205 _ (by omega)).trans hf_207)
                have hf_212 : G_209 n8 = some (.inl (0, 9, .inl (upd (upd (upd (upd (upd (upd (upd (fun _ => 0) (0 : Int32).toNatClampNeg (nI v1)) (1 : Int32).toNatClampNeg (nI (1 + v3))) (2 : Int32).toNatClampNeg (nI v5)) (3 : Int32).toNatClampNeg (nI v6)) (4 : Int32).toNatClampNeg (nI v7)) (5 : Int32).toNatClampNeg 4) (6 : Int32).toNatClampNeg 0))) := by rw [eG_209]; exact ms_up_s _ _ _
                refine ms_run (pc' := 191) (lv' := [(7, .int (nI cnt)), (6, .int 1), (5, .int (nI v7)), (4, .int (nI v6)), (3, .int (nI v5)), (2, .int (nI (1 + v3))), (1, .int (nI v1)), (0, .ref o)]) (st' := [.int 0, .int 7, .ref n8, .ref n8]) _ (ms_deC dX6_add_187 (ms_deC dX6_add_188 (ms_deC dX6_add_190 ms_deN))) rfl rfl ?_
                refine ms_iastore dX6_add_191 hf_212 (vp_in_nI (n := 7) (by omega) (by omega)) ?_
                obtain ⟨G_213, eG_213⟩ : ∃ K9 : ms_H, K9 = ms_up G_209 n8 (.inl (0, 9, .inl (upd (upd (upd (upd (upd (upd (upd (upd (fun _ => 0) (0 : Int32).toNatClampNeg (nI v1)) (1 : Int32).toNatClampNeg (nI (1 + v3))) (2 : Int32).toNatClampNeg (nI v5)) (3 : Int32).toNatClampNeg (nI v6)) (4 : Int32).toNatClampNeg (nI v7)) (5 : Int32).toNatClampNeg 4) (6 : Int32).toNatClampNeg 0) (7 : Int32).toNatClampNeg 0))) := ⟨_, rfl⟩
                refine ms_W.heq eG_213 ?_
                have hf_214 := (congrFun eG_213 o).trans ((ms_up_n G_209 _ (by omega)).trans hf_210)
                have hf_215 := (congrFun eG_213 wa).trans ((ms_up_n G_209 _ (by omega)).trans hf_211)
                have hf_216 : G_213 n8 = some (.inl (0, 9, .inl (upd (upd (upd (upd (upd (upd (upd (upd (fun _ => 0) (0 : Int32).toNatClampNeg (nI v1)) (1 : Int32).toNatClampNeg (nI (1 + v3))) (2 : Int32).toNatClampNeg (nI v5)) (3 : Int32).toNatClampNeg (nI v6)) (4 : Int32).toNatClampNeg (nI v7)) (5 : Int32).toNatClampNeg 4) (6 : Int32).toNatClampNeg 0) (7 : Int32).toNatClampNeg 0))) := by rw [eG_213]; exact ms_up_s _ _ _
                refine ms_run (pc' := 196) (lv' := [(7, .int (nI cnt)), (6, .int 1), (5, .int (nI v7)), (4, .int (nI v6)), (3, .int (nI v5)), (2, .int (nI (1 + v3))), (1, .int (nI v1)), (0, .ref o)]) (st' := [.int (-1), .int 8, .ref n8, .ref n8]) _ (ms_deC dX6_add_192 (ms_deC dX6_add_193 (ms_deC dX6_add_195 ms_deN))) rfl rfl ?_
                refine ms_iastore dX6_add_196 hf_216 (vp_in_nI (n := 8) (by omega) (by omega)) ?_
                obtain ⟨G_217, eG_217⟩ : ∃ K9 : ms_H, K9 = ms_up G_213 n8 (.inl (0, 9, .inl (upd (upd (upd (upd (upd (upd (upd (upd (upd (fun _ => 0) (0 : Int32).toNatClampNeg (nI v1)) (1 : Int32).toNatClampNeg (nI (1 + v3))) (2 : Int32).toNatClampNeg (nI v5)) (3 : Int32).toNatClampNeg (nI v6)) (4 : Int32).toNatClampNeg (nI v7)) (5 : Int32).toNatClampNeg 4) (6 : Int32).toNatClampNeg 0) (7 : Int32).toNatClampNeg 0) (8 : Int32).toNatClampNeg (-1)))) := ⟨_, rfl⟩
                refine ms_W.heq eG_217 ?_
                have hf_218 := (congrFun eG_217 o).trans ((ms_up_n G_213 _ (by omega)).trans hf_214)
                have hf_219 := (congrFun eG_217 wa).trans ((ms_up_n G_213 _ (by omega)).trans hf_215)
                have hf_220 : G_217 n8 = some (.inl (0, 9, .inl (upd (upd (upd (upd (upd (upd (upd (upd (upd (fun _ => 0) (0 : Int32).toNatClampNeg (nI v1)) (1 : Int32).toNatClampNeg (nI (1 + v3))) (2 : Int32).toNatClampNeg (nI v5)) (3 : Int32).toNatClampNeg (nI v6)) (4 : Int32).toNatClampNeg (nI v7)) (5 : Int32).toNatClampNeg 4) (6 : Int32).toNatClampNeg 0) (7 : Int32).toNatClampNeg 0) (8 : Int32).toNatClampNeg (-1)))) := by rw [eG_217]; exact ms_up_s _ _ _
                refine ms_run (pc' := 200) (lv' := [(8, .ref n8), (7, .int (nI cnt)), (6, .int 1), (5, .int (nI v7)), (4, .int (nI v6)), (3, .int (nI v5)), (2, .int (nI (1 + v3))), (1, .int (nI v1)), (0, .ref o)]) (st' := [.ref o]) _ (ms_deC dX6_add_197 (ms_deC dX6_add_199 ms_deN)) rfl rfl ?_
                refine ms_getf dX6_add_200 fg_X6_36 hf_218 rfl ?_
                refine ms_alen (kd := 4) (v := nI cnt) (ty := fun c => (c, .array .int)) dX6_add_203 hf_219 (by decide) rfl ?_
                refine ms_run (pc' := 206) (lv' := [(8, .ref n8), (7, .int (nI cnt)), (6, .int 1), (5, .int (nI v7)), (4, .int (nI v6)), (3, .int (nI v5)), (2, .int (nI (1 + v3))), (1, .int (nI v1)), (0, .ref o)]) (st' := [.int ((nI cnt) + 1)]) _ (ms_deC dX6_add_204 (ms_deC dX6_add_205 ms_deN)) rfl rfl ?_
                rw [nI_1 cnt]
                refine ms_W.room (k2 := 1 + 0) (z2 := cnt + 1 + 0) ?_ (by omega) (by omega)
                refine ms_newA (N := cnt + 1) dX6_add_206 al_X6_34 (nI_pos (by omega)) (nI_clamp (by omega)) (by omega) ?_
                obtain ⟨G_221, eG_221⟩ : ∃ K9 : ms_H, K9 = ms_up G_217 (n8 + 1) (.inl (4, (cnt + 1), .inr (.inr (.inr (.inr (fun _ => none)))))) := ⟨_, rfl⟩
                refine ms_W.heq eG_221 ?_
                have hf_222 := (congrFun eG_221 o).trans ((ms_up_n G_217 _ (by omega)).trans hf_218)
                have hf_223 := (congrFun eG_221 wa).trans ((ms_up_n G_217 _ (by omega)).trans hf_219)
                have hf_224 := (congrFun eG_221 n8).trans ((ms_up_n G_217 _ (by omega)).trans hf_220)
                have hf_225 : G_221 (n8 + 1) = some (.inl (4, (cnt + 1), .inr (.inr (.inr (.inr (fun _ => none)))))) := by rw [eG_221]; exact ms_up_s _ _ _
                refine ms_run (pc' := 212) (lv' := [(9, .ref (n8 + 1)), (8, .ref n8), (7, .int (nI cnt)), (6, .int 1), (5, .int (nI v7)), (4, .int (nI v6)), (3, .int (nI v5)), (2, .int (nI (1 + v3))), (1, .int (nI v1)), (0, .ref o)]) (st' := [.ref o]) _ (ms_deC dX6_add_209 (ms_deC dX6_add_211 ms_deN)) rfl rfl ?_
                refine ms_getf dX6_add_212 fg_X6_36 hf_222 rfl ?_
                refine ms_run (pc' := 220) (lv' := [(9, .ref (n8 + 1)), (8, .ref n8), (7, .int (nI cnt)), (6, .int 1), (5, .int (nI v7)), (4, .int (nI v6)), (3, .int (nI v5)), (2, .int (nI (1 + v3))), (1, .int (nI v1)), (0, .ref o)]) (st' := [.ref o, .int 0, .ref (n8 + 1), .int 0, .ref wa]) _ (ms_deC dX6_add_215 (ms_deC dX6_add_216 (ms_deC dX6_add_218 (ms_deC dX6_add_219 ms_deN)))) rfl rfl ?_
                refine ms_getf dX6_add_220 fg_X6_36 hf_222 rfl ?_
                refine ms_alen (kd := 4) (v := nI cnt) (ty := fun c => (c, .array .int)) dX6_add_223 hf_223 (by decide) rfl ?_
                have hold : ∀ a, a < n8 → G_221 a = K8 a := fun a ha => (congrFun eG_221 a).trans ((ms_up_n _ _ (by omega)).trans ((congrFun eG_217 a).trans ((ms_up_n _ _ (by omega)).trans ((congrFun eG_213 a).trans ((ms_up_n _ _ (by omega)).trans ((congrFun eG_209 a).trans ((ms_up_n _ _ (by omega)).trans ((congrFun eG_205 a).trans ((ms_up_n _ _ (by omega)).trans ((congrFun eG_201 a).trans ((ms_up_n _ _ (by omega)).trans ((congrFun eG_197 a).trans ((ms_up_n _ _ (by omega)).trans ((congrFun eG_193 a).trans ((ms_up_n _ _ (by omega)).trans ((congrFun eG_189 a).trans ((ms_up_n _ _ (by omega)).trans ((congrFun eG_185 a).trans ((ms_up_n _ _ (by omega)).trans ((congrFun eG_181 a).trans ((ms_up_n _ _ (by omega)).trans (rfl))))))))))))))))))))))
                refine ms_copyA dX6_add_224 ac_X6_99 hf_223 hf_225 (by decide) (by decide) (nI_pos (by omega)) (by rw [nI_clamp (by omega)]; exact Nat.le_of_eq (Nat.zero_add _)) (by rw [nI_clamp (by omega)]; show 0 + cnt ≤ cnt + 1; omega) (fun i hi y hy => by
                    rw [nI_clamp (by omega)] at hi
                    rw [show (0 : Int32).toNatClampNeg + i = i from Nat.zero_add i, hfw i hi] at hy
                    cases hy
                    obtain ⟨r9, -, b9⟩ := hrw i hi
                    exact ⟨9, r9, (hold _ (by have := l4 i hi; omega)).trans b9⟩) ⟨Nat.le_of_ble_eq_true rfl, (show 8 + (nativeFrameWords "java/lang/System" "arraycopy" 5 + 11) ≤ m_X6_add.2.2.2.2.2.1 from by decide +kernel)⟩ (Nat.le_of_ble_eq_true rfl) ?_
                rw [nI_clamp (n := cnt) (by omega)]
                obtain ⟨G_226, eG_226⟩ : ∃ K9 : ms_H, K9 = ms_up G_221 (n8 + 1) (.inl (4, (cnt + 1), .inr (.inr (.inr (.inr (va_cpy fw (fun _ => none) (0 : Int32).toNatClampNeg (0 : Int32).toNatClampNeg cnt)))))) := ⟨_, rfl⟩
                refine ms_W.heq eG_226 ?_
                have hf_227 := (congrFun eG_226 o).trans ((ms_up_n G_221 _ (by omega)).trans hf_222)
                have hf_228 := (congrFun eG_226 wa).trans ((ms_up_n G_221 _ (by omega)).trans hf_223)
                have hf_229 := (congrFun eG_226 n8).trans ((ms_up_n G_221 _ (by omega)).trans hf_224)
                have hf_230 : G_226 (n8 + 1) = some (.inl (4, (cnt + 1), .inr (.inr (.inr (.inr (va_cpy fw (fun _ => none) (0 : Int32).toNatClampNeg (0 : Int32).toNatClampNeg cnt)))))) := by rw [eG_226]; exact ms_up_s _ _ _
                refine ms_run (pc' := 230) (lv' := [(9, .ref (n8 + 1)), (8, .ref n8), (7, .int (nI cnt)), (6, .int 1), (5, .int (nI v7)), (4, .int (nI v6)), (3, .int (nI v5)), (2, .int (nI (1 + v3))), (1, .int (nI v1)), (0, .ref o)]) (st' := [.ref o, .ref (n8 + 1)]) _ (ms_deC dX6_add_227 (ms_deC dX6_add_229 ms_deN)) rfl rfl ?_
                refine ms_getf dX6_add_230 fg_X6_36 hf_227 rfl ?_
                refine ms_alen (kd := 4) (v := nI cnt) (ty := fun c => (c, .array .int)) dX6_add_233 hf_228 (by decide) rfl ?_
                refine ms_run (pc' := 236) (lv' := [(9, .ref (n8 + 1)), (8, .ref n8), (7, .int (nI cnt)), (6, .int 1), (5, .int (nI v7)), (4, .int (nI v6)), (3, .int (nI v5)), (2, .int (nI (1 + v3))), (1, .int (nI v1)), (0, .ref o)]) (st' := [.ref n8, .int (nI cnt), .ref (n8 + 1)]) _ (ms_deC dX6_add_234 ms_deN) rfl rfl ?_
                refine ms_aastoreA dX6_add_236 hf_230 hf_229 (vp_in_nI (n := cnt) (by omega) (by omega)) ?_
                rw [nI_clamp (n := cnt) (by omega)]
                obtain ⟨G_231, eG_231⟩ : ∃ K9 : ms_H, K9 = ms_up G_226 (n8 + 1) (.inl (4, (cnt + 1), .inr (.inr (.inr (.inr (va_up (va_cpy fw (fun _ => none) (0 : Int32).toNatClampNeg (0 : Int32).toNatClampNeg cnt) cnt (some n8))))))) := ⟨_, rfl⟩
                refine ms_W.heq eG_231 ?_
                have hf_232 := (congrFun eG_231 o).trans ((ms_up_n G_226 _ (by omega)).trans hf_227)
                have hf_233 := (congrFun eG_231 wa).trans ((ms_up_n G_226 _ (by omega)).trans hf_228)
                have hf_234 := (congrFun eG_231 n8).trans ((ms_up_n G_226 _ (by omega)).trans hf_229)
                have hf_235 : G_231 (n8 + 1) = some (.inl (4, (cnt + 1), .inr (.inr (.inr (.inr (va_up (va_cpy fw (fun _ => none) (0 : Int32).toNatClampNeg (0 : Int32).toNatClampNeg cnt) cnt (some n8))))))) := by rw [eG_231]; exact ms_up_s _ _ _
                refine ms_run (pc' := 240) (lv' := [(9, .ref (n8 + 1)), (8, .ref n8), (7, .int (nI cnt)), (6, .int 1), (5, .int (nI v7)), (4, .int (nI v6)), (3, .int (nI v5)), (2, .int (nI (1 + v3))), (1, .int (nI v1)), (0, .ref o)]) (st' := [.ref (n8 + 1), .ref o]) _ (ms_deC dX6_add_237 (ms_deC dX6_add_238 ms_deN)) rfl rfl ?_
                refine ms_putf dX6_add_240 fp_X6_36 hf_232 (Nat.le_of_ble_eq_true rfl) rfl rfl ?_
                obtain ⟨G_236, eG_236⟩ : ∃ K9 : ms_H, K9 = ms_up G_231 o (.inr (6, [.ref x, .ref sb, .int (nI (d + 1 + 1 + 1 + 1 + 1 + 1 + 1)), .int (nI W), .int (nI H), .int X.2.2.2, .int dr, .int pa, .ref fa, .ref (n8 + 1)])) := ⟨_, rfl⟩
                refine ms_W.heq eG_236 ?_
                have hf_237 : G_236 o = some (.inr (6, [.ref x, .ref sb, .int (nI (d + 1 + 1 + 1 + 1 + 1 + 1 + 1)), .int (nI W), .int (nI H), .int X.2.2.2, .int dr, .int pa, .ref fa, .ref (n8 + 1)])) := by rw [eG_236]; exact ms_up_s _ _ _
                have hf_238 := (congrFun eG_236 wa).trans ((ms_up_n G_231 _ (by omega)).trans hf_233)
                have hf_239 := (congrFun eG_236 n8).trans ((ms_up_n G_231 _ (by omega)).trans hf_234)
                have hf_240 := (congrFun eG_236 (n8 + 1)).trans ((ms_up_n G_231 _ (by omega)).trans hf_235)
                refine ms_run (pc' := 246) (lv' := [(9, .ref (n8 + 1)), (8, .ref n8), (7, .int (nI cnt)), (6, .int 1), (5, .int (nI v7)), (4, .int (nI v6)), (3, .int (nI v5)), (2, .int (nI (1 + v3))), (1, .int (nI v1)), (0, .ref o)]) (st' := [.ref o, .int (nI cnt)]) _ (ms_deC dX6_add_243 (ms_deC dX6_add_245 ms_deN)) rfl rfl ?_
                refine ms_getf dX6_add_246 fg_X6_36 hf_237 rfl ?_
                refine ms_alen (kd := 4) (v := nI (cnt + 1)) (ty := fun c => (c, .array .int)) dX6_add_249 hf_240 (by decide) rfl ?_
                refine ms_run (pc' := 252) (lv' := [(9, .ref (n8 + 1)), (8, .ref n8), (7, .int (nI cnt)), (6, .int 1), (5, .int (nI v7)), (4, .int (nI v6)), (3, .int (nI v5)), (2, .int (nI (1 + v3))), (1, .int (nI v1)), (0, .ref o)]) (st' := [.int ((nI (cnt + 1)) - 1), .int (nI cnt)]) _ (ms_deC dX6_add_250 (ms_deC dX6_add_251 ms_deN)) rfl rfl ?_
                rw [nI_pred cnt]
                refine ms_icmp_ne (tgt := 259) dX6_add_252 (by decide) (fun h_252 => ?_) (fun h_252 => ?_)
                · skip
                  exact absurd rfl h_252
                · skip
                  refine ms_run (pc' := 256) (lv' := [(9, .ref (n8 + 1)), (8, .ref n8), (7, .int (nI cnt)), (6, .int 1), (5, .int (nI v7)), (4, .int (nI v6)), (3, .int (nI v5)), (2, .int (nI (1 + v3))), (1, .int (nI v1)), (0, .ref o)]) (st' := [.int 1]) _ (ms_deC dX6_add_255 ms_deN) rfl rfl ?_
                  refine ms_goto (tgt := 260) dX6_add_256 (by decide) ?_
                  refine ms_reti (st := []) (ty := .boolean) dX6_add_260 rfl rfl ?_
                  have hfin : ∀ a, a < n8 → ¬ a = o → G_236 a = K8 a := fun a ha ha2 => (congrFun eG_236 a).trans ((ms_up_n _ _ (by omega)).trans ((congrFun eG_231 a).trans ((ms_up_n _ _ (by omega)).trans ((congrFun eG_226 a).trans ((ms_up_n _ _ (by omega)).trans ((congrFun eG_221 a).trans ((ms_up_n _ _ (by omega)).trans ((congrFun eG_217 a).trans ((ms_up_n _ _ (by omega)).trans ((congrFun eG_213 a).trans ((ms_up_n _ _ (by omega)).trans ((congrFun eG_209 a).trans ((ms_up_n _ _ (by omega)).trans ((congrFun eG_205 a).trans ((ms_up_n _ _ (by omega)).trans ((congrFun eG_201 a).trans ((ms_up_n _ _ (by omega)).trans ((congrFun eG_197 a).trans ((ms_up_n _ _ (by omega)).trans ((congrFun eG_193 a).trans ((ms_up_n _ _ (by omega)).trans ((congrFun eG_189 a).trans ((ms_up_n _ _ (by omega)).trans ((congrFun eG_185 a).trans ((ms_up_n _ _ (by omega)).trans ((congrFun eG_181 a).trans ((ms_up_n _ _ (by omega)).trans (rfl))))))))))))))))))))))))))))
                  have hmd := fd_mod (y := v7) hv6
                  refine ⟨rfl, by omega, d + 1 + 1 + 1 + 1 + 1 + 1 + 1, t, by omega, by omega, Nat.le_refl t, by omega, W, H, cnt + 1, fa, (n8 + 1), dr, pa, (adX cnt X (nI v1) (nI (1 + v3)) (nI v5) (nI (v7 * W + v6))), nr, wl, mk, ds, va_up wr cnt n8, fv, hX8.cx ho (fun a h1 h2 => hfin a (by omega) (by omega)), ⟨hf_237, hM8.2.1.fr (fun a h1 h2 => hfin a (by omega) (by omega)) hW0, ⟨⟨_, fun k hk => ?_, hf_240⟩, fun k hk => ?_, fun i k hi hk e => ?_⟩⟩, ⟨by omega, by omega, by omega, fun k hk => ?_⟩, ⟨by omega, by omega, fun k hk => ?_⟩, hcf, hK.add (by omega) (by omega) (by omega) ⟨nI_pos' (by omega), show nI v5 ≤ nI 9 from nI_le (by omega) (by omega)⟩ hf9 h_91 hmk (Decidable.not_not.mp hc_116)⟩
                  · by_cases ek : k = cnt
                    · subst ek
                      exact (show va_up _ k _ k = _ from if_pos rfl).trans (congrArg some (show va_up wr k _ k = _ from if_pos rfl).symm)
                    · refine (show va_up _ cnt _ k = _ from if_neg ek).trans ((show va_cpy fw (fun _ => none) 0 0 cnt k = fw k from ?_).trans ((hfw k (by omega)).trans (congrArg some (show va_up wr cnt _ k = _ from if_neg ek).symm)))
                      unfold va_cpy
                      rw [if_pos (by omega)]
                      exact congrArg fw (by omega)
                  · by_cases ek : k = cnt
                    · subst ek
                      rw [show va_up wr k n8 k = n8 from if_pos rfl]
                      refine ⟨_, fun c hc9 => ?_, hf_239⟩
                      rw [show (adX k X (nI v1) (nI (1 + v3)) (nI v5) (nI (v7 * W + v6))).1 k = wk_come (X.1 k) (nI v1) (nI (1 + v3)) (nI v5) (nI (v7 * W + v6)) from if_pos rfl]
                      have h5 := wv_new (W := W) (t := (v7 * W + v6)) (u := X.1 k) (g := nI v1) (p := nI (1 + v3)) (m := nI v5) (by omega) c hc9
                      rw [hmd.1, hmd.2] at h5
                      exact h5
                    · obtain ⟨r9, a9, b9⟩ := hrw k (by omega)
                      rw [show va_up wr cnt n8 k = wr k from if_neg ek]
                      have hlk := l4 k (by omega)
                      have hyk := y3 k (by omega)
                      refine ⟨r9, fun c hc9 => ?_, (hfin _ (by omega) (by omega)).trans b9⟩
                      rw [show (adX cnt X (nI v1) (nI (1 + v3)) (nI v5) (nI (v7 * W + v6))).1 k = X.1 k from if_neg ek]
                      exact a9 c hc9
                  · unfold va_up at e
                    by_cases e1 : i = cnt
                    · by_cases e2 : k = cnt
                      · omega
                      · rw [if_pos e1, if_neg e2] at e
                        have := l4 k (by omega)
                        omega
                    · by_cases e2 : k = cnt
                      · rw [if_neg e1, if_pos e2] at e
                        have := l4 i (by omega)
                        omega
                      · rw [if_neg e1, if_neg e2] at e
                        exact hiw i k (by omega) (by omega) e
                  · unfold va_up
                    split
                    · omega
                    · have := l4 k (by omega)
                      omega
                  · unfold va_up
                    split
                    · omega
                    · exact y3 k (by omega)
              · skip
                exact absurd ((xq_P.thw hp9).1.symm.trans hth8) (fun z => by cases z)

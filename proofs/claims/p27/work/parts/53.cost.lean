/-! Flock: cost -/
theorem side_at {W H f s : Nat} {nr : Nat → Int32} (hL : lk_ok W H (W * H) nr) (hW : W ≤ 14) (hH : H ≤ 14) (hf : f < W * H) (hs : s < 4) :
    (nbX nr f s = -1 → ¬ gr_ins (nI W) (nI H) (nI (f % W) + fsx (nI s)) (nI (f / W) + fsy (nI s))) ∧ ∀ t, t < W * H → nbX nr f s = nI t → nI (f % W) + fsx (nI s) = nI (t % W) ∧ nI (f / W) + fsy (nI s) = nI (t / W) := by
  have h9 : W * H ≤ 196 := Nat.mul_le_mul hW hH
  have e1 := (fsx_s ⟨s, hs⟩).1
  have e2 := (fsx_s ⟨s, hs⟩).2
  have e3 : nbX nr f s = gr_num (nI W) (nI H) (nI (f % W) + ms_sx s) (nI (f / W) + ms_sy s) := nbX_lk hL hf h9 (by omega)
  rw [e1, e2, e3]
  generalize nI (f % W) + ms_sx s = X
  generalize nI (f / W) + ms_sy s = Y
  unfold gr_num
  by_cases hg : gr_ins (nI W) (nI H) X Y
  · rw [if_pos hg]
    obtain ⟨g1, g2, g3, g4⟩ := hg
    obtain ⟨a, ha, rfl⟩ := nI_of (Int32.not_lt.mpr g1)
    obtain ⟨b, hb, rfl⟩ := nI_of (Int32.not_lt.mpr g3)
    have ha2 : a < W := (nI_ltI ha (by omega)).mp g2
    have hb2 : b < H := (nI_ltI hb (by omega)).mp g4
    have hl := fij ha2 hb2
    rw [pk_mul, nI_add]
    refine ⟨fun z => absurd z (nI_m1 (by omega)), fun t ht z => ?_⟩
    have z2 := (nI_eq (by omega) (by omega)).mp z
    have hm := fd_mod (y := b) ha2
    rw [← z2, hm.1, hm.2]
    exact ⟨rfl, rfl⟩
  · rw [if_neg hg]
    exact ⟨fun _ => hg, fun t ht z => absurd z.symm (nI_m1 (by omega))⟩
theorem sub_0 {B dr : Int32} : B - dr * nI 0 = B := by rw [nI_0, Int32.mul_zero, Int32.sub_zero]
set_option maxHeartbeats 1000000 in
set_option maxRecDepth 20000 in
theorem c_X6_costS {n o x sb fa wa W H cnt : Nat} {G : ms_H} {dw cl dr pa : Int32} {wr : Nat → Nat} {fv u : Nat → Nat → Int32} (hM : fk_at G o x sb dw W H cl dr pa fa wa cnt wr fv u) (hW : W ≤ 14) (hH : H ≤ 14) (hc : cnt ≤ 24) {on : Nat → Int32} (hon : onV (W * H) cnt u on) (hv : hvX (nI (W * H)) cnt u) {D : Nat → Int32} {fr : Nat} (hD : far_at G fr W H D) (hDw : ∀ f, f < W * H → ¬ D f = -1 → fv f 0 = 0) (hDv : ∀ f, D f = -1 ∨ ∃ v, v ≤ 196 ∧ D f = nI v) {i own : Nat} (hi : i < cnt) (hpo : u i 3 = nI own) (hon9 : own < W * H) : ms_M m_X6_cost [.ref o, .int (nI i), .int 4, .ref fr] n G 0 0 (ms_p1 (some (.int (mcS W cnt u D i own))) n G) := by
  refine ms_M.of (by decide) (Nat.le_of_ble_eq_true rfl) ?_
  show ms_W false m_X6_cost _ 0 [(0, .ref o), (1, .int (nI i)), (2, .int 4), (3, .ref fr)] [] n G 0 0
  have h9 : W * H ≤ 196 := Nat.mul_le_mul hW hH
  have hxy := xX_n (W := W) (o := own) (by omega) hpo
  have hd := fd_div hon9
  refine ms_run (pc' := 1) (lv' := [(0, .ref o), (1, .int (nI i)), (2, .int 4), (3, .ref fr)]) (st' := [.ref o]) _ (ms_deC dX6_cost_0 ms_deN) rfl rfl ?_
  refine ms_getf dX6_cost_1 fg_X6_36 hM.1 rfl ?_
  refine ms_run (pc' := 5) (lv' := [(0, .ref o), (1, .int (nI i)), (2, .int 4), (3, .ref fr)]) (st' := [.int (nI i), .ref wa]) _ (ms_deC dX6_cost_4 ms_deN) rfl rfl ?_
  refine fk_ldW (i := i) dX6_cost_5 hM.2.2 hi hc ?_
  refine ms_run (pc' := 11) (lv' := [(4, .ref (wr i)), (0, .ref o), (1, .int (nI i)), (2, .int 4), (3, .ref fr)]) (st' := [.int 3, .ref (wr i)]) _ (ms_deC dX6_cost_6 (ms_deC dX6_cost_8 (ms_deC dX6_cost_10 ms_deN))) rfl rfl ?_
  refine fk_ldR (c := 3) dX6_cost_11 hM.2.2 hi (by decide) rfl ?_
  rw [show wvX W (u i) 3 = (nI (own % W)) from hxy.1]
  refine ms_run (pc' := 13) (lv' := [(4, .ref (wr i)), (0, .ref o), (1, .int (nI i)), (2, .int 4), (3, .ref fr)]) (st' := [.int 4, .int (nI (own % W))]) _ (ms_deC dX6_cost_12 ms_deN) rfl rfl ?_
  refine ms_callSp (As := [.int 4]) dX6_cost_13 (c_X6_sideX 4) cs_X6_112 rfl ⟨Nat.le_of_ble_eq_true rfl, Nat.le_of_ble_eq_true rfl⟩ rfl (Nat.le_of_ble_eq_true rfl) ?_
  refine ms_run (pc' := 19) (lv' := [(5, .int ((nI (own % W)) + (fsx 4))), (4, .ref (wr i)), (0, .ref o), (1, .int (nI i)), (2, .int 4), (3, .ref fr)]) (st' := []) _ (ms_deC dX6_cost_16 (ms_deC dX6_cost_17 ms_deN)) rfl rfl ?_
  rw [show nI (own % W) + fsx 4 = nI (own % W) from by rw [fsx_4.1, Int32.add_zero]]
  refine ms_run (pc' := 22) (lv' := [(5, .int (nI (own % W))), (4, .ref (wr i)), (0, .ref o), (1, .int (nI i)), (2, .int 4), (3, .ref fr)]) (st' := [.int 4, .ref (wr i)]) _ (ms_deC dX6_cost_19 (ms_deC dX6_cost_21 ms_deN)) rfl rfl ?_
  refine fk_ldR (c := 4) dX6_cost_22 hM.2.2 hi (by decide) rfl ?_
  rw [show wvX W (u i) 4 = (nI (own / W)) from hxy.2]
  refine ms_run (pc' := 24) (lv' := [(5, .int (nI (own % W))), (4, .ref (wr i)), (0, .ref o), (1, .int (nI i)), (2, .int 4), (3, .ref fr)]) (st' := [.int 4, .int (nI (own / W))]) _ (ms_deC dX6_cost_23 ms_deN) rfl rfl ?_
  refine ms_callSp (As := [.int 4]) dX6_cost_24 (c_X6_sideY 4) cs_X6_115 rfl ⟨Nat.le_of_ble_eq_true rfl, Nat.le_of_ble_eq_true rfl⟩ rfl (Nat.le_of_ble_eq_true rfl) ?_
  refine ms_run (pc' := 30) (lv' := [(6, .int ((nI (own / W)) + (fsy 4))), (5, .int (nI (own % W))), (4, .ref (wr i)), (0, .ref o), (1, .int (nI i)), (2, .int 4), (3, .ref fr)]) (st' := []) _ (ms_deC dX6_cost_27 (ms_deC dX6_cost_28 ms_deN)) rfl rfl ?_
  rw [show nI (own / W) + fsy 4 = nI (own / W) from by rw [fsx_4.2, Int32.add_zero]]
  refine ms_run (pc' := 35) (lv' := [(6, .int (nI (own / W))), (5, .int (nI (own % W))), (4, .ref (wr i)), (0, .ref o), (1, .int (nI i)), (2, .int 4), (3, .ref fr)]) (st' := [.int (nI (own / W)), .int (nI (own % W)), .ref o]) _ (ms_deC dX6_cost_30 (ms_deC dX6_cost_31 (ms_deC dX6_cost_33 ms_deN))) rfl rfl ?_
  refine ms_callVp (As := [.int (nI (own % W)), .int (nI (own / W))]) dX6_cost_35 (c_X6_isFree hM hW hH hc hd.1 hd.2.1) cv_X6_109 hM.1 rfl ⟨Nat.le_of_ble_eq_true rfl, Nat.le_of_ble_eq_true rfl⟩ rfl (Nat.le_of_ble_eq_true rfl) ?_
  by_cases hc_35 : fv (own / W * W + own % W) 0 = 0
  · rw [show ms_b (fv (own / W * W + own % W) 0 = 0) = 1 from if_pos hc_35]
    refine ms_if_eq (tgt := 67) dX6_cost_38 (by decide) (fun h9 => absurd h9 (by decide)) (fun _ => ?_)
    refine ms_run (pc' := 44) (lv' := [(6, .int (nI (own / W))), (5, .int (nI (own % W))), (4, .ref (wr i)), (0, .ref o), (1, .int (nI i)), (2, .int 4), (3, .ref fr)]) (st' := [.int (nI (own % W)), .ref fr]) _ (ms_deC dX6_cost_41 (ms_deC dX6_cost_42 ms_deN)) rfl rfl ?_
    refine far_ldA (i := (own % W)) dX6_cost_44 hD hd.1 hW ?_
    refine ms_run (pc' := 47) (lv' := [(6, .int (nI (own / W))), (5, .int (nI (own % W))), (4, .ref (wr i)), (0, .ref o), (1, .int (nI i)), (2, .int 4), (3, .ref fr)]) (st' := [.int (nI (own / W)), .ref (fr + 1 + (own % W))]) _ (ms_deC dX6_cost_45 ms_deN) rfl rfl ?_
    refine far_ldI (j := (own / W)) dX6_cost_47 hD hd.1 hd.2.1 hH ?_
    refine ms_if_lt (tgt := 67) dX6_cost_48 (by decide) (fun h_48 => ?_) (fun h_48 => ?_)
    · skip
      refine ms_run (pc' := 70) (lv' := [(6, .int (nI (own / W))), (5, .int (nI (own % W))), (4, .ref (wr i)), (0, .ref o), (1, .int (nI i)), (2, .int 4), (3, .ref fr)]) (st' := [.int 10000]) _ (ms_deC dX6_cost_67 ms_deN) rfl rfl ?_
      refine ms_reti (st := []) (ty := .int) dX6_cost_70 rfl rfl ?_
      refine ms_p1.mk (ms_int_eq (if_pos ?_).symm) rfl
      first | exact Decidable.byContradiction (fun z => hc_35 (by rw [hd.2.2]; exact hDw own hon9 z)) | (rw [hd.2.2] at h_48; rcases hDv own with z | ⟨v, hv9, z⟩; exact z; rw [z] at h_48; exact absurd h_48 (nI_pos (by omega)))
    · skip
      refine ms_run (pc' := 53) (lv' := [(6, .int (nI (own / W))), (5, .int (nI (own % W))), (4, .ref (wr i)), (0, .ref o), (1, .int (nI i)), (2, .int 4), (3, .ref fr)]) (st' := [.int 4, .int 4]) _ (ms_deC dX6_cost_51 (ms_deC dX6_cost_52 ms_deN)) rfl rfl ?_
      refine ms_icmp_ge (tgt := 71) dX6_cost_53 (by decide) (fun _ => ?_) (fun h9 => absurd h9 (by decide))
      refine ms_run (pc' := 76) (lv' := [(6, .int (nI (own / W))), (5, .int (nI (own % W))), (4, .ref (wr i)), (0, .ref o), (1, .int (nI i)), (2, .int 4), (3, .ref fr)]) (st' := [.int (nI (own % W)), .ref fr, .int 10]) _ (ms_deC dX6_cost_71 (ms_deC dX6_cost_73 (ms_deC dX6_cost_74 ms_deN))) rfl rfl ?_
      refine far_ldA (i := (own % W)) dX6_cost_76 hD hd.1 hW ?_
      refine ms_run (pc' := 79) (lv' := [(6, .int (nI (own / W))), (5, .int (nI (own % W))), (4, .ref (wr i)), (0, .ref o), (1, .int (nI i)), (2, .int 4), (3, .ref fr)]) (st' := [.int (nI (own / W)), .ref (fr + 1 + (own % W)), .int 10]) _ (ms_deC dX6_cost_77 ms_deN) rfl rfl ?_
      refine far_ldI (j := (own / W)) dX6_cost_79 hD hd.1 hd.2.1 hH ?_
      refine ms_run (pc' := 84) (lv' := [(6, .int (nI (own / W))), (5, .int (nI (own % W))), (4, .ref (wr i)), (0, .ref o), (1, .int (nI i)), (2, .int 4), (3, .ref fr)]) (st' := [.int 2, .ref (wr i), .int (10 * (D ((own / W) * W + (own % W))))]) _ (ms_deC dX6_cost_80 (ms_deC dX6_cost_81 (ms_deC dX6_cost_83 ms_deN))) rfl rfl ?_
      refine fk_ldR (c := 2) dX6_cost_84 hM.2.2 hi (by decide) rfl ?_
      refine ms_run (pc' := 91) (lv' := [(6, .int (nI (own / W))), (5, .int (nI (own % W))), (4, .ref (wr i)), (0, .ref o), (1, .int (nI i)), (2, .int 4), (3, .ref fr)]) (st' := [.int (nI i), .int (nI (own / W)), .int (nI (own % W)), .ref o, .int (u i 2), .int (10 * (D ((own / W) * W + (own % W))))]) _ (ms_deC dX6_cost_85 (ms_deC dX6_cost_86 (ms_deC dX6_cost_88 (ms_deC dX6_cost_90 ms_deN)))) rfl rfl ?_
      refine ms_callVp (As := [.int (nI (own % W)), .int (nI (own / W)), .int (nI i)]) dX6_cost_91 (c_X6_round hM hW hH hc hv hd.1 hd.2.1 (nI i)) cv_X6_122 hM.1 rfl ⟨Nat.le_of_ble_eq_true rfl, Nat.le_of_ble_eq_true rfl⟩ rfl (Nat.le_of_ble_eq_true rfl) ?_
      refine ms_run (pc' := 104) (lv' := [(8, .int 0), (7, .int ((10 * (D ((own / W) * W + (own % W)))) + ((u i 2) * (nI (ct (pRo W u (own / W * W + own % W) (nI i)) cnt))))), (6, .int (nI (own / W))), (5, .int (nI (own % W))), (4, .ref (wr i)), (0, .ref o), (1, .int (nI i)), (2, .int 4), (3, .ref fr)]) (st' := [.ref o, .int 0]) _ (ms_deC dX6_cost_94 (ms_deC dX6_cost_95 (ms_deC dX6_cost_96 (ms_deC dX6_cost_98 (ms_deC dX6_cost_99 (ms_deC dX6_cost_101 (ms_deC dX6_cost_103 ms_deN))))))) rfl rfl ?_
      refine ms_getf dX6_cost_104 fg_X6_36 hM.1 rfl ?_
      refine fk_len dX6_cost_107 hM.2.2 ?_
      refine ms_icmp_ge (tgt := 171) dX6_cost_108 (by decide) (fun h_108 => ?_) (fun h_108 => ?_)
      · skip
        exact absurd h_108 (show ¬ nI cnt ≤ nI 0 from nI_ge (by omega) (by omega))
      · skip
        refine ms_run (pc' := 113) (lv' := [(8, .int 0), (7, .int ((10 * (D ((own / W) * W + (own % W)))) + ((u i 2) * (nI (ct (pRo W u (own / W * W + own % W) (nI i)) cnt))))), (6, .int (nI (own / W))), (5, .int (nI (own % W))), (4, .ref (wr i)), (0, .ref o), (1, .int (nI i)), (2, .int 4), (3, .ref fr)]) (st' := [.int 4, .int 4]) _ (ms_deC dX6_cost_111 (ms_deC dX6_cost_112 ms_deN)) rfl rfl ?_
        refine ms_icmp_ge (tgt := 171) dX6_cost_113 (by decide) (fun _ => ?_) (fun h9 => absurd h9 (by decide))
        refine ms_run (pc' := 173) (lv' := [(8, .int 0), (7, .int ((10 * (D ((own / W) * W + (own % W)))) + ((u i 2) * (nI (ct (pRo W u (own / W * W + own % W) (nI i)) cnt))))), (6, .int (nI (own / W))), (5, .int (nI (own % W))), (4, .ref (wr i)), (0, .ref o), (1, .int (nI i)), (2, .int 4), (3, .ref fr)]) (st' := [.int ((10 * (D ((own / W) * W + (own % W)))) + ((u i 2) * (nI (ct (pRo W u (own / W * W + own % W) (nI i)) cnt))))]) _ (ms_deC dX6_cost_171 ms_deN) rfl rfl ?_
        refine ms_reti (st := []) (ty := .int) dX6_cost_173 rfl rfl ?_
        rw [hd.2.2]
        rw [hd.2.2] at h_48
        exact ms_p1.mk (ms_int_eq (if_neg (fun z => h_48 (by rw [z]; decide))).symm) rfl
  · rw [show ms_b (fv (own / W * W + own % W) 0 = 0) = 0 from if_neg hc_35]
    refine ms_if_eq (tgt := 67) dX6_cost_38 (by decide) (fun _ => ?_) (fun h9 => absurd h9 (by decide))
    refine ms_run (pc' := 70) (lv' := [(6, .int (nI (own / W))), (5, .int (nI (own % W))), (4, .ref (wr i)), (0, .ref o), (1, .int (nI i)), (2, .int 4), (3, .ref fr)]) (st' := [.int 10000]) _ (ms_deC dX6_cost_67 ms_deN) rfl rfl ?_
    refine ms_reti (st := []) (ty := .int) dX6_cost_70 rfl rfl ?_
    refine ms_p1.mk (ms_int_eq (if_pos ?_).symm) rfl
    first | exact Decidable.byContradiction (fun z => hc_35 (by rw [hd.2.2]; exact hDw own hon9 z)) | (rw [hd.2.2] at h_48; rcases hDv own with z | ⟨v, hv9, z⟩; exact z; rw [z] at h_48; exact absurd h_48 (nI_pos (by omega)))
set_option maxHeartbeats 1000000 in
set_option maxRecDepth 20000 in
theorem l_X6_cost {n o x sb fa wa W H cnt : Nat} {G : ms_H} {dw cl dr pa : Int32} {wr : Nat → Nat} {fv u : Nat → Nat → Int32} (hM : fk_at G o x sb dw W H cl dr pa fa wa cnt wr fv u) (hW : W ≤ 14) (hH : H ≤ 14) (hc : cnt ≤ 24) {on : Nat → Int32} (hon : onV (W * H) cnt u on) (hv : hvX (nI (W * H)) cnt u) {D : Nat → Int32} {fr : Nat} (hD : far_at G fr W H D) (hDw : ∀ f, f < W * H → ¬ D f = -1 → fv f 0 = 0) (hDv : ∀ f, D f = -1 ∨ ∃ v, v ≤ 196 ∧ D f = nI v) {i own : Nat} (hi : i < cnt) (hpo : u i 3 = nI own) (hon9 : own < W * H) {s : Nat} (hs : s < 4) (B : Int32) : ∀ (r k : Nat), k + r = cnt →  ms_W false m_X6_cost (ms_p1 (some (.int (B - dr * nI (ct (pFm W u i own (nI s)) cnt)))) n G) 101 [(0, .ref o), (1, .int (nI i)), (2, .int (nI s)), (4, .ref (wr i)), (7, .int (B - dr * nI (ct (pFm W u i own (nI s)) k))), (8, .int (nI k))] [] n G 0 0 := by
  have h9 : W * H ≤ 196 := Nat.mul_le_mul hW hH
  have hxy := xX_n (W := W) (o := own) (by omega) hpo
  have hd := fd_div hon9
  intro r
  induction r with
  | zero =>
    intro k hk 
    have hkN : k = cnt := by omega
    refine ms_run (pc' := 104) (lv' := [(0, .ref o), (1, .int (nI i)), (2, .int (nI s)), (4, .ref (wr i)), (7, .int (B - dr * nI (ct (pFm W u i own (nI s)) k))), (8, .int (nI k))]) (st' := [.ref o, .int (nI k)]) _ (ms_deC dX6_cost_101 (ms_deC dX6_cost_103 ms_deN)) rfl rfl ?_
    refine ms_getf dX6_cost_104 fg_X6_36 hM.1 rfl ?_
    refine fk_len dX6_cost_107 hM.2.2 ?_
    refine ms_icmp_ge (tgt := 171) dX6_cost_108 (by decide) (fun h_108 => ?_) (fun h_108 => ?_)
    · skip
      refine ms_run (pc' := 173) (lv' := [(0, .ref o), (1, .int (nI i)), (2, .int (nI s)), (4, .ref (wr i)), (7, .int (B - dr * nI (ct (pFm W u i own (nI s)) k))), (8, .int (nI k))]) (st' := [.int (B - dr * nI (ct (pFm W u i own (nI s)) k))]) _ (ms_deC dX6_cost_171 ms_deN) rfl rfl ?_
      refine ms_reti (st := []) (ty := .int) dX6_cost_173 rfl rfl ?_
      exact ms_p1.mk (by rw [hkN]) rfl
    · skip
      exact absurd (by exact nI_le (b := k) (by omega) (by omega)) h_108
  | succ r ih =>
    intro k hk 
    have hlt : k < cnt := by omega
    refine ms_run (pc' := 104) (lv' := [(0, .ref o), (1, .int (nI i)), (2, .int (nI s)), (4, .ref (wr i)), (7, .int (B - dr * nI (ct (pFm W u i own (nI s)) k))), (8, .int (nI k))]) (st' := [.ref o, .int (nI k)]) _ (ms_deC dX6_cost_101 (ms_deC dX6_cost_103 ms_deN)) rfl rfl ?_
    refine ms_getf dX6_cost_104 fg_X6_36 hM.1 rfl ?_
    refine fk_len dX6_cost_107 hM.2.2 ?_
    refine ms_icmp_ge (tgt := 171) dX6_cost_108 (by decide) (fun h_108 => ?_) (fun h_108 => ?_)
    · skip
      exact absurd h_108 (by exact nI_ge (b := cnt) (by omega) (by omega))
    · skip
      refine ms_run (pc' := 113) (lv' := [(0, .ref o), (1, .int (nI i)), (2, .int (nI s)), (4, .ref (wr i)), (7, .int (B - dr * nI (ct (pFm W u i own (nI s)) k))), (8, .int (nI k))]) (st' := [.int 4, .int (nI s)]) _ (ms_deC dX6_cost_111 (ms_deC dX6_cost_112 ms_deN)) rfl rfl ?_
      refine ms_icmp_ge (tgt := 171) dX6_cost_113 (by decide) (fun h_113 => ?_) (fun h_113 => ?_)
      · skip
        exact absurd h_113 (show ¬ nI 4 ≤ nI s from nI_ge hs (by omega))
      · skip
        refine ms_run (pc' := 119) (lv' := [(0, .ref o), (1, .int (nI i)), (2, .int (nI s)), (4, .ref (wr i)), (7, .int (B - dr * nI (ct (pFm W u i own (nI s)) k))), (8, .int (nI k))]) (st' := [.int (nI i), .int (nI k)]) _ (ms_deC dX6_cost_116 (ms_deC dX6_cost_118 ms_deN)) rfl rfl ?_
        refine ms_icmp_eq (tgt := 165) dX6_cost_119 (by decide) (fun h_119 => ?_) (fun h_119 => ?_)
        · skip
          refine ms_run (pc' := 168) (lv' := [(8, .int ((nI k) + 1)), (0, .ref o), (1, .int (nI i)), (2, .int (nI s)), (4, .ref (wr i)), (7, .int (B - dr * nI (ct (pFm W u i own (nI s)) k)))]) (st' := []) _ (ms_deC dX6_cost_165 ms_deN) rfl rfl ?_
          refine ms_goto (tgt := 101) dX6_cost_168 (by decide) ?_
          have hp : (pFm W u i own (nI s)) k = false := decide_eq_false (fun z => by first | exact hc_150 ⟨z.2.1, by rw [hd.2.2]; exact z.2.2.1⟩ | exact h_132 z.2.2.2 | exact z.1 ((nI_eq (by omega) (by omega)).mp h_119))
          rw [ct_f (p := (pFm W u i own (nI s))) hp]
          rw [nI_1 k]
          refine ms_W.sub (lv2 := [(0, _), (1, _), (2, _), (4, _), (7, _), (8, _)]) ?_ [1, 2, 3, 4, 5, 0] rfl
          exact ih (k + 1) (by omega)
        · skip
          refine ms_run (pc' := 123) (lv' := [(0, .ref o), (1, .int (nI i)), (2, .int (nI s)), (4, .ref (wr i)), (7, .int (B - dr * nI (ct (pFm W u i own (nI s)) k))), (8, .int (nI k))]) (st' := [.ref o]) _ (ms_deC dX6_cost_122 ms_deN) rfl rfl ?_
          refine ms_getf dX6_cost_123 fg_X6_36 hM.1 rfl ?_
          refine ms_run (pc' := 128) (lv' := [(0, .ref o), (1, .int (nI i)), (2, .int (nI s)), (4, .ref (wr i)), (7, .int (B - dr * nI (ct (pFm W u i own (nI s)) k))), (8, .int (nI k))]) (st' := [.int (nI k), .ref wa]) _ (ms_deC dX6_cost_126 ms_deN) rfl rfl ?_
          refine fk_ldW (i := k) dX6_cost_128 hM.2.2 (by first | assumption | omega) hc ?_
          refine ms_run (pc' := 130) (lv' := [(0, .ref o), (1, .int (nI i)), (2, .int (nI s)), (4, .ref (wr i)), (7, .int (B - dr * nI (ct (pFm W u i own (nI s)) k))), (8, .int (nI k))]) (st' := [.int 5, .ref (wr k)]) _ (ms_deC dX6_cost_129 ms_deN) rfl rfl ?_
          refine fk_ldR (c := 5) dX6_cost_130 hM.2.2 (by first | assumption | omega) (by decide) rfl ?_
          refine ms_run (pc' := 132) (lv' := [(0, .ref o), (1, .int (nI i)), (2, .int (nI s)), (4, .ref (wr i)), (7, .int (B - dr * nI (ct (pFm W u i own (nI s)) k))), (8, .int (nI k))]) (st' := [.int (nI s), .int (u k 4)]) _ (ms_deC dX6_cost_131 ms_deN) rfl rfl ?_
          refine ms_icmp_ne (tgt := 165) dX6_cost_132 (by decide) (fun h_132 => ?_) (fun h_132 => ?_)
          · skip
            refine ms_run (pc' := 168) (lv' := [(8, .int ((nI k) + 1)), (0, .ref o), (1, .int (nI i)), (2, .int (nI s)), (4, .ref (wr i)), (7, .int (B - dr * nI (ct (pFm W u i own (nI s)) k)))]) (st' := []) _ (ms_deC dX6_cost_165 ms_deN) rfl rfl ?_
            refine ms_goto (tgt := 101) dX6_cost_168 (by decide) ?_
            have hp : (pFm W u i own (nI s)) k = false := decide_eq_false (fun z => by first | exact hc_150 ⟨z.2.1, by rw [hd.2.2]; exact z.2.2.1⟩ | exact h_132 z.2.2.2 | exact z.1 ((nI_eq (by omega) (by omega)).mp h_119))
            rw [ct_f (p := (pFm W u i own (nI s))) hp]
            rw [nI_1 k]
            refine ms_W.sub (lv2 := [(0, _), (1, _), (2, _), (4, _), (7, _), (8, _)]) ?_ [1, 2, 3, 4, 5, 0] rfl
            exact ih (k + 1) (by omega)
          · skip
            refine ms_run (pc' := 138) (lv' := [(0, .ref o), (1, .int (nI i)), (2, .int (nI s)), (4, .ref (wr i)), (7, .int (B - dr * nI (ct (pFm W u i own (nI s)) k))), (8, .int (nI k))]) (st' := [.int 3, .ref (wr i)]) _ (ms_deC dX6_cost_135 (ms_deC dX6_cost_137 ms_deN)) rfl rfl ?_
            refine fk_ldR (c := 3) dX6_cost_138 hM.2.2 hi (by decide) rfl ?_
            rw [show wvX W (u i) 3 = (nI (own % W)) from hxy.1]
            refine ms_run (pc' := 142) (lv' := [(0, .ref o), (1, .int (nI i)), (2, .int (nI s)), (4, .ref (wr i)), (7, .int (B - dr * nI (ct (pFm W u i own (nI s)) k))), (8, .int (nI k))]) (st' := [.int 4, .ref (wr i), .int (nI (own % W))]) _ (ms_deC dX6_cost_139 (ms_deC dX6_cost_141 ms_deN)) rfl rfl ?_
            refine fk_ldR (c := 4) dX6_cost_142 hM.2.2 hi (by decide) rfl ?_
            rw [show wvX W (u i) 4 = (nI (own / W)) from hxy.2]
            refine ms_run (pc' := 144) (lv' := [(0, .ref o), (1, .int (nI i)), (2, .int (nI s)), (4, .ref (wr i)), (7, .int (B - dr * nI (ct (pFm W u i own (nI s)) k))), (8, .int (nI k))]) (st' := [.ref o, .int (nI (own / W)), .int (nI (own % W))]) _ (ms_deC dX6_cost_143 ms_deN) rfl rfl ?_
            refine ms_getf dX6_cost_144 fg_X6_36 hM.1 rfl ?_
            refine ms_run (pc' := 149) (lv' := [(0, .ref o), (1, .int (nI i)), (2, .int (nI s)), (4, .ref (wr i)), (7, .int (B - dr * nI (ct (pFm W u i own (nI s)) k))), (8, .int (nI k))]) (st' := [.int (nI k), .ref wa, .int (nI (own / W)), .int (nI (own % W))]) _ (ms_deC dX6_cost_147 ms_deN) rfl rfl ?_
            refine fk_ldW (i := k) dX6_cost_149 hM.2.2 (by first | assumption | omega) hc ?_
            refine ms_callSp (As := [.int (nI (own % W)), .int (nI (own / W)), .ref (wr k)]) dX6_cost_150 (c_X6_areNear hM hW hH hc hv hd.1 hd.2.1 (k := k) hlt) cs_X6_118 rfl ⟨Nat.le_of_ble_eq_true rfl, Nat.le_of_ble_eq_true rfl⟩ rfl (Nat.le_of_ble_eq_true rfl) ?_
            by_cases hc_150 : ¬ u k 3 = -1 ∧ arR W (own / W * W + own % W) (u k 3).toNatClampNeg
            · rw [show ms_b (¬ u k 3 = -1 ∧ arR W (own / W * W + own % W) (u k 3).toNatClampNeg) = 1 from if_pos hc_150]
              refine ms_if_eq (tgt := 165) dX6_cost_153 (by decide) (fun h9 => absurd h9 (by decide)) (fun _ => ?_)
              refine ms_run (pc' := 159) (lv' := [(0, .ref o), (1, .int (nI i)), (2, .int (nI s)), (4, .ref (wr i)), (7, .int (B - dr * nI (ct (pFm W u i own (nI s)) k))), (8, .int (nI k))]) (st' := [.ref o, .int (B - dr * nI (ct (pFm W u i own (nI s)) k))]) _ (ms_deC dX6_cost_156 (ms_deC dX6_cost_158 ms_deN)) rfl rfl ?_
              refine ms_getf dX6_cost_159 fg_X6_23 hM.1 rfl ?_
              refine ms_run (pc' := 168) (lv' := [(8, .int ((nI k) + 1)), (7, .int ((B - dr * nI (ct (pFm W u i own (nI s)) k)) - dr)), (0, .ref o), (1, .int (nI i)), (2, .int (nI s)), (4, .ref (wr i))]) (st' := []) _ (ms_deC dX6_cost_162 (ms_deC dX6_cost_163 (ms_deC dX6_cost_165 ms_deN))) rfl rfl ?_
              refine ms_goto (tgt := 101) dX6_cost_168 (by decide) ?_
              have hp : (pFm W u i own (nI s)) k = true := decide_eq_true ⟨fun z => h_119 (by rw [z]), hc_150.1, by rw [← hd.2.2]; exact hc_150.2, h_132⟩
              rw [pf_t]
              rw [show B - dr * nI (ct (pFm W u i own (nI s)) k + 1) = B - dr * nI (ct (pFm W u i own (nI s)) (k + 1)) from by rw [← nI_1, ct_t (p := (pFm W u i own (nI s))) hp]]
              rw [nI_1 k]
              refine ms_W.sub (lv2 := [(0, _), (1, _), (2, _), (4, _), (7, _), (8, _)]) ?_ [2, 3, 4, 5, 1, 0] rfl
              exact ih (k + 1) (by omega)
            · rw [show ms_b (¬ u k 3 = -1 ∧ arR W (own / W * W + own % W) (u k 3).toNatClampNeg) = 0 from if_neg hc_150]
              refine ms_if_eq (tgt := 165) dX6_cost_153 (by decide) (fun _ => ?_) (fun h9 => absurd h9 (by decide))
              refine ms_run (pc' := 168) (lv' := [(8, .int ((nI k) + 1)), (0, .ref o), (1, .int (nI i)), (2, .int (nI s)), (4, .ref (wr i)), (7, .int (B - dr * nI (ct (pFm W u i own (nI s)) k)))]) (st' := []) _ (ms_deC dX6_cost_165 ms_deN) rfl rfl ?_
              refine ms_goto (tgt := 101) dX6_cost_168 (by decide) ?_
              have hp : (pFm W u i own (nI s)) k = false := decide_eq_false (fun z => by first | exact hc_150 ⟨z.2.1, by rw [hd.2.2]; exact z.2.2.1⟩ | exact h_132 z.2.2.2 | exact z.1 ((nI_eq (by omega) (by omega)).mp h_119))
              rw [ct_f (p := (pFm W u i own (nI s))) hp]
              rw [nI_1 k]
              refine ms_W.sub (lv2 := [(0, _), (1, _), (2, _), (4, _), (7, _), (8, _)]) ?_ [1, 2, 3, 4, 5, 0] rfl
              exact ih (k + 1) (by omega)
set_option maxHeartbeats 1000000 in
set_option maxRecDepth 20000 in
theorem c_X6_costO {n o x sb fa wa W H cnt : Nat} {G : ms_H} {dw cl dr pa : Int32} {wr : Nat → Nat} {fv u : Nat → Nat → Int32} (hM : fk_at G o x sb dw W H cl dr pa fa wa cnt wr fv u) (hW : W ≤ 14) (hH : H ≤ 14) (hc : cnt ≤ 24) {on : Nat → Int32} (hon : onV (W * H) cnt u on) (hv : hvX (nI (W * H)) cnt u) {D : Nat → Int32} {fr : Nat} (hD : far_at G fr W H D) (hDw : ∀ f, f < W * H → ¬ D f = -1 → fv f 0 = 0) (hDv : ∀ f, D f = -1 ∨ ∃ v, v ≤ 196 ∧ D f = nI v) {i own : Nat} (hi : i < cnt) (hpo : u i 3 = nI own) (hon9 : own < W * H) {nr : Nat → Int32} (hL : lk_ok W H (W * H) nr) {s : Nat} (hs : s < 4) (hn : nbX nr own s = -1) : ms_M m_X6_cost [.ref o, .int (nI i), .int (nI s), .ref fr] n G 0 0 (ms_p1 (some (.int (mcM W cnt nr on dr u D i own s))) n G) := by
  refine ms_M.of (by decide) (Nat.le_of_ble_eq_true rfl) ?_
  show ms_W false m_X6_cost _ 0 [(0, .ref o), (1, .int (nI i)), (2, .int (nI s)), (3, .ref fr)] [] n G 0 0
  have h9 : W * H ≤ 196 := Nat.mul_le_mul hW hH
  have hxy := xX_n (W := W) (o := own) (by omega) hpo
  have hd := fd_div hon9
  refine ms_run (pc' := 1) (lv' := [(0, .ref o), (1, .int (nI i)), (2, .int (nI s)), (3, .ref fr)]) (st' := [.ref o]) _ (ms_deC dX6_cost_0 ms_deN) rfl rfl ?_
  refine ms_getf dX6_cost_1 fg_X6_36 hM.1 rfl ?_
  refine ms_run (pc' := 5) (lv' := [(0, .ref o), (1, .int (nI i)), (2, .int (nI s)), (3, .ref fr)]) (st' := [.int (nI i), .ref wa]) _ (ms_deC dX6_cost_4 ms_deN) rfl rfl ?_
  refine fk_ldW (i := i) dX6_cost_5 hM.2.2 hi hc ?_
  refine ms_run (pc' := 11) (lv' := [(4, .ref (wr i)), (0, .ref o), (1, .int (nI i)), (2, .int (nI s)), (3, .ref fr)]) (st' := [.int 3, .ref (wr i)]) _ (ms_deC dX6_cost_6 (ms_deC dX6_cost_8 (ms_deC dX6_cost_10 ms_deN))) rfl rfl ?_
  refine fk_ldR (c := 3) dX6_cost_11 hM.2.2 hi (by decide) rfl ?_
  rw [show wvX W (u i) 3 = (nI (own % W)) from hxy.1]
  refine ms_run (pc' := 13) (lv' := [(4, .ref (wr i)), (0, .ref o), (1, .int (nI i)), (2, .int (nI s)), (3, .ref fr)]) (st' := [.int (nI s), .int (nI (own % W))]) _ (ms_deC dX6_cost_12 ms_deN) rfl rfl ?_
  refine ms_callSp (As := [.int (nI s)]) dX6_cost_13 (c_X6_sideX (nI s)) cs_X6_112 rfl ⟨Nat.le_of_ble_eq_true rfl, Nat.le_of_ble_eq_true rfl⟩ rfl (Nat.le_of_ble_eq_true rfl) ?_
  refine ms_run (pc' := 22) (lv' := [(5, .int ((nI (own % W)) + (fsx (nI s)))), (4, .ref (wr i)), (0, .ref o), (1, .int (nI i)), (2, .int (nI s)), (3, .ref fr)]) (st' := [.int 4, .ref (wr i)]) _ (ms_deC dX6_cost_16 (ms_deC dX6_cost_17 (ms_deC dX6_cost_19 (ms_deC dX6_cost_21 ms_deN)))) rfl rfl ?_
  refine fk_ldR (c := 4) dX6_cost_22 hM.2.2 hi (by decide) rfl ?_
  rw [show wvX W (u i) 4 = (nI (own / W)) from hxy.2]
  refine ms_run (pc' := 24) (lv' := [(5, .int ((nI (own % W)) + (fsx (nI s)))), (4, .ref (wr i)), (0, .ref o), (1, .int (nI i)), (2, .int (nI s)), (3, .ref fr)]) (st' := [.int (nI s), .int (nI (own / W))]) _ (ms_deC dX6_cost_23 ms_deN) rfl rfl ?_
  refine ms_callSp (As := [.int (nI s)]) dX6_cost_24 (c_X6_sideY (nI s)) cs_X6_115 rfl ⟨Nat.le_of_ble_eq_true rfl, Nat.le_of_ble_eq_true rfl⟩ rfl (Nat.le_of_ble_eq_true rfl) ?_
  refine ms_run (pc' := 35) (lv' := [(6, .int ((nI (own / W)) + (fsy (nI s)))), (5, .int ((nI (own % W)) + (fsx (nI s)))), (4, .ref (wr i)), (0, .ref o), (1, .int (nI i)), (2, .int (nI s)), (3, .ref fr)]) (st' := [.int ((nI (own / W)) + (fsy (nI s))), .int ((nI (own % W)) + (fsx (nI s))), .ref o]) _ (ms_deC dX6_cost_27 (ms_deC dX6_cost_28 (ms_deC dX6_cost_30 (ms_deC dX6_cost_31 (ms_deC dX6_cost_33 ms_deN))))) rfl rfl ?_
  refine ms_callVp (As := [.int ((nI (own % W)) + (fsx (nI s))), .int ((nI (own / W)) + (fsy (nI s)))]) dX6_cost_35 (c_X6_isFreeO hM hW hH hc ((side_at hL hW hH hon9 hs).1 hn)) cv_X6_109 hM.1 rfl ⟨Nat.le_of_ble_eq_true rfl, Nat.le_of_ble_eq_true rfl⟩ rfl (Nat.le_of_ble_eq_true rfl) ?_
  refine ms_if_eq (tgt := 67) dX6_cost_38 (by decide) (fun _ => ?_) (fun h9 => absurd h9 (by decide))
  refine ms_run (pc' := 70) (lv' := [(6, .int ((nI (own / W)) + (fsy (nI s)))), (5, .int ((nI (own % W)) + (fsx (nI s)))), (4, .ref (wr i)), (0, .ref o), (1, .int (nI i)), (2, .int (nI s)), (3, .ref fr)]) (st' := [.int 10000]) _ (ms_deC dX6_cost_67 ms_deN) rfl rfl ?_
  refine ms_reti (st := []) (ty := .int) dX6_cost_70 rfl rfl ?_
  exact ms_p1.mk (ms_int_eq (if_pos (Or.inl hn)).symm) rfl
set_option maxHeartbeats 1000000 in
set_option maxRecDepth 20000 in
theorem c_X6_costI {n o x sb fa wa W H cnt : Nat} {G : ms_H} {dw cl dr pa : Int32} {wr : Nat → Nat} {fv u : Nat → Nat → Int32} (hM : fk_at G o x sb dw W H cl dr pa fa wa cnt wr fv u) (hW : W ≤ 14) (hH : H ≤ 14) (hc : cnt ≤ 24) {on : Nat → Int32} (hon : onV (W * H) cnt u on) (hv : hvX (nI (W * H)) cnt u) {D : Nat → Int32} {fr : Nat} (hD : far_at G fr W H D) (hDw : ∀ f, f < W * H → ¬ D f = -1 → fv f 0 = 0) (hDv : ∀ f, D f = -1 ∨ ∃ v, v ≤ 196 ∧ D f = nI v) {i own : Nat} (hi : i < cnt) (hpo : u i 3 = nI own) (hon9 : own < W * H) {nr : Nat → Int32} (hL : lk_ok W H (W * H) nr) {s : Nat} (hs : s < 4) {t9 : Nat} (ht9 : t9 < W * H) (hn : nbX nr own s = nI t9) : ms_M m_X6_cost [.ref o, .int (nI i), .int (nI s), .ref fr] n G 0 0 (ms_p1 (some (.int (mcM W cnt nr on dr u D i own s))) n G) := by
  refine ms_M.of (by decide) (Nat.le_of_ble_eq_true rfl) ?_
  show ms_W false m_X6_cost _ 0 [(0, .ref o), (1, .int (nI i)), (2, .int (nI s)), (3, .ref fr)] [] n G 0 0
  have h9 : W * H ≤ 196 := Nat.mul_le_mul hW hH
  have hxy := xX_n (W := W) (o := own) (by omega) hpo
  have hd := fd_div hon9
  have hd2 := fd_div ht9
  have hsd := (side_at hL hW hH hon9 hs).2 t9 ht9 hn
  have hno : (nbX nr own s).toNatClampNeg = t9 := by rw [hn, nI_clamp (by omega)]
  have hm1 : ¬ nbX nr own s = -1 := by rw [hn]; exact nI_m1 (by omega)
  refine ms_run (pc' := 1) (lv' := [(0, .ref o), (1, .int (nI i)), (2, .int (nI s)), (3, .ref fr)]) (st' := [.ref o]) _ (ms_deC dX6_cost_0 ms_deN) rfl rfl ?_
  refine ms_getf dX6_cost_1 fg_X6_36 hM.1 rfl ?_
  refine ms_run (pc' := 5) (lv' := [(0, .ref o), (1, .int (nI i)), (2, .int (nI s)), (3, .ref fr)]) (st' := [.int (nI i), .ref wa]) _ (ms_deC dX6_cost_4 ms_deN) rfl rfl ?_
  refine fk_ldW (i := i) dX6_cost_5 hM.2.2 hi hc ?_
  refine ms_run (pc' := 11) (lv' := [(4, .ref (wr i)), (0, .ref o), (1, .int (nI i)), (2, .int (nI s)), (3, .ref fr)]) (st' := [.int 3, .ref (wr i)]) _ (ms_deC dX6_cost_6 (ms_deC dX6_cost_8 (ms_deC dX6_cost_10 ms_deN))) rfl rfl ?_
  refine fk_ldR (c := 3) dX6_cost_11 hM.2.2 hi (by decide) rfl ?_
  rw [show wvX W (u i) 3 = (nI (own % W)) from hxy.1]
  refine ms_run (pc' := 13) (lv' := [(4, .ref (wr i)), (0, .ref o), (1, .int (nI i)), (2, .int (nI s)), (3, .ref fr)]) (st' := [.int (nI s), .int (nI (own % W))]) _ (ms_deC dX6_cost_12 ms_deN) rfl rfl ?_
  refine ms_callSp (As := [.int (nI s)]) dX6_cost_13 (c_X6_sideX (nI s)) cs_X6_112 rfl ⟨Nat.le_of_ble_eq_true rfl, Nat.le_of_ble_eq_true rfl⟩ rfl (Nat.le_of_ble_eq_true rfl) ?_
  refine ms_run (pc' := 19) (lv' := [(5, .int ((nI (own % W)) + (fsx (nI s)))), (4, .ref (wr i)), (0, .ref o), (1, .int (nI i)), (2, .int (nI s)), (3, .ref fr)]) (st' := []) _ (ms_deC dX6_cost_16 (ms_deC dX6_cost_17 ms_deN)) rfl rfl ?_
  rw [hsd.1]
  refine ms_run (pc' := 22) (lv' := [(5, .int (nI (t9 % W))), (4, .ref (wr i)), (0, .ref o), (1, .int (nI i)), (2, .int (nI s)), (3, .ref fr)]) (st' := [.int 4, .ref (wr i)]) _ (ms_deC dX6_cost_19 (ms_deC dX6_cost_21 ms_deN)) rfl rfl ?_
  refine fk_ldR (c := 4) dX6_cost_22 hM.2.2 hi (by decide) rfl ?_
  rw [show wvX W (u i) 4 = (nI (own / W)) from hxy.2]
  refine ms_run (pc' := 24) (lv' := [(5, .int (nI (t9 % W))), (4, .ref (wr i)), (0, .ref o), (1, .int (nI i)), (2, .int (nI s)), (3, .ref fr)]) (st' := [.int (nI s), .int (nI (own / W))]) _ (ms_deC dX6_cost_23 ms_deN) rfl rfl ?_
  refine ms_callSp (As := [.int (nI s)]) dX6_cost_24 (c_X6_sideY (nI s)) cs_X6_115 rfl ⟨Nat.le_of_ble_eq_true rfl, Nat.le_of_ble_eq_true rfl⟩ rfl (Nat.le_of_ble_eq_true rfl) ?_
  refine ms_run (pc' := 30) (lv' := [(6, .int ((nI (own / W)) + (fsy (nI s)))), (5, .int (nI (t9 % W))), (4, .ref (wr i)), (0, .ref o), (1, .int (nI i)), (2, .int (nI s)), (3, .ref fr)]) (st' := []) _ (ms_deC dX6_cost_27 (ms_deC dX6_cost_28 ms_deN)) rfl rfl ?_
  rw [hsd.2]
  refine ms_run (pc' := 35) (lv' := [(6, .int (nI (t9 / W))), (5, .int (nI (t9 % W))), (4, .ref (wr i)), (0, .ref o), (1, .int (nI i)), (2, .int (nI s)), (3, .ref fr)]) (st' := [.int (nI (t9 / W)), .int (nI (t9 % W)), .ref o]) _ (ms_deC dX6_cost_30 (ms_deC dX6_cost_31 (ms_deC dX6_cost_33 ms_deN))) rfl rfl ?_
  refine ms_callVp (As := [.int (nI (t9 % W)), .int (nI (t9 / W))]) dX6_cost_35 (c_X6_isFree hM hW hH hc hd2.1 hd2.2.1) cv_X6_109 hM.1 rfl ⟨Nat.le_of_ble_eq_true rfl, Nat.le_of_ble_eq_true rfl⟩ rfl (Nat.le_of_ble_eq_true rfl) ?_
  by_cases hc_35 : fv (t9 / W * W + t9 % W) 0 = 0
  · rw [show ms_b (fv (t9 / W * W + t9 % W) 0 = 0) = 1 from if_pos hc_35]
    refine ms_if_eq (tgt := 67) dX6_cost_38 (by decide) (fun h9 => absurd h9 (by decide)) (fun _ => ?_)
    refine ms_run (pc' := 44) (lv' := [(6, .int (nI (t9 / W))), (5, .int (nI (t9 % W))), (4, .ref (wr i)), (0, .ref o), (1, .int (nI i)), (2, .int (nI s)), (3, .ref fr)]) (st' := [.int (nI (t9 % W)), .ref fr]) _ (ms_deC dX6_cost_41 (ms_deC dX6_cost_42 ms_deN)) rfl rfl ?_
    refine far_ldA (i := (t9 % W)) dX6_cost_44 hD hd2.1 hW ?_
    refine ms_run (pc' := 47) (lv' := [(6, .int (nI (t9 / W))), (5, .int (nI (t9 % W))), (4, .ref (wr i)), (0, .ref o), (1, .int (nI i)), (2, .int (nI s)), (3, .ref fr)]) (st' := [.int (nI (t9 / W)), .ref (fr + 1 + (t9 % W))]) _ (ms_deC dX6_cost_45 ms_deN) rfl rfl ?_
    refine far_ldI (j := (t9 / W)) dX6_cost_47 hD hd2.1 hd2.2.1 hH ?_
    refine ms_if_lt (tgt := 67) dX6_cost_48 (by decide) (fun h_48 => ?_) (fun h_48 => ?_)
    · skip
      refine ms_run (pc' := 70) (lv' := [(6, .int (nI (t9 / W))), (5, .int (nI (t9 % W))), (4, .ref (wr i)), (0, .ref o), (1, .int (nI i)), (2, .int (nI s)), (3, .ref fr)]) (st' := [.int 10000]) _ (ms_deC dX6_cost_67 ms_deN) rfl rfl ?_
      refine ms_reti (st := []) (ty := .int) dX6_cost_70 rfl rfl ?_
      refine ms_p1.mk (ms_int_eq ?_) rfl
      unfold mcM
      rw [hno]
      refine (if_pos (Or.inr ?_)).symm
      first | exact Or.inr (by rw [hd2.2.2] at hc_61; exact hc_61) | exact Or.inl (Decidable.byContradiction (fun z => hc_35 (by rw [hd2.2.2]; exact hDw t9 ht9 z))) | (rw [hd2.2.2] at h_48; rcases hDv t9 with z | ⟨v, hv9, z⟩; exact Or.inl z; rw [z] at h_48; exact absurd h_48 (nI_pos (by omega)))
    · skip
      refine ms_run (pc' := 53) (lv' := [(6, .int (nI (t9 / W))), (5, .int (nI (t9 % W))), (4, .ref (wr i)), (0, .ref o), (1, .int (nI i)), (2, .int (nI s)), (3, .ref fr)]) (st' := [.int 4, .int (nI s)]) _ (ms_deC dX6_cost_51 (ms_deC dX6_cost_52 ms_deN)) rfl rfl ?_
      refine ms_icmp_ge (tgt := 71) dX6_cost_53 (by decide) (fun h_53 => ?_) (fun h_53 => ?_)
      · skip
        exact absurd h_53 (show ¬ nI 4 ≤ nI s from nI_ge hs (by omega))
      · skip
        refine ms_run (pc' := 61) (lv' := [(6, .int (nI (t9 / W))), (5, .int (nI (t9 % W))), (4, .ref (wr i)), (0, .ref o), (1, .int (nI i)), (2, .int (nI s)), (3, .ref fr)]) (st' := [.int (nI (t9 / W)), .int (nI (t9 % W)), .ref o]) _ (ms_deC dX6_cost_56 (ms_deC dX6_cost_57 (ms_deC dX6_cost_59 ms_deN))) rfl rfl ?_
        refine ms_callVp (As := [.int (nI (t9 % W)), .int (nI (t9 / W))]) dX6_cost_61 (c_X6_isOn hM hW hH hc hon hv hd2.1 hd2.2.1) cv_X6_74 hM.1 rfl ⟨Nat.le_of_ble_eq_true rfl, Nat.le_of_ble_eq_true rfl⟩ rfl (Nat.le_of_ble_eq_true rfl) ?_
        by_cases hc_61 : ¬ on (t9 / W * W + t9 % W) = -1
        · rw [show ms_b (¬ on (t9 / W * W + t9 % W) = -1) = 1 from if_pos hc_61]
          refine ms_if_eq (tgt := 71) dX6_cost_64 (by decide) (fun h9 => absurd h9 (by decide)) (fun _ => ?_)
          refine ms_run (pc' := 70) (lv' := [(6, .int (nI (t9 / W))), (5, .int (nI (t9 % W))), (4, .ref (wr i)), (0, .ref o), (1, .int (nI i)), (2, .int (nI s)), (3, .ref fr)]) (st' := [.int 10000]) _ (ms_deC dX6_cost_67 ms_deN) rfl rfl ?_
          refine ms_reti (st := []) (ty := .int) dX6_cost_70 rfl rfl ?_
          refine ms_p1.mk (ms_int_eq ?_) rfl
          unfold mcM
          rw [hno]
          refine (if_pos (Or.inr ?_)).symm
          first | exact Or.inr (by rw [hd2.2.2] at hc_61; exact hc_61) | exact Or.inl (Decidable.byContradiction (fun z => hc_35 (by rw [hd2.2.2]; exact hDw t9 ht9 z))) | (rw [hd2.2.2] at h_48; rcases hDv t9 with z | ⟨v, hv9, z⟩; exact Or.inl z; rw [z] at h_48; exact absurd h_48 (nI_pos (by omega)))
        · rw [show ms_b (¬ on (t9 / W * W + t9 % W) = -1) = 0 from if_neg hc_61]
          refine ms_if_eq (tgt := 71) dX6_cost_64 (by decide) (fun _ => ?_) (fun h9 => absurd h9 (by decide))
          refine ms_run (pc' := 76) (lv' := [(6, .int (nI (t9 / W))), (5, .int (nI (t9 % W))), (4, .ref (wr i)), (0, .ref o), (1, .int (nI i)), (2, .int (nI s)), (3, .ref fr)]) (st' := [.int (nI (t9 % W)), .ref fr, .int 10]) _ (ms_deC dX6_cost_71 (ms_deC dX6_cost_73 (ms_deC dX6_cost_74 ms_deN))) rfl rfl ?_
          refine far_ldA (i := (t9 % W)) dX6_cost_76 hD hd2.1 hW ?_
          refine ms_run (pc' := 79) (lv' := [(6, .int (nI (t9 / W))), (5, .int (nI (t9 % W))), (4, .ref (wr i)), (0, .ref o), (1, .int (nI i)), (2, .int (nI s)), (3, .ref fr)]) (st' := [.int (nI (t9 / W)), .ref (fr + 1 + (t9 % W)), .int 10]) _ (ms_deC dX6_cost_77 ms_deN) rfl rfl ?_
          refine far_ldI (j := (t9 / W)) dX6_cost_79 hD hd2.1 hd2.2.1 hH ?_
          refine ms_run (pc' := 84) (lv' := [(6, .int (nI (t9 / W))), (5, .int (nI (t9 % W))), (4, .ref (wr i)), (0, .ref o), (1, .int (nI i)), (2, .int (nI s)), (3, .ref fr)]) (st' := [.int 2, .ref (wr i), .int (10 * (D ((t9 / W) * W + (t9 % W))))]) _ (ms_deC dX6_cost_80 (ms_deC dX6_cost_81 (ms_deC dX6_cost_83 ms_deN))) rfl rfl ?_
          refine fk_ldR (c := 2) dX6_cost_84 hM.2.2 hi (by decide) rfl ?_
          refine ms_run (pc' := 91) (lv' := [(6, .int (nI (t9 / W))), (5, .int (nI (t9 % W))), (4, .ref (wr i)), (0, .ref o), (1, .int (nI i)), (2, .int (nI s)), (3, .ref fr)]) (st' := [.int (nI i), .int (nI (t9 / W)), .int (nI (t9 % W)), .ref o, .int (u i 2), .int (10 * (D ((t9 / W) * W + (t9 % W))))]) _ (ms_deC dX6_cost_85 (ms_deC dX6_cost_86 (ms_deC dX6_cost_88 (ms_deC dX6_cost_90 ms_deN)))) rfl rfl ?_
          refine ms_callVp (As := [.int (nI (t9 % W)), .int (nI (t9 / W)), .int (nI i)]) dX6_cost_91 (c_X6_round hM hW hH hc hv hd2.1 hd2.2.1 (nI i)) cv_X6_122 hM.1 rfl ⟨Nat.le_of_ble_eq_true rfl, Nat.le_of_ble_eq_true rfl⟩ rfl (Nat.le_of_ble_eq_true rfl) ?_
          refine ms_run (pc' := 101) (lv' := [(8, .int 0), (7, .int ((10 * (D ((t9 / W) * W + (t9 % W)))) + ((u i 2) * (nI (ct (pRo W u (t9 / W * W + t9 % W) (nI i)) cnt))))), (6, .int (nI (t9 / W))), (5, .int (nI (t9 % W))), (4, .ref (wr i)), (0, .ref o), (1, .int (nI i)), (2, .int (nI s)), (3, .ref fr)]) (st' := []) _ (ms_deC dX6_cost_94 (ms_deC dX6_cost_95 (ms_deC dX6_cost_96 (ms_deC dX6_cost_98 (ms_deC dX6_cost_99 ms_deN))))) rfl rfl ?_
          rw [hd2.2.2]
          rw [hd2.2.2] at h_48 hc_61
          have hmc : mcM W cnt nr on dr u D i own s = (10 * D t9 + u i 2 * nI (ct (pRo W u t9 (nI i)) cnt)) - dr * nI (ct (pFm W u i own (nI s)) cnt) := by
            unfold mcM
            rw [hno]
            exact if_neg (fun z => by
              rcases z with z | z | z
              · exact hm1 z
              · exact h_48 (by rw [z]; decide)
              · exact hc_61 z)
          rw [hmc]
          refine ms_W.sub (lv2 := [(0, _), (1, _), (2, _), (4, _), (7, _), (8, _)]) ?_ [5, 6, 7, 4, 1, 0] rfl
          have hl9 := l_X6_cost (n := n) hM hW hH hc hon hv hD hDw hDv hi hpo hon9 hs (10 * D t9 + u i 2 * nI (ct (pRo W u t9 (nI i)) cnt)) cnt 0 (by omega)
          rw [show ct (pFm W u i own (nI s)) 0 = 0 from rfl, sub_0] at hl9
          exact hl9
  · rw [show ms_b (fv (t9 / W * W + t9 % W) 0 = 0) = 0 from if_neg hc_35]
    refine ms_if_eq (tgt := 67) dX6_cost_38 (by decide) (fun _ => ?_) (fun h9 => absurd h9 (by decide))
    refine ms_run (pc' := 70) (lv' := [(6, .int (nI (t9 / W))), (5, .int (nI (t9 % W))), (4, .ref (wr i)), (0, .ref o), (1, .int (nI i)), (2, .int (nI s)), (3, .ref fr)]) (st' := [.int 10000]) _ (ms_deC dX6_cost_67 ms_deN) rfl rfl ?_
    refine ms_reti (st := []) (ty := .int) dX6_cost_70 rfl rfl ?_
    refine ms_p1.mk (ms_int_eq ?_) rfl
    unfold mcM
    rw [hno]
    refine (if_pos (Or.inr ?_)).symm
    first | exact Or.inr (by rw [hd2.2.2] at hc_61; exact hc_61) | exact Or.inl (Decidable.byContradiction (fun z => hc_35 (by rw [hd2.2.2]; exact hDw t9 ht9 z))) | (rw [hd2.2.2] at h_48; rcases hDv t9 with z | ⟨v, hv9, z⟩; exact Or.inl z; rw [z] at h_48; exact absurd h_48 (nI_pos (by omega)))
theorem c_X6_costM {n o x sb fa wa W H cnt : Nat} {G : ms_H} {dw cl dr pa : Int32} {wr : Nat → Nat} {fv u : Nat → Nat → Int32} (hM : fk_at G o x sb dw W H cl dr pa fa wa cnt wr fv u) (hW : W ≤ 14) (hH : H ≤ 14) (hc : cnt ≤ 24) {on : Nat → Int32} (hon : onV (W * H) cnt u on) (hv : hvX (nI (W * H)) cnt u) {D : Nat → Int32} {fr : Nat} (hD : far_at G fr W H D) (hDw : ∀ f, f < W * H → ¬ D f = -1 → fv f 0 = 0) (hDv : ∀ f, D f = -1 ∨ ∃ v, v ≤ 196 ∧ D f = nI v) {i own : Nat} (hi : i < cnt) (hpo : u i 3 = nI own) (hon9 : own < W * H) {nr : Nat → Int32} (hL : lk_ok W H (W * H) nr) {s : Nat} (hs : s < 4) : ms_M m_X6_cost [.ref o, .int (nI i), .int (nI s), .ref fr] n G 0 0 (ms_p1 (some (.int (mcM W cnt nr on dr u D i own s))) n G) := by
  rcases nbX_val hL hon9 hW hH (show s < 8 by omega) with hn | ⟨t9, ht9, hn⟩
  · exact c_X6_costO hM hW hH hc hon hv hD hDw hDv hi hpo hon9 hL hs hn
  · exact c_X6_costI hM hW hH hc hon hv hD hDw hDv hi hpo hon9 hL hs ht9 hn

/-! the law: the loop over its fields -/
set_option maxHeartbeats 1000000 in
set_option maxRecDepth 20000 in
theorem l_law_f {n o x g q c j q2 c2 sb L d t W H cnt fa wa : Nat} {xs : Nat → Int32} {G : ms_H} {dr pa : Int32} {X : cX} {nr wl mk ds : Nat → Int32} {wr : Nat → Nat} {fv : Nat → Nat → Int32} {P : ms_P} {kr zr : Nat} {tm sp : Int32} {bf : Int64} (ho : ox x g q c j q2 c2) (hox : o < x) (hS : fS o x g q c j q2 c2 sb n d t G W H cnt fa wa dr pa X nr wl mk ds wr fv) {hN : Nat → Nat} (hhN : ∀ f, f < W * H → X.2.1 f = nI (hN f)) (kk : ∀ (n1 : Nat) (G1 : ms_H), n ≤ n1 → fS o x g q c j q2 c2 sb n1 d t G1 W H cnt fa wa dr pa X nr wl mk ds wr fv → ms_W false (ms_S (sb, L, xs) m_L_law) P 384 [(0, .ref sb), (1, .int tm), (2, .ref o), (3, .ref x), (4, .int sp), (5, .long bf), (7, .int (nI (sn hN (W * H)))), (8, .int (nI (ct (pO X) (W * H)))), (9, .int (nI (W * H)))] [] n1 G1 kr zr) : ∀ (r k : Nat), k + r = W * H → ∀ (n1 : Nat) (K : ms_H), n ≤ n1 → fS o x g q c j q2 c2 sb n1 d t K W H cnt fa wa dr pa X nr wl mk ds wr fv → ms_W false (ms_S (sb, L, xs) m_L_law) (P) 78 [(0, .ref sb), (1, .int tm), (2, .ref o), (3, .ref x), (4, .int sp), (5, .long bf), (7, .int (nI (sn hN k))), (8, .int (nI (ct (pO X) k))), (9, .int (nI k))] [] n1 K (19 * r + kr) (114 * r + zr) := by
  have hS0 := hS
  obtain ⟨-, -, -, -, -, hK⟩ := hS0
  have hK0 := hK
  obtain ⟨⟨pb1, pb2, pb3, pb4⟩, hc, hL, hfv, hht, hds, hdr, ⟨p9, hp91, hp92, hpa⟩, hwl, ⟨hcl, ht9⟩, hV, hI, hHt⟩ := hK0
  have hW : W ≤ 14 := by omega
  have hH : H ≤ 14 := by omega
  have hW0 : 0 < W := by omega
  have h9 : W * H ≤ 196 := Nat.mul_le_mul hW hH
  have h35 : W * H ≤ 7 * 5 := Nat.mul_le_mul pb2 pb4
  intro r
  induction r with
  | zero =>
    intro k hk n1 K hn1 hS1
    have hkN : k = W * H := by omega
    refine ms_run (pc' := 81) (lv' := [(0, .ref sb), (1, .int tm), (2, .ref o), (3, .ref x), (4, .int sp), (5, .long bf), (7, .int (nI (sn hN k))), (8, .int (nI (ct (pO X) k))), (9, .int (nI k))]) (st' := [.ref o, .int (nI k)]) _ (ms_deC dL_law_78 (ms_deC dL_law_80 ms_deN)) rfl rfl ?_
    refine ms_getf dL_law_81 fg_L_35 hS1.2.1.1 rfl ?_
    refine ms_run (pc' := 85) (lv' := [(0, .ref sb), (1, .int tm), (2, .ref o), (3, .ref x), (4, .int sp), (5, .long bf), (7, .int (nI (sn hN k))), (8, .int (nI (ct (pO X) k))), (9, .int (nI k))]) (st' := [.ref o, .int (nI W), .int (nI k)]) _ (ms_deC dL_law_84 ms_deN) rfl rfl ?_
    refine ms_getf dL_law_85 fg_L_39 hS1.2.1.1 rfl ?_
    refine ms_run (pc' := 89) (lv' := [(0, .ref sb), (1, .int tm), (2, .ref o), (3, .ref x), (4, .int sp), (5, .long bf), (7, .int (nI (sn hN k))), (8, .int (nI (ct (pO X) k))), (9, .int (nI k))]) (st' := [.int ((nI W) * (nI H)), .int (nI k)]) _ (ms_deC dL_law_88 ms_deN) rfl rfl ?_
    rw [show nI W * nI H = nI (W * H) from pk_mul W H]
    refine ms_icmp_ge (tgt := 384) dL_law_89 (by decide) (fun h_89 => ?_) (fun h_89 => ?_)
    · skip
      rw [hkN]
      refine ms_W.sub (lv2 := [(0, _), (1, _), (2, _), (3, _), (4, _), (5, _), (7, _), (8, _), (9, _)]) ?_ [0, 1, 2, 3, 4, 5, 6, 7, 8] rfl
      exact ms_W.room (k2 := kr) (z2 := zr) (kk n1 K hn1 hS1) (by omega) (by omega)
    · skip
      exact absurd (by exact nI_le (b := k) (by omega) (by omega)) h_89
  | succ r ih =>
    intro k hk n1 K hn1 hS1
    have hlt : k < W * H := by omega
    refine ms_run (pc' := 81) (lv' := [(0, .ref sb), (1, .int tm), (2, .ref o), (3, .ref x), (4, .int sp), (5, .long bf), (7, .int (nI (sn hN k))), (8, .int (nI (ct (pO X) k))), (9, .int (nI k))]) (st' := [.ref o, .int (nI k)]) _ (ms_deC dL_law_78 (ms_deC dL_law_80 ms_deN)) rfl rfl ?_
    refine ms_getf dL_law_81 fg_L_35 hS1.2.1.1 rfl ?_
    refine ms_run (pc' := 85) (lv' := [(0, .ref sb), (1, .int tm), (2, .ref o), (3, .ref x), (4, .int sp), (5, .long bf), (7, .int (nI (sn hN k))), (8, .int (nI (ct (pO X) k))), (9, .int (nI k))]) (st' := [.ref o, .int (nI W), .int (nI k)]) _ (ms_deC dL_law_84 ms_deN) rfl rfl ?_
    refine ms_getf dL_law_85 fg_L_39 hS1.2.1.1 rfl ?_
    refine ms_run (pc' := 89) (lv' := [(0, .ref sb), (1, .int tm), (2, .ref o), (3, .ref x), (4, .int sp), (5, .long bf), (7, .int (nI (sn hN k))), (8, .int (nI (ct (pO X) k))), (9, .int (nI k))]) (st' := [.int ((nI W) * (nI H)), .int (nI k)]) _ (ms_deC dL_law_88 ms_deN) rfl rfl ?_
    rw [show nI W * nI H = nI (W * H) from pk_mul W H]
    refine ms_icmp_ge (tgt := 384) dL_law_89 (by decide) (fun h_89 => ?_) (fun h_89 => ?_)
    · skip
      exact absurd h_89 (by exact nI_ge (b := W * H) (by omega) (by omega))
    · skip
      have hd := fd_div hlt
      refine ms_W.sub (lv2 := [(0, _), (1, _), (2, _), (3, _), (4, _), (5, _), (7, _), (8, _), (9, _)]) ?_ [0, 1, 2, 3, 4, 5, 6, 7, 8] rfl
      refine ms_W.room (k2 := 4 + (15 + (19 * r + kr))) (z2 := 24 + (90 + (114 * r + zr))) ?_ (by omega) (by omega)
      refine g1_law (n := n1) (kr := 15 + (19 * r + kr)) (zr := 90 + (114 * r + zr)) ho hox hS1 (a := k % W) (b := k / W) hd.1 hd.2.1 hd.2.2 hhN (fun n2 G2 hn2 hS2 => ?_)
      refine ms_W.room (k2 := 7 + (8 + (19 * r + kr))) (z2 := 42 + (48 + (114 * r + zr))) ?_ (by omega) (by omega)
      refine g2_law (n := n2) (kr := 8 + (19 * r + kr)) (zr := 48 + (114 * r + zr)) ho hox hS2 (a := k % W) (b := k / W) hd.1 hd.2.1 hd.2.2 (fun n3 G3 hn3 hS3 => ?_)
      refine ms_W.room (k2 := 4 + (4 + (19 * r + kr))) (z2 := 24 + (24 + (114 * r + zr))) ?_ (by omega) (by omega)
      refine g3_law (n := n3) (kr := 4 + (19 * r + kr)) (zr := 24 + (114 * r + zr)) ho hox hS3 (a := k % W) (b := k / W) hd.1 hd.2.1 hd.2.2 (fun n4 G4 hn4 hS4 => ?_)
      refine g4_law (n := n4) (kr := 19 * r + kr) (zr := 114 * r + zr) ho hox hS4 (a := k % W) (b := k / W) hd.1 hd.2.1 hd.2.2 (fun n5 G5 hn5 hS5 => ?_)
      refine ms_run (pc' := 381) (lv' := [(9, .int ((nI k) + 1)), (0, .ref sb), (1, .int tm), (2, .ref o), (3, .ref x), (4, .int sp), (5, .long bf), (7, .int (nI (sn hN (k + 1)))), (8, .int (nI (ct (pO X) (k + 1)))), (10, .int (nI (k % W))), (11, .int (nI (k / W)))]) (st' := []) _ (ms_deC dL_law_378 ms_deN) rfl rfl ?_
      refine ms_goto (tgt := 78) dL_law_381 (by decide) ?_
      rw [nI_1 k]
      refine ms_W.sub (lv2 := [(0, _), (1, _), (2, _), (3, _), (4, _), (5, _), (7, _), (8, _), (9, _)]) ?_ [1, 2, 3, 4, 5, 6, 7, 8, 0] rfl
      exact ih (k + 1) (by omega) n5 G5 (by omega) hS5

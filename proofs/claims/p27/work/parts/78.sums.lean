/-! the law: the loop over its walkers, its sums -/
theorem lg_same (a : Int64) : lg_cmp a a = 0 := by unfold lg_cmp; simp
theorem sm_sn {f : Nat → Int32} {s : Nat → Nat} : ∀ {n : Nat}, (∀ k, k < n → f k = nI (s k)) → sm f n = nI (sn s n)
  | 0, _ => rfl
  | n + 1, h => by
    show sm f n + f n = nI (sn s n + s n)
    rw [sm_sn (n := n) (fun k hk => h k (by omega)), h n (by omega), nI_add]
theorem on_cnt {W H cnt : Nat} {X : cX} (hc : cnt ≤ 24) (hW : W ≤ 14) (hH : H ≤ 14) (hon : onV (W * H) cnt X.1 X.2.2.1) (hv : hvX (nI (W * H)) cnt X.1) : ct (pO X) (W * H) + ct (pOut X.1) cnt = cnt := by
  have h9 : W * H ≤ 196 := Nat.mul_le_mul hW hH
  have hd := dcount (m := W * H) (c := cnt) (P := fun f k => decide (X.1 k 3 = nI f)) (fun f hf w v hw hv9 e1 e2 => by
    rcases hon f hf with ⟨-, h2⟩ | ⟨k, hk, -, -, h4⟩
    · exact absurd (of_decide_eq_true e1) (h2 w hw)
    · rw [h4 w hw (of_decide_eq_true e1), h4 v hv9 (of_decide_eq_true e2)]) (fun w hw f f2 hf hf2 e1 e2 => (nI_eq (by omega) (by omega)).mp ((of_decide_eq_true e1).symm.trans (of_decide_eq_true e2)))
  have h1 : ct (pO X) (W * H) = ct (fun f => an (fun k => decide (X.1 k 3 = nI f)) cnt) (W * H) := ct_congr (fun f hf => ba (by
    rw [an_iff]
    unfold pO
    rw [decide_eq_true_eq]
    rcases hon f hf with ⟨h1, h2⟩ | ⟨k, hk, h1, h2, -⟩
    · exact ⟨fun z => absurd h1 z, fun ⟨i, hi, z⟩ => absurd (of_decide_eq_true z) (h2 i hi)⟩
    · exact ⟨fun _ => ⟨k, hk, decide_eq_true h2⟩, fun _ y => nI_m1 (by omega) (h1.symm.trans y)⟩))
  have h2 : ct (fun w => an (fun f => decide (X.1 w 3 = nI f)) (W * H)) cnt = ct (fun w => !(pOut X.1 w)) cnt := ct_congr (fun w hw => ba (by
    rw [an_iff]
    unfold pOut
    constructor
    · rintro ⟨f, hf, z⟩
      rw [Bool.not_eq_true', decide_eq_false_iff_not, of_decide_eq_true z]
      exact nI_m1 (by omega)
    · intro z
      rw [Bool.not_eq_true', decide_eq_false_iff_not] at z
      obtain ⟨f, hf, e⟩ := pos_of hW hH hv hw z
      exact ⟨f, hf, decide_eq_true e⟩))
  have h3 : ct (fun _ => true) cnt = ct (fun w => !(pOut X.1 w)) cnt + ct (pOut X.1) cnt := ct_or (fun k _ => by cases pOut X.1 k <;> exact ⟨rfl, rfl⟩)
  rw [ct_all (fun _ _ => rfl)] at h3
  have h4 : ct (fun j => an ((fun f k => decide (X.1 k 3 = nI f)) j) cnt) (W * H) = _ := hd
  rw [h1, show ct (fun f => an (fun k => decide (X.1 k 3 = nI f)) cnt) (W * H) = ct (fun w => an (fun f => decide (X.1 w 3 = nI f)) (W * H)) cnt from h4, h2]
  omega
set_option maxHeartbeats 1000000 in
set_option maxRecDepth 20000 in
theorem l_law_w {n o x g q c j q2 c2 sb L d t W H cnt fa wa : Nat} {xs : Nat → Int32} {G : ms_H} {dr pa : Int32} {X : cX} {nr wl mk ds : Nat → Int32} {wr : Nat → Nat} {fv : Nat → Nat → Int32} {P : ms_P} {kr zr : Nat} {tm sp : Int32} {bf : Int64} (ho : ox x g q c j q2 c2) (hox : o < x) (hS : fS o x g q c j q2 c2 sb n d t G W H cnt fa wa dr pa X nr wl mk ds wr fv) {z : Nat → Nat} {M : Nat} (hz : ∀ k, k < cnt → jm_sz (jxX pa cnt nr X).1 (jxX pa cnt nr X).2.1 (nI k) = nI (z k) ∧ z k ≤ M ∧ (0 < z k ↔ pJam pa (X.1 k))) (hM5 : mx0 (jxX pa cnt nr X).2.1 (jxX pa cnt nr X).2.2.1 = nI M) (hM24 : M ≤ 24) {sN : Nat → Nat} (hsN : ∀ k, k < cnt → X.1 k 6 = nI (sN k) ∧ sN k ≤ t) {he7 oc8 : Int32} (kk : ∀ (n1 : Nat) (G1 : ms_H), n ≤ n1 → fS o x g q c j q2 c2 sb n1 d t G1 W H cnt fa wa dr pa X nr wl mk ds wr fv → ms_W false (ms_S (sb, L, xs) m_L_law) P 727 [(0, .ref sb), (1, .int tm), (2, .ref o), (3, .ref x), (4, .int sp), (5, .long bf), (7, .int he7), (8, .int oc8), (9, .int (nI (ct (pJ pa X) cnt))), (10, .int (nI (sn sN cnt))), (11, .int (nI cnt))] [] n1 G1 kr zr) : ∀ (r k : Nat), k + r = cnt → ∀ (n1 : Nat) (K : ms_H), n ≤ n1 → fS o x g q c j q2 c2 sb n1 d t K W H cnt fa wa dr pa X nr wl mk ds wr fv → ms_W false (ms_S (sb, L, xs) m_L_law) (P) 393 [(0, .ref sb), (1, .int tm), (2, .ref o), (3, .ref x), (4, .int sp), (5, .long bf), (7, .int he7), (8, .int oc8), (9, .int (nI (ct (pJ pa X) k))), (10, .int (nI (sn sN k))), (11, .int (nI k))] [] n1 K (34 * r + 1 + kr) (204 * r + 6 + zr) := by
  have hS0 := hS
  obtain ⟨-, -, -, -, -, hK⟩ := hS0
  have hK0 := hK
  obtain ⟨⟨pb1, pb2, pb3, pb4⟩, hc, hL, hfv, hht, hds, hdr, ⟨p9, hp91, hp92, hpa⟩, hwl, ⟨hcl, ht9⟩, hV, hI, hHt⟩ := hK0
  have hW : W ≤ 14 := by omega
  have hH : H ≤ 14 := by omega
  have hW0 : 0 < W := by omega
  have h9 : W * H ≤ 196 := Nat.mul_le_mul hW hH
  have h35 : W * H ≤ 7 * 5 := Nat.mul_le_mul pb2 pb4
  have hp0 : 0 < W * H := Nat.mul_pos hW0 (by omega)
  intro r
  induction r with
  | zero =>
    intro k hk n1 K hn1 hS1
    have hkN : k = cnt := by omega
    refine ms_run (pc' := 397) (lv' := [(0, .ref sb), (1, .int tm), (2, .ref o), (3, .ref x), (4, .int sp), (5, .long bf), (7, .int he7), (8, .int oc8), (9, .int (nI (ct (pJ pa X) k))), (10, .int (nI (sn sN k))), (11, .int (nI k))]) (st' := [.int 0, .ref x, .int (nI k)]) _ (ms_deC dL_law_393 (ms_deC dL_law_395 (ms_deC dL_law_396 ms_deN))) rfl rfl ?_
    refine lw_ask (As := [.int 0]) (v2 := .int (nI cnt)) (kr1 := 0 + (34 * 0 + kr)) (zr1 := 0 + (204 * 0 + zr)) dL_law_397 ho hox hS1 (c_X5_many ho hS1.1 hc hW hH hp0 0) (rfl) (rfl) cv_L_50 rfl ⟨Nat.le_of_ble_eq_true rfl, Nat.le_of_ble_eq_true rfl⟩ rfl (Nat.le_of_ble_eq_true rfl) (by omega) (by omega) (fun n1 K1 hn1 hS1 => ?_)
    refine ms_icmp_ge (tgt := 727) dL_law_400 (by decide) (fun h_400 => ?_) (fun h_400 => ?_)
    · skip
      rw [hkN]
      refine ms_W.sub (lv2 := [(0, _), (1, _), (2, _), (3, _), (4, _), (5, _), (7, _), (8, _), (9, _), (10, _), (11, _)]) ?_ [0, 1, 2, 3, 4, 5, 6, 7, 8, 9, 10] rfl
      exact ms_W.room (k2 := kr) (z2 := zr) (kk n1 K1 (by omega) hS1) (by omega) (by omega)
    · skip
      exact absurd (by exact nI_le (b := k) (by omega) (by omega)) h_400
  | succ r ih =>
    intro k hk n1 K hn1 hS1
    have hlt : k < cnt := by omega
    refine ms_run (pc' := 397) (lv' := [(0, .ref sb), (1, .int tm), (2, .ref o), (3, .ref x), (4, .int sp), (5, .long bf), (7, .int he7), (8, .int oc8), (9, .int (nI (ct (pJ pa X) k))), (10, .int (nI (sn sN k))), (11, .int (nI k))]) (st' := [.int 0, .ref x, .int (nI k)]) _ (ms_deC dL_law_393 (ms_deC dL_law_395 (ms_deC dL_law_396 ms_deN))) rfl rfl ?_
    refine lw_ask (As := [.int 0]) (v2 := .int (nI cnt)) (kr1 := 34 + (34 * r + kr)) (zr1 := 204 + (204 * r + zr)) dL_law_397 ho hox hS1 (c_X5_many ho hS1.1 hc hW hH hp0 0) (rfl) (rfl) cv_L_50 rfl ⟨Nat.le_of_ble_eq_true rfl, Nat.le_of_ble_eq_true rfl⟩ rfl (Nat.le_of_ble_eq_true rfl) (by omega) (by omega) (fun n1 K1 hn1 hS1 => ?_)
    refine ms_icmp_ge (tgt := 727) dL_law_400 (by decide) (fun h_400 => ?_) (fun h_400 => ?_)
    · skip
      exact absurd h_400 (by exact nI_ge (b := cnt) (by omega) (by omega))
    · skip
      refine ms_W.sub (lv2 := [(0, _), (1, _), (2, _), (3, _), (4, _), (5, _), (7, _), (8, _), (9, _), (10, _), (11, _)]) ?_ [0, 1, 2, 3, 4, 5, 6, 7, 8, 9, 10] rfl
      refine ms_W.room (k2 := 11 + (22 + (34 * r + 1 + kr))) (z2 := 66 + (132 + (204 * r + 6 + zr))) ?_ (by omega) (by omega)
      refine w1_law (n := n1) (kr := 22 + (34 * r + 1 + kr)) (zr := 132 + (204 * r + 6 + zr)) ho hox hS1 hlt hz hM5 hM24 hsN (fun n8 G8 hn8 hS8 => ?_)
      refine w2_law (n := n8) (kr := 34 * r + 1 + kr) (zr := 204 * r + 6 + zr) ho hox hS8 hlt hz hM5 hM24 (fun n9 G9 hn9 hS9 => ?_)
      refine ms_run (pc' := 724) (lv' := [(11, .int ((nI k) + 1)), (0, .ref sb), (1, .int tm), (2, .ref o), (3, .ref x), (4, .int sp), (5, .long bf), (7, .int he7), (8, .int oc8), (9, .int (nI (ct (pJ pa X) (k + 1)))), (10, .int (nI (sn sN (k + 1))))]) (st' := []) _ (ms_deC dL_law_721 ms_deN) rfl rfl ?_
      refine ms_goto (tgt := 393) dL_law_724 (by decide) ?_
      rw [nI_1 k]
      refine ms_W.sub (lv2 := [(0, _), (1, _), (2, _), (3, _), (4, _), (5, _), (7, _), (8, _), (9, _), (10, _), (11, _)]) ?_ [1, 2, 3, 4, 5, 6, 7, 8, 9, 10, 0] rfl
      exact ih (k + 1) (by omega) n9 G9 (by omega) hS9
set_option maxHeartbeats 1000000 in
set_option maxRecDepth 20000 in
theorem s_law {n o x g q c j q2 c2 sb L d t W H cnt fa wa : Nat} {xs : Nat → Int32} {G : ms_H} {dr pa : Int32} {X : cX} {nr wl mk ds : Nat → Int32} {wr : Nat → Nat} {fv : Nat → Nat → Int32} {P : ms_P} {kr zr : Nat} {tm sp : Int32} {bf : Int64} (ho : ox x g q c j q2 c2) (hox : o < x) (hS : fS o x g q c j q2 c2 sb n d t G W H cnt fa wa dr pa X nr wl mk ds wr fv) {hN sN : Nat → Nat} {M : Nat} (hHS : sn hN (W * H) = sn sN cnt) (hsN : ∀ k, k < cnt → X.1 k 6 = nI (sN k) ∧ sN k ≤ t) (hM3 : (jxX pa cnt nr X).2.2.2 = nI (ct (pJ pa X) cnt)) (hM4 : (jxX pa cnt nr X).2.2.1 ≤ ct (pJ pa X) cnt) (hM5 : mx0 (jxX pa cnt nr X).2.1 (jxX pa cnt nr X).2.2.1 = nI M) (hMp : M ≤ ct (pJ pa X) cnt) (hbf : bf = dgX (W * H) nr wl ds cnt dr X (jxX pa cnt nr X)) (kk : ∀ (n1 : Nat) (G1 : ms_H), n ≤ n1 → fS o x g q c j q2 c2 sb n1 d t G1 W H cnt fa wa dr pa X nr wl mk ds wr fv → ms_W false (ms_S (sb, L, xs) m_L_law) P 848 [(0, .ref sb), (1, .int tm), (2, .ref o), (3, .ref x), (4, .int sp), (5, .long bf)] [] n1 G1 kr zr) : ms_W false (ms_S (sb, L, xs) m_L_law) (P) 727 [(0, .ref sb), (1, .int tm), (2, .ref o), (3, .ref x), (4, .int sp), (5, .long bf), (7, .int (nI (sn hN (W * H)))), (8, .int (nI (ct (pO X) (W * H)))), (9, .int (nI (ct (pJ pa X) cnt))), (10, .int (nI (sn sN cnt)))] [] n G (9 + kr) (54 + zr) := by
  have hS0 := hS
  obtain ⟨-, -, -, -, -, hK⟩ := hS0
  have hK0 := hK
  obtain ⟨⟨pb1, pb2, pb3, pb4⟩, hc, hL, hfv, hht, hds, hdr, ⟨p9, hp91, hp92, hpa⟩, hwl, ⟨hcl, ht9⟩, hV, hI, hHt⟩ := hK0
  have hW : W ≤ 14 := by omega
  have hH : H ≤ 14 := by omega
  have hW0 : 0 < W := by omega
  have h9 : W * H ≤ 196 := Nat.mul_le_mul hW hH
  have h35 : W * H ≤ 7 * 5 := Nat.mul_le_mul pb2 pb4
  have hp0 : 0 < W * H := Nat.mul_pos hW0 (by omega)
  have hcp := ct_le (pJ pa X) cnt
  have hco := ct_le (pOut X.1) cnt
  have hcn := on_cnt hc hW hH hV.1 hV.2.1
  have hgf := pGf_out (mk := mk) (ds := ds) (dr := dr) hL hW hH hc hV
  have hco2 := ct_le (pOut (stX1 (nI (W * H)) nr mk ds cnt dr X).1) cnt
  by_cases han : an (fun j => decide (pJam pa (X.1 j))) cnt = true
  · skip
    have hj0 : 0 < ct (pJ pa X) cnt := by
      obtain ⟨i, hi, e⟩ := an_iff.mp han
      exact ct_pos (p := pJ pa X) (j := i) e hi
    have han9 : decide (an (fun j => decide (pJam pa (X.1 j))) cnt = true) = true := decide_eq_true han
    refine ms_run (pc' := 731) (lv' := [(0, .ref sb), (1, .int tm), (2, .ref o), (3, .ref x), (4, .int sp), (5, .long bf), (7, .int (nI (sn hN (W * H)))), (8, .int (nI (ct (pO X) (W * H)))), (9, .int (nI (ct (pJ pa X) cnt))), (10, .int (nI (sn sN cnt)))]) (st' := [.int (nI (sn sN cnt)), .int (nI (sn hN (W * H)))]) _ (ms_deC dL_law_727 (ms_deC dL_law_729 ms_deN)) rfl rfl ?_
    refine ms_icmp_ne (tgt := 834) dL_law_731 (by decide) (fun h_731 => ?_) (fun h_731 => ?_)
    · skip
      exact absurd (congrArg nI hHS) h_731
    · skip
      refine ms_run (pc' := 739) (lv' := [(0, .ref sb), (1, .int tm), (2, .ref o), (3, .ref x), (4, .int sp), (5, .long bf), (7, .int (nI (sn hN (W * H)))), (8, .int (nI (ct (pO X) (W * H)))), (9, .int (nI (ct (pJ pa X) cnt))), (10, .int (nI (sn sN cnt)))]) (st' := [.int 6, .ref x, .int (nI (sn sN cnt))]) _ (ms_deC dL_law_734 (ms_deC dL_law_736 (ms_deC dL_law_737 ms_deN))) rfl rfl ?_
      refine lw_ask (As := [.int 6]) (v2 := .int (nI (sn sN cnt))) (kr1 := 8 + kr) (zr1 := 48 + zr) dL_law_739 ho hox hS (c_X5_many ho hS.1 hc hW hH hp0 6) (rfl) (congrArg Value.int (sm_sn (s := sN) (fun k hk => (if_pos (Or.inl rfl)).trans (hsN k hk).1))) cv_L_50 rfl ⟨Nat.le_of_ble_eq_true rfl, Nat.le_of_ble_eq_true rfl⟩ rfl (Nat.le_of_ble_eq_true rfl) (by omega) (by omega) (fun n1 K1 hn1 hS1 => ?_)
      refine ms_icmp_ne (tgt := 834) dL_law_742 (by decide) (fun h_742 => ?_) (fun h_742 => ?_)
      · skip
        exact absurd rfl h_742
      · skip
        refine ms_run (pc' := 749) (lv' := [(0, .ref sb), (1, .int tm), (2, .ref o), (3, .ref x), (4, .int sp), (5, .long bf), (7, .int (nI (sn hN (W * H)))), (8, .int (nI (ct (pO X) (W * H)))), (9, .int (nI (ct (pJ pa X) cnt))), (10, .int (nI (sn sN cnt)))]) (st' := [.int 0, .ref x, .int (nI (ct (pO X) (W * H)))]) _ (ms_deC dL_law_745 (ms_deC dL_law_747 (ms_deC dL_law_748 ms_deN))) rfl rfl ?_
        refine lw_ask (As := [.int 0]) (v2 := .int (nI cnt)) (kr1 := 7 + kr) (zr1 := 42 + zr) dL_law_749 ho hox hS1 (c_X5_many ho hS1.1 hc hW hH hp0 0) (rfl) (rfl) cv_L_50 rfl ⟨Nat.le_of_ble_eq_true rfl, Nat.le_of_ble_eq_true rfl⟩ rfl (Nat.le_of_ble_eq_true rfl) (by omega) (by omega) (fun n2 K2 hn2 hS2 => ?_)
        refine ms_run (pc' := 754) (lv' := [(0, .ref sb), (1, .int tm), (2, .ref o), (3, .ref x), (4, .int sp), (5, .long bf), (7, .int (nI (sn hN (W * H)))), (8, .int (nI (ct (pO X) (W * H)))), (9, .int (nI (ct (pJ pa X) cnt))), (10, .int (nI (sn sN cnt)))]) (st' := [.int 1, .ref x, .int (nI cnt), .int (nI (ct (pO X) (W * H)))]) _ (ms_deC dL_law_752 (ms_deC dL_law_753 ms_deN)) rfl rfl ?_
        refine lw_ask (As := [.int 1]) (v2 := .int (nI (ct (pOut X.1) cnt))) (kr1 := 6 + kr) (zr1 := 36 + zr) dL_law_754 ho hox hS2 (c_X5_many ho hS2.1 hc hW hH hp0 1) (rfl) (rfl) cv_L_50 rfl ⟨Nat.le_of_ble_eq_true rfl, Nat.le_of_ble_eq_true rfl⟩ rfl (Nat.le_of_ble_eq_true rfl) (by omega) (by omega) (fun n3 K3 hn3 hS3 => ?_)
        refine ms_run (pc' := 758) (lv' := [(0, .ref sb), (1, .int tm), (2, .ref o), (3, .ref x), (4, .int sp), (5, .long bf), (7, .int (nI (sn hN (W * H)))), (8, .int (nI (ct (pO X) (W * H)))), (9, .int (nI (ct (pJ pa X) cnt))), (10, .int (nI (sn sN cnt)))]) (st' := [.int ((nI cnt) - (nI (ct (pOut X.1) cnt))), .int (nI (ct (pO X) (W * H)))]) _ (ms_deC dL_law_757 ms_deN) rfl rfl ?_
        rw [show nI cnt - nI (ct (pOut X.1) cnt) = nI (ct (pO X) (W * H)) from (nI_sub (by omega) hco).trans (congrArg nI (by omega))]
        refine ms_icmp_ne (tgt := 834) dL_law_758 (by decide) (fun h_758 => ?_) (fun h_758 => ?_)
        · skip
          exact absurd rfl h_758
        · skip
          refine ms_run (pc' := 765) (lv' := [(0, .ref sb), (1, .int tm), (2, .ref o), (3, .ref x), (4, .int sp), (5, .long bf), (7, .int (nI (sn hN (W * H)))), (8, .int (nI (ct (pO X) (W * H)))), (9, .int (nI (ct (pJ pa X) cnt))), (10, .int (nI (sn sN cnt)))]) (st' := [.int 3, .ref x, .int (nI (ct (pJ pa X) cnt))]) _ (ms_deC dL_law_761 (ms_deC dL_law_763 (ms_deC dL_law_764 ms_deN))) rfl rfl ?_
          refine lw_ask (As := [.int 3]) (v2 := .int (nI (ct (pJ pa X) cnt))) (kr1 := 5 + kr) (zr1 := 30 + zr) dL_law_765 ho hox hS3 (c_X5_many ho hS3.1 hc hW hH hp0 3) (rfl) (congrArg Value.int hM3) cv_L_50 rfl ⟨Nat.le_of_ble_eq_true rfl, Nat.le_of_ble_eq_true rfl⟩ rfl (Nat.le_of_ble_eq_true rfl) (by omega) (by omega) (fun n4 K4 hn4 hS4 => ?_)
          refine ms_icmp_ne (tgt := 834) dL_law_768 (by decide) (fun h_768 => ?_) (fun h_768 => ?_)
          · skip
            exact absurd rfl h_768
          · skip
            refine ms_run (pc' := 773) (lv' := [(0, .ref sb), (1, .int tm), (2, .ref o), (3, .ref x), (4, .int sp), (5, .long bf), (7, .int (nI (sn hN (W * H)))), (8, .int (nI (ct (pO X) (W * H)))), (9, .int (nI (ct (pJ pa X) cnt))), (10, .int (nI (sn sN cnt)))]) (st' := [.int 4, .ref x]) _ (ms_deC dL_law_771 (ms_deC dL_law_772 ms_deN)) rfl rfl ?_
            refine lw_ask (As := [.int 4]) (v2 := .int (nI (jxX pa cnt nr X).2.2.1)) (kr1 := 4 + kr) (zr1 := 24 + zr) dL_law_773 ho hox hS4 (c_X5_many ho hS4.1 hc hW hH hp0 4) (rfl) (rfl) cv_L_50 rfl ⟨Nat.le_of_ble_eq_true rfl, Nat.le_of_ble_eq_true rfl⟩ rfl (Nat.le_of_ble_eq_true rfl) (by omega) (by omega) (fun n5 K5 hn5 hS5 => ?_)
            refine ms_run (pc' := 778) (lv' := [(0, .ref sb), (1, .int tm), (2, .ref o), (3, .ref x), (4, .int sp), (5, .long bf), (7, .int (nI (sn hN (W * H)))), (8, .int (nI (ct (pO X) (W * H)))), (9, .int (nI (ct (pJ pa X) cnt))), (10, .int (nI (sn sN cnt)))]) (st' := [.int (nI (ct (pJ pa X) cnt)), .int (nI (jxX pa cnt nr X).2.2.1)]) _ (ms_deC dL_law_776 ms_deN) rfl rfl ?_
            refine ms_icmp_gt (tgt := 834) dL_law_778 (by decide) (fun h_778 => ?_) (fun h_778 => ?_)
            · skip
              exact absurd ((nI_ltI (by omega) (by omega)).mp h_778) (by omega)
            · skip
              refine ms_run (pc' := 783) (lv' := [(0, .ref sb), (1, .int tm), (2, .ref o), (3, .ref x), (4, .int sp), (5, .long bf), (7, .int (nI (sn hN (W * H)))), (8, .int (nI (ct (pO X) (W * H)))), (9, .int (nI (ct (pJ pa X) cnt))), (10, .int (nI (sn sN cnt)))]) (st' := [.int 5, .ref x]) _ (ms_deC dL_law_781 (ms_deC dL_law_782 ms_deN)) rfl rfl ?_
              refine lw_ask (As := [.int 5]) (v2 := .int (nI M)) (kr1 := 3 + kr) (zr1 := 18 + zr) dL_law_783 ho hox hS5 (c_X5_many ho hS5.1 hc hW hH hp0 5) (rfl) (congrArg Value.int hM5) cv_L_50 rfl ⟨Nat.le_of_ble_eq_true rfl, Nat.le_of_ble_eq_true rfl⟩ rfl (Nat.le_of_ble_eq_true rfl) (by omega) (by omega) (fun n6 K6 hn6 hS6 => ?_)
              refine ms_run (pc' := 788) (lv' := [(0, .ref sb), (1, .int tm), (2, .ref o), (3, .ref x), (4, .int sp), (5, .long bf), (7, .int (nI (sn hN (W * H)))), (8, .int (nI (ct (pO X) (W * H)))), (9, .int (nI (ct (pJ pa X) cnt))), (10, .int (nI (sn sN cnt)))]) (st' := [.int (nI (ct (pJ pa X) cnt)), .int (nI M)]) _ (ms_deC dL_law_786 ms_deN) rfl rfl ?_
              refine ms_icmp_gt (tgt := 834) dL_law_788 (by decide) (fun h_788 => ?_) (fun h_788 => ?_)
              · skip
                exact absurd ((nI_ltI (by omega) (by omega)).mp h_788) (by omega)
              · skip
                refine ms_run (pc' := 793) (lv' := [(0, .ref sb), (1, .int tm), (2, .ref o), (3, .ref x), (4, .int sp), (5, .long bf), (7, .int (nI (sn hN (W * H)))), (8, .int (nI (ct (pO X) (W * H)))), (9, .int (nI (ct (pJ pa X) cnt))), (10, .int (nI (sn sN cnt)))]) (st' := [.int 1, .ref x]) _ (ms_deC dL_law_791 (ms_deC dL_law_792 ms_deN)) rfl rfl ?_
                refine lw_ask (As := [.int 1]) (v2 := .int 0) (kr1 := 2 + kr) (zr1 := 12 + zr) dL_law_793 ho hox hS6 (c_X5_jamIn ho hS6.1 hc hV.2.1 1) (rfl) (congrArg Value.int (fst1_t han9)) cv_L_84 rfl ⟨Nat.le_of_ble_eq_true rfl, Nat.le_of_ble_eq_true rfl⟩ rfl (Nat.le_of_ble_eq_true rfl) (by omega) (by omega) (fun n7 K7 hn7 hS7 => ?_)
                refine ms_if_ne (tgt := 803) dL_law_796 (by decide) (fun h9 => absurd h9 (by decide)) (fun _ => ?_)
                refine ms_run (pc' := 800) (lv' := [(0, .ref sb), (1, .int tm), (2, .ref o), (3, .ref x), (4, .int sp), (5, .long bf), (7, .int (nI (sn hN (W * H)))), (8, .int (nI (ct (pO X) (W * H)))), (9, .int (nI (ct (pJ pa X) cnt))), (10, .int (nI (sn sN cnt)))]) (st' := [.int 1]) _ (ms_deC dL_law_799 ms_deN) rfl rfl ?_
                refine ms_goto (tgt := 804) dL_law_800 (by decide) ?_
                refine ms_run (pc' := 806) (lv' := [(0, .ref sb), (1, .int tm), (2, .ref o), (3, .ref x), (4, .int sp), (5, .long bf), (7, .int (nI (sn hN (W * H)))), (8, .int (nI (ct (pO X) (W * H)))), (9, .int (nI (ct (pJ pa X) cnt))), (10, .int (nI (sn sN cnt)))]) (st' := [.int (nI (ct (pJ pa X) cnt)), .int 1]) _ (ms_deC dL_law_804 ms_deN) rfl rfl ?_
                refine ms_if_le (tgt := 813) dL_law_806 (by decide) (fun h_806 => ?_) (fun h_806 => ?_)
                · skip
                  exact absurd ((nI_leI (b := 0) (by omega) (by omega)).mp h_806) (by omega)
                · skip
                  refine ms_run (pc' := 810) (lv' := [(0, .ref sb), (1, .int tm), (2, .ref o), (3, .ref x), (4, .int sp), (5, .long bf), (7, .int (nI (sn hN (W * H)))), (8, .int (nI (ct (pO X) (W * H)))), (9, .int (nI (ct (pJ pa X) cnt))), (10, .int (nI (sn sN cnt)))]) (st' := [.int 1, .int 1]) _ (ms_deC dL_law_809 ms_deN) rfl rfl ?_
                  refine ms_goto (tgt := 814) dL_law_810 (by decide) ?_
                  refine ms_icmp_ne (tgt := 834) dL_law_814 (by decide) (fun h9 => absurd h9 (by decide)) (fun _ => ?_)
                  refine ms_run (pc' := 820) (lv' := [(0, .ref sb), (1, .int tm), (2, .ref o), (3, .ref x), (4, .int sp), (5, .long bf), (7, .int (nI (sn hN (W * H)))), (8, .int (nI (ct (pO X) (W * H)))), (9, .int (nI (ct (pJ pa X) cnt))), (10, .int (nI (sn sN cnt)))]) (st' := [.ref o, .int 1, .ref x]) _ (ms_deC dL_law_817 (ms_deC dL_law_818 (ms_deC dL_law_819 ms_deN))) rfl rfl ?_
                  refine ms_getf dL_law_820 fg_L_87 hS7.2.1.1 rfl ?_
                  refine lw_ask (As := [.int 1, .int dr]) (v2 := .int (nI (ct (pOut (stX1 (nI (W * H)) nr mk ds cnt dr X).1) cnt))) (kr1 := 1 + kr) (zr1 := 6 + zr) dL_law_823 ho hox hS7 (c_X5_outWith ho hS7.1 hc hV.2.1 1 dr) (if_neg (fun y => by rcases y with y | y | y; exact y (by decide); exact Int32.not_lt.mpr hdr.1 y; exact Int32.not_lt.mpr hdr.2 y)) (rfl) cv_L_90 rfl ⟨Nat.le_of_ble_eq_true rfl, Nat.le_of_ble_eq_true rfl⟩ rfl (Nat.le_of_ble_eq_true rfl) (by omega) (by omega) (fun n8 K8 hn8 hS8 => ?_)
                  refine ms_run (pc' := 828) (lv' := [(0, .ref sb), (1, .int tm), (2, .ref o), (3, .ref x), (4, .int sp), (5, .long bf), (7, .int (nI (sn hN (W * H)))), (8, .int (nI (ct (pO X) (W * H)))), (9, .int (nI (ct (pJ pa X) cnt))), (10, .int (nI (sn sN cnt)))]) (st' := [.int 1, .ref x, .int (nI (ct (pOut (stX1 (nI (W * H)) nr mk ds cnt dr X).1) cnt))]) _ (ms_deC dL_law_826 (ms_deC dL_law_827 ms_deN)) rfl rfl ?_
                  refine lw_ask (As := [.int 1]) (v2 := .int (nI (ct (pOut X.1) cnt))) (kr1 := 0 + kr) (zr1 := 0 + zr) dL_law_828 ho hox hS8 (c_X5_many ho hS8.1 hc hW hH hp0 1) (rfl) (rfl) cv_L_50 rfl ⟨Nat.le_of_ble_eq_true rfl, Nat.le_of_ble_eq_true rfl⟩ rfl (Nat.le_of_ble_eq_true rfl) (by omega) (by omega) (fun n9 K9 hn9 hS9 => ?_)
                  refine ms_icmp_ge (tgt := 836) dL_law_831 (by decide) (fun h_831 => ?_) (fun h_831 => ?_)
                  · skip
                    refine ms_run (pc' := 837) (lv' := [(0, .ref sb), (1, .int tm), (2, .ref o), (3, .ref x), (4, .int sp), (5, .long bf), (7, .int (nI (sn hN (W * H)))), (8, .int (nI (ct (pO X) (W * H)))), (9, .int (nI (ct (pJ pa X) cnt))), (10, .int (nI (sn sN cnt)))]) (st' := [.ref x]) _ (ms_deC dL_law_836 ms_deN) rfl rfl ?_
                    refine lw_askM (As := []) (v2 := .long bf) dL_law_837 ho hox hS9 (c_X5_digest ho hS9.1 hc hW hH hp0) (congrArg Value.long hbf.symm) cv_L_29 rfl ⟨Nat.le_of_ble_eq_true rfl, Nat.le_of_ble_eq_true rfl⟩ rfl (Nat.le_of_ble_eq_true rfl) (fun K10 hS10 => ?_)
                    refine ms_run (pc' := 842) (lv' := [(0, .ref sb), (1, .int tm), (2, .ref o), (3, .ref x), (4, .int sp), (5, .long bf), (7, .int (nI (sn hN (W * H)))), (8, .int (nI (ct (pO X) (W * H)))), (9, .int (nI (ct (pJ pa X) cnt))), (10, .int (nI (sn sN cnt)))]) (st' := [.long bf, .long bf]) _ (ms_deC dL_law_840 ms_deN) rfl rfl ?_
                    refine ms_lcmp dL_law_842 ?_
                    rw [lg_same]
                    refine ms_if_eq (tgt := 848) dL_law_843 (by decide) (fun _ => ?_) (fun h9 => absurd h9 (by decide))
                    exact ms_W.room (k2 := kr) (z2 := zr) (by refine ms_W.sub (lv2 := [(0, _), (1, _), (2, _), (3, _), (4, _), (5, _)]) ?_ [0, 1, 2, 3, 4, 5] rfl; exact kk n9 K10 (by omega) hS10) (by omega) (by omega)
                  · skip
                    exact absurd (nI_le (by omega) (by omega)) h_831
  · skip
    have hj0 : ct (pJ pa X) cnt = 0 := ct_0 (fun i hi => by
      by_cases e : pJ pa X i = true
      · exact absurd (an_iff.mpr ⟨i, hi, e⟩) han
      · exact Bool.eq_false_iff.mpr e)
    have han9 : decide (an (fun j => decide (pJam pa (X.1 j))) cnt = true) = false := decide_eq_false han
    obtain ⟨J9, hJ9, hJn⟩ : ∃ J : Int32, fst1 (fun t => decide (an (fun j => decide (pJam pa ((stXn (nI (W * H)) nr mk ds cnt dr X t).1 j))) cnt = true)) (fun t => nI t) 0 ((1 : Int32).toNatClampNeg + 1) = J ∧ ¬ J = 0 := by
      refine ⟨_, rfl, ?_⟩
      rw [show fst1 (fun t => decide (an (fun j => decide (pJam pa ((stXn (nI (W * H)) nr mk ds cnt dr X t).1 j))) cnt = true)) (fun t => nI t) 0 ((1 : Int32).toNatClampNeg + 1) = _ from fst1_f (r := 1) han9]
      unfold fst1
      split
      · decide
      · exact (by decide : ¬ (-1 : Int32) = 0)
    refine ms_run (pc' := 731) (lv' := [(0, .ref sb), (1, .int tm), (2, .ref o), (3, .ref x), (4, .int sp), (5, .long bf), (7, .int (nI (sn hN (W * H)))), (8, .int (nI (ct (pO X) (W * H)))), (9, .int (nI (ct (pJ pa X) cnt))), (10, .int (nI (sn sN cnt)))]) (st' := [.int (nI (sn sN cnt)), .int (nI (sn hN (W * H)))]) _ (ms_deC dL_law_727 (ms_deC dL_law_729 ms_deN)) rfl rfl ?_
    refine ms_icmp_ne (tgt := 834) dL_law_731 (by decide) (fun h_731 => ?_) (fun h_731 => ?_)
    · skip
      exact absurd (congrArg nI hHS) h_731
    · skip
      refine ms_run (pc' := 739) (lv' := [(0, .ref sb), (1, .int tm), (2, .ref o), (3, .ref x), (4, .int sp), (5, .long bf), (7, .int (nI (sn hN (W * H)))), (8, .int (nI (ct (pO X) (W * H)))), (9, .int (nI (ct (pJ pa X) cnt))), (10, .int (nI (sn sN cnt)))]) (st' := [.int 6, .ref x, .int (nI (sn sN cnt))]) _ (ms_deC dL_law_734 (ms_deC dL_law_736 (ms_deC dL_law_737 ms_deN))) rfl rfl ?_
      refine lw_ask (As := [.int 6]) (v2 := .int (nI (sn sN cnt))) (kr1 := 8 + kr) (zr1 := 48 + zr) dL_law_739 ho hox hS (c_X5_many ho hS.1 hc hW hH hp0 6) (rfl) (congrArg Value.int (sm_sn (s := sN) (fun k hk => (if_pos (Or.inl rfl)).trans (hsN k hk).1))) cv_L_50 rfl ⟨Nat.le_of_ble_eq_true rfl, Nat.le_of_ble_eq_true rfl⟩ rfl (Nat.le_of_ble_eq_true rfl) (by omega) (by omega) (fun n1 K1 hn1 hS1 => ?_)
      refine ms_icmp_ne (tgt := 834) dL_law_742 (by decide) (fun h_742 => ?_) (fun h_742 => ?_)
      · skip
        exact absurd rfl h_742
      · skip
        refine ms_run (pc' := 749) (lv' := [(0, .ref sb), (1, .int tm), (2, .ref o), (3, .ref x), (4, .int sp), (5, .long bf), (7, .int (nI (sn hN (W * H)))), (8, .int (nI (ct (pO X) (W * H)))), (9, .int (nI (ct (pJ pa X) cnt))), (10, .int (nI (sn sN cnt)))]) (st' := [.int 0, .ref x, .int (nI (ct (pO X) (W * H)))]) _ (ms_deC dL_law_745 (ms_deC dL_law_747 (ms_deC dL_law_748 ms_deN))) rfl rfl ?_
        refine lw_ask (As := [.int 0]) (v2 := .int (nI cnt)) (kr1 := 7 + kr) (zr1 := 42 + zr) dL_law_749 ho hox hS1 (c_X5_many ho hS1.1 hc hW hH hp0 0) (rfl) (rfl) cv_L_50 rfl ⟨Nat.le_of_ble_eq_true rfl, Nat.le_of_ble_eq_true rfl⟩ rfl (Nat.le_of_ble_eq_true rfl) (by omega) (by omega) (fun n2 K2 hn2 hS2 => ?_)
        refine ms_run (pc' := 754) (lv' := [(0, .ref sb), (1, .int tm), (2, .ref o), (3, .ref x), (4, .int sp), (5, .long bf), (7, .int (nI (sn hN (W * H)))), (8, .int (nI (ct (pO X) (W * H)))), (9, .int (nI (ct (pJ pa X) cnt))), (10, .int (nI (sn sN cnt)))]) (st' := [.int 1, .ref x, .int (nI cnt), .int (nI (ct (pO X) (W * H)))]) _ (ms_deC dL_law_752 (ms_deC dL_law_753 ms_deN)) rfl rfl ?_
        refine lw_ask (As := [.int 1]) (v2 := .int (nI (ct (pOut X.1) cnt))) (kr1 := 6 + kr) (zr1 := 36 + zr) dL_law_754 ho hox hS2 (c_X5_many ho hS2.1 hc hW hH hp0 1) (rfl) (rfl) cv_L_50 rfl ⟨Nat.le_of_ble_eq_true rfl, Nat.le_of_ble_eq_true rfl⟩ rfl (Nat.le_of_ble_eq_true rfl) (by omega) (by omega) (fun n3 K3 hn3 hS3 => ?_)
        refine ms_run (pc' := 758) (lv' := [(0, .ref sb), (1, .int tm), (2, .ref o), (3, .ref x), (4, .int sp), (5, .long bf), (7, .int (nI (sn hN (W * H)))), (8, .int (nI (ct (pO X) (W * H)))), (9, .int (nI (ct (pJ pa X) cnt))), (10, .int (nI (sn sN cnt)))]) (st' := [.int ((nI cnt) - (nI (ct (pOut X.1) cnt))), .int (nI (ct (pO X) (W * H)))]) _ (ms_deC dL_law_757 ms_deN) rfl rfl ?_
        rw [show nI cnt - nI (ct (pOut X.1) cnt) = nI (ct (pO X) (W * H)) from (nI_sub (by omega) hco).trans (congrArg nI (by omega))]
        refine ms_icmp_ne (tgt := 834) dL_law_758 (by decide) (fun h_758 => ?_) (fun h_758 => ?_)
        · skip
          exact absurd rfl h_758
        · skip
          refine ms_run (pc' := 765) (lv' := [(0, .ref sb), (1, .int tm), (2, .ref o), (3, .ref x), (4, .int sp), (5, .long bf), (7, .int (nI (sn hN (W * H)))), (8, .int (nI (ct (pO X) (W * H)))), (9, .int (nI (ct (pJ pa X) cnt))), (10, .int (nI (sn sN cnt)))]) (st' := [.int 3, .ref x, .int (nI (ct (pJ pa X) cnt))]) _ (ms_deC dL_law_761 (ms_deC dL_law_763 (ms_deC dL_law_764 ms_deN))) rfl rfl ?_
          refine lw_ask (As := [.int 3]) (v2 := .int (nI (ct (pJ pa X) cnt))) (kr1 := 5 + kr) (zr1 := 30 + zr) dL_law_765 ho hox hS3 (c_X5_many ho hS3.1 hc hW hH hp0 3) (rfl) (congrArg Value.int hM3) cv_L_50 rfl ⟨Nat.le_of_ble_eq_true rfl, Nat.le_of_ble_eq_true rfl⟩ rfl (Nat.le_of_ble_eq_true rfl) (by omega) (by omega) (fun n4 K4 hn4 hS4 => ?_)
          refine ms_icmp_ne (tgt := 834) dL_law_768 (by decide) (fun h_768 => ?_) (fun h_768 => ?_)
          · skip
            exact absurd rfl h_768
          · skip
            refine ms_run (pc' := 773) (lv' := [(0, .ref sb), (1, .int tm), (2, .ref o), (3, .ref x), (4, .int sp), (5, .long bf), (7, .int (nI (sn hN (W * H)))), (8, .int (nI (ct (pO X) (W * H)))), (9, .int (nI (ct (pJ pa X) cnt))), (10, .int (nI (sn sN cnt)))]) (st' := [.int 4, .ref x]) _ (ms_deC dL_law_771 (ms_deC dL_law_772 ms_deN)) rfl rfl ?_
            refine lw_ask (As := [.int 4]) (v2 := .int (nI (jxX pa cnt nr X).2.2.1)) (kr1 := 4 + kr) (zr1 := 24 + zr) dL_law_773 ho hox hS4 (c_X5_many ho hS4.1 hc hW hH hp0 4) (rfl) (rfl) cv_L_50 rfl ⟨Nat.le_of_ble_eq_true rfl, Nat.le_of_ble_eq_true rfl⟩ rfl (Nat.le_of_ble_eq_true rfl) (by omega) (by omega) (fun n5 K5 hn5 hS5 => ?_)
            refine ms_run (pc' := 778) (lv' := [(0, .ref sb), (1, .int tm), (2, .ref o), (3, .ref x), (4, .int sp), (5, .long bf), (7, .int (nI (sn hN (W * H)))), (8, .int (nI (ct (pO X) (W * H)))), (9, .int (nI (ct (pJ pa X) cnt))), (10, .int (nI (sn sN cnt)))]) (st' := [.int (nI (ct (pJ pa X) cnt)), .int (nI (jxX pa cnt nr X).2.2.1)]) _ (ms_deC dL_law_776 ms_deN) rfl rfl ?_
            refine ms_icmp_gt (tgt := 834) dL_law_778 (by decide) (fun h_778 => ?_) (fun h_778 => ?_)
            · skip
              exact absurd ((nI_ltI (by omega) (by omega)).mp h_778) (by omega)
            · skip
              refine ms_run (pc' := 783) (lv' := [(0, .ref sb), (1, .int tm), (2, .ref o), (3, .ref x), (4, .int sp), (5, .long bf), (7, .int (nI (sn hN (W * H)))), (8, .int (nI (ct (pO X) (W * H)))), (9, .int (nI (ct (pJ pa X) cnt))), (10, .int (nI (sn sN cnt)))]) (st' := [.int 5, .ref x]) _ (ms_deC dL_law_781 (ms_deC dL_law_782 ms_deN)) rfl rfl ?_
              refine lw_ask (As := [.int 5]) (v2 := .int (nI M)) (kr1 := 3 + kr) (zr1 := 18 + zr) dL_law_783 ho hox hS5 (c_X5_many ho hS5.1 hc hW hH hp0 5) (rfl) (congrArg Value.int hM5) cv_L_50 rfl ⟨Nat.le_of_ble_eq_true rfl, Nat.le_of_ble_eq_true rfl⟩ rfl (Nat.le_of_ble_eq_true rfl) (by omega) (by omega) (fun n6 K6 hn6 hS6 => ?_)
              refine ms_run (pc' := 788) (lv' := [(0, .ref sb), (1, .int tm), (2, .ref o), (3, .ref x), (4, .int sp), (5, .long bf), (7, .int (nI (sn hN (W * H)))), (8, .int (nI (ct (pO X) (W * H)))), (9, .int (nI (ct (pJ pa X) cnt))), (10, .int (nI (sn sN cnt)))]) (st' := [.int (nI (ct (pJ pa X) cnt)), .int (nI M)]) _ (ms_deC dL_law_786 ms_deN) rfl rfl ?_
              refine ms_icmp_gt (tgt := 834) dL_law_788 (by decide) (fun h_788 => ?_) (fun h_788 => ?_)
              · skip
                exact absurd ((nI_ltI (by omega) (by omega)).mp h_788) (by omega)
              · skip
                refine ms_run (pc' := 793) (lv' := [(0, .ref sb), (1, .int tm), (2, .ref o), (3, .ref x), (4, .int sp), (5, .long bf), (7, .int (nI (sn hN (W * H)))), (8, .int (nI (ct (pO X) (W * H)))), (9, .int (nI (ct (pJ pa X) cnt))), (10, .int (nI (sn sN cnt)))]) (st' := [.int 1, .ref x]) _ (ms_deC dL_law_791 (ms_deC dL_law_792 ms_deN)) rfl rfl ?_
                refine lw_ask (As := [.int 1]) (v2 := .int J9) (kr1 := 2 + kr) (zr1 := 12 + zr) dL_law_793 ho hox hS6 (c_X5_jamIn ho hS6.1 hc hV.2.1 1) (rfl) (congrArg Value.int hJ9) cv_L_84 rfl ⟨Nat.le_of_ble_eq_true rfl, Nat.le_of_ble_eq_true rfl⟩ rfl (Nat.le_of_ble_eq_true rfl) (by omega) (by omega) (fun n7 K7 hn7 hS7 => ?_)
                refine ms_if_ne (tgt := 803) dL_law_796 (by decide) (fun h_796 => ?_) (fun h_796 => ?_)
                · skip
                  refine ms_run (pc' := 806) (lv' := [(0, .ref sb), (1, .int tm), (2, .ref o), (3, .ref x), (4, .int sp), (5, .long bf), (7, .int (nI (sn hN (W * H)))), (8, .int (nI (ct (pO X) (W * H)))), (9, .int (nI (ct (pJ pa X) cnt))), (10, .int (nI (sn sN cnt)))]) (st' := [.int (nI (ct (pJ pa X) cnt)), .int 0]) _ (ms_deC dL_law_803 (ms_deC dL_law_804 ms_deN)) rfl rfl ?_
                  refine ms_if_le (tgt := 813) dL_law_806 (by decide) (fun h_806 => ?_) (fun h_806 => ?_)
                  · skip
                    refine ms_run (pc' := 814) (lv' := [(0, .ref sb), (1, .int tm), (2, .ref o), (3, .ref x), (4, .int sp), (5, .long bf), (7, .int (nI (sn hN (W * H)))), (8, .int (nI (ct (pO X) (W * H)))), (9, .int (nI (ct (pJ pa X) cnt))), (10, .int (nI (sn sN cnt)))]) (st' := [.int 0, .int 0]) _ (ms_deC dL_law_813 ms_deN) rfl rfl ?_
                    refine ms_icmp_ne (tgt := 834) dL_law_814 (by decide) (fun h9 => absurd h9 (by decide)) (fun _ => ?_)
                    refine ms_run (pc' := 820) (lv' := [(0, .ref sb), (1, .int tm), (2, .ref o), (3, .ref x), (4, .int sp), (5, .long bf), (7, .int (nI (sn hN (W * H)))), (8, .int (nI (ct (pO X) (W * H)))), (9, .int (nI (ct (pJ pa X) cnt))), (10, .int (nI (sn sN cnt)))]) (st' := [.ref o, .int 1, .ref x]) _ (ms_deC dL_law_817 (ms_deC dL_law_818 (ms_deC dL_law_819 ms_deN))) rfl rfl ?_
                    refine ms_getf dL_law_820 fg_L_87 hS7.2.1.1 rfl ?_
                    refine lw_ask (As := [.int 1, .int dr]) (v2 := .int (nI (ct (pOut (stX1 (nI (W * H)) nr mk ds cnt dr X).1) cnt))) (kr1 := 1 + kr) (zr1 := 6 + zr) dL_law_823 ho hox hS7 (c_X5_outWith ho hS7.1 hc hV.2.1 1 dr) (if_neg (fun y => by rcases y with y | y | y; exact y (by decide); exact Int32.not_lt.mpr hdr.1 y; exact Int32.not_lt.mpr hdr.2 y)) (rfl) cv_L_90 rfl ⟨Nat.le_of_ble_eq_true rfl, Nat.le_of_ble_eq_true rfl⟩ rfl (Nat.le_of_ble_eq_true rfl) (by omega) (by omega) (fun n8 K8 hn8 hS8 => ?_)
                    refine ms_run (pc' := 828) (lv' := [(0, .ref sb), (1, .int tm), (2, .ref o), (3, .ref x), (4, .int sp), (5, .long bf), (7, .int (nI (sn hN (W * H)))), (8, .int (nI (ct (pO X) (W * H)))), (9, .int (nI (ct (pJ pa X) cnt))), (10, .int (nI (sn sN cnt)))]) (st' := [.int 1, .ref x, .int (nI (ct (pOut (stX1 (nI (W * H)) nr mk ds cnt dr X).1) cnt))]) _ (ms_deC dL_law_826 (ms_deC dL_law_827 ms_deN)) rfl rfl ?_
                    refine lw_ask (As := [.int 1]) (v2 := .int (nI (ct (pOut X.1) cnt))) (kr1 := 0 + kr) (zr1 := 0 + zr) dL_law_828 ho hox hS8 (c_X5_many ho hS8.1 hc hW hH hp0 1) (rfl) (rfl) cv_L_50 rfl ⟨Nat.le_of_ble_eq_true rfl, Nat.le_of_ble_eq_true rfl⟩ rfl (Nat.le_of_ble_eq_true rfl) (by omega) (by omega) (fun n9 K9 hn9 hS9 => ?_)
                    refine ms_icmp_ge (tgt := 836) dL_law_831 (by decide) (fun h_831 => ?_) (fun h_831 => ?_)
                    · skip
                      refine ms_run (pc' := 837) (lv' := [(0, .ref sb), (1, .int tm), (2, .ref o), (3, .ref x), (4, .int sp), (5, .long bf), (7, .int (nI (sn hN (W * H)))), (8, .int (nI (ct (pO X) (W * H)))), (9, .int (nI (ct (pJ pa X) cnt))), (10, .int (nI (sn sN cnt)))]) (st' := [.ref x]) _ (ms_deC dL_law_836 ms_deN) rfl rfl ?_
                      refine lw_askM (As := []) (v2 := .long bf) dL_law_837 ho hox hS9 (c_X5_digest ho hS9.1 hc hW hH hp0) (congrArg Value.long hbf.symm) cv_L_29 rfl ⟨Nat.le_of_ble_eq_true rfl, Nat.le_of_ble_eq_true rfl⟩ rfl (Nat.le_of_ble_eq_true rfl) (fun K10 hS10 => ?_)
                      refine ms_run (pc' := 842) (lv' := [(0, .ref sb), (1, .int tm), (2, .ref o), (3, .ref x), (4, .int sp), (5, .long bf), (7, .int (nI (sn hN (W * H)))), (8, .int (nI (ct (pO X) (W * H)))), (9, .int (nI (ct (pJ pa X) cnt))), (10, .int (nI (sn sN cnt)))]) (st' := [.long bf, .long bf]) _ (ms_deC dL_law_840 ms_deN) rfl rfl ?_
                      refine ms_lcmp dL_law_842 ?_
                      rw [lg_same]
                      refine ms_if_eq (tgt := 848) dL_law_843 (by decide) (fun _ => ?_) (fun h9 => absurd h9 (by decide))
                      exact ms_W.room (k2 := kr) (z2 := zr) (by refine ms_W.sub (lv2 := [(0, _), (1, _), (2, _), (3, _), (4, _), (5, _)]) ?_ [0, 1, 2, 3, 4, 5] rfl; exact kk n9 K10 (by omega) hS10) (by omega) (by omega)
                    · skip
                      exact absurd (nI_le (by omega) (by omega)) h_831
                  · skip
                    exact absurd (by rw [hj0]; decide) h_806
                · skip
                  exact absurd h_796 hJn

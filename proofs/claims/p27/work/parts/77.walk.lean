/-! the law: its walkers -/
set_option maxHeartbeats 1000000 in
set_option maxRecDepth 20000 in
theorem w1_law {n o x g q c j q2 c2 sb L d t W H cnt fa wa : Nat} {xs : Nat → Int32} {G : ms_H} {dr pa : Int32} {X : cX} {nr wl mk ds : Nat → Int32} {wr : Nat → Nat} {fv : Nat → Nat → Int32} {P : ms_P} {kr zr : Nat} {tm sp : Int32} {bf : Int64} (ho : ox x g q c j q2 c2) (hox : o < x) (hS : fS o x g q c j q2 c2 sb n d t G W H cnt fa wa dr pa X nr wl mk ds wr fv) {k : Nat} (hk : k < cnt) {z : Nat → Nat} {M : Nat} (hz : ∀ k, k < cnt → jm_sz (jxX pa cnt nr X).1 (jxX pa cnt nr X).2.1 (nI k) = nI (z k) ∧ z k ≤ M ∧ (0 < z k ↔ pJam pa (X.1 k))) (hM5 : mx0 (jxX pa cnt nr X).2.1 (jxX pa cnt nr X).2.2.1 = nI M) (hM24 : M ≤ 24) {sN : Nat → Nat} (hsN : ∀ k, k < cnt → X.1 k 6 = nI (sN k) ∧ sN k ≤ t) {he7 oc8 : Int32} (kk : ∀ (n1 : Nat) (G1 : ms_H), n ≤ n1 → fS o x g q c j q2 c2 sb n1 d t G1 W H cnt fa wa dr pa X nr wl mk ds wr fv → ms_W false (ms_S (sb, L, xs) m_L_law) P 538 [(0, .ref sb), (1, .int tm), (2, .ref o), (3, .ref x), (4, .int sp), (5, .long bf), (7, .int he7), (8, .int oc8), (9, .int (nI (ct (pJ pa X) (k + 1)))), (10, .int (nI (sn sN (k + 1)))), (11, .int (nI k))] [] n1 G1 kr zr) : ms_W false (ms_S (sb, L, xs) m_L_law) (P) 403 [(0, .ref sb), (1, .int tm), (2, .ref o), (3, .ref x), (4, .int sp), (5, .long bf), (7, .int he7), (8, .int oc8), (9, .int (nI (ct (pJ pa X) k))), (10, .int (nI (sn sN k))), (11, .int (nI k))] [] n G (11 + kr) (66 + zr) := by
  have hS0 := hS
  obtain ⟨-, -, -, -, -, hK⟩ := hS0
  have hK0 := hK
  obtain ⟨⟨pb1, pb2, pb3, pb4⟩, hc, hL, hfv, hht, hds, hdr, ⟨p9, hp91, hp92, hpa⟩, hwl, ⟨hcl, ht9⟩, hV, hI, hHt⟩ := hK0
  have hW : W ≤ 14 := by omega
  have hH : H ≤ 14 := by omega
  have hW0 : 0 < W := by omega
  have h9 : W * H ≤ 196 := Nat.mul_le_mul hW hH
  have h35 : W * H ≤ 7 * 5 := Nat.mul_le_mul pb2 pb4
  have hp0 : 0 < W * H := Nat.mul_pos hW0 (by omega)
  obtain ⟨hz1, hz2, hz3⟩ := hz k hk
  obtain ⟨-, ⟨s9, q9, e6, e1, hp1, hp3, hs9, h4⟩, h7⟩ := hI k hk
  obtain ⟨es, hst⟩ := hsN k hk
  have hss : s9 = sN k := (nI_eq (by have := Nat.div_le_self t q9; omega) (by omega)).mp (e6.symm.trans es)
  subst hss
  obtain ⟨w9, hw9, e5⟩ := hV.2.2.2 k hk
  have htp := Nat.div_le_self t q9
  have h78 : X.1 k 7 ≤ nI t := by
    rcases h7 with ⟨y, -⟩ | ⟨a, a1, a2, a3⟩
    · rw [y]; exact Int32.le_trans (show (-1 : Int32) ≤ 0 by decide) (nI_pos' (by omega))
    · rw [a3]; exact nI_le a2 (by omega)
  refine ms_run (pc' := 408) (lv' := [(0, .ref sb), (1, .int tm), (2, .ref o), (3, .ref x), (4, .int sp), (5, .long bf), (7, .int he7), (8, .int oc8), (9, .int (nI (ct (pJ pa X) k))), (10, .int (nI (sn sN k))), (11, .int (nI k))]) (st' := [.int (nI k), .ref x, .int (nI (ct (pJ pa X) k))]) _ (ms_deC dL_law_403 (ms_deC dL_law_405 (ms_deC dL_law_406 ms_deN))) rfl rfl ?_
  refine lw_ask (As := [.int (nI k)]) (v2 := .int (nI (z k))) (kr1 := 10 + kr) (zr1 := 60 + zr) dL_law_408 ho hox hS (c_X5_jam ho hS.1 hc (nI k)) (th_wk_n hc hk) (congrArg Value.int (by rw [nI_clamp (by omega)]; exact (hz k hk).1)) cv_L_65 rfl ⟨Nat.le_of_ble_eq_true rfl, Nat.le_of_ble_eq_true rfl⟩ rfl (Nat.le_of_ble_eq_true rfl) (by omega) (by omega) (fun n1 K1 hn1 hS1 => ?_)
  refine ms_if_le (tgt := 418) dL_law_411 (by decide) (fun h_411 => ?_) (fun h_411 => ?_)
  · skip
    have hz0 : ¬ pJam pa (X.1 k) := fun y => by
      have h5 := hz3.mpr y
      exact absurd ((nI_leI (b := 0) (by omega) (by omega)).mp h_411) (by omega)
    have hct : nI (ct (pJ pa X) k) + 0 = nI (ct (pJ pa X) (k + 1)) := by
      show _ = nI (ct (pJ pa X) k + (if pJ pa X k = true then 1 else 0))
      rw [if_neg (show ¬ pJ pa X k = true from fun y => hz0 (of_decide_eq_true y)), Int32.add_zero]
      rfl
    refine ms_run (pc' := 420) (lv' := [(0, .ref sb), (1, .int tm), (2, .ref o), (3, .ref x), (4, .int sp), (5, .long bf), (7, .int he7), (8, .int oc8), (9, .int (nI (ct (pJ pa X) k))), (10, .int (nI (sn sN k))), (11, .int (nI k))]) (st' := [.int ((nI (ct (pJ pa X) k)) + 0)]) _ (ms_deC dL_law_418 (ms_deC dL_law_419 ms_deN)) rfl rfl ?_
    rw [hct]
    refine ms_run (pc' := 429) (lv' := [(9, .int (nI (ct (pJ pa X) (k + 1)))), (0, .ref sb), (1, .int tm), (2, .ref o), (3, .ref x), (4, .int sp), (5, .long bf), (7, .int he7), (8, .int oc8), (10, .int (nI (sn sN k))), (11, .int (nI k))]) (st' := [.int 6, .int (nI k), .ref x, .int (nI (sn sN k))]) _ (ms_deC dL_law_420 (ms_deC dL_law_422 (ms_deC dL_law_424 (ms_deC dL_law_425 (ms_deC dL_law_427 ms_deN))))) rfl rfl ?_
    refine lw_ask (As := [.int (nI k), .int 6]) (v2 := .int (nI (sN k))) (kr1 := 9 + kr) (zr1 := 54 + zr) dL_law_429 ho hox hS1 (c_X5_ofWalker ho hS1.1 hc (nI k) 6) (th_ofw_n hc hk (by decide)) (congrArg Value.int (by rw [nI_clamp (by omega)]; exact es)) cv_L_46 rfl ⟨Nat.le_of_ble_eq_true rfl, Nat.le_of_ble_eq_true rfl⟩ rfl (Nat.le_of_ble_eq_true rfl) (by omega) (by omega) (fun n2 K2 hn2 hS2 => ?_)
    refine ms_run (pc' := 433) (lv' := [(9, .int (nI (ct (pJ pa X) (k + 1)))), (0, .ref sb), (1, .int tm), (2, .ref o), (3, .ref x), (4, .int sp), (5, .long bf), (7, .int he7), (8, .int oc8), (10, .int (nI (sn sN k))), (11, .int (nI k))]) (st' := [.int ((nI (sn sN k)) + (nI (sN k)))]) _ (ms_deC dL_law_432 ms_deN) rfl rfl ?_
    rw [show nI (sn sN k) + nI (sN k) = nI (sn sN (k + 1)) from nI_add _ _]
    refine ms_run (pc' := 440) (lv' := [(10, .int (nI (sn sN (k + 1)))), (9, .int (nI (ct (pJ pa X) (k + 1)))), (0, .ref sb), (1, .int tm), (2, .ref o), (3, .ref x), (4, .int sp), (5, .long bf), (7, .int he7), (8, .int oc8), (11, .int (nI k))]) (st' := [.int 6, .int (nI k), .ref x]) _ (ms_deC dL_law_433 (ms_deC dL_law_435 (ms_deC dL_law_436 (ms_deC dL_law_438 ms_deN)))) rfl rfl ?_
    refine lw_ask (As := [.int (nI k), .int 6]) (v2 := .int (nI (sN k))) (kr1 := 8 + kr) (zr1 := 48 + zr) dL_law_440 ho hox hS2 (c_X5_ofWalker ho hS2.1 hc (nI k) 6) (th_ofw_n hc hk (by decide)) (congrArg Value.int (by rw [nI_clamp (by omega)]; exact es)) cv_L_46 rfl ⟨Nat.le_of_ble_eq_true rfl, Nat.le_of_ble_eq_true rfl⟩ rfl (Nat.le_of_ble_eq_true rfl) (by omega) (by omega) (fun n3 K3 hn3 hS3 => ?_)
    refine ms_run (pc' := 444) (lv' := [(10, .int (nI (sn sN (k + 1)))), (9, .int (nI (ct (pJ pa X) (k + 1)))), (0, .ref sb), (1, .int tm), (2, .ref o), (3, .ref x), (4, .int sp), (5, .long bf), (7, .int he7), (8, .int oc8), (11, .int (nI k))]) (st' := [.ref x, .int (nI (sN k))]) _ (ms_deC dL_law_443 ms_deN) rfl rfl ?_
    refine lw_askM (As := []) (v2 := .int (nI t)) dL_law_444 ho hox hS3 (c_X5_clock ho hS3.1) (congrArg Value.int hcl) cv_L_68 rfl ⟨Nat.le_of_ble_eq_true rfl, Nat.le_of_ble_eq_true rfl⟩ rfl (Nat.le_of_ble_eq_true rfl) (fun K4 hS4 => ?_)
    refine ms_run (pc' := 451) (lv' := [(10, .int (nI (sn sN (k + 1)))), (9, .int (nI (ct (pJ pa X) (k + 1)))), (0, .ref sb), (1, .int tm), (2, .ref o), (3, .ref x), (4, .int sp), (5, .long bf), (7, .int he7), (8, .int oc8), (11, .int (nI k))]) (st' := [.int 1, .int (nI k), .ref x, .int (nI t), .int (nI (sN k))]) _ (ms_deC dL_law_447 (ms_deC dL_law_448 (ms_deC dL_law_450 ms_deN))) rfl rfl ?_
    refine lw_ask (As := [.int (nI k), .int 1]) (v2 := .int (nI q9)) (kr1 := 7 + kr) (zr1 := 42 + zr) dL_law_451 ho hox hS4 (c_X5_ofWalker ho hS4.1 hc (nI k) 1) (th_ofw_n hc hk (by decide)) (congrArg Value.int (by rw [nI_clamp (by omega)]; exact e1)) cv_L_46 rfl ⟨Nat.le_of_ble_eq_true rfl, Nat.le_of_ble_eq_true rfl⟩ rfl (Nat.le_of_ble_eq_true rfl) (by omega) (by omega) (fun n5 K5 hn5 hS5 => ?_)
    refine ms_idiv dL_law_454 ((fun y => by have := (nI_eq (b := 0) (by omega) (by omega)).mp y; omega)) ?_
    rw [show nI t / nI q9 = nI (t / q9) from nI_div (by omega) (by omega)]
    refine ms_icmp_gt (tgt := 536) dL_law_455 (by decide) (fun h_455 => ?_) (fun h_455 => ?_)
    · skip
      exact absurd ((nI_ltI (by omega) (by omega)).mp h_455) (by omega)
    · skip
      refine ms_run (pc' := 462) (lv' := [(10, .int (nI (sn sN (k + 1)))), (9, .int (nI (ct (pJ pa X) (k + 1)))), (0, .ref sb), (1, .int tm), (2, .ref o), (3, .ref x), (4, .int sp), (5, .long bf), (7, .int he7), (8, .int oc8), (11, .int (nI k))]) (st' := [.int 5, .int (nI k), .ref x]) _ (ms_deC dL_law_458 (ms_deC dL_law_459 (ms_deC dL_law_461 ms_deN))) rfl rfl ?_
      refine lw_ask (As := [.int (nI k), .int 5]) (v2 := .int (nI w9)) (kr1 := 6 + kr) (zr1 := 36 + zr) dL_law_462 ho hox hS5 (c_X5_ofWalker ho hS5.1 hc (nI k) 5) (th_ofw_n hc hk (by decide)) (congrArg Value.int (by rw [nI_clamp (by omega)]; exact e5)) cv_L_46 rfl ⟨Nat.le_of_ble_eq_true rfl, Nat.le_of_ble_eq_true rfl⟩ rfl (Nat.le_of_ble_eq_true rfl) (by omega) (by omega) (fun n6 K6 hn6 hS6 => ?_)
      refine ms_run (pc' := 466) (lv' := [(10, .int (nI (sn sN (k + 1)))), (9, .int (nI (ct (pJ pa X) (k + 1)))), (0, .ref sb), (1, .int tm), (2, .ref o), (3, .ref x), (4, .int sp), (5, .long bf), (7, .int he7), (8, .int oc8), (11, .int (nI k))]) (st' := [.ref x, .int (nI w9)]) _ (ms_deC dL_law_465 ms_deN) rfl rfl ?_
      refine lw_askM (As := []) (v2 := .int (nI t)) dL_law_466 ho hox hS6 (c_X5_clock ho hS6.1) (congrArg Value.int hcl) cv_L_68 rfl ⟨Nat.le_of_ble_eq_true rfl, Nat.le_of_ble_eq_true rfl⟩ rfl (Nat.le_of_ble_eq_true rfl) (fun K7 hS7 => ?_)
      refine ms_icmp_gt (tgt := 536) dL_law_469 (by decide) (fun h_469 => ?_) (fun h_469 => ?_)
      · skip
        exact absurd ((nI_ltI (by omega) (by omega)).mp h_469) (by omega)
      · skip
        refine ms_run (pc' := 477) (lv' := [(10, .int (nI (sn sN (k + 1)))), (9, .int (nI (ct (pJ pa X) (k + 1)))), (0, .ref sb), (1, .int tm), (2, .ref o), (3, .ref x), (4, .int sp), (5, .long bf), (7, .int he7), (8, .int oc8), (11, .int (nI k))]) (st' := [.int 8, .int (nI k), .ref x]) _ (ms_deC dL_law_472 (ms_deC dL_law_473 (ms_deC dL_law_475 ms_deN))) rfl rfl ?_
        refine lw_ask (As := [.int (nI k), .int 8]) (v2 := .int (X.1 k 7)) (kr1 := 5 + kr) (zr1 := 30 + zr) dL_law_477 ho hox hS7 (c_X5_ofWalker ho hS7.1 hc (nI k) 8) (th_ofw_n hc hk (by decide)) (congrArg Value.int (by rw [nI_clamp (by omega)]; exact rfl)) cv_L_46 rfl ⟨Nat.le_of_ble_eq_true rfl, Nat.le_of_ble_eq_true rfl⟩ rfl (Nat.le_of_ble_eq_true rfl) (by omega) (by omega) (fun n8 K8 hn8 hS8 => ?_)
        refine ms_run (pc' := 481) (lv' := [(10, .int (nI (sn sN (k + 1)))), (9, .int (nI (ct (pJ pa X) (k + 1)))), (0, .ref sb), (1, .int tm), (2, .ref o), (3, .ref x), (4, .int sp), (5, .long bf), (7, .int he7), (8, .int oc8), (11, .int (nI k))]) (st' := [.ref x, .int (X.1 k 7)]) _ (ms_deC dL_law_480 ms_deN) rfl rfl ?_
        refine lw_askM (As := []) (v2 := .int (nI t)) dL_law_481 ho hox hS8 (c_X5_clock ho hS8.1) (congrArg Value.int hcl) cv_L_68 rfl ⟨Nat.le_of_ble_eq_true rfl, Nat.le_of_ble_eq_true rfl⟩ rfl (Nat.le_of_ble_eq_true rfl) (fun K9 hS9 => ?_)
        refine ms_icmp_gt (tgt := 536) dL_law_484 (by decide) (fun h_484 => ?_) (fun h_484 => ?_)
        · skip
          exact absurd h_484 (Int32.not_lt.mpr h78)
        · skip
          refine ms_run (pc' := 490) (lv' := [(10, .int (nI (sn sN (k + 1)))), (9, .int (nI (ct (pJ pa X) (k + 1)))), (0, .ref sb), (1, .int tm), (2, .ref o), (3, .ref x), (4, .int sp), (5, .long bf), (7, .int he7), (8, .int oc8), (11, .int (nI k))]) (st' := [.int (nI k), .ref x]) _ (ms_deC dL_law_487 (ms_deC dL_law_488 ms_deN)) rfl rfl ?_
          refine lw_ask (As := [.int (nI k)]) (v2 := .int (nI (z k))) (kr1 := 4 + kr) (zr1 := 24 + zr) dL_law_490 ho hox hS9 (c_X5_jam ho hS9.1 hc (nI k)) (th_wk_n hc hk) (congrArg Value.int (by rw [nI_clamp (by omega)]; exact (hz k hk).1)) cv_L_65 rfl ⟨Nat.le_of_ble_eq_true rfl, Nat.le_of_ble_eq_true rfl⟩ rfl (Nat.le_of_ble_eq_true rfl) (by omega) (by omega) (fun n10 K10 hn10 hS10 => ?_)
          refine ms_run (pc' := 495) (lv' := [(10, .int (nI (sn sN (k + 1)))), (9, .int (nI (ct (pJ pa X) (k + 1)))), (0, .ref sb), (1, .int tm), (2, .ref o), (3, .ref x), (4, .int sp), (5, .long bf), (7, .int he7), (8, .int oc8), (11, .int (nI k))]) (st' := [.int 5, .ref x, .int (nI (z k))]) _ (ms_deC dL_law_493 (ms_deC dL_law_494 ms_deN)) rfl rfl ?_
          refine lw_ask (As := [.int 5]) (v2 := .int (nI M)) (kr1 := 3 + kr) (zr1 := 18 + zr) dL_law_495 ho hox hS10 (c_X5_many ho hS10.1 hc hW hH hp0 5) (rfl) (congrArg Value.int hM5) cv_L_50 rfl ⟨Nat.le_of_ble_eq_true rfl, Nat.le_of_ble_eq_true rfl⟩ rfl (Nat.le_of_ble_eq_true rfl) (by omega) (by omega) (fun n11 K11 hn11 hS11 => ?_)
          refine ms_icmp_gt (tgt := 536) dL_law_498 (by decide) (fun h_498 => ?_) (fun h_498 => ?_)
          · skip
            exact absurd ((nI_ltI (by omega) (by omega)).mp h_498) (by omega)
          · skip
            refine ms_run (pc' := 505) (lv' := [(10, .int (nI (sn sN (k + 1)))), (9, .int (nI (ct (pJ pa X) (k + 1)))), (0, .ref sb), (1, .int tm), (2, .ref o), (3, .ref x), (4, .int sp), (5, .long bf), (7, .int he7), (8, .int oc8), (11, .int (nI k))]) (st' := [.int 4, .int (nI k), .ref x]) _ (ms_deC dL_law_501 (ms_deC dL_law_502 (ms_deC dL_law_504 ms_deN))) rfl rfl ?_
            refine lw_ask (As := [.int (nI k), .int 4]) (v2 := .int (X.1 k 4)) (kr1 := 2 + kr) (zr1 := 12 + zr) dL_law_505 ho hox hS11 (c_X5_ofWalker ho hS11.1 hc (nI k) 4) (th_ofw_n hc hk (by decide)) (congrArg Value.int (by rw [nI_clamp (by omega)]; exact rfl)) cv_L_46 rfl ⟨Nat.le_of_ble_eq_true rfl, Nat.le_of_ble_eq_true rfl⟩ rfl (Nat.le_of_ble_eq_true rfl) (by omega) (by omega) (fun n12 K12 hn12 hS12 => ?_)
            refine ms_run (pc' := 509) (lv' := [(10, .int (nI (sn sN (k + 1)))), (9, .int (nI (ct (pJ pa X) (k + 1)))), (0, .ref sb), (1, .int tm), (2, .ref o), (3, .ref x), (4, .int sp), (5, .long bf), (7, .int he7), (8, .int oc8), (11, .int (nI k))]) (st' := [.int 4, .int (X.1 k 4)]) _ (ms_deC dL_law_508 ms_deN) rfl rfl ?_
            refine ms_icmp_ne (tgt := 516) dL_law_509 (by decide) (fun h_509 => ?_) (fun h_509 => ?_)
            · skip
              refine ms_run (pc' := 522) (lv' := [(10, .int (nI (sn sN (k + 1)))), (9, .int (nI (ct (pJ pa X) (k + 1)))), (0, .ref sb), (1, .int tm), (2, .ref o), (3, .ref x), (4, .int sp), (5, .long bf), (7, .int he7), (8, .int oc8), (11, .int (nI k))]) (st' := [.int 6, .int (nI k), .ref x, .int 0]) _ (ms_deC dL_law_516 (ms_deC dL_law_517 (ms_deC dL_law_518 (ms_deC dL_law_520 ms_deN)))) rfl rfl ?_
              refine lw_ask (As := [.int (nI k), .int 6]) (v2 := .int (nI (sN k))) (kr1 := 1 + kr) (zr1 := 6 + zr) dL_law_522 ho hox hS12 (c_X5_ofWalker ho hS12.1 hc (nI k) 6) (th_ofw_n hc hk (by decide)) (congrArg Value.int (by rw [nI_clamp (by omega)]; exact es)) cv_L_46 rfl ⟨Nat.le_of_ble_eq_true rfl, Nat.le_of_ble_eq_true rfl⟩ rfl (Nat.le_of_ble_eq_true rfl) (by omega) (by omega) (fun n13 K13 hn13 hS13 => ?_)
              refine ms_if_ne (tgt := 532) dL_law_525 (by decide) (fun h_525 => ?_) (fun h_525 => ?_)
              · skip
                refine ms_run (pc' := 533) (lv' := [(10, .int (nI (sn sN (k + 1)))), (9, .int (nI (ct (pJ pa X) (k + 1)))), (0, .ref sb), (1, .int tm), (2, .ref o), (3, .ref x), (4, .int sp), (5, .long bf), (7, .int he7), (8, .int oc8), (11, .int (nI k))]) (st' := [.int 0, .int 0]) _ (ms_deC dL_law_532 ms_deN) rfl rfl ?_
                refine ms_icmp_eq (tgt := 538) dL_law_533 (by decide) (fun _ => ?_) (fun h9 => absurd h9 (by decide))
                exact ms_W.room (k2 := kr) (z2 := zr) (by refine ms_W.sub (lv2 := [(0, _), (1, _), (2, _), (3, _), (4, _), (5, _), (7, _), (8, _), (9, _), (10, _), (11, _)]) ?_ [2, 3, 4, 5, 6, 7, 8, 9, 1, 0, 10] rfl; exact kk n13 K13 (by omega) hS13) (by omega) (by omega)
              · skip
                exact absurd (h4.mpr ((nI_eq (b := 0) (by omega) (by omega)).mp h_525)) h_509
            · skip
              refine ms_run (pc' := 513) (lv' := [(10, .int (nI (sn sN (k + 1)))), (9, .int (nI (ct (pJ pa X) (k + 1)))), (0, .ref sb), (1, .int tm), (2, .ref o), (3, .ref x), (4, .int sp), (5, .long bf), (7, .int he7), (8, .int oc8), (11, .int (nI k))]) (st' := [.int 1]) _ (ms_deC dL_law_512 ms_deN) rfl rfl ?_
              refine ms_goto (tgt := 517) dL_law_513 (by decide) ?_
              refine ms_run (pc' := 522) (lv' := [(10, .int (nI (sn sN (k + 1)))), (9, .int (nI (ct (pJ pa X) (k + 1)))), (0, .ref sb), (1, .int tm), (2, .ref o), (3, .ref x), (4, .int sp), (5, .long bf), (7, .int he7), (8, .int oc8), (11, .int (nI k))]) (st' := [.int 6, .int (nI k), .ref x, .int 1]) _ (ms_deC dL_law_517 (ms_deC dL_law_518 (ms_deC dL_law_520 ms_deN))) rfl rfl ?_
              refine lw_ask (As := [.int (nI k), .int 6]) (v2 := .int (nI (sN k))) (kr1 := 1 + kr) (zr1 := 6 + zr) dL_law_522 ho hox hS12 (c_X5_ofWalker ho hS12.1 hc (nI k) 6) (th_ofw_n hc hk (by decide)) (congrArg Value.int (by rw [nI_clamp (by omega)]; exact es)) cv_L_46 rfl ⟨Nat.le_of_ble_eq_true rfl, Nat.le_of_ble_eq_true rfl⟩ rfl (Nat.le_of_ble_eq_true rfl) (by omega) (by omega) (fun n13 K13 hn13 hS13 => ?_)
              refine ms_if_ne (tgt := 532) dL_law_525 (by decide) (fun h_525 => ?_) (fun h_525 => ?_)
              · skip
                exact absurd (by rw [h4.mp h_509]; rfl) h_525
              · skip
                refine ms_run (pc' := 529) (lv' := [(10, .int (nI (sn sN (k + 1)))), (9, .int (nI (ct (pJ pa X) (k + 1)))), (0, .ref sb), (1, .int tm), (2, .ref o), (3, .ref x), (4, .int sp), (5, .long bf), (7, .int he7), (8, .int oc8), (11, .int (nI k))]) (st' := [.int 1, .int 1]) _ (ms_deC dL_law_528 ms_deN) rfl rfl ?_
                refine ms_goto (tgt := 533) dL_law_529 (by decide) ?_
                refine ms_icmp_eq (tgt := 538) dL_law_533 (by decide) (fun _ => ?_) (fun h9 => absurd h9 (by decide))
                exact ms_W.room (k2 := kr) (z2 := zr) (by refine ms_W.sub (lv2 := [(0, _), (1, _), (2, _), (3, _), (4, _), (5, _), (7, _), (8, _), (9, _), (10, _), (11, _)]) ?_ [2, 3, 4, 5, 6, 7, 8, 9, 1, 0, 10] rfl; exact kk n13 K13 (by omega) hS13) (by omega) (by omega)
  · skip
    have hz0 : pJam pa (X.1 k) := hz3.mp (by
      rcases Nat.eq_zero_or_pos (z k) with y | y
      · exact absurd (by rw [y]; decide) h_411
      · exact y)
    have hct : nI (ct (pJ pa X) k) + 1 = nI (ct (pJ pa X) (k + 1)) := by
      show _ = nI (ct (pJ pa X) k + (if pJ pa X k = true then 1 else 0))
      rw [if_pos (show pJ pa X k = true from decide_eq_true hz0), ← nI_1]
    refine ms_run (pc' := 415) (lv' := [(0, .ref sb), (1, .int tm), (2, .ref o), (3, .ref x), (4, .int sp), (5, .long bf), (7, .int he7), (8, .int oc8), (9, .int (nI (ct (pJ pa X) k))), (10, .int (nI (sn sN k))), (11, .int (nI k))]) (st' := [.int 1, .int (nI (ct (pJ pa X) k))]) _ (ms_deC dL_law_414 ms_deN) rfl rfl ?_
    refine ms_goto (tgt := 419) dL_law_415 (by decide) ?_
    refine ms_run (pc' := 420) (lv' := [(0, .ref sb), (1, .int tm), (2, .ref o), (3, .ref x), (4, .int sp), (5, .long bf), (7, .int he7), (8, .int oc8), (9, .int (nI (ct (pJ pa X) k))), (10, .int (nI (sn sN k))), (11, .int (nI k))]) (st' := [.int ((nI (ct (pJ pa X) k)) + 1)]) _ (ms_deC dL_law_419 ms_deN) rfl rfl ?_
    rw [hct]
    refine ms_run (pc' := 429) (lv' := [(9, .int (nI (ct (pJ pa X) (k + 1)))), (0, .ref sb), (1, .int tm), (2, .ref o), (3, .ref x), (4, .int sp), (5, .long bf), (7, .int he7), (8, .int oc8), (10, .int (nI (sn sN k))), (11, .int (nI k))]) (st' := [.int 6, .int (nI k), .ref x, .int (nI (sn sN k))]) _ (ms_deC dL_law_420 (ms_deC dL_law_422 (ms_deC dL_law_424 (ms_deC dL_law_425 (ms_deC dL_law_427 ms_deN))))) rfl rfl ?_
    refine lw_ask (As := [.int (nI k), .int 6]) (v2 := .int (nI (sN k))) (kr1 := 9 + kr) (zr1 := 54 + zr) dL_law_429 ho hox hS1 (c_X5_ofWalker ho hS1.1 hc (nI k) 6) (th_ofw_n hc hk (by decide)) (congrArg Value.int (by rw [nI_clamp (by omega)]; exact es)) cv_L_46 rfl ⟨Nat.le_of_ble_eq_true rfl, Nat.le_of_ble_eq_true rfl⟩ rfl (Nat.le_of_ble_eq_true rfl) (by omega) (by omega) (fun n2 K2 hn2 hS2 => ?_)
    refine ms_run (pc' := 433) (lv' := [(9, .int (nI (ct (pJ pa X) (k + 1)))), (0, .ref sb), (1, .int tm), (2, .ref o), (3, .ref x), (4, .int sp), (5, .long bf), (7, .int he7), (8, .int oc8), (10, .int (nI (sn sN k))), (11, .int (nI k))]) (st' := [.int ((nI (sn sN k)) + (nI (sN k)))]) _ (ms_deC dL_law_432 ms_deN) rfl rfl ?_
    rw [show nI (sn sN k) + nI (sN k) = nI (sn sN (k + 1)) from nI_add _ _]
    refine ms_run (pc' := 440) (lv' := [(10, .int (nI (sn sN (k + 1)))), (9, .int (nI (ct (pJ pa X) (k + 1)))), (0, .ref sb), (1, .int tm), (2, .ref o), (3, .ref x), (4, .int sp), (5, .long bf), (7, .int he7), (8, .int oc8), (11, .int (nI k))]) (st' := [.int 6, .int (nI k), .ref x]) _ (ms_deC dL_law_433 (ms_deC dL_law_435 (ms_deC dL_law_436 (ms_deC dL_law_438 ms_deN)))) rfl rfl ?_
    refine lw_ask (As := [.int (nI k), .int 6]) (v2 := .int (nI (sN k))) (kr1 := 8 + kr) (zr1 := 48 + zr) dL_law_440 ho hox hS2 (c_X5_ofWalker ho hS2.1 hc (nI k) 6) (th_ofw_n hc hk (by decide)) (congrArg Value.int (by rw [nI_clamp (by omega)]; exact es)) cv_L_46 rfl ⟨Nat.le_of_ble_eq_true rfl, Nat.le_of_ble_eq_true rfl⟩ rfl (Nat.le_of_ble_eq_true rfl) (by omega) (by omega) (fun n3 K3 hn3 hS3 => ?_)
    refine ms_run (pc' := 444) (lv' := [(10, .int (nI (sn sN (k + 1)))), (9, .int (nI (ct (pJ pa X) (k + 1)))), (0, .ref sb), (1, .int tm), (2, .ref o), (3, .ref x), (4, .int sp), (5, .long bf), (7, .int he7), (8, .int oc8), (11, .int (nI k))]) (st' := [.ref x, .int (nI (sN k))]) _ (ms_deC dL_law_443 ms_deN) rfl rfl ?_
    refine lw_askM (As := []) (v2 := .int (nI t)) dL_law_444 ho hox hS3 (c_X5_clock ho hS3.1) (congrArg Value.int hcl) cv_L_68 rfl ⟨Nat.le_of_ble_eq_true rfl, Nat.le_of_ble_eq_true rfl⟩ rfl (Nat.le_of_ble_eq_true rfl) (fun K4 hS4 => ?_)
    refine ms_run (pc' := 451) (lv' := [(10, .int (nI (sn sN (k + 1)))), (9, .int (nI (ct (pJ pa X) (k + 1)))), (0, .ref sb), (1, .int tm), (2, .ref o), (3, .ref x), (4, .int sp), (5, .long bf), (7, .int he7), (8, .int oc8), (11, .int (nI k))]) (st' := [.int 1, .int (nI k), .ref x, .int (nI t), .int (nI (sN k))]) _ (ms_deC dL_law_447 (ms_deC dL_law_448 (ms_deC dL_law_450 ms_deN))) rfl rfl ?_
    refine lw_ask (As := [.int (nI k), .int 1]) (v2 := .int (nI q9)) (kr1 := 7 + kr) (zr1 := 42 + zr) dL_law_451 ho hox hS4 (c_X5_ofWalker ho hS4.1 hc (nI k) 1) (th_ofw_n hc hk (by decide)) (congrArg Value.int (by rw [nI_clamp (by omega)]; exact e1)) cv_L_46 rfl ⟨Nat.le_of_ble_eq_true rfl, Nat.le_of_ble_eq_true rfl⟩ rfl (Nat.le_of_ble_eq_true rfl) (by omega) (by omega) (fun n5 K5 hn5 hS5 => ?_)
    refine ms_idiv dL_law_454 ((fun y => by have := (nI_eq (b := 0) (by omega) (by omega)).mp y; omega)) ?_
    rw [show nI t / nI q9 = nI (t / q9) from nI_div (by omega) (by omega)]
    refine ms_icmp_gt (tgt := 536) dL_law_455 (by decide) (fun h_455 => ?_) (fun h_455 => ?_)
    · skip
      exact absurd ((nI_ltI (by omega) (by omega)).mp h_455) (by omega)
    · skip
      refine ms_run (pc' := 462) (lv' := [(10, .int (nI (sn sN (k + 1)))), (9, .int (nI (ct (pJ pa X) (k + 1)))), (0, .ref sb), (1, .int tm), (2, .ref o), (3, .ref x), (4, .int sp), (5, .long bf), (7, .int he7), (8, .int oc8), (11, .int (nI k))]) (st' := [.int 5, .int (nI k), .ref x]) _ (ms_deC dL_law_458 (ms_deC dL_law_459 (ms_deC dL_law_461 ms_deN))) rfl rfl ?_
      refine lw_ask (As := [.int (nI k), .int 5]) (v2 := .int (nI w9)) (kr1 := 6 + kr) (zr1 := 36 + zr) dL_law_462 ho hox hS5 (c_X5_ofWalker ho hS5.1 hc (nI k) 5) (th_ofw_n hc hk (by decide)) (congrArg Value.int (by rw [nI_clamp (by omega)]; exact e5)) cv_L_46 rfl ⟨Nat.le_of_ble_eq_true rfl, Nat.le_of_ble_eq_true rfl⟩ rfl (Nat.le_of_ble_eq_true rfl) (by omega) (by omega) (fun n6 K6 hn6 hS6 => ?_)
      refine ms_run (pc' := 466) (lv' := [(10, .int (nI (sn sN (k + 1)))), (9, .int (nI (ct (pJ pa X) (k + 1)))), (0, .ref sb), (1, .int tm), (2, .ref o), (3, .ref x), (4, .int sp), (5, .long bf), (7, .int he7), (8, .int oc8), (11, .int (nI k))]) (st' := [.ref x, .int (nI w9)]) _ (ms_deC dL_law_465 ms_deN) rfl rfl ?_
      refine lw_askM (As := []) (v2 := .int (nI t)) dL_law_466 ho hox hS6 (c_X5_clock ho hS6.1) (congrArg Value.int hcl) cv_L_68 rfl ⟨Nat.le_of_ble_eq_true rfl, Nat.le_of_ble_eq_true rfl⟩ rfl (Nat.le_of_ble_eq_true rfl) (fun K7 hS7 => ?_)
      refine ms_icmp_gt (tgt := 536) dL_law_469 (by decide) (fun h_469 => ?_) (fun h_469 => ?_)
      · skip
        exact absurd ((nI_ltI (by omega) (by omega)).mp h_469) (by omega)
      · skip
        refine ms_run (pc' := 477) (lv' := [(10, .int (nI (sn sN (k + 1)))), (9, .int (nI (ct (pJ pa X) (k + 1)))), (0, .ref sb), (1, .int tm), (2, .ref o), (3, .ref x), (4, .int sp), (5, .long bf), (7, .int he7), (8, .int oc8), (11, .int (nI k))]) (st' := [.int 8, .int (nI k), .ref x]) _ (ms_deC dL_law_472 (ms_deC dL_law_473 (ms_deC dL_law_475 ms_deN))) rfl rfl ?_
        refine lw_ask (As := [.int (nI k), .int 8]) (v2 := .int (X.1 k 7)) (kr1 := 5 + kr) (zr1 := 30 + zr) dL_law_477 ho hox hS7 (c_X5_ofWalker ho hS7.1 hc (nI k) 8) (th_ofw_n hc hk (by decide)) (congrArg Value.int (by rw [nI_clamp (by omega)]; exact rfl)) cv_L_46 rfl ⟨Nat.le_of_ble_eq_true rfl, Nat.le_of_ble_eq_true rfl⟩ rfl (Nat.le_of_ble_eq_true rfl) (by omega) (by omega) (fun n8 K8 hn8 hS8 => ?_)
        refine ms_run (pc' := 481) (lv' := [(10, .int (nI (sn sN (k + 1)))), (9, .int (nI (ct (pJ pa X) (k + 1)))), (0, .ref sb), (1, .int tm), (2, .ref o), (3, .ref x), (4, .int sp), (5, .long bf), (7, .int he7), (8, .int oc8), (11, .int (nI k))]) (st' := [.ref x, .int (X.1 k 7)]) _ (ms_deC dL_law_480 ms_deN) rfl rfl ?_
        refine lw_askM (As := []) (v2 := .int (nI t)) dL_law_481 ho hox hS8 (c_X5_clock ho hS8.1) (congrArg Value.int hcl) cv_L_68 rfl ⟨Nat.le_of_ble_eq_true rfl, Nat.le_of_ble_eq_true rfl⟩ rfl (Nat.le_of_ble_eq_true rfl) (fun K9 hS9 => ?_)
        refine ms_icmp_gt (tgt := 536) dL_law_484 (by decide) (fun h_484 => ?_) (fun h_484 => ?_)
        · skip
          exact absurd h_484 (Int32.not_lt.mpr h78)
        · skip
          refine ms_run (pc' := 490) (lv' := [(10, .int (nI (sn sN (k + 1)))), (9, .int (nI (ct (pJ pa X) (k + 1)))), (0, .ref sb), (1, .int tm), (2, .ref o), (3, .ref x), (4, .int sp), (5, .long bf), (7, .int he7), (8, .int oc8), (11, .int (nI k))]) (st' := [.int (nI k), .ref x]) _ (ms_deC dL_law_487 (ms_deC dL_law_488 ms_deN)) rfl rfl ?_
          refine lw_ask (As := [.int (nI k)]) (v2 := .int (nI (z k))) (kr1 := 4 + kr) (zr1 := 24 + zr) dL_law_490 ho hox hS9 (c_X5_jam ho hS9.1 hc (nI k)) (th_wk_n hc hk) (congrArg Value.int (by rw [nI_clamp (by omega)]; exact (hz k hk).1)) cv_L_65 rfl ⟨Nat.le_of_ble_eq_true rfl, Nat.le_of_ble_eq_true rfl⟩ rfl (Nat.le_of_ble_eq_true rfl) (by omega) (by omega) (fun n10 K10 hn10 hS10 => ?_)
          refine ms_run (pc' := 495) (lv' := [(10, .int (nI (sn sN (k + 1)))), (9, .int (nI (ct (pJ pa X) (k + 1)))), (0, .ref sb), (1, .int tm), (2, .ref o), (3, .ref x), (4, .int sp), (5, .long bf), (7, .int he7), (8, .int oc8), (11, .int (nI k))]) (st' := [.int 5, .ref x, .int (nI (z k))]) _ (ms_deC dL_law_493 (ms_deC dL_law_494 ms_deN)) rfl rfl ?_
          refine lw_ask (As := [.int 5]) (v2 := .int (nI M)) (kr1 := 3 + kr) (zr1 := 18 + zr) dL_law_495 ho hox hS10 (c_X5_many ho hS10.1 hc hW hH hp0 5) (rfl) (congrArg Value.int hM5) cv_L_50 rfl ⟨Nat.le_of_ble_eq_true rfl, Nat.le_of_ble_eq_true rfl⟩ rfl (Nat.le_of_ble_eq_true rfl) (by omega) (by omega) (fun n11 K11 hn11 hS11 => ?_)
          refine ms_icmp_gt (tgt := 536) dL_law_498 (by decide) (fun h_498 => ?_) (fun h_498 => ?_)
          · skip
            exact absurd ((nI_ltI (by omega) (by omega)).mp h_498) (by omega)
          · skip
            refine ms_run (pc' := 505) (lv' := [(10, .int (nI (sn sN (k + 1)))), (9, .int (nI (ct (pJ pa X) (k + 1)))), (0, .ref sb), (1, .int tm), (2, .ref o), (3, .ref x), (4, .int sp), (5, .long bf), (7, .int he7), (8, .int oc8), (11, .int (nI k))]) (st' := [.int 4, .int (nI k), .ref x]) _ (ms_deC dL_law_501 (ms_deC dL_law_502 (ms_deC dL_law_504 ms_deN))) rfl rfl ?_
            refine lw_ask (As := [.int (nI k), .int 4]) (v2 := .int (X.1 k 4)) (kr1 := 2 + kr) (zr1 := 12 + zr) dL_law_505 ho hox hS11 (c_X5_ofWalker ho hS11.1 hc (nI k) 4) (th_ofw_n hc hk (by decide)) (congrArg Value.int (by rw [nI_clamp (by omega)]; exact rfl)) cv_L_46 rfl ⟨Nat.le_of_ble_eq_true rfl, Nat.le_of_ble_eq_true rfl⟩ rfl (Nat.le_of_ble_eq_true rfl) (by omega) (by omega) (fun n12 K12 hn12 hS12 => ?_)
            refine ms_run (pc' := 509) (lv' := [(10, .int (nI (sn sN (k + 1)))), (9, .int (nI (ct (pJ pa X) (k + 1)))), (0, .ref sb), (1, .int tm), (2, .ref o), (3, .ref x), (4, .int sp), (5, .long bf), (7, .int he7), (8, .int oc8), (11, .int (nI k))]) (st' := [.int 4, .int (X.1 k 4)]) _ (ms_deC dL_law_508 ms_deN) rfl rfl ?_
            refine ms_icmp_ne (tgt := 516) dL_law_509 (by decide) (fun h_509 => ?_) (fun h_509 => ?_)
            · skip
              refine ms_run (pc' := 522) (lv' := [(10, .int (nI (sn sN (k + 1)))), (9, .int (nI (ct (pJ pa X) (k + 1)))), (0, .ref sb), (1, .int tm), (2, .ref o), (3, .ref x), (4, .int sp), (5, .long bf), (7, .int he7), (8, .int oc8), (11, .int (nI k))]) (st' := [.int 6, .int (nI k), .ref x, .int 0]) _ (ms_deC dL_law_516 (ms_deC dL_law_517 (ms_deC dL_law_518 (ms_deC dL_law_520 ms_deN)))) rfl rfl ?_
              refine lw_ask (As := [.int (nI k), .int 6]) (v2 := .int (nI (sN k))) (kr1 := 1 + kr) (zr1 := 6 + zr) dL_law_522 ho hox hS12 (c_X5_ofWalker ho hS12.1 hc (nI k) 6) (th_ofw_n hc hk (by decide)) (congrArg Value.int (by rw [nI_clamp (by omega)]; exact es)) cv_L_46 rfl ⟨Nat.le_of_ble_eq_true rfl, Nat.le_of_ble_eq_true rfl⟩ rfl (Nat.le_of_ble_eq_true rfl) (by omega) (by omega) (fun n13 K13 hn13 hS13 => ?_)
              refine ms_if_ne (tgt := 532) dL_law_525 (by decide) (fun h_525 => ?_) (fun h_525 => ?_)
              · skip
                refine ms_run (pc' := 533) (lv' := [(10, .int (nI (sn sN (k + 1)))), (9, .int (nI (ct (pJ pa X) (k + 1)))), (0, .ref sb), (1, .int tm), (2, .ref o), (3, .ref x), (4, .int sp), (5, .long bf), (7, .int he7), (8, .int oc8), (11, .int (nI k))]) (st' := [.int 0, .int 0]) _ (ms_deC dL_law_532 ms_deN) rfl rfl ?_
                refine ms_icmp_eq (tgt := 538) dL_law_533 (by decide) (fun _ => ?_) (fun h9 => absurd h9 (by decide))
                exact ms_W.room (k2 := kr) (z2 := zr) (by refine ms_W.sub (lv2 := [(0, _), (1, _), (2, _), (3, _), (4, _), (5, _), (7, _), (8, _), (9, _), (10, _), (11, _)]) ?_ [2, 3, 4, 5, 6, 7, 8, 9, 1, 0, 10] rfl; exact kk n13 K13 (by omega) hS13) (by omega) (by omega)
              · skip
                exact absurd (h4.mpr ((nI_eq (b := 0) (by omega) (by omega)).mp h_525)) h_509
            · skip
              refine ms_run (pc' := 513) (lv' := [(10, .int (nI (sn sN (k + 1)))), (9, .int (nI (ct (pJ pa X) (k + 1)))), (0, .ref sb), (1, .int tm), (2, .ref o), (3, .ref x), (4, .int sp), (5, .long bf), (7, .int he7), (8, .int oc8), (11, .int (nI k))]) (st' := [.int 1]) _ (ms_deC dL_law_512 ms_deN) rfl rfl ?_
              refine ms_goto (tgt := 517) dL_law_513 (by decide) ?_
              refine ms_run (pc' := 522) (lv' := [(10, .int (nI (sn sN (k + 1)))), (9, .int (nI (ct (pJ pa X) (k + 1)))), (0, .ref sb), (1, .int tm), (2, .ref o), (3, .ref x), (4, .int sp), (5, .long bf), (7, .int he7), (8, .int oc8), (11, .int (nI k))]) (st' := [.int 6, .int (nI k), .ref x, .int 1]) _ (ms_deC dL_law_517 (ms_deC dL_law_518 (ms_deC dL_law_520 ms_deN))) rfl rfl ?_
              refine lw_ask (As := [.int (nI k), .int 6]) (v2 := .int (nI (sN k))) (kr1 := 1 + kr) (zr1 := 6 + zr) dL_law_522 ho hox hS12 (c_X5_ofWalker ho hS12.1 hc (nI k) 6) (th_ofw_n hc hk (by decide)) (congrArg Value.int (by rw [nI_clamp (by omega)]; exact es)) cv_L_46 rfl ⟨Nat.le_of_ble_eq_true rfl, Nat.le_of_ble_eq_true rfl⟩ rfl (Nat.le_of_ble_eq_true rfl) (by omega) (by omega) (fun n13 K13 hn13 hS13 => ?_)
              refine ms_if_ne (tgt := 532) dL_law_525 (by decide) (fun h_525 => ?_) (fun h_525 => ?_)
              · skip
                exact absurd (by rw [h4.mp h_509]; rfl) h_525
              · skip
                refine ms_run (pc' := 529) (lv' := [(10, .int (nI (sn sN (k + 1)))), (9, .int (nI (ct (pJ pa X) (k + 1)))), (0, .ref sb), (1, .int tm), (2, .ref o), (3, .ref x), (4, .int sp), (5, .long bf), (7, .int he7), (8, .int oc8), (11, .int (nI k))]) (st' := [.int 1, .int 1]) _ (ms_deC dL_law_528 ms_deN) rfl rfl ?_
                refine ms_goto (tgt := 533) dL_law_529 (by decide) ?_
                refine ms_icmp_eq (tgt := 538) dL_law_533 (by decide) (fun _ => ?_) (fun h9 => absurd h9 (by decide))
                exact ms_W.room (k2 := kr) (z2 := zr) (by refine ms_W.sub (lv2 := [(0, _), (1, _), (2, _), (3, _), (4, _), (5, _), (7, _), (8, _), (9, _), (10, _), (11, _)]) ?_ [2, 3, 4, 5, 6, 7, 8, 9, 1, 0, 10] rfl; exact kk n13 K13 (by omega) hS13) (by omega) (by omega)
set_option maxHeartbeats 1000000 in
set_option maxRecDepth 20000 in
theorem w3_law {n o x g q c j q2 c2 sb L d t W H cnt fa wa : Nat} {xs : Nat → Int32} {G : ms_H} {dr pa : Int32} {X : cX} {nr wl mk ds : Nat → Int32} {wr : Nat → Nat} {fv : Nat → Nat → Int32} {P : ms_P} {kr zr : Nat} {tm sp : Int32} {bf : Int64} (ho : ox x g q c j q2 c2) (hox : o < x) (hS : fS o x g q c j q2 c2 sb n d t G W H cnt fa wa dr pa X nr wl mk ds wr fv) {k : Nat} (hk : k < cnt) (hu : ¬ X.1 k 3 = -1) {b9 : Nat} (hb9 : b9 ≤ 4) (hmin : ∀ s, s ≤ 4 → cr_cost (nI (W * H)) nr ds X.2.2.1 (hdX cnt dr) X.1 (X.1 k) (nI b9) ≤ cr_cost (nI (W * H)) nr ds X.2.2.1 (hdX cnt dr) X.1 (X.1 k) (nI s)) {D : Int32} (hno : D < 0 → ∀ s, s ≤ 4 → cr_cost (nI (W * H)) nr ds X.2.2.1 (hdX cnt dr) X.1 (X.1 k) (nI s) = 10000) {he7 oc8 : Int32} {j9 st9 : Int32} (kk : ∀ (n1 : Nat) (G1 : ms_H), n ≤ n1 → fS o x g q c j q2 c2 sb n1 d t G1 W H cnt fa wa dr pa X nr wl mk ds wr fv → ms_W false (ms_S (sb, L, xs) m_L_law) P 654 [(0, .ref sb), (1, .int tm), (2, .ref o), (3, .ref x), (4, .int sp), (5, .long bf), (7, .int he7), (8, .int oc8), (9, .int j9), (10, .int st9), (11, .int (nI k)), (12, .int (nI b9)), (13, .int D)] [] n1 G1 kr zr) : ∀ (r s : Nat), s + r = 5 → ∀ (n1 : Nat) (K : ms_H), n ≤ n1 → fS o x g q c j q2 c2 sb n1 d t K W H cnt fa wa dr pa X nr wl mk ds wr fv → ms_W false (ms_S (sb, L, xs) m_L_law) (P) 602 [(0, .ref sb), (1, .int tm), (2, .ref o), (3, .ref x), (4, .int sp), (5, .long bf), (7, .int he7), (8, .int oc8), (9, .int j9), (10, .int st9), (11, .int (nI k)), (12, .int (nI b9)), (13, .int D), (14, .int (nI s))] [] n1 K (3 * r + kr) (18 * r + zr) := by
  have hS0 := hS
  obtain ⟨-, -, -, -, -, hK⟩ := hS0
  have hK0 := hK
  obtain ⟨⟨pb1, pb2, pb3, pb4⟩, hc, hL, hfv, hht, hds, hdr, ⟨p9, hp91, hp92, hpa⟩, hwl, ⟨hcl, ht9⟩, hV, hI, hHt⟩ := hK0
  have hW : W ≤ 14 := by omega
  have hH : H ≤ 14 := by omega
  have hW0 : 0 < W := by omega
  have h9 : W * H ≤ 196 := Nat.mul_le_mul hW hH
  have h35 : W * H ≤ 7 * 5 := Nat.mul_le_mul pb2 pb4
  intro r
  induction r with
  | zero =>
    intro s hs9 n1 K hn1 hS1
    have hkN : s = 5 := by omega
    refine ms_run (pc' := 605) (lv' := [(0, .ref sb), (1, .int tm), (2, .ref o), (3, .ref x), (4, .int sp), (5, .long bf), (7, .int he7), (8, .int oc8), (9, .int j9), (10, .int st9), (11, .int (nI k)), (12, .int (nI b9)), (13, .int D), (14, .int (nI s))]) (st' := [.int 5, .int (nI s)]) _ (ms_deC dL_law_602 (ms_deC dL_law_604 ms_deN)) rfl rfl ?_
    refine ms_icmp_ge (tgt := 654) dL_law_605 (by decide) (fun h_605 => ?_) (fun h_605 => ?_)
    · skip
      refine ms_W.sub (lv2 := [(0, _), (1, _), (2, _), (3, _), (4, _), (5, _), (7, _), (8, _), (9, _), (10, _), (11, _), (12, _), (13, _)]) ?_ [0, 1, 2, 3, 4, 5, 6, 7, 8, 9, 10, 11, 12] rfl
      exact ms_W.room (k2 := kr) (z2 := zr) (kk n1 K hn1 hS1) (by omega) (by omega)
    · skip
      exact absurd (show nI 5 ≤ nI s from nI_le (by omega) (by omega)) h_605
  | succ r ih =>
    intro s hs9 n1 K hn1 hS1
    have hlt : s < 5 := by omega
    refine ms_run (pc' := 605) (lv' := [(0, .ref sb), (1, .int tm), (2, .ref o), (3, .ref x), (4, .int sp), (5, .long bf), (7, .int he7), (8, .int oc8), (9, .int j9), (10, .int st9), (11, .int (nI k)), (12, .int (nI b9)), (13, .int D), (14, .int (nI s))]) (st' := [.int 5, .int (nI s)]) _ (ms_deC dL_law_602 (ms_deC dL_law_604 ms_deN)) rfl rfl ?_
    refine ms_icmp_ge (tgt := 654) dL_law_605 (by decide) (fun h_605 => ?_) (fun h_605 => ?_)
    · skip
      exact absurd ((nI_leI (a := 5) (by omega) (by omega)).mp h_605) (by omega)
    · skip
      refine ms_run (pc' := 613) (lv' := [(0, .ref sb), (1, .int tm), (2, .ref o), (3, .ref x), (4, .int sp), (5, .long bf), (7, .int he7), (8, .int oc8), (9, .int j9), (10, .int st9), (11, .int (nI k)), (12, .int (nI b9)), (13, .int D), (14, .int (nI s))]) (st' := [.int (nI s), .int (nI k), .ref x]) _ (ms_deC dL_law_608 (ms_deC dL_law_609 (ms_deC dL_law_611 ms_deN))) rfl rfl ?_
      refine lw_ask (As := [.int (nI k), .int (nI s)]) (v2 := .int (cr_cost (nI (W * H)) nr ds X.2.2.1 (hdX cnt dr) X.1 (X.1 k) (nI s))) (kr1 := 2 + (3 * r + kr)) (zr1 := 12 + (18 * r + zr)) dL_law_613 ho hox hS1 (c_X5_cost ho hS1.1 hc (nI k) (nI s)) (th_onw_n hc hk hu (fun y => by rcases y with y | y; exact nI_pos (by omega) y; exact absurd ((nI_ltI (a := 4) (by omega) (by omega)).mp y) (by omega))) (congrArg Value.int (by rw [nI_clamp (by omega)])) cv_L_78 rfl ⟨Nat.le_of_ble_eq_true rfl, Nat.le_of_ble_eq_true rfl⟩ rfl (Nat.le_of_ble_eq_true rfl) (by omega) (by omega) (fun n1 K1 hn1 hS1 => ?_)
      refine ms_run (pc' := 621) (lv' := [(0, .ref sb), (1, .int tm), (2, .ref o), (3, .ref x), (4, .int sp), (5, .long bf), (7, .int he7), (8, .int oc8), (9, .int j9), (10, .int st9), (11, .int (nI k)), (12, .int (nI b9)), (13, .int D), (14, .int (nI s))]) (st' := [.int (nI b9), .int (nI k), .ref x, .int (cr_cost (nI (W * H)) nr ds X.2.2.1 (hdX cnt dr) X.1 (X.1 k) (nI s))]) _ (ms_deC dL_law_616 (ms_deC dL_law_617 (ms_deC dL_law_619 ms_deN))) rfl rfl ?_
      refine lw_ask (As := [.int (nI k), .int (nI b9)]) (v2 := .int (cr_cost (nI (W * H)) nr ds X.2.2.1 (hdX cnt dr) X.1 (X.1 k) (nI b9))) (kr1 := 1 + (3 * r + kr)) (zr1 := 6 + (18 * r + zr)) dL_law_621 ho hox hS1 (c_X5_cost ho hS1.1 hc (nI k) (nI b9)) (th_onw_n hc hk hu (fun y => by rcases y with y | y; exact nI_pos (by omega) y; exact absurd ((nI_ltI (a := 4) (by omega) (by omega)).mp y) (by omega))) (congrArg Value.int (by rw [nI_clamp (by omega)])) cv_L_78 rfl ⟨Nat.le_of_ble_eq_true rfl, Nat.le_of_ble_eq_true rfl⟩ rfl (Nat.le_of_ble_eq_true rfl) (by omega) (by omega) (fun n2 K2 hn2 hS2 => ?_)
      refine ms_icmp_lt (tgt := 646) dL_law_624 (by decide) (fun h_624 => ?_) (fun h_624 => ?_)
      · skip
        exact absurd h_624 (Int32.not_lt.mpr (hmin s (by omega)))
      · skip
        refine ms_run (pc' := 629) (lv' := [(0, .ref sb), (1, .int tm), (2, .ref o), (3, .ref x), (4, .int sp), (5, .long bf), (7, .int he7), (8, .int oc8), (9, .int j9), (10, .int st9), (11, .int (nI k)), (12, .int (nI b9)), (13, .int D), (14, .int (nI s))]) (st' := [.int D]) _ (ms_deC dL_law_627 ms_deN) rfl rfl ?_
        refine ms_if_ge (tgt := 648) dL_law_629 (by decide) (fun h_629 => ?_) (fun h_629 => ?_)
        · skip
          refine ms_run (pc' := 651) (lv' := [(14, .int ((nI s) + 1)), (0, .ref sb), (1, .int tm), (2, .ref o), (3, .ref x), (4, .int sp), (5, .long bf), (7, .int he7), (8, .int oc8), (9, .int j9), (10, .int st9), (11, .int (nI k)), (12, .int (nI b9)), (13, .int D)]) (st' := []) _ (ms_deC dL_law_648 ms_deN) rfl rfl ?_
          refine ms_goto (tgt := 602) dL_law_651 (by decide) ?_
          rw [nI_1 s]
          refine ms_W.sub (lv2 := [(0, _), (1, _), (2, _), (3, _), (4, _), (5, _), (7, _), (8, _), (9, _), (10, _), (11, _), (12, _), (13, _), (14, _)]) ?_ [1, 2, 3, 4, 5, 6, 7, 8, 9, 10, 11, 12, 13, 0] rfl
          exact ms_W.room (k2 := 3 * r + kr) (z2 := 18 * r + zr) (ih (s + 1) (by omega) n2 K2 (by omega) hS2) (by omega) (by omega)
        · skip
          refine ms_run (pc' := 637) (lv' := [(0, .ref sb), (1, .int tm), (2, .ref o), (3, .ref x), (4, .int sp), (5, .long bf), (7, .int he7), (8, .int oc8), (9, .int j9), (10, .int st9), (11, .int (nI k)), (12, .int (nI b9)), (13, .int D), (14, .int (nI s))]) (st' := [.int (nI s), .int (nI k), .ref x]) _ (ms_deC dL_law_632 (ms_deC dL_law_633 (ms_deC dL_law_635 ms_deN))) rfl rfl ?_
          refine lw_ask (As := [.int (nI k), .int (nI s)]) (v2 := .int (cr_cost (nI (W * H)) nr ds X.2.2.1 (hdX cnt dr) X.1 (X.1 k) (nI s))) (kr1 := 0 + (3 * r + kr)) (zr1 := 0 + (18 * r + zr)) dL_law_637 ho hox hS2 (c_X5_cost ho hS2.1 hc (nI k) (nI s)) (th_onw_n hc hk hu (fun y => by rcases y with y | y; exact nI_pos (by omega) y; exact absurd ((nI_ltI (a := 4) (by omega) (by omega)).mp y) (by omega))) (congrArg Value.int (by rw [nI_clamp (by omega)])) cv_L_78 rfl ⟨Nat.le_of_ble_eq_true rfl, Nat.le_of_ble_eq_true rfl⟩ rfl (Nat.le_of_ble_eq_true rfl) (by omega) (by omega) (fun n3 K3 hn3 hS3 => ?_)
          refine ms_run (pc' := 643) (lv' := [(0, .ref sb), (1, .int tm), (2, .ref o), (3, .ref x), (4, .int sp), (5, .long bf), (7, .int he7), (8, .int oc8), (9, .int j9), (10, .int st9), (11, .int (nI k)), (12, .int (nI b9)), (13, .int D), (14, .int (nI s))]) (st' := [.int 10000, .int (cr_cost (nI (W * H)) nr ds X.2.2.1 (hdX cnt dr) X.1 (X.1 k) (nI s))]) _ (ms_deC dL_law_640 ms_deN) rfl rfl ?_
          refine ms_icmp_eq (tgt := 648) dL_law_643 (by decide) (fun h_643 => ?_) (fun h_643 => ?_)
          · skip
            refine ms_run (pc' := 651) (lv' := [(14, .int ((nI s) + 1)), (0, .ref sb), (1, .int tm), (2, .ref o), (3, .ref x), (4, .int sp), (5, .long bf), (7, .int he7), (8, .int oc8), (9, .int j9), (10, .int st9), (11, .int (nI k)), (12, .int (nI b9)), (13, .int D)]) (st' := []) _ (ms_deC dL_law_648 ms_deN) rfl rfl ?_
            refine ms_goto (tgt := 602) dL_law_651 (by decide) ?_
            rw [nI_1 s]
            refine ms_W.sub (lv2 := [(0, _), (1, _), (2, _), (3, _), (4, _), (5, _), (7, _), (8, _), (9, _), (10, _), (11, _), (12, _), (13, _), (14, _)]) ?_ [1, 2, 3, 4, 5, 6, 7, 8, 9, 10, 11, 12, 13, 0] rfl
            exact ms_W.room (k2 := 3 * r + kr) (z2 := 18 * r + zr) (ih (s + 1) (by omega) n3 K3 (by omega) hS3) (by omega) (by omega)
          · skip
            exact absurd (hno (Int32.not_le.mp h_629) s (by omega)) h_643
set_option maxHeartbeats 1000000 in
set_option maxRecDepth 20000 in
theorem w2_law {n o x g q c j q2 c2 sb L d t W H cnt fa wa : Nat} {xs : Nat → Int32} {G : ms_H} {dr pa : Int32} {X : cX} {nr wl mk ds : Nat → Int32} {wr : Nat → Nat} {fv : Nat → Nat → Int32} {P : ms_P} {kr zr : Nat} {tm sp : Int32} {bf : Int64} (ho : ox x g q c j q2 c2) (hox : o < x) (hS : fS o x g q c j q2 c2 sb n d t G W H cnt fa wa dr pa X nr wl mk ds wr fv) {k : Nat} (hk : k < cnt) {z : Nat → Nat} {M : Nat} (hz : ∀ k, k < cnt → jm_sz (jxX pa cnt nr X).1 (jxX pa cnt nr X).2.1 (nI k) = nI (z k) ∧ z k ≤ M ∧ (0 < z k ↔ pJam pa (X.1 k))) (hM5 : mx0 (jxX pa cnt nr X).2.1 (jxX pa cnt nr X).2.2.1 = nI M) (hM24 : M ≤ 24) {he7 oc8 : Int32} {j9 st9 : Int32} (kk : ∀ (n1 : Nat) (G1 : ms_H), n ≤ n1 → fS o x g q c j q2 c2 sb n1 d t G1 W H cnt fa wa dr pa X nr wl mk ds wr fv → ms_W false (ms_S (sb, L, xs) m_L_law) P 721 [(0, .ref sb), (1, .int tm), (2, .ref o), (3, .ref x), (4, .int sp), (5, .long bf), (7, .int he7), (8, .int oc8), (9, .int j9), (10, .int st9), (11, .int (nI k))] [] n1 G1 kr zr) : ms_W false (ms_S (sb, L, xs) m_L_law) (P) 538 [(0, .ref sb), (1, .int tm), (2, .ref o), (3, .ref x), (4, .int sp), (5, .long bf), (7, .int he7), (8, .int oc8), (9, .int j9), (10, .int st9), (11, .int (nI k))] [] n G (22 + kr) (132 + zr) := by
  have hS0 := hS
  obtain ⟨-, -, -, -, -, hK⟩ := hS0
  have hK0 := hK
  obtain ⟨⟨pb1, pb2, pb3, pb4⟩, hc, hL, hfv, hht, hds, hdr, ⟨p9, hp91, hp92, hpa⟩, hwl, ⟨hcl, ht9⟩, hV, hI, hHt⟩ := hK0
  have hW : W ≤ 14 := by omega
  have hH : H ≤ 14 := by omega
  have hW0 : 0 < W := by omega
  have h9 : W * H ≤ 196 := Nat.mul_le_mul hW hH
  have h35 : W * H ≤ 7 * 5 := Nat.mul_le_mul pb2 pb4
  have hp0 : 0 < W * H := Nat.mul_pos hW0 (by omega)
  obtain ⟨hz1, hz2, hz3⟩ := hz k hk
  obtain ⟨h1, -, h7⟩ := hI k hk
  by_cases eo : X.1 k 3 = -1
  · skip
    have hzk : z k = 0 := by
      rcases Nat.eq_zero_or_pos (z k) with y | y
      · exact y
      · exact absurd eo (hz3.mp y).1
    obtain ⟨a9, a1, a2, a3⟩ := h7.resolve_left (fun y => y.2 eo)
    refine ms_run (pc' := 542) (lv' := [(0, .ref sb), (1, .int tm), (2, .ref o), (3, .ref x), (4, .int sp), (5, .long bf), (7, .int he7), (8, .int oc8), (9, .int j9), (10, .int st9), (11, .int (nI k))]) (st' := [.int 3, .int (nI k), .ref x]) _ (ms_deC dL_law_538 (ms_deC dL_law_539 (ms_deC dL_law_541 ms_deN))) rfl rfl ?_
    refine lw_ask (As := [.int (nI k), .int 3]) (v2 := .int (-1)) (kr1 := 21 + kr) (zr1 := 126 + zr) dL_law_542 ho hox hS (c_X5_ofWalker ho hS.1 hc (nI k) 3) (th_ofw_n hc hk (by decide)) (congrArg Value.int (by rw [nI_clamp (by omega)]; exact eo)) cv_L_46 rfl ⟨Nat.le_of_ble_eq_true rfl, Nat.le_of_ble_eq_true rfl⟩ rfl (Nat.le_of_ble_eq_true rfl) (by omega) (by omega) (fun n1 K1 hn1 hS1 => ?_)
    refine ms_if_ge (tgt := 581) dL_law_545 (by decide) (fun h9 => absurd h9 (by decide)) (fun _ => ?_)
    refine ms_run (pc' := 553) (lv' := [(0, .ref sb), (1, .int tm), (2, .ref o), (3, .ref x), (4, .int sp), (5, .long bf), (7, .int he7), (8, .int oc8), (9, .int j9), (10, .int st9), (11, .int (nI k))]) (st' := [.int 8, .int (nI k), .ref x]) _ (ms_deC dL_law_548 (ms_deC dL_law_549 (ms_deC dL_law_551 ms_deN))) rfl rfl ?_
    refine lw_ask (As := [.int (nI k), .int 8]) (v2 := .int (nI a9)) (kr1 := 20 + kr) (zr1 := 120 + zr) dL_law_553 ho hox hS1 (c_X5_ofWalker ho hS1.1 hc (nI k) 8) (th_ofw_n hc hk (by decide)) (congrArg Value.int (by rw [nI_clamp (by omega)]; exact a3)) cv_L_46 rfl ⟨Nat.le_of_ble_eq_true rfl, Nat.le_of_ble_eq_true rfl⟩ rfl (Nat.le_of_ble_eq_true rfl) (by omega) (by omega) (fun n2 K2 hn2 hS2 => ?_)
    refine ms_run (pc' := 557) (lv' := [(0, .ref sb), (1, .int tm), (2, .ref o), (3, .ref x), (4, .int sp), (5, .long bf), (7, .int he7), (8, .int oc8), (9, .int j9), (10, .int st9), (11, .int (nI k))]) (st' := [.int 1, .int (nI a9)]) _ (ms_deC dL_law_556 ms_deN) rfl rfl ?_
    refine ms_icmp_lt (tgt := 579) dL_law_557 (by decide) (fun h_557 => ?_) (fun h_557 => ?_)
    · skip
      exact absurd ((nI_ltI (b := 1) (by omega) (by omega)).mp h_557) (by omega)
    · skip
      refine ms_run (pc' := 563) (lv' := [(0, .ref sb), (1, .int tm), (2, .ref o), (3, .ref x), (4, .int sp), (5, .long bf), (7, .int he7), (8, .int oc8), (9, .int j9), (10, .int st9), (11, .int (nI k))]) (st' := [.int (nI k), .ref x]) _ (ms_deC dL_law_560 (ms_deC dL_law_561 ms_deN)) rfl rfl ?_
      refine lw_ask (As := [.int (nI k)]) (v2 := .int 0) (kr1 := 19 + kr) (zr1 := 114 + zr) dL_law_563 ho hox hS2 (c_X5_jam ho hS2.1 hc (nI k)) (th_wk_n hc hk) (congrArg Value.int (by rw [nI_clamp (by omega)]; exact (hz k hk).1.trans (by rw [hzk]; rfl))) cv_L_65 rfl ⟨Nat.le_of_ble_eq_true rfl, Nat.le_of_ble_eq_true rfl⟩ rfl (Nat.le_of_ble_eq_true rfl) (by omega) (by omega) (fun n3 K3 hn3 hS3 => ?_)
      refine ms_if_ne (tgt := 579) dL_law_566 (by decide) (fun h9 => absurd h9 (by decide)) (fun _ => ?_)
      refine ms_run (pc' := 573) (lv' := [(0, .ref sb), (1, .int tm), (2, .ref o), (3, .ref x), (4, .int sp), (5, .long bf), (7, .int he7), (8, .int oc8), (9, .int j9), (10, .int st9), (11, .int (nI k))]) (st' := [.int 1, .int (nI k), .ref x]) _ (ms_deC dL_law_569 (ms_deC dL_law_570 (ms_deC dL_law_572 ms_deN))) rfl rfl ?_
      refine lw_ask (As := [.int (nI k), .int 1]) (v2 := .int 0) (kr1 := 18 + kr) (zr1 := 108 + zr) dL_law_573 ho hox hS3 (c_X5_outIn ho hS3.1 hc hV.2.1 (nI k) 1) (th_ahw_n hc hk) (congrArg Value.int (by rw [nI_clamp (by omega)]; exact fst1_t (decide_eq_true eo))) cv_L_72 rfl ⟨Nat.le_of_ble_eq_true rfl, Nat.le_of_ble_eq_true rfl⟩ rfl (Nat.le_of_ble_eq_true rfl) (by omega) (by omega) (fun n4 K4 hn4 hS4 => ?_)
      refine ms_if_eq (tgt := 721) dL_law_576 (by decide) (fun _ => ?_) (fun h9 => absurd h9 (by decide))
      exact ms_W.room (k2 := kr) (z2 := zr) (by refine ms_W.sub (lv2 := [(0, _), (1, _), (2, _), (3, _), (4, _), (5, _), (7, _), (8, _), (9, _), (10, _), (11, _)]) ?_ [0, 1, 2, 3, 4, 5, 6, 7, 8, 9, 10] rfl; exact kk n4 K4 (by omega) hS4) (by omega) (by omega)
  · skip
    obtain ⟨own, ho9, hpo⟩ := pos_of hW hH hV.2.1 hk eo
    obtain ⟨hwo, hmk⟩ := h1 own ho9 hpo
    have h5 := hV.2.2.1 k hk
    obtain ⟨g9, hg9, eg⟩ := gl_nI h5.1
    have hD0 : ¬ dXg (W * H) nr wl mk g9 own = 0 := fun y => (of_decide_eq_true ((dX_0 h9).mp y)).2.2 (hmk g9 hg9 eg)
    have hsd : sq_ds (nI (W * H)) ds (X.1 k 0) (X.1 k 3) = dXg (W * H) nr wl mk g9 own := by rw [eg, hpo]; exact sqd_n h9 hds hg9 ho9
    obtain ⟨b9, hb9, eb, hmin, hb4⟩ := wn_min (D := dXg (W * H) nr wl mk g9) hL hc hW hH hV.1 hV.2.1 hk hpo ho9 hg9 eg (hds g9 hg9) (dX_val h9) h5.2.2 hdr
    by_cases hout : (stX1 (nI (W * H)) nr mk ds cnt dr X).1 k 3 = -1
    · skip
      have eD := out_1 hL hW hH hc hds hV hk hpo ho9 hwo hg9 eg hD0 hout
      refine ms_run (pc' := 542) (lv' := [(0, .ref sb), (1, .int tm), (2, .ref o), (3, .ref x), (4, .int sp), (5, .long bf), (7, .int he7), (8, .int oc8), (9, .int j9), (10, .int st9), (11, .int (nI k))]) (st' := [.int 3, .int (nI k), .ref x]) _ (ms_deC dL_law_538 (ms_deC dL_law_539 (ms_deC dL_law_541 ms_deN))) rfl rfl ?_
      refine lw_ask (As := [.int (nI k), .int 3]) (v2 := .int (nI own)) (kr1 := 21 + kr) (zr1 := 126 + zr) dL_law_542 ho hox hS (c_X5_ofWalker ho hS.1 hc (nI k) 3) (th_ofw_n hc hk (by decide)) (congrArg Value.int (by rw [nI_clamp (by omega)]; exact hpo)) cv_L_46 rfl ⟨Nat.le_of_ble_eq_true rfl, Nat.le_of_ble_eq_true rfl⟩ rfl (Nat.le_of_ble_eq_true rfl) (by omega) (by omega) (fun n1 K1 hn1 hS1 => ?_)
      refine ms_if_ge (tgt := 581) dL_law_545 (by decide) (fun h_545 => ?_) (fun h_545 => ?_)
      · skip
        refine ms_run (pc' := 584) (lv' := [(0, .ref sb), (1, .int tm), (2, .ref o), (3, .ref x), (4, .int sp), (5, .long bf), (7, .int he7), (8, .int oc8), (9, .int j9), (10, .int st9), (11, .int (nI k))]) (st' := [.int (nI k), .ref x]) _ (ms_deC dL_law_581 (ms_deC dL_law_582 ms_deN)) rfl rfl ?_
        refine lw_ask (As := [.int (nI k)]) (v2 := .int (nI b9)) (kr1 := 20 + kr) (zr1 := 120 + zr) dL_law_584 ho hox hS1 (c_X5_wants ho hS1.1 hc (nI k)) (th_wan_n hc hk eo) (congrArg Value.int (by rw [nI_clamp (by omega)]; exact eb)) cv_L_75 rfl ⟨Nat.le_of_ble_eq_true rfl, Nat.le_of_ble_eq_true rfl⟩ rfl (Nat.le_of_ble_eq_true rfl) (by omega) (by omega) (fun n2 K2 hn2 hS2 => ?_)
        refine ms_run (pc' := 594) (lv' := [(12, .int (nI b9)), (0, .ref sb), (1, .int tm), (2, .ref o), (3, .ref x), (4, .int sp), (5, .long bf), (7, .int he7), (8, .int oc8), (9, .int j9), (10, .int st9), (11, .int (nI k))]) (st' := [.int 7, .int (nI k), .ref x]) _ (ms_deC dL_law_587 (ms_deC dL_law_589 (ms_deC dL_law_590 (ms_deC dL_law_592 ms_deN)))) rfl rfl ?_
        refine lw_ask (As := [.int (nI k), .int 7]) (v2 := .int 1) (kr1 := 19 + kr) (zr1 := 114 + zr) dL_law_594 ho hox hS2 (c_X5_ofWalker ho hS2.1 hc (nI k) 7) (th_ofw_n hc hk (by decide)) (congrArg Value.int (by rw [nI_clamp (by omega)]; exact ((if_neg eo).trans (hsd.trans eD)))) cv_L_46 rfl ⟨Nat.le_of_ble_eq_true rfl, Nat.le_of_ble_eq_true rfl⟩ rfl (Nat.le_of_ble_eq_true rfl) (by omega) (by omega) (fun n3 K3 hn3 hS3 => ?_)
        refine ms_run (pc' := 602) (lv' := [(14, .int 0), (13, .int 1), (12, .int (nI b9)), (0, .ref sb), (1, .int tm), (2, .ref o), (3, .ref x), (4, .int sp), (5, .long bf), (7, .int he7), (8, .int oc8), (9, .int j9), (10, .int st9), (11, .int (nI k))]) (st' := []) _ (ms_deC dL_law_597 (ms_deC dL_law_599 (ms_deC dL_law_600 ms_deN))) rfl rfl ?_
        refine ms_W.sub (lv2 := [(0, _), (1, _), (2, _), (3, _), (4, _), (5, _), (7, _), (8, _), (9, _), (10, _), (11, _), (12, _), (13, _), (14, _)]) ?_ [3, 4, 5, 6, 7, 8, 9, 10, 11, 12, 13, 2, 1, 0] rfl
        refine ms_W.room (k2 := 3 * 5 + (4 + kr)) (z2 := 18 * 5 + (24 + zr)) ?_ (by omega) (by omega)
        refine w3_law (n := n3) (kr := 4 + kr) (zr := 24 + zr) ho hox hS3 hk eo hb9 hmin (D := 1) (fun y => absurd y (by decide)) ?_ 5 0 rfl n3 K3 (Nat.le_refl _) hS3
        intro n8 K8 hn8 hS8
        refine ms_run (pc' := 656) (lv' := [(0, .ref sb), (1, .int tm), (2, .ref o), (3, .ref x), (4, .int sp), (5, .long bf), (7, .int he7), (8, .int oc8), (9, .int j9), (10, .int st9), (11, .int (nI k)), (12, .int (nI b9)), (13, .int 1)]) (st' := [.int 1]) _ (ms_deC dL_law_654 ms_deN) rfl rfl ?_
        refine ms_if_eq (tgt := 719) dL_law_656 (by decide) (fun h9 => absurd h9 (by decide)) (fun _ => ?_)
        refine ms_run (pc' := 661) (lv' := [(0, .ref sb), (1, .int tm), (2, .ref o), (3, .ref x), (4, .int sp), (5, .long bf), (7, .int he7), (8, .int oc8), (9, .int j9), (10, .int st9), (11, .int (nI k)), (12, .int (nI b9)), (13, .int 1)]) (st' := [.int 1]) _ (ms_deC dL_law_659 ms_deN) rfl rfl ?_
        refine ms_if_ge (tgt := 681) dL_law_661 (by decide) (fun _ => ?_) (fun h9 => absurd h9 (by decide))
        refine ms_run (pc' := 683) (lv' := [(0, .ref sb), (1, .int tm), (2, .ref o), (3, .ref x), (4, .int sp), (5, .long bf), (7, .int he7), (8, .int oc8), (9, .int j9), (10, .int st9), (11, .int (nI k)), (12, .int (nI b9)), (13, .int 1)]) (st' := [.int 1]) _ (ms_deC dL_law_681 ms_deN) rfl rfl ?_
        refine ms_if_le (tgt := 703) dL_law_683 (by decide) (fun h9 => absurd h9 (by decide)) (fun _ => ?_)
        refine ms_run (pc' := 690) (lv' := [(0, .ref sb), (1, .int tm), (2, .ref o), (3, .ref x), (4, .int sp), (5, .long bf), (7, .int he7), (8, .int oc8), (9, .int j9), (10, .int st9), (11, .int (nI k)), (12, .int (nI b9)), (13, .int 1)]) (st' := [.int 0, .int (nI k), .ref x]) _ (ms_deC dL_law_686 (ms_deC dL_law_687 (ms_deC dL_law_689 ms_deN))) rfl rfl ?_
        refine lw_ask (As := [.int (nI k), .int 0]) (v2 := .int (nI own)) (kr1 := 3 + kr) (zr1 := 18 + zr) dL_law_690 ho hox hS8 (c_X5_way ho hS8.1 hc (nI k) 0) (th_onw_n hc hk eo (by decide)) (congrArg Value.int (by rw [nI_clamp (by omega)]; exact (if_neg (by rw [hsd, eD]; decide)).trans hpo)) cv_L_81 rfl ⟨Nat.le_of_ble_eq_true rfl, Nat.le_of_ble_eq_true rfl⟩ rfl (Nat.le_of_ble_eq_true rfl) (by omega) (by omega) (fun n4 K4 hn4 hS4 => ?_)
        refine ms_run (pc' := 697) (lv' := [(0, .ref sb), (1, .int tm), (2, .ref o), (3, .ref x), (4, .int sp), (5, .long bf), (7, .int he7), (8, .int oc8), (9, .int j9), (10, .int st9), (11, .int (nI k)), (12, .int (nI b9)), (13, .int 1)]) (st' := [.int 3, .int (nI k), .ref x, .int (nI own)]) _ (ms_deC dL_law_693 (ms_deC dL_law_694 (ms_deC dL_law_696 ms_deN))) rfl rfl ?_
        refine lw_ask (As := [.int (nI k), .int 3]) (v2 := .int (nI own)) (kr1 := 2 + kr) (zr1 := 12 + zr) dL_law_697 ho hox hS4 (c_X5_ofWalker ho hS4.1 hc (nI k) 3) (th_ofw_n hc hk (by decide)) (congrArg Value.int (by rw [nI_clamp (by omega)]; exact hpo)) cv_L_46 rfl ⟨Nat.le_of_ble_eq_true rfl, Nat.le_of_ble_eq_true rfl⟩ rfl (Nat.le_of_ble_eq_true rfl) (by omega) (by omega) (fun n5 K5 hn5 hS5 => ?_)
        refine ms_icmp_ne (tgt := 719) dL_law_700 (by decide) (fun h_700 => ?_) (fun h_700 => ?_)
        · skip
          exact absurd rfl h_700
        · skip
          refine ms_run (pc' := 707) (lv' := [(0, .ref sb), (1, .int tm), (2, .ref o), (3, .ref x), (4, .int sp), (5, .long bf), (7, .int he7), (8, .int oc8), (9, .int j9), (10, .int st9), (11, .int (nI k)), (12, .int (nI b9)), (13, .int 1)]) (st' := [.int 1, .int (nI k), .ref x]) _ (ms_deC dL_law_703 (ms_deC dL_law_704 (ms_deC dL_law_706 ms_deN))) rfl rfl ?_
          refine lw_ask (As := [.int (nI k), .int 1]) (v2 := .int 1) (kr1 := 1 + kr) (zr1 := 6 + zr) dL_law_707 ho hox hS5 (c_X5_outIn ho hS5.1 hc hV.2.1 (nI k) 1) (th_ahw_n hc hk) (congrArg Value.int (by rw [nI_clamp (by omega)]; exact (fst1_f (r := 1) (decide_eq_false eo)).trans (fst1_t (decide_eq_true hout)))) cv_L_72 rfl ⟨Nat.le_of_ble_eq_true rfl, Nat.le_of_ble_eq_true rfl⟩ rfl (Nat.le_of_ble_eq_true rfl) (by omega) (by omega) (fun n6 K6 hn6 hS6 => ?_)
          refine ms_if_le (tgt := 721) dL_law_710 (by decide) (fun h9 => absurd h9 (by decide)) (fun _ => ?_)
          refine ms_run (pc' := 716) (lv' := [(0, .ref sb), (1, .int tm), (2, .ref o), (3, .ref x), (4, .int sp), (5, .long bf), (7, .int he7), (8, .int oc8), (9, .int j9), (10, .int st9), (11, .int (nI k)), (12, .int (nI b9)), (13, .int 1)]) (st' := [.int 1, .int 1]) _ (ms_deC dL_law_713 (ms_deC dL_law_715 ms_deN)) rfl rfl ?_
          refine ms_icmp_eq (tgt := 721) dL_law_716 (by decide) (fun _ => ?_) (fun h9 => absurd h9 (by decide))
          exact ms_W.room (k2 := kr) (z2 := zr) (by refine ms_W.sub (lv2 := [(0, _), (1, _), (2, _), (3, _), (4, _), (5, _), (7, _), (8, _), (9, _), (10, _), (11, _)]) ?_ [0, 1, 2, 3, 4, 5, 6, 7, 8, 9, 10] rfl; exact kk n6 K6 (by omega) hS6) (by omega) (by omega)
      · skip
        exact absurd (nI_pos' (by omega)) h_545
    · skip
      rcases dX_val (g := g9) (nr := nr) (wl := wl) (mk := mk) h9 own with eD | ⟨v9, hv9, eD⟩
      · skip
        have hall : ∀ s, s ≤ 4 → cr_cost (nI (W * H)) nr ds X.2.2.1 (hdX cnt dr) X.1 (X.1 k) (nI s) = 10000 := fun s hs => far_no hL hW hH hds hpo ho9 hwo hg9 eg eD hs
        refine ms_run (pc' := 542) (lv' := [(0, .ref sb), (1, .int tm), (2, .ref o), (3, .ref x), (4, .int sp), (5, .long bf), (7, .int he7), (8, .int oc8), (9, .int j9), (10, .int st9), (11, .int (nI k))]) (st' := [.int 3, .int (nI k), .ref x]) _ (ms_deC dL_law_538 (ms_deC dL_law_539 (ms_deC dL_law_541 ms_deN))) rfl rfl ?_
        refine lw_ask (As := [.int (nI k), .int 3]) (v2 := .int (nI own)) (kr1 := 21 + kr) (zr1 := 126 + zr) dL_law_542 ho hox hS (c_X5_ofWalker ho hS.1 hc (nI k) 3) (th_ofw_n hc hk (by decide)) (congrArg Value.int (by rw [nI_clamp (by omega)]; exact hpo)) cv_L_46 rfl ⟨Nat.le_of_ble_eq_true rfl, Nat.le_of_ble_eq_true rfl⟩ rfl (Nat.le_of_ble_eq_true rfl) (by omega) (by omega) (fun n1 K1 hn1 hS1 => ?_)
        refine ms_if_ge (tgt := 581) dL_law_545 (by decide) (fun h_545 => ?_) (fun h_545 => ?_)
        · skip
          refine ms_run (pc' := 584) (lv' := [(0, .ref sb), (1, .int tm), (2, .ref o), (3, .ref x), (4, .int sp), (5, .long bf), (7, .int he7), (8, .int oc8), (9, .int j9), (10, .int st9), (11, .int (nI k))]) (st' := [.int (nI k), .ref x]) _ (ms_deC dL_law_581 (ms_deC dL_law_582 ms_deN)) rfl rfl ?_
          refine lw_ask (As := [.int (nI k)]) (v2 := .int (nI b9)) (kr1 := 20 + kr) (zr1 := 120 + zr) dL_law_584 ho hox hS1 (c_X5_wants ho hS1.1 hc (nI k)) (th_wan_n hc hk eo) (congrArg Value.int (by rw [nI_clamp (by omega)]; exact eb)) cv_L_75 rfl ⟨Nat.le_of_ble_eq_true rfl, Nat.le_of_ble_eq_true rfl⟩ rfl (Nat.le_of_ble_eq_true rfl) (by omega) (by omega) (fun n2 K2 hn2 hS2 => ?_)
          refine ms_run (pc' := 594) (lv' := [(12, .int (nI b9)), (0, .ref sb), (1, .int tm), (2, .ref o), (3, .ref x), (4, .int sp), (5, .long bf), (7, .int he7), (8, .int oc8), (9, .int j9), (10, .int st9), (11, .int (nI k))]) (st' := [.int 7, .int (nI k), .ref x]) _ (ms_deC dL_law_587 (ms_deC dL_law_589 (ms_deC dL_law_590 (ms_deC dL_law_592 ms_deN)))) rfl rfl ?_
          refine lw_ask (As := [.int (nI k), .int 7]) (v2 := .int (-1)) (kr1 := 19 + kr) (zr1 := 114 + zr) dL_law_594 ho hox hS2 (c_X5_ofWalker ho hS2.1 hc (nI k) 7) (th_ofw_n hc hk (by decide)) (congrArg Value.int (by rw [nI_clamp (by omega)]; exact ((if_neg eo).trans (hsd.trans eD)))) cv_L_46 rfl ⟨Nat.le_of_ble_eq_true rfl, Nat.le_of_ble_eq_true rfl⟩ rfl (Nat.le_of_ble_eq_true rfl) (by omega) (by omega) (fun n3 K3 hn3 hS3 => ?_)
          refine ms_run (pc' := 602) (lv' := [(14, .int 0), (13, .int (-1)), (12, .int (nI b9)), (0, .ref sb), (1, .int tm), (2, .ref o), (3, .ref x), (4, .int sp), (5, .long bf), (7, .int he7), (8, .int oc8), (9, .int j9), (10, .int st9), (11, .int (nI k))]) (st' := []) _ (ms_deC dL_law_597 (ms_deC dL_law_599 (ms_deC dL_law_600 ms_deN))) rfl rfl ?_
          refine ms_W.sub (lv2 := [(0, _), (1, _), (2, _), (3, _), (4, _), (5, _), (7, _), (8, _), (9, _), (10, _), (11, _), (12, _), (13, _), (14, _)]) ?_ [3, 4, 5, 6, 7, 8, 9, 10, 11, 12, 13, 2, 1, 0] rfl
          refine ms_W.room (k2 := 3 * 5 + (4 + kr)) (z2 := 18 * 5 + (24 + zr)) ?_ (by omega) (by omega)
          refine w3_law (n := n3) (kr := 4 + kr) (zr := 24 + zr) ho hox hS3 hk eo hb9 hmin (D := (-1)) (fun _ => hall) ?_ 5 0 rfl n3 K3 (Nat.le_refl _) hS3
          intro n8 K8 hn8 hS8
          refine ms_run (pc' := 656) (lv' := [(0, .ref sb), (1, .int tm), (2, .ref o), (3, .ref x), (4, .int sp), (5, .long bf), (7, .int he7), (8, .int oc8), (9, .int j9), (10, .int st9), (11, .int (nI k)), (12, .int (nI b9)), (13, .int (-1))]) (st' := [.int (-1)]) _ (ms_deC dL_law_654 ms_deN) rfl rfl ?_
          refine ms_if_eq (tgt := 719) dL_law_656 (by decide) (fun h9 => absurd h9 (by decide)) (fun _ => ?_)
          refine ms_run (pc' := 661) (lv' := [(0, .ref sb), (1, .int tm), (2, .ref o), (3, .ref x), (4, .int sp), (5, .long bf), (7, .int he7), (8, .int oc8), (9, .int j9), (10, .int st9), (11, .int (nI k)), (12, .int (nI b9)), (13, .int (-1))]) (st' := [.int (-1)]) _ (ms_deC dL_law_659 ms_deN) rfl rfl ?_
          refine ms_if_ge (tgt := 681) dL_law_661 (by decide) (fun h9 => absurd h9 (by decide)) (fun _ => ?_)
          refine ms_run (pc' := 667) (lv' := [(0, .ref sb), (1, .int tm), (2, .ref o), (3, .ref x), (4, .int sp), (5, .long bf), (7, .int he7), (8, .int oc8), (9, .int j9), (10, .int st9), (11, .int (nI k)), (12, .int (nI b9)), (13, .int (-1))]) (st' := [.int 4, .int (nI b9)]) _ (ms_deC dL_law_664 (ms_deC dL_law_666 ms_deN)) rfl rfl ?_
          refine ms_icmp_ne (tgt := 719) dL_law_667 (by decide) (fun h_667 => ?_) (fun h_667 => ?_)
          · skip
            exact absurd (by rw [hb4 hall]; rfl) h_667
          · skip
            refine ms_run (pc' := 674) (lv' := [(0, .ref sb), (1, .int tm), (2, .ref o), (3, .ref x), (4, .int sp), (5, .long bf), (7, .int he7), (8, .int oc8), (9, .int j9), (10, .int st9), (11, .int (nI k)), (12, .int (nI b9)), (13, .int (-1))]) (st' := [.int 0, .int (nI k), .ref x]) _ (ms_deC dL_law_670 (ms_deC dL_law_671 (ms_deC dL_law_673 ms_deN))) rfl rfl ?_
            refine lw_ask (As := [.int (nI k), .int 0]) (v2 := .int (-1)) (kr1 := 3 + kr) (zr1 := 18 + zr) dL_law_674 ho hox hS8 (c_X5_way ho hS8.1 hc (nI k) 0) (th_onw_n hc hk eo (by decide)) (congrArg Value.int (by rw [nI_clamp (by omega)]; exact if_pos (by rw [hsd, eD]; decide))) cv_L_81 rfl ⟨Nat.le_of_ble_eq_true rfl, Nat.le_of_ble_eq_true rfl⟩ rfl (Nat.le_of_ble_eq_true rfl) (by omega) (by omega) (fun n4 K4 hn4 hS4 => ?_)
            refine ms_run (pc' := 678) (lv' := [(0, .ref sb), (1, .int tm), (2, .ref o), (3, .ref x), (4, .int sp), (5, .long bf), (7, .int he7), (8, .int oc8), (9, .int j9), (10, .int st9), (11, .int (nI k)), (12, .int (nI b9)), (13, .int (-1))]) (st' := [.int (-1), .int (-1)]) _ (ms_deC dL_law_677 ms_deN) rfl rfl ?_
            refine ms_icmp_ne (tgt := 719) dL_law_678 (by decide) (fun h9 => absurd h9 (by decide)) (fun _ => ?_)
            refine ms_run (pc' := 683) (lv' := [(0, .ref sb), (1, .int tm), (2, .ref o), (3, .ref x), (4, .int sp), (5, .long bf), (7, .int he7), (8, .int oc8), (9, .int j9), (10, .int st9), (11, .int (nI k)), (12, .int (nI b9)), (13, .int (-1))]) (st' := [.int (-1)]) _ (ms_deC dL_law_681 ms_deN) rfl rfl ?_
            refine ms_if_le (tgt := 703) dL_law_683 (by decide) (fun _ => ?_) (fun h9 => absurd h9 (by decide))
            refine ms_run (pc' := 707) (lv' := [(0, .ref sb), (1, .int tm), (2, .ref o), (3, .ref x), (4, .int sp), (5, .long bf), (7, .int he7), (8, .int oc8), (9, .int j9), (10, .int st9), (11, .int (nI k)), (12, .int (nI b9)), (13, .int (-1))]) (st' := [.int 1, .int (nI k), .ref x]) _ (ms_deC dL_law_703 (ms_deC dL_law_704 (ms_deC dL_law_706 ms_deN))) rfl rfl ?_
            refine lw_ask (As := [.int (nI k), .int 1]) (v2 := .int (-1)) (kr1 := 2 + kr) (zr1 := 12 + zr) dL_law_707 ho hox hS4 (c_X5_outIn ho hS4.1 hc hV.2.1 (nI k) 1) (th_ahw_n hc hk) (congrArg Value.int (by rw [nI_clamp (by omega)]; exact (fst1_f (r := 1) (decide_eq_false eo)).trans (fst1_f (r := 0) (decide_eq_false hout)))) cv_L_72 rfl ⟨Nat.le_of_ble_eq_true rfl, Nat.le_of_ble_eq_true rfl⟩ rfl (Nat.le_of_ble_eq_true rfl) (by omega) (by omega) (fun n5 K5 hn5 hS5 => ?_)
            refine ms_if_le (tgt := 721) dL_law_710 (by decide) (fun _ => ?_) (fun h9 => absurd h9 (by decide))
            exact ms_W.room (k2 := kr) (z2 := zr) (by refine ms_W.sub (lv2 := [(0, _), (1, _), (2, _), (3, _), (4, _), (5, _), (7, _), (8, _), (9, _), (10, _), (11, _)]) ?_ [0, 1, 2, 3, 4, 5, 6, 7, 8, 9, 10] rfl; exact kk n5 K5 (by omega) hS5) (by omega) (by omega)
        · skip
          exact absurd (nI_pos' (by omega)) h_545
      · skip
        have hv0 : ¬ v9 = 0 := fun y => hD0 (by rw [eD, y]; rfl)
        refine ms_run (pc' := 542) (lv' := [(0, .ref sb), (1, .int tm), (2, .ref o), (3, .ref x), (4, .int sp), (5, .long bf), (7, .int he7), (8, .int oc8), (9, .int j9), (10, .int st9), (11, .int (nI k))]) (st' := [.int 3, .int (nI k), .ref x]) _ (ms_deC dL_law_538 (ms_deC dL_law_539 (ms_deC dL_law_541 ms_deN))) rfl rfl ?_
        refine lw_ask (As := [.int (nI k), .int 3]) (v2 := .int (nI own)) (kr1 := 21 + kr) (zr1 := 126 + zr) dL_law_542 ho hox hS (c_X5_ofWalker ho hS.1 hc (nI k) 3) (th_ofw_n hc hk (by decide)) (congrArg Value.int (by rw [nI_clamp (by omega)]; exact hpo)) cv_L_46 rfl ⟨Nat.le_of_ble_eq_true rfl, Nat.le_of_ble_eq_true rfl⟩ rfl (Nat.le_of_ble_eq_true rfl) (by omega) (by omega) (fun n1 K1 hn1 hS1 => ?_)
        refine ms_if_ge (tgt := 581) dL_law_545 (by decide) (fun h_545 => ?_) (fun h_545 => ?_)
        · skip
          refine ms_run (pc' := 584) (lv' := [(0, .ref sb), (1, .int tm), (2, .ref o), (3, .ref x), (4, .int sp), (5, .long bf), (7, .int he7), (8, .int oc8), (9, .int j9), (10, .int st9), (11, .int (nI k))]) (st' := [.int (nI k), .ref x]) _ (ms_deC dL_law_581 (ms_deC dL_law_582 ms_deN)) rfl rfl ?_
          refine lw_ask (As := [.int (nI k)]) (v2 := .int (nI b9)) (kr1 := 20 + kr) (zr1 := 120 + zr) dL_law_584 ho hox hS1 (c_X5_wants ho hS1.1 hc (nI k)) (th_wan_n hc hk eo) (congrArg Value.int (by rw [nI_clamp (by omega)]; exact eb)) cv_L_75 rfl ⟨Nat.le_of_ble_eq_true rfl, Nat.le_of_ble_eq_true rfl⟩ rfl (Nat.le_of_ble_eq_true rfl) (by omega) (by omega) (fun n2 K2 hn2 hS2 => ?_)
          refine ms_run (pc' := 594) (lv' := [(12, .int (nI b9)), (0, .ref sb), (1, .int tm), (2, .ref o), (3, .ref x), (4, .int sp), (5, .long bf), (7, .int he7), (8, .int oc8), (9, .int j9), (10, .int st9), (11, .int (nI k))]) (st' := [.int 7, .int (nI k), .ref x]) _ (ms_deC dL_law_587 (ms_deC dL_law_589 (ms_deC dL_law_590 (ms_deC dL_law_592 ms_deN)))) rfl rfl ?_
          refine lw_ask (As := [.int (nI k), .int 7]) (v2 := .int (nI v9)) (kr1 := 19 + kr) (zr1 := 114 + zr) dL_law_594 ho hox hS2 (c_X5_ofWalker ho hS2.1 hc (nI k) 7) (th_ofw_n hc hk (by decide)) (congrArg Value.int (by rw [nI_clamp (by omega)]; exact ((if_neg eo).trans (hsd.trans eD)))) cv_L_46 rfl ⟨Nat.le_of_ble_eq_true rfl, Nat.le_of_ble_eq_true rfl⟩ rfl (Nat.le_of_ble_eq_true rfl) (by omega) (by omega) (fun n3 K3 hn3 hS3 => ?_)
          refine ms_run (pc' := 602) (lv' := [(14, .int 0), (13, .int (nI v9)), (12, .int (nI b9)), (0, .ref sb), (1, .int tm), (2, .ref o), (3, .ref x), (4, .int sp), (5, .long bf), (7, .int he7), (8, .int oc8), (9, .int j9), (10, .int st9), (11, .int (nI k))]) (st' := []) _ (ms_deC dL_law_597 (ms_deC dL_law_599 (ms_deC dL_law_600 ms_deN))) rfl rfl ?_
          refine ms_W.sub (lv2 := [(0, _), (1, _), (2, _), (3, _), (4, _), (5, _), (7, _), (8, _), (9, _), (10, _), (11, _), (12, _), (13, _), (14, _)]) ?_ [3, 4, 5, 6, 7, 8, 9, 10, 11, 12, 13, 2, 1, 0] rfl
          refine ms_W.room (k2 := 3 * 5 + (4 + kr)) (z2 := 18 * 5 + (24 + zr)) ?_ (by omega) (by omega)
          refine w3_law (n := n3) (kr := 4 + kr) (zr := 24 + zr) ho hox hS3 hk eo hb9 hmin (D := (nI v9)) (fun y => absurd y (nI_pos (by omega))) ?_ 5 0 rfl n3 K3 (Nat.le_refl _) hS3
          intro n8 K8 hn8 hS8
          refine ms_run (pc' := 656) (lv' := [(0, .ref sb), (1, .int tm), (2, .ref o), (3, .ref x), (4, .int sp), (5, .long bf), (7, .int he7), (8, .int oc8), (9, .int j9), (10, .int st9), (11, .int (nI k)), (12, .int (nI b9)), (13, .int (nI v9))]) (st' := [.int (nI v9)]) _ (ms_deC dL_law_654 ms_deN) rfl rfl ?_
          refine ms_if_eq (tgt := 719) dL_law_656 (by decide) (fun h_656 => ?_) (fun h_656 => ?_)
          · skip
            exact absurd ((nI_eq (b := 0) (by omega) (by omega)).mp h_656) hv0
          · skip
            refine ms_run (pc' := 661) (lv' := [(0, .ref sb), (1, .int tm), (2, .ref o), (3, .ref x), (4, .int sp), (5, .long bf), (7, .int he7), (8, .int oc8), (9, .int j9), (10, .int st9), (11, .int (nI k)), (12, .int (nI b9)), (13, .int (nI v9))]) (st' := [.int (nI v9)]) _ (ms_deC dL_law_659 ms_deN) rfl rfl ?_
            refine ms_if_ge (tgt := 681) dL_law_661 (by decide) (fun h_661 => ?_) (fun h_661 => ?_)
            · skip
              refine ms_run (pc' := 683) (lv' := [(0, .ref sb), (1, .int tm), (2, .ref o), (3, .ref x), (4, .int sp), (5, .long bf), (7, .int he7), (8, .int oc8), (9, .int j9), (10, .int st9), (11, .int (nI k)), (12, .int (nI b9)), (13, .int (nI v9))]) (st' := [.int (nI v9)]) _ (ms_deC dL_law_681 ms_deN) rfl rfl ?_
              refine ms_if_le (tgt := 703) dL_law_683 (by decide) (fun h_683 => ?_) (fun h_683 => ?_)
              · skip
                exact absurd ((nI_leI (b := 0) (by omega) (by omega)).mp h_683) (by omega)
              · skip
                refine ms_run (pc' := 690) (lv' := [(0, .ref sb), (1, .int tm), (2, .ref o), (3, .ref x), (4, .int sp), (5, .long bf), (7, .int he7), (8, .int oc8), (9, .int j9), (10, .int st9), (11, .int (nI k)), (12, .int (nI b9)), (13, .int (nI v9))]) (st' := [.int 0, .int (nI k), .ref x]) _ (ms_deC dL_law_686 (ms_deC dL_law_687 (ms_deC dL_law_689 ms_deN))) rfl rfl ?_
                refine lw_ask (As := [.int (nI k), .int 0]) (v2 := .int (nI own)) (kr1 := 3 + kr) (zr1 := 18 + zr) dL_law_690 ho hox hS8 (c_X5_way ho hS8.1 hc (nI k) 0) (th_onw_n hc hk eo (by decide)) (congrArg Value.int (by rw [nI_clamp (by omega)]; exact (if_neg (by rw [hsd, eD]; exact nI_pos (by omega))).trans hpo)) cv_L_81 rfl ⟨Nat.le_of_ble_eq_true rfl, Nat.le_of_ble_eq_true rfl⟩ rfl (Nat.le_of_ble_eq_true rfl) (by omega) (by omega) (fun n4 K4 hn4 hS4 => ?_)
                refine ms_run (pc' := 697) (lv' := [(0, .ref sb), (1, .int tm), (2, .ref o), (3, .ref x), (4, .int sp), (5, .long bf), (7, .int he7), (8, .int oc8), (9, .int j9), (10, .int st9), (11, .int (nI k)), (12, .int (nI b9)), (13, .int (nI v9))]) (st' := [.int 3, .int (nI k), .ref x, .int (nI own)]) _ (ms_deC dL_law_693 (ms_deC dL_law_694 (ms_deC dL_law_696 ms_deN))) rfl rfl ?_
                refine lw_ask (As := [.int (nI k), .int 3]) (v2 := .int (nI own)) (kr1 := 2 + kr) (zr1 := 12 + zr) dL_law_697 ho hox hS4 (c_X5_ofWalker ho hS4.1 hc (nI k) 3) (th_ofw_n hc hk (by decide)) (congrArg Value.int (by rw [nI_clamp (by omega)]; exact hpo)) cv_L_46 rfl ⟨Nat.le_of_ble_eq_true rfl, Nat.le_of_ble_eq_true rfl⟩ rfl (Nat.le_of_ble_eq_true rfl) (by omega) (by omega) (fun n5 K5 hn5 hS5 => ?_)
                refine ms_icmp_ne (tgt := 719) dL_law_700 (by decide) (fun h_700 => ?_) (fun h_700 => ?_)
                · skip
                  exact absurd rfl h_700
                · skip
                  refine ms_run (pc' := 707) (lv' := [(0, .ref sb), (1, .int tm), (2, .ref o), (3, .ref x), (4, .int sp), (5, .long bf), (7, .int he7), (8, .int oc8), (9, .int j9), (10, .int st9), (11, .int (nI k)), (12, .int (nI b9)), (13, .int (nI v9))]) (st' := [.int 1, .int (nI k), .ref x]) _ (ms_deC dL_law_703 (ms_deC dL_law_704 (ms_deC dL_law_706 ms_deN))) rfl rfl ?_
                  refine lw_ask (As := [.int (nI k), .int 1]) (v2 := .int (-1)) (kr1 := 1 + kr) (zr1 := 6 + zr) dL_law_707 ho hox hS5 (c_X5_outIn ho hS5.1 hc hV.2.1 (nI k) 1) (th_ahw_n hc hk) (congrArg Value.int (by rw [nI_clamp (by omega)]; exact (fst1_f (r := 1) (decide_eq_false eo)).trans (fst1_f (r := 0) (decide_eq_false hout)))) cv_L_72 rfl ⟨Nat.le_of_ble_eq_true rfl, Nat.le_of_ble_eq_true rfl⟩ rfl (Nat.le_of_ble_eq_true rfl) (by omega) (by omega) (fun n6 K6 hn6 hS6 => ?_)
                  refine ms_if_le (tgt := 721) dL_law_710 (by decide) (fun _ => ?_) (fun h9 => absurd h9 (by decide))
                  exact ms_W.room (k2 := kr) (z2 := zr) (by refine ms_W.sub (lv2 := [(0, _), (1, _), (2, _), (3, _), (4, _), (5, _), (7, _), (8, _), (9, _), (10, _), (11, _)]) ?_ [0, 1, 2, 3, 4, 5, 6, 7, 8, 9, 10] rfl; exact kk n6 K6 (by omega) hS6) (by omega) (by omega)
            · skip
              exact absurd (nI_pos' (by omega)) h_661
        · skip
          exact absurd (nI_pos' (by omega)) h_545

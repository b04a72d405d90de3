/-! the law: its steps, its times, its entry -/
theorem c_X6_new {n sb d : Nat} {G : ms_H} (hO : G n = some (.inr (6, [.null, .null, .int 0, .int 0, .int 0, .int 0, .int 0, .int 0, .null, .null]))) : ms_M m_X6_init [.ref n, .ref sb, .int (nI d)] (n + 1) G 168 6751 (fun r n1 G1 => r = .inl none ∧ ∃ (x g q c j q2 c2 fa wa : Nat) (nr : Nat → Int32), ox x g q c j q2 c2 ∧ n < x ∧ c2 + 29 ≤ n1 ∧ G1 n = some (.inr (6, [.ref x, .ref sb, .int (nI d), .int (nI 10), .int (nI 8), .int 0, .int 2, .int 3, .ref fa, .ref wa])) ∧ xs_at G1 x g q c j q2 c2 10 8 nr (fun _ => 0) (fun _ => 0) (fun _ => -1) 0 2 3 X00) :=
  (c_X6_init (o := n) (x := n + 1) (g := n + 2) (q := n + 4) (c := n + 9) (j := n + 38) (q2 := n + 42) (c2 := n + 47) (sb := sb) (d := d) rfl rfl rfl rfl rfl rfl rfl hO).mono (fun v n1 G1 h => by
    obtain ⟨h1, h2, -, h4, nr, h5⟩ := h
    have had := ad_fa (fa := n + 47 + 29) (H := 8) (i := 10)
    exact ⟨h1, n + 1, n + 2, n + 4, n + 9, n + 38, n + 42, n + 47, _, _, nr, ⟨by omega, by omega, by omega, by omega, by omega, by omega⟩, by omega, by omega, h4, h5⟩)
set_option maxHeartbeats 1000000 in
set_option maxRecDepth 20000 in
theorem l_law_s {o x g q c j q2 c2 sb L : Nat} {xs : Nat → Int32} {P : ms_P} {kr zr : Nat} {tm : Int32} (ho : ox x g q c j q2 c2) (hox : o < x) (hLb : L < 1000) (kk : ∀ (n1 : Nat) (K : ms_H), ms_W false (ms_S (sb, L, xs) m_L_law) P 989 [(0, .ref sb), (1, .int tm)] [] n1 K kr zr) : ∀ (r k : Nat), k + r = 5 → ∀ (n1 d1 t1 : Nat) (K : ms_H), d1 ≤ 300 + 19 * k → t1 ≤ 60 + 6 * k → fE o x g q c j q2 c2 sb n1 d1 t1 K → ms_W false (ms_S (sb, L, xs) m_L_law) (P) 40 [(0, .ref sb), (1, .int tm), (2, .ref o), (3, .ref x), (4, .int (nI k))] [] n1 K (2026 * r + kr) (14352 * r + zr) := by
  intro r
  induction r with
  | zero =>
    intro k hk n1 d1 t1 K hd1 ht1 hE
    have hkN : k = 5 := by omega
    refine ms_run (pc' := 43) (lv' := [(0, .ref sb), (1, .int tm), (2, .ref o), (3, .ref x), (4, .int (nI k))]) (st' := [.int 5, .int (nI k)]) _ (ms_deC dL_law_40 (ms_deC dL_law_42 ms_deN)) rfl rfl ?_
    refine ms_icmp_ge (tgt := 989) dL_law_43 (by decide) (fun h_43 => ?_) (fun h_43 => ?_)
    · skip
      refine ms_W.sub (lv2 := [(0, _), (1, _)]) ?_ [0, 1] rfl
      exact ms_W.room (k2 := kr) (z2 := zr) (kk n1 K) (by omega) (by omega)
    · skip
      exact absurd (by show nI 5 ≤ nI k; exact nI_le (b := k) (by omega) (by omega)) h_43
  | succ r ih =>
    intro k hk n1 d1 t1 K hd1 ht1 hE
    have hlt : k < 5 := by omega
    refine ms_run (pc' := 43) (lv' := [(0, .ref sb), (1, .int tm), (2, .ref o), (3, .ref x), (4, .int (nI k))]) (st' := [.int 5, .int (nI k)]) _ (ms_deC dL_law_40 (ms_deC dL_law_42 ms_deN)) rfl rfl ?_
    refine ms_icmp_ge (tgt := 989) dL_law_43 (by decide) (fun h_43 => ?_) (fun h_43 => ?_)
    · skip
      exact absurd h_43 (by show ¬ nI 5 ≤ nI k; exact nI_ge (b := 5) (by omega) (by omega))
    · skip
      refine ms_run (pc' := 47) (lv' := [(0, .ref sb), (1, .int tm), (2, .ref o), (3, .ref x), (4, .int (nI k))]) (st' := [.ref o]) _ (ms_deC dL_law_46 ms_deN) rfl rfl ?_
      obtain ⟨W, H, cnt, fa, wa, dr, pa, X, nr, wl, mk, ds, wr, fv, hS⟩ := hE
      refine ms_W.room (k2 := 265 + (265 + (1496 + (2026 * r + kr)))) (z2 := 2688 + (2688 + (8976 + (14352 * r + zr)))) ?_ (by omega) (by omega)
      refine ms_callVX (As := []) dL_law_47 (c_X6_act (n := n1) (L := L) (xs := xs) ho hox hLb (by omega) (by omega) hS) cv_L_22 hS.2.1.1 rfl ⟨Nat.le_of_ble_eq_true rfl, Nat.le_of_ble_eq_true rfl⟩ rfl (Nat.le_of_ble_eq_true rfl) (fun v9 m2 M2 hp9 => ?_) (fun E9 n9 K9 q9 hp9 => by cases hp9.1)
      obtain ⟨hr9, hm2, d2, t2, hd2, hd2b, ht2, ht2b, hE2⟩ := hp9
      cases hr9
      refine ms_if_eq (tgt := 61) dL_law_50 (by decide) (fun h9 => absurd h9 (by decide)) (fun _ => ?_)
      refine ms_run (pc' := 55) (lv' := [(0, .ref sb), (1, .int tm), (2, .ref o), (3, .ref x), (4, .int (nI k))]) (st' := [.int 3, .ref o]) _ (ms_deC dL_law_53 (ms_deC dL_law_54 ms_deN)) rfl rfl ?_
      obtain ⟨W, H, cnt, fa, wa, dr, pa, X, nr, wl, mk, ds, wr, fv, hS⟩ := hE2
      refine ms_W.room (k2 := 265 + (1496 + (2026 * r + kr))) (z2 := 2688 + (8976 + (14352 * r + zr))) ?_ (by omega) (by omega)
      refine ms_callVX (As := [.int 3]) dL_law_55 (c_X6_tick_ (n := m2) (L := L) (xs := xs) ho hox hLb (by omega) (by omega) hS) cv_L_25 hS.2.1.1 rfl ⟨Nat.le_of_ble_eq_true rfl, Nat.le_of_ble_eq_true rfl⟩ rfl (Nat.le_of_ble_eq_true rfl) (fun v9 m3 M3 hp9 => ?_) (fun E9 n9 K9 q9 hp9 => by cases hp9.1)
      obtain ⟨hr9, hm3, d3, t3, hd3, hd3b, ht3, ht3b, hE3⟩ := hp9
      cases hr9
      refine ms_if_ne (tgt := 63) dL_law_58 (by decide) (fun _ => ?_) (fun h9 => absurd h9 (by decide))
      clear hS
      obtain ⟨W, H, cnt, fa, wa, dr, pa, X, nr, wl, mk, ds, wr, fv, hS⟩ := hE3
      have hS0 := hS
      obtain ⟨-, -, -, -, -, hK⟩ := hS0
      have hK0 := hK
      obtain ⟨⟨pb1, pb2, pb3, pb4⟩, hc, hL, hfv, hht, hds, hdr, ⟨p9, hp91, hp92, hpa⟩, hwl, ⟨hcl, ht9⟩, hV, hI, hHt⟩ := hK0
      have hW : W ≤ 14 := by omega
      have hH : H ≤ 14 := by omega
      have hW0 : 0 < W := by omega
      have h9 : W * H ≤ 196 := Nat.mul_le_mul hW hH
      have h35 : W * H ≤ 7 * 5 := Nat.mul_le_mul pb2 pb4
      have hp0 : 0 < W * H := Nat.mul_pos hW0 (by omega)
      obtain ⟨hN, sN, hhN, hsN, hHS⟩ := hHt
      obtain ⟨z, M, hz, hM3, hM4, hM5, hM24, hMp⟩ := jams_all (pa := pa) hL hW hH hc hV.1 hV.2.1
      obtain ⟨bf, hbf⟩ : ∃ bf : Int64, bf = dgX (W * H) nr wl ds cnt dr X (jxX pa cnt nr X) := ⟨_, rfl⟩
      refine ms_run (pc' := 64) (lv' := [(0, .ref sb), (1, .int tm), (2, .ref o), (3, .ref x), (4, .int (nI k))]) (st' := [.ref x]) _ (ms_deC dL_law_63 ms_deN) rfl rfl ?_
      refine lw_askM (As := []) (v2 := .long bf) dL_law_64 ho hox hS (c_X5_digest ho hS.1 hc hW hH hp0) (congrArg Value.long hbf.symm) cv_L_29 rfl ⟨Nat.le_of_ble_eq_true rfl, Nat.le_of_ble_eq_true rfl⟩ rfl (Nat.le_of_ble_eq_true rfl) (fun K4 hS4 => ?_)
      refine ms_run (pc' := 78) (lv' := [(9, .int 0), (8, .int 0), (7, .int 0), (5, .long bf), (0, .ref sb), (1, .int tm), (2, .ref o), (3, .ref x), (4, .int (nI k))]) (st' := []) _ (ms_deC dL_law_67 (ms_deC dL_law_69 (ms_deC dL_law_70 (ms_deC dL_law_72 (ms_deC dL_law_73 (ms_deC dL_law_75 (ms_deC dL_law_76 ms_deN))))))) rfl rfl ?_
      refine ms_W.sub (lv2 := [(0, _), (1, _), (2, _), (3, _), (4, _), (5, _), (7, _), (8, _), (9, _)]) ?_ [4, 5, 6, 7, 8, 3, 2, 1, 0] rfl
      refine ms_W.room (k2 := 19 * (W * H) + (831 + (2026 * r + kr))) (z2 := 114 * (W * H) + (4986 + (14352 * r + zr))) ?_ (by omega) (by omega)
      refine l_law_f (kr := 831 + (2026 * r + kr)) (zr := 4986 + (14352 * r + zr)) ho hox hS4 hhN ?_ (W * H) 0 (Nat.zero_add _) m3 K4 (Nat.le_refl _) hS4
      intro n5 G5 hn5 hS5
      refine ms_run (pc' := 393) (lv' := [(11, .int 0), (10, .int 0), (9, .int 0), (0, .ref sb), (1, .int tm), (2, .ref o), (3, .ref x), (4, .int (nI k)), (5, .long bf), (7, .int (nI (sn hN (W * H)))), (8, .int (nI (ct (pO X) (W * H))))]) (st' := []) _ (ms_deC dL_law_384 (ms_deC dL_law_385 (ms_deC dL_law_387 (ms_deC dL_law_388 (ms_deC dL_law_390 (ms_deC dL_law_391 ms_deN)))))) rfl rfl ?_
      refine ms_W.sub (lv2 := [(0, _), (1, _), (2, _), (3, _), (4, _), (5, _), (7, _), (8, _), (9, _), (10, _), (11, _)]) ?_ [3, 4, 5, 6, 7, 8, 9, 10, 2, 1, 0] rfl
      refine ms_W.room (k2 := 34 * cnt + 1 + (14 + (2026 * r + kr))) (z2 := 204 * cnt + 6 + (84 + (14352 * r + zr))) ?_ (by omega) (by omega)
      refine l_law_w (kr := 14 + (2026 * r + kr)) (zr := 84 + (14352 * r + zr)) ho hox hS5 hz hM5 hM24 hsN ?_ cnt 0 (Nat.zero_add _) n5 G5 (Nat.le_refl _) hS5
      intro n6 G6 hn6 hS6
      refine ms_W.sub (lv2 := [(0, _), (1, _), (2, _), (3, _), (4, _), (5, _), (7, _), (8, _), (9, _), (10, _)]) ?_ [0, 1, 2, 3, 4, 5, 6, 7, 8, 9] rfl
      refine ms_W.room (k2 := 9 + (5 + (2026 * r + kr))) (z2 := 54 + (30 + (14352 * r + zr))) ?_ (by omega) (by omega)
      refine s_law (kr := 5 + (2026 * r + kr)) (zr := 30 + (14352 * r + zr)) ho hox hS6 hHS hsN hM3 hM4 hM5 hMp hbf ?_
      intro n7 G7 hn7 hS7
      refine b_law (kr := (2026 * r + kr)) (zr := (14352 * r + zr)) ho hox hS7 hLb (by omega) hbf ?_
      intro n8 G8 hn8 hS8
      refine ms_run (pc' := 986) (lv' := [(4, .int ((nI k) + 1)), (0, .ref sb), (1, .int tm), (2, .ref o), (3, .ref x), (5, .long bf)]) (st' := []) _ (ms_deC dL_law_983 ms_deN) rfl rfl ?_
      refine ms_goto (tgt := 40) dL_law_986 (by decide) ?_
      rw [nI_1 k]
      refine ms_W.sub (lv2 := [(0, _), (1, _), (2, _), (3, _), (4, _)]) ?_ [1, 2, 3, 4, 0] rfl
      exact ih (k + 1) (by omega) n8 _ _ G8 (by omega) (by omega) ⟨W, H, cnt, fa, wa, dr, pa, X, nr, wl, mk, ds, wr, fv, hS8⟩
set_option maxHeartbeats 1000000 in
set_option maxRecDepth 20000 in
theorem l_law_t {sb L : Nat} {xs : Nat → Int32} (hLb : L < 1000) : ∀ (r k : Nat), k + r = 3 → ∀ (n : Nat) (K : ms_H), ms_W false (ms_S (sb, L, xs) m_L_law) (fun r _ _ => r = .inl (some (.int 1))) 2 [(0, .ref sb), (1, .int (nI k))] [] n K (10379 * r) (79178 * r) := by
  intro r
  induction r with
  | zero =>
    intro k hk n K
    have hkN : k = 3 := by omega
    refine ms_run (pc' := 4) (lv' := [(0, .ref sb), (1, .int (nI k))]) (st' := [.int 3, .int (nI k)]) _ (ms_deC dL_law_2 (ms_deC dL_law_3 ms_deN)) rfl rfl ?_
    refine ms_icmp_ge (tgt := 995) dL_law_4 (by decide) (fun h_4 => ?_) (fun h_4 => ?_)
    · skip
      refine ms_run (pc' := 996) (lv' := [(0, .ref sb), (1, .int (nI k))]) (st' := [.int 1]) _ (ms_deC dL_law_995 ms_deN) rfl rfl ?_
      refine ms_reti (st := []) (ty := .boolean) dL_law_996 rfl rfl ?_
      exact rfl
    · skip
      exact absurd (by show nI 3 ≤ nI k; exact nI_le (b := k) (by omega) (by omega)) h_4
  | succ r ih =>
    intro k hk n K
    have hlt : k < 3 := by omega
    refine ms_run (pc' := 4) (lv' := [(0, .ref sb), (1, .int (nI k))]) (st' := [.int 3, .int (nI k)]) _ (ms_deC dL_law_2 (ms_deC dL_law_3 ms_deN)) rfl rfl ?_
    refine ms_icmp_ge (tgt := 995) dL_law_4 (by decide) (fun h_4 => ?_) (fun h_4 => ?_)
    · skip
      exact absurd h_4 (by show ¬ nI 3 ≤ nI k; exact nI_ge (b := 3) (by omega) (by omega))
    · skip
      refine ms_W.room (k2 := 1 + (168 + (80 + (10130 + 10379 * r)))) (z2 := 10 + (6751 + (657 + (71760 + 79178 * r)))) ?_ (by omega) (by omega)
      refine ms_new (fs := [.null, .null, .int 0, .int 0, .int 0, .int 0, .int 0, .int 0, .null, .null]) dL_law_7 nw_L_9 ?_
      refine ms_run (pc' := 19) (lv' := [(0, .ref sb), (1, .int (nI k))]) (st' := [.int ((31 * (nI k)) + 7), .ref sb, .ref n, .ref n]) _ (ms_deC dL_law_10 (ms_deC dL_law_11 (ms_deC dL_law_12 (ms_deC dL_law_14 (ms_deC dL_law_15 (ms_deC dL_law_16 (ms_deC dL_law_18 ms_deN))))))) rfl rfl ?_
      rw [show (31 : Int32) * nI k + 7 = nI (31 * k + 7) from by rw [show (31 : Int32) = nI 31 from rfl, show (7 : Int32) = nI 7 from rfl, pk_mul, nI_add]]
      refine ms_callI (As := [.ref sb, .int (nI (31 * k + 7))]) dL_law_19 (c_X6_new (ms_up_s _ _ _)) ci_L_11 rfl ⟨Nat.le_of_ble_eq_true rfl, Nat.le_of_ble_eq_true rfl⟩ rfl (Nat.le_of_ble_eq_true rfl) (fun v9 n2 K2 hp9 => ?_)
      obtain ⟨hr9, x, g, q, c, j, q2, c2, fa, wa, nr, ho, hox, hn2, hO, hX⟩ := hp9
      cases hr9
      refine ms_run (pc' := 24) (lv' := [(2, .ref n), (0, .ref sb), (1, .int (nI k))]) (st' := [.ref n]) _ (ms_deC dL_law_22 (ms_deC dL_law_23 ms_deN)) rfl rfl ?_
      refine ms_getf dL_law_24 fg_L_14 hO rfl ?_
      refine ms_run (pc' := 29) (lv' := [(3, .ref x), (2, .ref n), (0, .ref sb), (1, .int (nI k))]) (st' := [.ref n]) _ (ms_deC dL_law_27 (ms_deC dL_law_28 ms_deN)) rfl rfl ?_
      refine ms_callVX (As := []) dL_law_29 (c_X6_found (n := n2) (L := L) (xs := xs) (d := 31 * k + 7) ho hox hn2 hLb (by omega) hX hO (by decide) ⟨3, by omega, by omega, rfl⟩) cv_L_18 hO rfl ⟨Nat.le_of_ble_eq_true rfl, Nat.le_of_ble_eq_true rfl⟩ rfl (Nat.le_of_ble_eq_true rfl) (fun v9 n3 K3 hp9 => ?_) (fun E9 n9 K9 q9 hp9 => by cases hp9.1)
      obtain ⟨hr9, d1, t1, hd1, ht1, hE⟩ := hp9
      cases hr9
      refine ms_if_ne (tgt := 37) dL_law_32 (by decide) (fun _ => ?_) (fun h9 => absurd h9 (by decide))
      refine ms_run (pc' := 40) (lv' := [(4, .int 0), (3, .ref x), (2, .ref n), (0, .ref sb), (1, .int (nI k))]) (st' := []) _ (ms_deC dL_law_37 (ms_deC dL_law_38 ms_deN)) rfl rfl ?_
      refine ms_W.sub (lv2 := [(0, _), (1, _), (2, _), (3, _), (4, _)]) ?_ [3, 4, 2, 1, 0] rfl
      refine ms_W.room (k2 := 2026 * 5 + 10379 * r) (z2 := 14352 * 5 + 79178 * r) ?_ (by omega) (by omega)
      refine l_law_s (kr := 10379 * r) (zr := 79178 * r) (o := n) ho hox hLb ?_ 5 0 rfl n3 d1 t1 K3 (by omega) (by omega) hE
      intro n4 K4
      refine ms_run (pc' := 992) (lv' := [(1, .int ((nI k) + 1)), (0, .ref sb)]) (st' := []) _ (ms_deC dL_law_989 ms_deN) rfl rfl ?_
      refine ms_goto (tgt := 2) dL_law_992 (by decide) ?_
      rw [nI_1 k]
      refine ms_W.sub (lv2 := [(0, _), (1, _)]) ?_ [1, 0] rfl
      exact ih (k + 1) (by omega) n4 K4
theorem law_entry {n sb L : Nat} {xs : Nat → Int32} {G : ms_H} (hLb : L < 1000) : ms_W false (ms_S (sb, L, xs) m_L_law) (fun r _ _ => r = .inl (some (.int 1))) 0 [(0, .ref sb)] [] n G 31137 237534 := by
  refine ms_run (pc' := 2) (lv' := [(1, .int 0), (0, .ref sb)]) (st' := []) _ (ms_deC dL_law_0 (ms_deC dL_law_1 ms_deN)) rfl rfl ?_
  refine ms_W.sub (lv2 := [(0, _), (1, _)]) ?_ [1, 0] rfl
  exact l_law_t (L := L) (xs := xs) hLb 3 0 rfl n G

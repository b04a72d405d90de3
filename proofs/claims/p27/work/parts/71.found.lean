/-! Flock: found, act -/
set_option maxHeartbeats 1000000 in
set_option maxRecDepth 20000 in
theorem l3_X6_found {o x g q c j q2 c2 sb L d : Nat} {xs : Nat → Int32} (ho : ox x g q c j q2 c2) (hox : o < x) (hLb : L < 1000) (hd : d < 600) : ∀ (r k : Nat), k + r = 9 → ∀ (K : ms_H) (n1 d1 t1 : Nat), d1 ≤ d + (58 + 8 * k) → t1 ≤ 24 + 3 * k → fE o x g q c j q2 c2 sb n1 d1 t1 K → ms_W true (ms_S (sb, L, xs) m_X6_found) (fun r n1 G1 => r = .inl (some (.int 1)) ∧ ∃ d1 t1, d1 ≤ d + 140 ∧ t1 ≤ 60 ∧ fE o x g q c j q2 c2 sb n1 d1 t1 G1) 62 [(0, .ref o), (1, .int (nI k))] [] n1 K (3 * r + 0) (39 * r + 0) := by
  intro r
  induction r with
  | zero =>
    intro k hk K n1 d1 t1 hd1 ht1 hE
    have hkN : k = 9 := by omega
    refine ms_run (pc' := 65) (lv' := [(0, .ref o), (1, .int (nI k))]) (st' := [.int 9, .int (nI k)]) _ (ms_deC dX6_found_62 (ms_deC dX6_found_63 ms_deN)) rfl rfl ?_
    refine ms_icmp_ge (tgt := 83) dX6_found_65 (by decide) (fun h_65 => ?_) (fun h_65 => ?_)
    · skip
      refine ms_run (pc' := 84) (lv' := [(0, .ref o), (1, .int (nI k))]) (st' := [.int 1]) _ (ms_deC dX6_found_83 ms_deN) rfl rfl ?_
      refine ms_reti (st := []) (ty := .boolean) dX6_found_84 rfl rfl ?_
      exact ⟨rfl, d1, t1, by omega, by omega, hE⟩
    · skip
      exact absurd (by show nI 9 ≤ nI k; exact nI_le (b := k) (by omega) (by omega)) h_65
  | succ r ih =>
    intro k hk K n1 d1 t1 hd1 ht1 hE
    have hlt : k < 9 := by omega
    refine ms_run (pc' := 65) (lv' := [(0, .ref o), (1, .int (nI k))]) (st' := [.int 9, .int (nI k)]) _ (ms_deC dX6_found_62 (ms_deC dX6_found_63 ms_deN)) rfl rfl ?_
    refine ms_icmp_ge (tgt := 83) dX6_found_65 (by decide) (fun h_65 => ?_) (fun h_65 => ?_)
    · skip
      exact absurd h_65 (by show ¬ nI 9 ≤ nI k; exact nI_ge (b := 9) (by omega) (by omega))
    · skip
      refine ms_run (pc' := 69) (lv' := [(0, .ref o), (1, .int (nI k))]) (st' := [.ref o]) _ (ms_deC dX6_found_68 ms_deN) rfl rfl ?_
      obtain ⟨W, H, cnt, fa, wa, dr, pa, X, nr, wl, mk, ds, wr, fv, hS⟩ := hE
      refine ms_W.room (k2 := 3 + (3 * r + 0)) (z2 := 39 + (39 * r + 0)) ?_ (by omega) (by omega)
      refine ms_callVH (As := []) dX6_found_69 (c_X6_add (n := n1) (L := L) (xs := xs) ho hox hLb (by omega) (by omega) hS) cvh_X6_151 hS.2.1.1 rfl ⟨Nat.le_of_ble_eq_true rfl, Nat.le_of_ble_eq_true rfl⟩ rfl (Nat.le_of_ble_eq_true rfl) (fun v9 n2 K2 hp9 => ?_) (fun E9 n9 K9 hp9 => by cases hp9.1)
      obtain ⟨hr9, hn2, d2, t2, hd2, hd2b, ht2, ht2b, hE2⟩ := hp9
      cases hr9
      refine ms_if_ne (tgt := 77) dX6_found_72 (by decide) (fun _ => ?_) (fun h9 => absurd h9 (by decide))
      refine ms_run (pc' := 80) (lv' := [(1, .int ((nI k) + 1)), (0, .ref o)]) (st' := []) _ (ms_deC dX6_found_77 ms_deN) rfl rfl ?_
      refine ms_goto (tgt := 62) dX6_found_80 (by decide) ?_
      rw [nI_1 k]
      refine ms_W.sub (lv2 := [(0, _), (1, _)]) ?_ [1, 0] rfl
      exact ih (k + 1) (by omega) K2 n2 d2 t2 (by omega) (by omega) hE2
set_option maxHeartbeats 1000000 in
set_option maxRecDepth 20000 in
theorem l2_X6_found {o x g q c j q2 c2 sb L d : Nat} {xs : Nat → Int32} (ho : ox x g q c j q2 c2) (hox : o < x) (hLb : L < 1000) (hd : d < 600) : ∀ (r k : Nat), k + r = 3 → ∀ (K : ms_H) (n1 d1 t1 : Nat), d1 ≤ d + (34 + 8 * k) → t1 ≤ 15 + 3 * k → fE o x g q c j q2 c2 sb n1 d1 t1 K → ms_W true (ms_S (sb, L, xs) m_X6_found) (fun r n1 G1 => r = .inl (some (.int 1)) ∧ ∃ d1 t1, d1 ≤ d + 140 ∧ t1 ≤ 60 ∧ fE o x g q c j q2 c2 sb n1 d1 t1 G1) 40 [(0, .ref o), (1, .int (nI k))] [] n1 K (1 * r + 27) (6 * r + 351) := by
  intro r
  induction r with
  | zero =>
    intro k hk K n1 d1 t1 hd1 ht1 hE
    have hkN : k = 3 := by omega
    refine ms_run (pc' := 42) (lv' := [(0, .ref o), (1, .int (nI k))]) (st' := [.int 3, .int (nI k)]) _ (ms_deC dX6_found_40 (ms_deC dX6_found_41 ms_deN)) rfl rfl ?_
    refine ms_icmp_ge (tgt := 60) dX6_found_42 (by decide) (fun h_42 => ?_) (fun h_42 => ?_)
    · skip
      refine ms_run (pc' := 62) (lv' := [(1, .int 0), (0, .ref o)]) (st' := []) _ (ms_deC dX6_found_60 (ms_deC dX6_found_61 ms_deN)) rfl rfl ?_
      refine ms_W.sub (lv2 := [(0, _), (1, _)]) ?_ [1, 0] rfl
      exact ms_W.room (k2 := 3 * 9 + 0) (z2 := 39 * 9 + 0) (l3_X6_found (L := L) (xs := xs) (d := d) ho hox hLb hd 9 0 rfl K n1 d1 t1 (by omega) (by omega) hE) (by omega) (by omega)
    · skip
      exact absurd (by show nI 3 ≤ nI k; exact nI_le (b := k) (by omega) (by omega)) h_42
  | succ r ih =>
    intro k hk K n1 d1 t1 hd1 ht1 hE
    have hlt : k < 3 := by omega
    refine ms_run (pc' := 42) (lv' := [(0, .ref o), (1, .int (nI k))]) (st' := [.int 3, .int (nI k)]) _ (ms_deC dX6_found_40 (ms_deC dX6_found_41 ms_deN)) rfl rfl ?_
    refine ms_icmp_ge (tgt := 60) dX6_found_42 (by decide) (fun h_42 => ?_) (fun h_42 => ?_)
    · skip
      exact absurd h_42 (by show ¬ nI 3 ≤ nI k; exact nI_ge (b := 3) (by omega) (by omega))
    · skip
      refine ms_run (pc' := 46) (lv' := [(0, .ref o), (1, .int (nI k))]) (st' := [.ref o]) _ (ms_deC dX6_found_45 ms_deN) rfl rfl ?_
      obtain ⟨W, H, cnt, fa, wa, dr, pa, X, nr, wl, mk, ds, wr, fv, hS⟩ := hE
      refine ms_W.room (k2 := 1 + (1 * r + 27)) (z2 := 6 + (6 * r + 351)) ?_ (by omega) (by omega)
      refine ms_callVH (As := []) dX6_found_46 (c_X6_wall (n := n1) (L := L) (xs := xs) ho hox hLb (by omega) (by omega) hS) cvh_X6_149 hS.2.1.1 rfl ⟨Nat.le_of_ble_eq_true rfl, Nat.le_of_ble_eq_true rfl⟩ rfl (Nat.le_of_ble_eq_true rfl) (fun v9 n2 K2 hp9 => ?_) (fun E9 n9 K9 hp9 => by cases hp9.1)
      obtain ⟨hr9, hn2, d2, t2, hd2, hd2b, ht2, ht2b, hE2⟩ := hp9
      cases hr9
      refine ms_if_ne (tgt := 54) dX6_found_49 (by decide) (fun _ => ?_) (fun h9 => absurd h9 (by decide))
      refine ms_run (pc' := 57) (lv' := [(1, .int ((nI k) + 1)), (0, .ref o)]) (st' := []) _ (ms_deC dX6_found_54 ms_deN) rfl rfl ?_
      refine ms_goto (tgt := 40) dX6_found_57 (by decide) ?_
      rw [nI_1 k]
      refine ms_W.sub (lv2 := [(0, _), (1, _)]) ?_ [1, 0] rfl
      exact ih (k + 1) (by omega) K2 n2 d2 t2 (by omega) (by omega) hE2
set_option maxHeartbeats 1000000 in
set_option maxRecDepth 20000 in
theorem l1_X6_found {o x g q c j q2 c2 sb L d : Nat} {xs : Nat → Int32} (ho : ox x g q c j q2 c2) (hox : o < x) (hLb : L < 1000) (hd : d < 600) : ∀ (r k : Nat), k + r = 4 → ∀ (K : ms_H) (n1 d1 t1 : Nat), d1 ≤ d + (2 + 8 * k) → t1 ≤ 3 + 3 * k → fE o x g q c j q2 c2 sb n1 d1 t1 K → ms_W true (ms_S (sb, L, xs) m_X6_found) (fun r n1 G1 => r = .inl (some (.int 1)) ∧ ∃ d1 t1, d1 ≤ d + 140 ∧ t1 ≤ 60 ∧ fE o x g q c j q2 c2 sb n1 d1 t1 G1) 18 [(0, .ref o), (1, .int (nI k))] [] n1 K (1 * r + 30) (6 * r + 369) := by
  intro r
  induction r with
  | zero =>
    intro k hk K n1 d1 t1 hd1 ht1 hE
    have hkN : k = 4 := by omega
    refine ms_run (pc' := 20) (lv' := [(0, .ref o), (1, .int (nI k))]) (st' := [.int 4, .int (nI k)]) _ (ms_deC dX6_found_18 (ms_deC dX6_found_19 ms_deN)) rfl rfl ?_
    refine ms_icmp_ge (tgt := 38) dX6_found_20 (by decide) (fun h_20 => ?_) (fun h_20 => ?_)
    · skip
      refine ms_run (pc' := 40) (lv' := [(1, .int 0), (0, .ref o)]) (st' := []) _ (ms_deC dX6_found_38 (ms_deC dX6_found_39 ms_deN)) rfl rfl ?_
      refine ms_W.sub (lv2 := [(0, _), (1, _)]) ?_ [1, 0] rfl
      exact ms_W.room (k2 := 1 * 3 + 27) (z2 := 6 * 3 + 351) (l2_X6_found (L := L) (xs := xs) (d := d) ho hox hLb hd 3 0 rfl K n1 d1 t1 (by omega) (by omega) hE) (by omega) (by omega)
    · skip
      exact absurd (by show nI 4 ≤ nI k; exact nI_le (b := k) (by omega) (by omega)) h_20
  | succ r ih =>
    intro k hk K n1 d1 t1 hd1 ht1 hE
    have hlt : k < 4 := by omega
    refine ms_run (pc' := 20) (lv' := [(0, .ref o), (1, .int (nI k))]) (st' := [.int 4, .int (nI k)]) _ (ms_deC dX6_found_18 (ms_deC dX6_found_19 ms_deN)) rfl rfl ?_
    refine ms_icmp_ge (tgt := 38) dX6_found_20 (by decide) (fun h_20 => ?_) (fun h_20 => ?_)
    · skip
      exact absurd h_20 (by show ¬ nI 4 ≤ nI k; exact nI_ge (b := 4) (by omega) (by omega))
    · skip
      refine ms_run (pc' := 24) (lv' := [(0, .ref o), (1, .int (nI k))]) (st' := [.ref o]) _ (ms_deC dX6_found_23 ms_deN) rfl rfl ?_
      obtain ⟨W, H, cnt, fa, wa, dr, pa, X, nr, wl, mk, ds, wr, fv, hS⟩ := hE
      refine ms_W.room (k2 := 1 + (1 * r + 30)) (z2 := 6 + (6 * r + 369)) ?_ (by omega) (by omega)
      refine ms_callVH (As := []) dX6_found_24 (c_X6_mark (n := n1) (L := L) (xs := xs) ho hox hLb (by omega) (by omega) hS) cvh_X6_147 hS.2.1.1 rfl ⟨Nat.le_of_ble_eq_true rfl, Nat.le_of_ble_eq_true rfl⟩ rfl (Nat.le_of_ble_eq_true rfl) (fun v9 n2 K2 hp9 => ?_) (fun E9 n9 K9 hp9 => by cases hp9.1)
      obtain ⟨hr9, hn2, d2, t2, hd2, hd2b, ht2, ht2b, hE2⟩ := hp9
      cases hr9
      refine ms_if_ne (tgt := 32) dX6_found_27 (by decide) (fun _ => ?_) (fun h9 => absurd h9 (by decide))
      refine ms_run (pc' := 35) (lv' := [(1, .int ((nI k) + 1)), (0, .ref o)]) (st' := []) _ (ms_deC dX6_found_32 ms_deN) rfl rfl ?_
      refine ms_goto (tgt := 18) dX6_found_35 (by decide) ?_
      rw [nI_1 k]
      refine ms_W.sub (lv2 := [(0, _), (1, _)]) ?_ [1, 0] rfl
      exact ih (k + 1) (by omega) K2 n2 d2 t2 (by omega) (by omega) hE2
set_option maxHeartbeats 1000000 in
set_option maxRecDepth 20000 in
theorem c_X6_found {n o x g q c j q2 c2 sb L d W0 H0 cnt fa wa : Nat} {xs : Nat → Int32} {G : ms_H} {wv hv cl dr pa : Int32} {X : cX} {nr wl mk ds : Nat → Int32} (ho : ox x g q c j q2 c2) (hox : o < x) (hn : c2 + 29 ≤ n) (hLb : L < 1000) (hd : d < 500) (hX : xs_at G x g q c j q2 c2 W0 H0 nr wl mk ds cnt dr pa X) (hO : G o = some (.inr (6, [.ref x, .ref sb, .int (nI d), .int wv, .int hv, .int cl, .int dr, .int pa, .ref fa, .ref wa]))) (hd9 : 0 ≤ dr ∧ dr ≤ 9) (hp9 : ∃ p, 1 ≤ p ∧ p ≤ 4 ∧ pa = nI p) : ms_X (ms_S (sb, L, xs) m_X6_found) [.ref o] n G 80 657 (fun r n1 G1 => r = .inl (some (.int 1)) ∧ ∃ d1 t1, d1 ≤ d + 8 + 140 ∧ t1 ≤ 60 ∧ fE o x g q c j q2 c2 sb n1 d1 t1 G1) := by
  refine ms_X.of (show plainName m_X6_found.1.cls = true from by decide) (Nat.le_of_ble_eq_true rfl) ?_
  show ms_W true (ms_S (sb, L, xs) m_X6_found) _ 0 [(0, .ref o)] [] n G 80 657
  refine ms_run (pc' := 1) (lv' := [(0, .ref o)]) (st' := [.ref o]) _ (ms_deC dX6_found_0 ms_deN) rfl rfl ?_
  refine ms_W.room (k2 := 45 + 35) (z2 := 258 + 399) ?_ (by omega) (by omega)
  refine ms_callVX (As := []) dX6_found_1 (c_X6_reset (n := n) (L := L) (xs := xs) ho hox hn hLb (by omega) hX hO hd9 hp9) cv_X6_142 hO rfl ⟨Nat.le_of_ble_eq_true rfl, Nat.le_of_ble_eq_true rfl⟩ rfl (Nat.le_of_ble_eq_true rfl) (fun v9 n1 K1 hp8 => ?_) (fun E9 n9 K9 q9 hp8 => by cases hp8.1)
  obtain ⟨hr9, hn1, hE1⟩ := hp8
  cases hr9
  refine ms_if_eq (tgt := 14) dX6_found_4 (by decide) (fun h9 => absurd h9 (by decide)) (fun _ => ?_)
  refine ms_run (pc' := 8) (lv' := [(0, .ref o)]) (st' := [.ref o]) _ (ms_deC dX6_found_7 ms_deN) rfl rfl ?_
  obtain ⟨W, H, cnt, fa, wa, dr, pa, X, nr, wl, mk, ds, wr, fv, hS⟩ := hE1
  refine ms_W.room (k2 := 1 + 34) (z2 := 6 + 393) ?_ (by omega) (by omega)
  refine ms_callVX (As := []) dX6_found_8 (c_X6_set (n := n1) (L := L) (xs := xs) ho hox hLb (by omega) (by omega) hS) cv_X6_145 hS.2.1.1 rfl ⟨Nat.le_of_ble_eq_true rfl, Nat.le_of_ble_eq_true rfl⟩ rfl (Nat.le_of_ble_eq_true rfl) (fun v9 n2 K2 hp9 => ?_) (fun E9 n9 K9 q9 hp9 => by cases hp9.1)
  obtain ⟨hr9, hn2, d2, t2, hd2, hd2b, ht2, ht2b, hE2⟩ := hp9
  cases hr9
  refine ms_if_ne (tgt := 16) dX6_found_11 (by decide) (fun _ => ?_) (fun h9 => absurd h9 (by decide))
  refine ms_run (pc' := 18) (lv' := [(1, .int 0), (0, .ref o)]) (st' := []) _ (ms_deC dX6_found_16 (ms_deC dX6_found_17 ms_deN)) rfl rfl ?_
  refine ms_W.sub (lv2 := [(0, _), (1, _)]) ?_ [1, 0] rfl
  exact ms_W.room (k2 := 1 * 4 + 30) (z2 := 6 * 4 + 369) (ms_W.heq rfl (l1_X6_found (L := L) (xs := xs) (d := d + 8) ho hox hLb (by omega) 4 0 rfl K2 n2 d2 t2 (by omega) (by omega) hE2)) (by omega) (by omega)
set_option maxHeartbeats 1000000 in
set_option maxRecDepth 20000 in
theorem c_X6_act {n o x g q c j q2 c2 sb L d t W H cnt fa wa : Nat} {xs : Nat → Int32} {G : ms_H} {dr pa : Int32} {X : cX} {nr wl mk ds : Nat → Int32} {wr : Nat → Nat} {fv : Nat → Nat → Int32} (ho : ox x g q c j q2 c2) (hox : o < x) (hLb : L < 1000) (hd : d < 700) (ht : t < 700) (hS : fS o x g q c j q2 c2 sb n d t G W H cnt fa wa dr pa X nr wl mk ds wr fv) : ms_X (ms_S (sb, L, xs) m_X6_act) [.ref o] n G 265 2688 (fun r n1 G1 => r = .inl (some (.int 1)) ∧ n ≤ n1 ∧ ∃ d1 t1, d ≤ d1 ∧ d1 ≤ d + 9 ∧ t ≤ t1 ∧ t1 ≤ t + 3 ∧ fE o x g q c j q2 c2 sb n1 d1 t1 G1) := by
  refine ms_X.of (show plainName m_X6_act.1.cls = true from by decide) (Nat.le_of_ble_eq_true rfl) ?_
  show ms_W true (ms_S (sb, L, xs) m_X6_act) _ 0 [(0, .ref o)] [] n G 265 2688
  obtain ⟨hX, hM, fl, ly, hcf, hK⟩ := hS
  have hK0 := hK
  obtain ⟨⟨b1, b2, b3, b4⟩, hc, hL, hfv, hht, hds, hdr, ⟨p9, hp91, hp92, hpa⟩, hwl, ⟨hcl, ht9⟩, hV, hI, hHt⟩ := hK0
  have hW : W ≤ 14 := by omega
  have hH : H ≤ 14 := by omega
  have hW0 : 0 < W := by omega
  have h9 : W * H ≤ 196 := Nat.mul_le_mul hW hH
  have fl0 := fl
  have ly0 := ly
  obtain ⟨l1, l2, l3, l4⟩ := fl0
  obtain ⟨y1, y2, y3⟩ := ly0
  have had := ad_fa (fa := fa) (H := H) (i := W)
  refine ms_run (pc' := 3) (lv' := [(0, .ref o)]) (st' := [.int 12, .ref o]) _ (ms_deC dX6_act_0 (ms_deC dX6_act_1 ms_deN)) rfl rfl ?_
  refine ms_callV0 (As := [.int 12]) dX6_act_3 (c_X6_draw (n := n) (L := L) (xs := xs) (d := d) (N := 12) hM.O (by omega) hLb (by omega) (by omega)) cv_X6_56 hM.O rfl ⟨Nat.le_of_ble_eq_true rfl, Nat.le_of_ble_eq_true rfl⟩ rfl (Nat.le_of_ble_eq_true rfl) (fun v9 n9 K1 hp9 => ?_)
  obtain ⟨v1, hv1, hr9, hnn9, eK1⟩ := hp9
  cases hr9
  rw [hnn9]
  have hM1 : fk_at K1 o x sb (nI (d + 1)) W H X.2.2.2 dr pa fa wa cnt wr fv X.1 := by rw [eK1]; exact hM.ob ly hW0
  have hX1 : xs_at K1 x g q c j q2 c2 W H nr wl mk ds cnt dr pa X := hX.cx ho (fun a h1 h2 => by rw [eK1]; exact ms_up_n _ _ (by omega))
  have hE9 : fE o x g q c j q2 c2 sb n (d + 1) t K1 := ⟨W, H, cnt, fa, wa, dr, pa, X, nr, wl, mk, ds, wr, fv, hX1, hM1, fl, ly, hcf, hK⟩
  have h12 : v1 = 0 ∨ v1 = 1 ∨ v1 = 2 ∨ v1 = 3 ∨ v1 = 4 ∨ v1 = 5 ∨ v1 = 6 ∨ v1 = 7 ∨ v1 = 8 ∨ v1 = 9 ∨ v1 = 10 ∨ v1 = 11 := by omega
  rcases h12 with e9 | e9 | e9 | e9 | e9 | e9 | e9 | e9 | e9 | e9 | e9 | e9
  · subst e9
    refine ms_tabIn (off := 42) (tgt := 48) dX6_act_6 (by decide) (by decide) (by decide) (by decide) ?_
    refine ms_run (pc' := 49) (lv' := [(0, .ref o)]) (st' := [.ref o]) _ (ms_deC dX6_act_48 ms_deN) rfl rfl ?_
    obtain ⟨W, H, cnt, fa, wa, dr, pa, X, nr, wl, mk, ds, wr, fv, hS⟩ := hE9
    refine ms_W.room (k2 := 1 + 0) (z2 := 6 + 0) ?_ (by omega) (by omega)
    refine ms_callVH (As := []) dX6_act_49 (c_X6_wall (n := n) (L := L) (xs := xs) ho hox hLb (by omega) (by omega) hS) cvh_X6_149 hS.2.1.1 rfl ⟨Nat.le_of_ble_eq_true rfl, Nat.le_of_ble_eq_true rfl⟩ rfl (Nat.le_of_ble_eq_true rfl) (fun v9 n2 K2 hp9 => ?_) (fun E9 n9 K9 hp9 => by cases hp9.1)
    obtain ⟨hr9, hn2, d2, t2, hd2, hd2b, ht2, ht2b, hE2⟩ := hp9
    cases hr9
    refine ms_reti (st := []) (ty := .boolean) dX6_act_52 rfl rfl ?_
    exact ⟨rfl, by omega, d2, t2, by omega, by omega, by omega, by omega, hE2⟩
  · subst e9
    refine ms_tabIn (off := 47) (tgt := 53) dX6_act_6 (by decide) (by decide) (by decide) (by decide) ?_
    refine ms_run (pc' := 54) (lv' := [(0, .ref o)]) (st' := [.ref o]) _ (ms_deC dX6_act_53 ms_deN) rfl rfl ?_
    obtain ⟨W, H, cnt, fa, wa, dr, pa, X, nr, wl, mk, ds, wr, fv, hS⟩ := hE9
    refine ms_W.room (k2 := 1 + 0) (z2 := 6 + 0) ?_ (by omega) (by omega)
    refine ms_callVH (As := []) dX6_act_54 (c_X6_mark (n := n) (L := L) (xs := xs) ho hox hLb (by omega) (by omega) hS) cvh_X6_147 hS.2.1.1 rfl ⟨Nat.le_of_ble_eq_true rfl, Nat.le_of_ble_eq_true rfl⟩ rfl (Nat.le_of_ble_eq_true rfl) (fun v9 n2 K2 hp9 => ?_) (fun E9 n9 K9 hp9 => by cases hp9.1)
    obtain ⟨hr9, hn2, d2, t2, hd2, hd2b, ht2, ht2b, hE2⟩ := hp9
    cases hr9
    refine ms_reti (st := []) (ty := .boolean) dX6_act_57 rfl rfl ?_
    exact ⟨rfl, by omega, d2, t2, by omega, by omega, by omega, by omega, hE2⟩
  · subst e9
    refine ms_tabIn (off := 52) (tgt := 58) dX6_act_6 (by decide) (by decide) (by decide) (by decide) ?_
    refine ms_run (pc' := 59) (lv' := [(0, .ref o)]) (st' := [.ref o]) _ (ms_deC dX6_act_58 ms_deN) rfl rfl ?_
    obtain ⟨W, H, cnt, fa, wa, dr, pa, X, nr, wl, mk, ds, wr, fv, hS⟩ := hE9
    refine ms_W.room (k2 := 1 + 0) (z2 := 6 + 0) ?_ (by omega) (by omega)
    refine ms_callVX (As := []) dX6_act_59 (c_X6_set (n := n) (L := L) (xs := xs) ho hox hLb (by omega) (by omega) hS) cv_X6_145 hS.2.1.1 rfl ⟨Nat.le_of_ble_eq_true rfl, Nat.le_of_ble_eq_true rfl⟩ rfl (Nat.le_of_ble_eq_true rfl) (fun v9 n2 K2 hp9 => ?_) (fun E9 n9 K9 q9 hp9 => by cases hp9.1)
    obtain ⟨hr9, hn2, d2, t2, hd2, hd2b, ht2, ht2b, hE2⟩ := hp9
    cases hr9
    refine ms_reti (st := []) (ty := .boolean) dX6_act_62 rfl rfl ?_
    exact ⟨rfl, by omega, d2, t2, by omega, by omega, by omega, by omega, hE2⟩
  · subst e9
    refine ms_tabIn (off := 57) (tgt := 63) dX6_act_6 (by decide) (by decide) (by decide) (by decide) ?_
    refine ms_run (pc' := 64) (lv' := [(0, .ref o)]) (st' := [.ref o]) _ (ms_deC dX6_act_63 ms_deN) rfl rfl ?_
    obtain ⟨W, H, cnt, fa, wa, dr, pa, X, nr, wl, mk, ds, wr, fv, hS⟩ := hE9
    refine ms_W.room (k2 := 1 + 0) (z2 := 6 + 0) ?_ (by omega) (by omega)
    refine ms_callVH (As := []) dX6_act_64 (c_X6_turnTo (n := n) (L := L) (xs := xs) ho hox hLb (by omega) (by omega) hS) cvh_X6_154 hS.2.1.1 rfl ⟨Nat.le_of_ble_eq_true rfl, Nat.le_of_ble_eq_true rfl⟩ rfl (Nat.le_of_ble_eq_true rfl) (fun v9 n2 K2 hp9 => ?_) (fun E9 n9 K9 hp9 => by cases hp9.1)
    obtain ⟨hr9, hn2, d2, t2, hd2, hd2b, ht2, ht2b, hE2⟩ := hp9
    cases hr9
    refine ms_reti (st := []) (ty := .boolean) dX6_act_67 rfl rfl ?_
    exact ⟨rfl, by omega, d2, t2, by omega, by omega, by omega, by omega, hE2⟩
  · subst e9
    refine ms_tabIn (off := 62) (tgt := 68) dX6_act_6 (by decide) (by decide) (by decide) (by decide) ?_
    refine ms_run (pc' := 69) (lv' := [(0, .ref o)]) (st' := [.ref o]) _ (ms_deC dX6_act_68 ms_deN) rfl rfl ?_
    obtain ⟨W, H, cnt, fa, wa, dr, pa, X, nr, wl, mk, ds, wr, fv, hS⟩ := hE9
    refine ms_W.room (k2 := 3 + 0) (z2 := 39 + 0) ?_ (by omega) (by omega)
    refine ms_callVH (As := []) dX6_act_69 (c_X6_add (n := n) (L := L) (xs := xs) ho hox hLb (by omega) (by omega) hS) cvh_X6_151 hS.2.1.1 rfl ⟨Nat.le_of_ble_eq_true rfl, Nat.le_of_ble_eq_true rfl⟩ rfl (Nat.le_of_ble_eq_true rfl) (fun v9 n2 K2 hp9 => ?_) (fun E9 n9 K9 hp9 => by cases hp9.1)
    obtain ⟨hr9, hn2, d2, t2, hd2, hd2b, ht2, ht2b, hE2⟩ := hp9
    cases hr9
    refine ms_reti (st := []) (ty := .boolean) dX6_act_72 rfl rfl ?_
    exact ⟨rfl, by omega, d2, t2, by omega, by omega, by omega, by omega, hE2⟩
  · subst e9
    refine ms_tabIn (off := 62) (tgt := 68) dX6_act_6 (by decide) (by decide) (by decide) (by decide) ?_
    refine ms_run (pc' := 69) (lv' := [(0, .ref o)]) (st' := [.ref o]) _ (ms_deC dX6_act_68 ms_deN) rfl rfl ?_
    obtain ⟨W, H, cnt, fa, wa, dr, pa, X, nr, wl, mk, ds, wr, fv, hS⟩ := hE9
    refine ms_W.room (k2 := 3 + 0) (z2 := 39 + 0) ?_ (by omega) (by omega)
    refine ms_callVH (As := []) dX6_act_69 (c_X6_add (n := n) (L := L) (xs := xs) ho hox hLb (by omega) (by omega) hS) cvh_X6_151 hS.2.1.1 rfl ⟨Nat.le_of_ble_eq_true rfl, Nat.le_of_ble_eq_true rfl⟩ rfl (Nat.le_of_ble_eq_true rfl) (fun v9 n2 K2 hp9 => ?_) (fun E9 n9 K9 hp9 => by cases hp9.1)
    obtain ⟨hr9, hn2, d2, t2, hd2, hd2b, ht2, ht2b, hE2⟩ := hp9
    cases hr9
    refine ms_reti (st := []) (ty := .boolean) dX6_act_72 rfl rfl ?_
    exact ⟨rfl, by omega, d2, t2, by omega, by omega, by omega, by omega, hE2⟩
  · subst e9
    refine ms_tabIn (off := 62) (tgt := 68) dX6_act_6 (by decide) (by decide) (by decide) (by decide) ?_
    refine ms_run (pc' := 69) (lv' := [(0, .ref o)]) (st' := [.ref o]) _ (ms_deC dX6_act_68 ms_deN) rfl rfl ?_
    obtain ⟨W, H, cnt, fa, wa, dr, pa, X, nr, wl, mk, ds, wr, fv, hS⟩ := hE9
    refine ms_W.room (k2 := 3 + 0) (z2 := 39 + 0) ?_ (by omega) (by omega)
    refine ms_callVH (As := []) dX6_act_69 (c_X6_add (n := n) (L := L) (xs := xs) ho hox hLb (by omega) (by omega) hS) cvh_X6_151 hS.2.1.1 rfl ⟨Nat.le_of_ble_eq_true rfl, Nat.le_of_ble_eq_true rfl⟩ rfl (Nat.le_of_ble_eq_true rfl) (fun v9 n2 K2 hp9 => ?_) (fun E9 n9 K9 hp9 => by cases hp9.1)
    obtain ⟨hr9, hn2, d2, t2, hd2, hd2b, ht2, ht2b, hE2⟩ := hp9
    cases hr9
    refine ms_reti (st := []) (ty := .boolean) dX6_act_72 rfl rfl ?_
    exact ⟨rfl, by omega, d2, t2, by omega, by omega, by omega, by omega, hE2⟩
  · subst e9
    refine ms_tabOut (tgt := 73) dX6_act_6 (by decide) (by decide) ?_
    refine ms_run (pc' := 75) (lv' := [(0, .ref o)]) (st' := [.int 3, .ref o]) _ (ms_deC dX6_act_73 (ms_deC dX6_act_74 ms_deN)) rfl rfl ?_
    obtain ⟨W, H, cnt, fa, wa, dr, pa, X, nr, wl, mk, ds, wr, fv, hS⟩ := hE9
    refine ms_W.room (k2 := 265 + 0) (z2 := 2688 + 0) ?_ (by omega) (by omega)
    refine ms_callVX (As := [.int 3]) dX6_act_75 (c_X6_tick_ (n := n) (L := L) (xs := xs) ho hox hLb (by omega) (by omega) hS) cv_X6_156 hS.2.1.1 rfl ⟨Nat.le_of_ble_eq_true rfl, Nat.le_of_ble_eq_true rfl⟩ rfl (Nat.le_of_ble_eq_true rfl) (fun v9 n2 K2 hp9 => ?_) (fun E9 n9 K9 q9 hp9 => by cases hp9.1)
    obtain ⟨hr9, hn2, d2, t2, hd2, hd2b, ht2, ht2b, hE2⟩ := hp9
    cases hr9
    refine ms_reti (st := []) (ty := .boolean) dX6_act_78 rfl rfl ?_
    exact ⟨rfl, by omega, d2, t2, by omega, by omega, by omega, by omega, hE2⟩
  · subst e9
    refine ms_tabOut (tgt := 73) dX6_act_6 (by decide) (by decide) ?_
    refine ms_run (pc' := 75) (lv' := [(0, .ref o)]) (st' := [.int 3, .ref o]) _ (ms_deC dX6_act_73 (ms_deC dX6_act_74 ms_deN)) rfl rfl ?_
    obtain ⟨W, H, cnt, fa, wa, dr, pa, X, nr, wl, mk, ds, wr, fv, hS⟩ := hE9
    refine ms_W.room (k2 := 265 + 0) (z2 := 2688 + 0) ?_ (by omega) (by omega)
    refine ms_callVX (As := [.int 3]) dX6_act_75 (c_X6_tick_ (n := n) (L := L) (xs := xs) ho hox hLb (by omega) (by omega) hS) cv_X6_156 hS.2.1.1 rfl ⟨Nat.le_of_ble_eq_true rfl, Nat.le_of_ble_eq_true rfl⟩ rfl (Nat.le_of_ble_eq_true rfl) (fun v9 n2 K2 hp9 => ?_) (fun E9 n9 K9 q9 hp9 => by cases hp9.1)
    obtain ⟨hr9, hn2, d2, t2, hd2, hd2b, ht2, ht2b, hE2⟩ := hp9
    cases hr9
    refine ms_reti (st := []) (ty := .boolean) dX6_act_78 rfl rfl ?_
    exact ⟨rfl, by omega, d2, t2, by omega, by omega, by omega, by omega, hE2⟩
  · subst e9
    refine ms_tabOut (tgt := 73) dX6_act_6 (by decide) (by decide) ?_
    refine ms_run (pc' := 75) (lv' := [(0, .ref o)]) (st' := [.int 3, .ref o]) _ (ms_deC dX6_act_73 (ms_deC dX6_act_74 ms_deN)) rfl rfl ?_
    obtain ⟨W, H, cnt, fa, wa, dr, pa, X, nr, wl, mk, ds, wr, fv, hS⟩ := hE9
    refine ms_W.room (k2 := 265 + 0) (z2 := 2688 + 0) ?_ (by omega) (by omega)
    refine ms_callVX (As := [.int 3]) dX6_act_75 (c_X6_tick_ (n := n) (L := L) (xs := xs) ho hox hLb (by omega) (by omega) hS) cv_X6_156 hS.2.1.1 rfl ⟨Nat.le_of_ble_eq_true rfl, Nat.le_of_ble_eq_true rfl⟩ rfl (Nat.le_of_ble_eq_true rfl) (fun v9 n2 K2 hp9 => ?_) (fun E9 n9 K9 q9 hp9 => by cases hp9.1)
    obtain ⟨hr9, hn2, d2, t2, hd2, hd2b, ht2, ht2b, hE2⟩ := hp9
    cases hr9
    refine ms_reti (st := []) (ty := .boolean) dX6_act_78 rfl rfl ?_
    exact ⟨rfl, by omega, d2, t2, by omega, by omega, by omega, by omega, hE2⟩
  · subst e9
    refine ms_tabOut (tgt := 73) dX6_act_6 (by decide) (by decide) ?_
    refine ms_run (pc' := 75) (lv' := [(0, .ref o)]) (st' := [.int 3, .ref o]) _ (ms_deC dX6_act_73 (ms_deC dX6_act_74 ms_deN)) rfl rfl ?_
    obtain ⟨W, H, cnt, fa, wa, dr, pa, X, nr, wl, mk, ds, wr, fv, hS⟩ := hE9
    refine ms_W.room (k2 := 265 + 0) (z2 := 2688 + 0) ?_ (by omega) (by omega)
    refine ms_callVX (As := [.int 3]) dX6_act_75 (c_X6_tick_ (n := n) (L := L) (xs := xs) ho hox hLb (by omega) (by omega) hS) cv_X6_156 hS.2.1.1 rfl ⟨Nat.le_of_ble_eq_true rfl, Nat.le_of_ble_eq_true rfl⟩ rfl (Nat.le_of_ble_eq_true rfl) (fun v9 n2 K2 hp9 => ?_) (fun E9 n9 K9 q9 hp9 => by cases hp9.1)
    obtain ⟨hr9, hn2, d2, t2, hd2, hd2b, ht2, ht2b, hE2⟩ := hp9
    cases hr9
    refine ms_reti (st := []) (ty := .boolean) dX6_act_78 rfl rfl ?_
    exact ⟨rfl, by omega, d2, t2, by omega, by omega, by omega, by omega, hE2⟩
  · subst e9
    refine ms_tabOut (tgt := 73) dX6_act_6 (by decide) (by decide) ?_
    refine ms_run (pc' := 75) (lv' := [(0, .ref o)]) (st' := [.int 3, .ref o]) _ (ms_deC dX6_act_73 (ms_deC dX6_act_74 ms_deN)) rfl rfl ?_
    obtain ⟨W, H, cnt, fa, wa, dr, pa, X, nr, wl, mk, ds, wr, fv, hS⟩ := hE9
    refine ms_W.room (k2 := 265 + 0) (z2 := 2688 + 0) ?_ (by omega) (by omega)
    refine ms_callVX (As := [.int 3]) dX6_act_75 (c_X6_tick_ (n := n) (L := L) (xs := xs) ho hox hLb (by omega) (by omega) hS) cv_X6_156 hS.2.1.1 rfl ⟨Nat.le_of_ble_eq_true rfl, Nat.le_of_ble_eq_true rfl⟩ rfl (Nat.le_of_ble_eq_true rfl) (fun v9 n2 K2 hp9 => ?_) (fun E9 n9 K9 q9 hp9 => by cases hp9.1)
    obtain ⟨hr9, hn2, d2, t2, hd2, hd2b, ht2, ht2b, hE2⟩ := hp9
    cases hr9
    refine ms_reti (st := []) (ty := .boolean) dX6_act_78 rfl rfl ?_
    exact ⟨rfl, by omega, d2, t2, by omega, by omega, by omega, by omega, hE2⟩

/-! the model: its picture, its small methods -/
def md_at (G : ms_H) (m aw am ai ah W H : Nat) (th cl dr pa : Int32) (cnt : Nat) (wl mm ht : Nat → Int32) (u : Nat → Nat → Int32) : Prop := G m = some (.inr (6, [.int th, .int (nI W), .int (nI H), .int cl, .int dr, .int pa, .ref aw, .ref am, .int (nI cnt), .ref ai, .ref ah])) ∧ G aw = some (.inl (1, W * H, .inl wl)) ∧ G am = some (.inl (1, 4 * (W * H), .inl mm)) ∧ (∃ it, G ai = some (.inl (0, 192, .inl it)) ∧ ∀ k, k < cnt → ∀ j, j < 8 → it (k * 8 + j) = u k j) ∧ G ah = some (.inl (0, W * H, .inl ht))
theorem nI_8j {k j : Nat} : nI k * 8 + nI j = nI (k * 8 + j) := by rw [show (8 : Int32) = nI 8 from rfl, pk_mul, nI_add]
theorem md_it {it : Nat → Int32} {u : Nat → Nat → Int32} {cnt k j : Nat} (hit : ∀ k, k < cnt → ∀ j, j < 8 → it (k * 8 + j) = u k j) (hk : k < cnt) (hc : cnt ≤ 24) (hj : j < 8) : it (nI k * 8 + nI j).toNatClampNeg = u k j := by
  rw [nI_8j, nI_clamp (by omega), hit k hk j hj]
theorem md_in {k j : Nat} (hk : k < 24) (hj : j < 8) : vp_in (nI k * 8 + nI j) 192 := by
  rw [nI_8j]; exact vp_in_nI (by omega) (by omega)
theorem nI_toI {a : Nat} (h : a < 2147483648) : (nI a).toInt = (a : Int) := nI_toInt h
theorem nI_div {a b : Nat} (ha : a < 1000) (hb : b < 1000) : nI a / nI b = nI (a / b) := by
  have hd := Nat.div_le_self a b
  apply Int32.toInt_inj.mp
  rw [Int32.toInt_div, nI_toI (by omega), nI_toI (by omega), nI_toI (by omega), ← Int.ofNat_tdiv]
  generalize a / b = q at hd ⊢
  rw [Int.bmod_eq_of_le (by omega) (by omega)]
theorem nI_sub {a b : Nat} (ha : a < 1000000) (h : b ≤ a) : nI a - nI b = nI (a - b) := by
  apply Int32.toInt_inj.mp
  rw [nb_sub (by rw [nI_toI (by omega), nI_toI (by omega)]; omega) (by rw [nI_toI (by omega), nI_toI (by omega)]; omega), nI_toI (by omega), nI_toI (by omega), nI_toI (by omega)]
  omega
theorem ms_b_n {p : Prop} [Decidable p] : narrow .boolean (.int (ms_b p)) = .int (ms_b p) := by unfold ms_b; split <;> rfl
theorem nI_rem {a b : Nat} (ha : a < 1000) (hb : b < 1000) : nI a - nI a / nI b * nI b = nI (a % b) := by
  have h1 := Nat.div_add_mod a b
  have h2 : a / b * b = b * (a / b) := Nat.mul_comm _ _
  rw [nI_div ha hb, pk_mul, nI_sub (by omega) (by omega)]
  congr 1
  omega
set_option maxHeartbeats 2000000 in
set_option maxRecDepth 20000 in
theorem c_X6_isIn {n : Nat} {G : ms_H} (v a b : Int32) : ms_M m_X6_isIn [.int v, .int a, .int b] n G 0 0 (ms_p1 (some (.int (ms_b (a ≤ v ∧ v ≤ b)))) n G) := by
  refine ms_M.of (by decide) (Nat.le_of_ble_eq_true rfl) ?_
  show ms_W false m_X6_isIn _ 0 [(0, .int v), (1, .int a), (2, .int b)] [] n G 0 0
  refine ms_run (pc' := 2) (lv' := [(0, .int v), (1, .int a), (2, .int b)]) (st' := [.int a, .int v]) _ (ms_deC dX6_isIn_0 (ms_deC dX6_isIn_1 ms_deN)) rfl rfl ?_
  refine ms_icmp_lt (tgt := 14) dX6_isIn_2 (by decide) (fun h_2 => ?_) (fun h_2 => ?_)
  · skip
    refine ms_run (pc' := 15) (lv' := [(0, .int v), (1, .int a), (2, .int b)]) (st' := [.int 0]) _ (ms_deC dX6_isIn_14 ms_deN) rfl rfl ?_
    refine ms_reti (st := []) (ty := .boolean) dX6_isIn_15 rfl rfl ?_
    exact ms_p1.mk (ms_int_eq (by grind)) rfl
  · skip
    refine ms_run (pc' := 7) (lv' := [(0, .int v), (1, .int a), (2, .int b)]) (st' := [.int b, .int v]) _ (ms_deC dX6_isIn_5 (ms_deC dX6_isIn_6 ms_deN)) rfl rfl ?_
    refine ms_icmp_gt (tgt := 14) dX6_isIn_7 (by decide) (fun h_7 => ?_) (fun h_7 => ?_)
    · skip
      refine ms_run (pc' := 15) (lv' := [(0, .int v), (1, .int a), (2, .int b)]) (st' := [.int 0]) _ (ms_deC dX6_isIn_14 ms_deN) rfl rfl ?_
      refine ms_reti (st := []) (ty := .boolean) dX6_isIn_15 rfl rfl ?_
      exact ms_p1.mk (ms_int_eq (by grind)) rfl
    · skip
      refine ms_run (pc' := 11) (lv' := [(0, .int v), (1, .int a), (2, .int b)]) (st' := [.int 1]) _ (ms_deC dX6_isIn_10 ms_deN) rfl rfl ?_
      refine ms_goto (tgt := 15) dX6_isIn_11 (by decide) ?_
      refine ms_reti (st := []) (ty := .boolean) dX6_isIn_15 rfl rfl ?_
      exact ms_p1.mk (ms_int_eq (by grind)) rfl
theorem gr_insI {w h : Nat} (hw : w ≤ 14) (hh : h ≤ 14) (x y : Int32) : gr_ins (nI w) (nI h) x y ↔ (0 ≤ x ∧ x ≤ nI w - 1) ∧ 0 ≤ y ∧ y ≤ nI h - 1 := by
  have h1 : ∀ (w : Nat) (x : Int32), w ≤ 14 → 0 ≤ x → (x < nI w ↔ x ≤ nI w - 1) := fun w x hw h0 => by
    rw [nb_lt, nb_le, nb_sub (by rw [nI_toI (by omega)]; show _ ≤ (w : Int) - 1; omega) (by rw [nI_toI (by omega)]; show (w : Int) - 1 < _; omega), nI_toI (by omega)]
    show _ ↔ _ ≤ (w : Int) - 1
    omega
  constructor
  · rintro ⟨a, b, c, d⟩; exact ⟨⟨a, (h1 w x hw a).mp b⟩, c, (h1 h y hh c).mp d⟩
  · rintro ⟨⟨a, b⟩, c, d⟩; exact ⟨a, (h1 w x hw a).mpr b, c, (h1 h y hh c).mpr d⟩
theorem pIsI {cnt : Nat} (hc : cnt ≤ 24) (k : Int32) : pIs (nI cnt) k ↔ 0 ≤ k ∧ k ≤ nI cnt - 1 := by
  have h1 : k ≤ nI cnt - 1 ↔ k.toInt ≤ (cnt : Int) - 1 := by
    rw [nb_le, nb_sub (by rw [nI_toI (by omega)]; show _ ≤ (cnt : Int) - 1; omega) (by rw [nI_toI (by omega)]; show (cnt : Int) - 1 < _; omega), nI_toI (by omega)]
    exact Iff.rfl
  rw [h1]
  unfold pIs
  rw [nb_lt (b := nI cnt), nI_toI (by omega), nb_lt (b := 24)]
  show _ ∧ _ ∧ k.toInt < 24 ↔ _
  constructor
  · rintro ⟨a, b, c⟩; exact ⟨a, by omega⟩
  · rintro ⟨a, b⟩; exact ⟨a, by omega, by omega⟩
theorem pIs_of {cnt : Nat} {i : Nat} (hc : cnt ≤ 24) (h : i < cnt) : pIs (nI cnt) (nI i) := ⟨nI_pos' (by omega), nI_lt h (by omega), show nI i < nI 24 from nI_lt (by omega) (by omega)⟩
set_option maxHeartbeats 2000000 in
set_option maxRecDepth 20000 in
theorem c_X6_isField {n m aw am ai ah W H cnt : Nat} {G : ms_H} {th cl dr pa : Int32} {wl mm ht : Nat → Int32} {u : Nat → Nat → Int32} (hM : md_at G m aw am ai ah W H th cl dr pa cnt wl mm ht u) (hW : W ≤ 14) (hH : H ≤ 14) (hc : cnt ≤ 24) (x y : Int32) : ms_M m_X6_isField [.ref m, .int x, .int y] n G 0 0 (ms_p1 (some (.int (ms_b (gr_ins (nI W) (nI H) x y)))) n G) := by
  refine ms_M.of (by decide) (Nat.le_of_ble_eq_true rfl) ?_
  show ms_W false m_X6_isField _ 0 [(0, .ref m), (1, .int x), (2, .int y)] [] n G 0 0
  obtain ⟨hm, hw_, hk_, ⟨it, hi_, hit⟩, hh_⟩ := hM
  refine ms_run (pc' := 3) (lv' := [(0, .ref m), (1, .int x), (2, .int y)]) (st' := [.ref m, .int 0, .int x]) _ (ms_deC dX6_isField_0 (ms_deC dX6_isField_1 (ms_deC dX6_isField_2 ms_deN))) rfl rfl ?_
  refine ms_getf dX6_isField_3 fg_X6_20 hm rfl ?_
  refine ms_run (pc' := 8) (lv' := [(0, .ref m), (1, .int x), (2, .int y)]) (st' := [.int ((nI W) - 1), .int 0, .int x]) _ (ms_deC dX6_isField_6 (ms_deC dX6_isField_7 ms_deN)) rfl rfl ?_
  refine ms_callSp (As := [.int x, .int 0, .int ((nI W) - 1)]) dX6_isField_8 (c_X6_isIn x 0 ((nI W) - 1)) cs_X6_49 rfl ⟨Nat.le_of_ble_eq_true rfl, Nat.le_of_ble_eq_true rfl⟩ rfl (Nat.le_of_ble_eq_true rfl) ?_
  by_cases h1 : 0 ≤ x ∧ x ≤ ((nI W) - 1)
  · rw [show ms_b (0 ≤ x ∧ x ≤ ((nI W) - 1)) = 1 from if_pos h1]
    refine ms_if_eq (tgt := 32) dX6_isField_11 (by decide) (fun h9 => absurd h9 (by decide)) (fun _ => ?_)
    refine ms_run (pc' := 17) (lv' := [(0, .ref m), (1, .int x), (2, .int y)]) (st' := [.ref m, .int 0, .int y]) _ (ms_deC dX6_isField_14 (ms_deC dX6_isField_15 (ms_deC dX6_isField_16 ms_deN))) rfl rfl ?_
    refine ms_getf dX6_isField_17 fg_X6_23 hm rfl ?_
    refine ms_run (pc' := 22) (lv' := [(0, .ref m), (1, .int x), (2, .int y)]) (st' := [.int ((nI H) - 1), .int 0, .int y]) _ (ms_deC dX6_isField_20 (ms_deC dX6_isField_21 ms_deN)) rfl rfl ?_
    refine ms_callSp (As := [.int y, .int 0, .int ((nI H) - 1)]) dX6_isField_22 (c_X6_isIn y 0 ((nI H) - 1)) cs_X6_49 rfl ⟨Nat.le_of_ble_eq_true rfl, Nat.le_of_ble_eq_true rfl⟩ rfl (Nat.le_of_ble_eq_true rfl) ?_
    by_cases h2 : 0 ≤ y ∧ y ≤ ((nI H) - 1)
    · rw [show ms_b (0 ≤ y ∧ y ≤ ((nI H) - 1)) = 1 from if_pos h2]
      refine ms_if_eq (tgt := 32) dX6_isField_25 (by decide) (fun h9 => absurd h9 (by decide)) (fun _ => ?_)
      refine ms_run (pc' := 29) (lv' := [(0, .ref m), (1, .int x), (2, .int y)]) (st' := [.int 1]) _ (ms_deC dX6_isField_28 ms_deN) rfl rfl ?_
      refine ms_goto (tgt := 33) dX6_isField_29 (by decide) ?_
      refine ms_reti (st := []) (ty := .boolean) dX6_isField_33 rfl rfl ?_
      exact ms_p1.mk (ms_int_eq (by have := gr_insI hW hH x y; grind)) rfl
    · rw [show ms_b (0 ≤ y ∧ y ≤ ((nI H) - 1)) = 0 from if_neg h2]
      refine ms_if_eq (tgt := 32) dX6_isField_25 (by decide) (fun _ => ?_) (fun h9 => absurd h9 (by decide))
      refine ms_run (pc' := 33) (lv' := [(0, .ref m), (1, .int x), (2, .int y)]) (st' := [.int 0]) _ (ms_deC dX6_isField_32 ms_deN) rfl rfl ?_
      refine ms_reti (st := []) (ty := .boolean) dX6_isField_33 rfl rfl ?_
      exact ms_p1.mk (ms_int_eq (by have := gr_insI hW hH x y; grind)) rfl
  · rw [show ms_b (0 ≤ x ∧ x ≤ ((nI W) - 1)) = 0 from if_neg h1]
    refine ms_if_eq (tgt := 32) dX6_isField_11 (by decide) (fun _ => ?_) (fun h9 => absurd h9 (by decide))
    refine ms_run (pc' := 33) (lv' := [(0, .ref m), (1, .int x), (2, .int y)]) (st' := [.int 0]) _ (ms_deC dX6_isField_32 ms_deN) rfl rfl ?_
    refine ms_reti (st := []) (ty := .boolean) dX6_isField_33 rfl rfl ?_
    exact ms_p1.mk (ms_int_eq (by have := gr_insI hW hH x y; grind)) rfl
set_option maxHeartbeats 2000000 in
set_option maxRecDepth 20000 in
theorem c_X6_isGoal {n : Nat} {G : ms_H} (g : Int32) : ms_M m_X6_isGoal [.int g] n G 0 0 (ms_p1 (some (.int (ms_b (gl_is g)))) n G) := by
  refine ms_M.of (by decide) (Nat.le_of_ble_eq_true rfl) ?_
  show ms_W false m_X6_isGoal _ 0 [(0, .int g)] [] n G 0 0
  refine ms_run (pc' := 3) (lv' := [(0, .int g)]) (st' := [.int 3, .int 0, .int g]) _ (ms_deC dX6_isGoal_0 (ms_deC dX6_isGoal_1 (ms_deC dX6_isGoal_2 ms_deN))) rfl rfl ?_
  refine ms_callSp (As := [.int g, .int 0, .int 3]) dX6_isGoal_3 (c_X6_isIn g 0 3) cs_X6_49 rfl ⟨Nat.le_of_ble_eq_true rfl, Nat.le_of_ble_eq_true rfl⟩ rfl (Nat.le_of_ble_eq_true rfl) ?_
  refine ms_reti (st := []) (ty := .boolean) dX6_isGoal_6 rfl ms_b_n ?_
  exact ms_p1.mk (ms_int_eq (show ms_b _ = ms_b _ from by have : (0 ≤ g ∧ g ≤ 3) ↔ gl_is g := ⟨fun h => ⟨h.1, by have := h.2; rw [nb_le] at this; rw [nb_lt]; exact Int.lt_add_one_of_le this⟩, fun h => ⟨h.1, by have := h.2; rw [nb_lt] at this; rw [nb_le]; exact Int.lt_add_one_iff.mp this⟩⟩; grind)) rfl
set_option maxHeartbeats 2000000 in
set_option maxRecDepth 20000 in
theorem c_X6_isWalker {n m aw am ai ah W H cnt : Nat} {G : ms_H} {th cl dr pa : Int32} {wl mm ht : Nat → Int32} {u : Nat → Nat → Int32} (hM : md_at G m aw am ai ah W H th cl dr pa cnt wl mm ht u) (hW : W ≤ 14) (hH : H ≤ 14) (hc : cnt ≤ 24) (k : Int32) : ms_M m_X6_isWalker [.ref m, .int k] n G 0 0 (ms_p1 (some (.int (ms_b (pIs (nI cnt) k)))) n G) := by
  refine ms_M.of (by decide) (Nat.le_of_ble_eq_true rfl) ?_
  show ms_W false m_X6_isWalker _ 0 [(0, .ref m), (1, .int k)] [] n G 0 0
  obtain ⟨hm, hw_, hk_, ⟨it, hi_, hit⟩, hh_⟩ := hM
  refine ms_run (pc' := 3) (lv' := [(0, .ref m), (1, .int k)]) (st' := [.ref m, .int 0, .int k]) _ (ms_deC dX6_isWalker_0 (ms_deC dX6_isWalker_1 (ms_deC dX6_isWalker_2 ms_deN))) rfl rfl ?_
  refine ms_getf dX6_isWalker_3 fg_X6_36 hm rfl ?_
  refine ms_run (pc' := 8) (lv' := [(0, .ref m), (1, .int k)]) (st' := [.int ((nI cnt) - 1), .int 0, .int k]) _ (ms_deC dX6_isWalker_6 (ms_deC dX6_isWalker_7 ms_deN)) rfl rfl ?_
  refine ms_callSp (As := [.int k, .int 0, .int ((nI cnt) - 1)]) dX6_isWalker_8 (c_X6_isIn k 0 (nI cnt - 1)) cs_X6_49 rfl ⟨Nat.le_of_ble_eq_true rfl, Nat.le_of_ble_eq_true rfl⟩ rfl (Nat.le_of_ble_eq_true rfl) ?_
  refine ms_reti (st := []) (ty := .boolean) dX6_isWalker_11 rfl ms_b_n ?_
  exact ms_p1.mk (ms_int_eq (by have := pIsI hc k; grind)) rfl
set_option maxHeartbeats 2000000 in
set_option maxRecDepth 20000 in
theorem c_X6_isOn {n m aw am ai ah W H cnt : Nat} {G : ms_H} {th cl dr pa : Int32} {wl mm ht : Nat → Int32} {u : Nat → Nat → Int32} (hM : md_at G m aw am ai ah W H th cl dr pa cnt wl mm ht u) (hW : W ≤ 14) (hH : H ≤ 14) (hc : cnt ≤ 24) (k : Int32) : ms_M m_X6_isOn [.ref m, .int k] n G 0 0 (ms_p1 (some (.int (ms_b (pIs (nI cnt) k ∧ ¬ u k.toNatClampNeg 3 = -1)))) n G) := by
  refine ms_M.of (by decide) (Nat.le_of_ble_eq_true rfl) ?_
  show ms_W false m_X6_isOn _ 0 [(0, .ref m), (1, .int k)] [] n G 0 0
  obtain ⟨hm, hw_, hk_, ⟨it, hi_, hit⟩, hh_⟩ := hM
  refine ms_run (pc' := 2) (lv' := [(0, .ref m), (1, .int k)]) (st' := [.int k, .ref m]) _ (ms_deC dX6_isOn_0 (ms_deC dX6_isOn_1 ms_deN)) rfl rfl ?_
  refine ms_callVp (As := [.int k]) dX6_isOn_2 (c_X6_isWalker ⟨hm, hw_, hk_, ⟨it, hi_, hit⟩, hh_⟩ hW hH hc k) cv_X6_53 hm rfl ⟨Nat.le_of_ble_eq_true rfl, Nat.le_of_ble_eq_true rfl⟩ rfl (Nat.le_of_ble_eq_true rfl) ?_
  by_cases hpi : pIs (nI cnt) k
  · rw [show ms_b (pIs (nI cnt) k) = 1 from if_pos hpi]
    obtain ⟨i, hi, hki⟩ := pIs_nI hc hpi
    subst hki
    rw [nI_clamp (by omega)]
    refine ms_if_eq (tgt := 27) dX6_isOn_5 (by decide) (fun h9 => absurd h9 (by decide)) (fun _ => ?_)
    refine ms_run (pc' := 9) (lv' := [(0, .ref m), (1, .int (nI i))]) (st' := [.ref m]) _ (ms_deC dX6_isOn_8 ms_deN) rfl rfl ?_
    refine ms_getf dX6_isOn_9 fg_X6_39 hm rfl ?_
    refine ms_run (pc' := 18) (lv' := [(0, .ref m), (1, .int (nI i))]) (st' := [.int (((nI i) * 8) + 3), .ref ai]) _ (ms_deC dX6_isOn_12 (ms_deC dX6_isOn_13 (ms_deC dX6_isOn_15 (ms_deC dX6_isOn_16 (ms_deC dX6_isOn_17 ms_deN))))) rfl rfl ?_
    refine ms_iaload dX6_isOn_18 hi_ (md_in (k := i) (j := 3) (Nat.lt_of_lt_of_le hi hc) (by omega)) ?_
    rw [show it (((nI i) * 8) + 3).toNatClampNeg = u i 3 from md_it (k := i) (j := 3) hit hi hc (by omega)]
    refine ms_run (pc' := 20) (lv' := [(0, .ref m), (1, .int (nI i))]) (st' := [.int (-1), .int (u i 3)]) _ (ms_deC dX6_isOn_19 ms_deN) rfl rfl ?_
    refine ms_icmp_eq (tgt := 27) dX6_isOn_20 (by decide) (fun h_20 => ?_) (fun h_20 => ?_)
    · skip
      refine ms_run (pc' := 28) (lv' := [(0, .ref m), (1, .int (nI i))]) (st' := [.int 0]) _ (ms_deC dX6_isOn_27 ms_deN) rfl rfl ?_
      refine ms_reti (st := []) (ty := .boolean) dX6_isOn_28 rfl rfl ?_
      exact ms_p1.mk (ms_int_eq (by grind)) rfl
    · skip
      refine ms_run (pc' := 24) (lv' := [(0, .ref m), (1, .int (nI i))]) (st' := [.int 1]) _ (ms_deC dX6_isOn_23 ms_deN) rfl rfl ?_
      refine ms_goto (tgt := 28) dX6_isOn_24 (by decide) ?_
      refine ms_reti (st := []) (ty := .boolean) dX6_isOn_28 rfl rfl ?_
      exact ms_p1.mk (ms_int_eq (by grind)) rfl
  · rw [show ms_b (pIs (nI cnt) k) = 0 from if_neg hpi]
    refine ms_if_eq (tgt := 27) dX6_isOn_5 (by decide) (fun _ => ?_) (fun h9 => absurd h9 (by decide))
    refine ms_run (pc' := 28) (lv' := [(0, .ref m), (1, .int k)]) (st' := [.int 0]) _ (ms_deC dX6_isOn_27 ms_deN) rfl rfl ?_
    refine ms_reti (st := []) (ty := .boolean) dX6_isOn_28 rfl rfl ?_
    exact ms_p1.mk (ms_int_eq (by grind)) rfl
set_option maxHeartbeats 2000000 in
set_option maxRecDepth 20000 in
theorem c_X6_beside0 {n m aw am ai ah W H cnt : Nat} {G : ms_H} {th cl dr pa : Int32} {wl mm ht : Nat → Int32} {u : Nat → Nat → Int32} (hM : md_at G m aw am ai ah W H th cl dr pa cnt wl mm ht u) (hW : W ≤ 14) (hH : H ≤ 14) (hc : cnt ≤ 24) (hW0 : 0 < W) {f : Nat} (hf : f < 1000) : ms_M m_X6_beside [.ref m, .int (nI f), .int 0] n G 0 0 (ms_p1 (some (.int (gr_num (nI W) (nI H) (nI (f % W) + 1) (nI (f / W) + 0)))) n G) := by
  refine ms_M.of (by decide) (Nat.le_of_ble_eq_true rfl) ?_
  show ms_W false m_X6_beside _ 0 [(0, .ref m), (1, .int (nI f)), (2, .int 0)] [] n G 0 0
  obtain ⟨hm, hw_, hk_, ⟨it, hi_, hit⟩, hh_⟩ := hM
  refine ms_run (pc' := 2) (lv' := [(0, .ref m), (1, .int (nI f)), (2, .int 0)]) (st' := [.ref m, .int (nI f)]) _ (ms_deC dX6_beside_0 (ms_deC dX6_beside_1 ms_deN)) rfl rfl ?_
  refine ms_getf dX6_beside_2 fg_X6_20 hm rfl ?_
  refine ms_irem dX6_beside_5 (nI_ne0 hW0 (by omega)) ?_
  rw [nI_rem (a := f) (b := W) (by omega) (by omega)]
  refine ms_run (pc' := 7) (lv' := [(0, .ref m), (1, .int (nI f)), (2, .int 0)]) (st' := [.int 0, .int (nI (f % W))]) _ (ms_deC dX6_beside_6 ms_deN) rfl rfl ?_
  refine ms_if_ne (tgt := 14) dX6_beside_7 (by decide) (fun h9 => absurd h9 (by decide)) (fun _ => ?_)
  refine ms_run (pc' := 11) (lv' := [(0, .ref m), (1, .int (nI f)), (2, .int 0)]) (st' := [.int 1, .int (nI (f % W))]) _ (ms_deC dX6_beside_10 ms_deN) rfl rfl ?_
  refine ms_goto (tgt := 24) dX6_beside_11 (by decide) ?_
  refine ms_run (pc' := 28) (lv' := [(3, .int ((nI (f % W)) + 1)), (0, .ref m), (1, .int (nI f)), (2, .int 0)]) (st' := [.ref m, .int (nI f)]) _ (ms_deC dX6_beside_24 (ms_deC dX6_beside_25 (ms_deC dX6_beside_26 (ms_deC dX6_beside_27 ms_deN)))) rfl rfl ?_
  refine ms_getf dX6_beside_28 fg_X6_20 hm rfl ?_
  refine ms_idiv dX6_beside_31 (nI_ne0 hW0 (by omega)) ?_
  rw [nI_div (a := f) (b := W) (by omega) (by omega)]
  refine ms_run (pc' := 34) (lv' := [(3, .int ((nI (f % W)) + 1)), (0, .ref m), (1, .int (nI f)), (2, .int 0)]) (st' := [.int 1, .int 0, .int (nI (f / W))]) _ (ms_deC dX6_beside_32 (ms_deC dX6_beside_33 ms_deN)) rfl rfl ?_
  refine ms_icmp_ne (tgt := 41) dX6_beside_34 (by decide) (fun _ => ?_) (fun h9 => absurd h9 (by decide))
  refine ms_run (pc' := 43) (lv' := [(3, .int ((nI (f % W)) + 1)), (0, .ref m), (1, .int (nI f)), (2, .int 0)]) (st' := [.int 3, .int 0, .int (nI (f / W))]) _ (ms_deC dX6_beside_41 (ms_deC dX6_beside_42 ms_deN)) rfl rfl ?_
  refine ms_icmp_ne (tgt := 50) dX6_beside_43 (by decide) (fun _ => ?_) (fun h9 => absurd h9 (by decide))
  refine ms_run (pc' := 58) (lv' := [(4, .int ((nI (f / W)) + 0)), (3, .int ((nI (f % W)) + 1)), (0, .ref m), (1, .int (nI f)), (2, .int 0)]) (st' := [.int ((nI (f / W)) + 0), .int ((nI (f % W)) + 1), .ref m]) _ (ms_deC dX6_beside_50 (ms_deC dX6_beside_51 (ms_deC dX6_beside_52 (ms_deC dX6_beside_54 (ms_deC dX6_beside_55 (ms_deC dX6_beside_56 ms_deN)))))) rfl rfl ?_
  refine ms_callVp (As := [.int ((nI (f % W)) + 1), .int ((nI (f / W)) + 0)]) dX6_beside_58 (c_X6_isField ⟨hm, hw_, hk_, ⟨it, hi_, hit⟩, hh_⟩ hW hH hc ((nI (f % W)) + 1) ((nI (f / W)) + 0)) cv_X6_57 hm rfl ⟨Nat.le_of_ble_eq_true rfl, Nat.le_of_ble_eq_true rfl⟩ rfl (Nat.le_of_ble_eq_true rfl) ?_
  by_cases hin : gr_ins (nI W) (nI H) ((nI (f % W)) + 1) ((nI (f / W)) + 0)
  · rw [show ms_b (gr_ins (nI W) (nI H) ((nI (f % W)) + 1) ((nI (f / W)) + 0)) = 1 from if_pos hin]
    refine ms_if_eq (tgt := 76) dX6_beside_61 (by decide) (fun h9 => absurd h9 (by decide)) (fun _ => ?_)
    refine ms_run (pc' := 67) (lv' := [(4, .int ((nI (f / W)) + 0)), (3, .int ((nI (f % W)) + 1)), (0, .ref m), (1, .int (nI f)), (2, .int 0)]) (st' := [.ref m, .int ((nI (f / W)) + 0)]) _ (ms_deC dX6_beside_64 (ms_deC dX6_beside_66 ms_deN)) rfl rfl ?_
    refine ms_getf dX6_beside_67 fg_X6_20 hm rfl ?_
    refine ms_run (pc' := 73) (lv' := [(4, .int ((nI (f / W)) + 0)), (3, .int ((nI (f % W)) + 1)), (0, .ref m), (1, .int (nI f)), (2, .int 0)]) (st' := [.int ((((nI (f / W)) + 0) * (nI W)) + ((nI (f % W)) + 1))]) _ (ms_deC dX6_beside_70 (ms_deC dX6_beside_71 (ms_deC dX6_beside_72 ms_deN))) rfl rfl ?_
    refine ms_goto (tgt := 77) dX6_beside_73 (by decide) ?_
    refine ms_reti (st := []) (ty := .int) dX6_beside_77 rfl rfl ?_
    exact ms_p1.mk (ms_int_eq (by unfold gr_num; rw [if_pos hin])) rfl
  · rw [show ms_b (gr_ins (nI W) (nI H) ((nI (f % W)) + 1) ((nI (f / W)) + 0)) = 0 from if_neg hin]
    refine ms_if_eq (tgt := 76) dX6_beside_61 (by decide) (fun _ => ?_) (fun h9 => absurd h9 (by decide))
    refine ms_run (pc' := 77) (lv' := [(4, .int ((nI (f / W)) + 0)), (3, .int ((nI (f % W)) + 1)), (0, .ref m), (1, .int (nI f)), (2, .int 0)]) (st' := [.int (-1)]) _ (ms_deC dX6_beside_76 ms_deN) rfl rfl ?_
    refine ms_reti (st := []) (ty := .int) dX6_beside_77 rfl rfl ?_
    exact ms_p1.mk (ms_int_eq (by unfold gr_num; rw [if_neg hin])) rfl
set_option maxHeartbeats 2000000 in
set_option maxRecDepth 20000 in
theorem c_X6_beside1 {n m aw am ai ah W H cnt : Nat} {G : ms_H} {th cl dr pa : Int32} {wl mm ht : Nat → Int32} {u : Nat → Nat → Int32} (hM : md_at G m aw am ai ah W H th cl dr pa cnt wl mm ht u) (hW : W ≤ 14) (hH : H ≤ 14) (hc : cnt ≤ 24) (hW0 : 0 < W) {f : Nat} (hf : f < 1000) : ms_M m_X6_beside [.ref m, .int (nI f), .int 1] n G 0 0 (ms_p1 (some (.int (gr_num (nI W) (nI H) (nI (f % W) + 0) (nI (f / W) + 1)))) n G) := by
  refine ms_M.of (by decide) (Nat.le_of_ble_eq_true rfl) ?_
  show ms_W false m_X6_beside _ 0 [(0, .ref m), (1, .int (nI f)), (2, .int 1)] [] n G 0 0
  obtain ⟨hm, hw_, hk_, ⟨it, hi_, hit⟩, hh_⟩ := hM
  refine ms_run (pc' := 2) (lv' := [(0, .ref m), (1, .int (nI f)), (2, .int 1)]) (st' := [.ref m, .int (nI f)]) _ (ms_deC dX6_beside_0 (ms_deC dX6_beside_1 ms_deN)) rfl rfl ?_
  refine ms_getf dX6_beside_2 fg_X6_20 hm rfl ?_
  refine ms_irem dX6_beside_5 (nI_ne0 hW0 (by omega)) ?_
  rw [nI_rem (a := f) (b := W) (by omega) (by omega)]
  refine ms_run (pc' := 7) (lv' := [(0, .ref m), (1, .int (nI f)), (2, .int 1)]) (st' := [.int 1, .int (nI (f % W))]) _ (ms_deC dX6_beside_6 ms_deN) rfl rfl ?_
  refine ms_if_ne (tgt := 14) dX6_beside_7 (by decide) (fun _ => ?_) (fun h9 => absurd h9 (by decide))
  refine ms_run (pc' := 16) (lv' := [(0, .ref m), (1, .int (nI f)), (2, .int 1)]) (st' := [.int 2, .int 1, .int (nI (f % W))]) _ (ms_deC dX6_beside_14 (ms_deC dX6_beside_15 ms_deN)) rfl rfl ?_
  refine ms_icmp_ne (tgt := 23) dX6_beside_16 (by decide) (fun _ => ?_) (fun h9 => absurd h9 (by decide))
  refine ms_run (pc' := 28) (lv' := [(3, .int ((nI (f % W)) + 0)), (0, .ref m), (1, .int (nI f)), (2, .int 1)]) (st' := [.ref m, .int (nI f)]) _ (ms_deC dX6_beside_23 (ms_deC dX6_beside_24 (ms_deC dX6_beside_25 (ms_deC dX6_beside_26 (ms_deC dX6_beside_27 ms_deN))))) rfl rfl ?_
  refine ms_getf dX6_beside_28 fg_X6_20 hm rfl ?_
  refine ms_idiv dX6_beside_31 (nI_ne0 hW0 (by omega)) ?_
  rw [nI_div (a := f) (b := W) (by omega) (by omega)]
  refine ms_run (pc' := 34) (lv' := [(3, .int ((nI (f % W)) + 0)), (0, .ref m), (1, .int (nI f)), (2, .int 1)]) (st' := [.int 1, .int 1, .int (nI (f / W))]) _ (ms_deC dX6_beside_32 (ms_deC dX6_beside_33 ms_deN)) rfl rfl ?_
  refine ms_icmp_ne (tgt := 41) dX6_beside_34 (by decide) (fun h9 => absurd h9 (by decide)) (fun _ => ?_)
  refine ms_run (pc' := 38) (lv' := [(3, .int ((nI (f % W)) + 0)), (0, .ref m), (1, .int (nI f)), (2, .int 1)]) (st' := [.int 1, .int (nI (f / W))]) _ (ms_deC dX6_beside_37 ms_deN) rfl rfl ?_
  refine ms_goto (tgt := 51) dX6_beside_38 (by decide) ?_
  refine ms_run (pc' := 58) (lv' := [(4, .int ((nI (f / W)) + 1)), (3, .int ((nI (f % W)) + 0)), (0, .ref m), (1, .int (nI f)), (2, .int 1)]) (st' := [.int ((nI (f / W)) + 1), .int ((nI (f % W)) + 0), .ref m]) _ (ms_deC dX6_beside_51 (ms_deC dX6_beside_52 (ms_deC dX6_beside_54 (ms_deC dX6_beside_55 (ms_deC dX6_beside_56 ms_deN))))) rfl rfl ?_
  refine ms_callVp (As := [.int ((nI (f % W)) + 0), .int ((nI (f / W)) + 1)]) dX6_beside_58 (c_X6_isField ⟨hm, hw_, hk_, ⟨it, hi_, hit⟩, hh_⟩ hW hH hc ((nI (f % W)) + 0) ((nI (f / W)) + 1)) cv_X6_57 hm rfl ⟨Nat.le_of_ble_eq_true rfl, Nat.le_of_ble_eq_true rfl⟩ rfl (Nat.le_of_ble_eq_true rfl) ?_
  by_cases hin : gr_ins (nI W) (nI H) ((nI (f % W)) + 0) ((nI (f / W)) + 1)
  · rw [show ms_b (gr_ins (nI W) (nI H) ((nI (f % W)) + 0) ((nI (f / W)) + 1)) = 1 from if_pos hin]
    refine ms_if_eq (tgt := 76) dX6_beside_61 (by decide) (fun h9 => absurd h9 (by decide)) (fun _ => ?_)
    refine ms_run (pc' := 67) (lv' := [(4, .int ((nI (f / W)) + 1)), (3, .int ((nI (f % W)) + 0)), (0, .ref m), (1, .int (nI f)), (2, .int 1)]) (st' := [.ref m, .int ((nI (f / W)) + 1)]) _ (ms_deC dX6_beside_64 (ms_deC dX6_beside_66 ms_deN)) rfl rfl ?_
    refine ms_getf dX6_beside_67 fg_X6_20 hm rfl ?_
    refine ms_run (pc' := 73) (lv' := [(4, .int ((nI (f / W)) + 1)), (3, .int ((nI (f % W)) + 0)), (0, .ref m), (1, .int (nI f)), (2, .int 1)]) (st' := [.int ((((nI (f / W)) + 1) * (nI W)) + ((nI (f % W)) + 0))]) _ (ms_deC dX6_beside_70 (ms_deC dX6_beside_71 (ms_deC dX6_beside_72 ms_deN))) rfl rfl ?_
    refine ms_goto (tgt := 77) dX6_beside_73 (by decide) ?_
    refine ms_reti (st := []) (ty := .int) dX6_beside_77 rfl rfl ?_
    exact ms_p1.mk (ms_int_eq (by unfold gr_num; rw [if_pos hin])) rfl
  · rw [show ms_b (gr_ins (nI W) (nI H) ((nI (f % W)) + 0) ((nI (f / W)) + 1)) = 0 from if_neg hin]
    refine ms_if_eq (tgt := 76) dX6_beside_61 (by decide) (fun _ => ?_) (fun h9 => absurd h9 (by decide))
    refine ms_run (pc' := 77) (lv' := [(4, .int ((nI (f / W)) + 1)), (3, .int ((nI (f % W)) + 0)), (0, .ref m), (1, .int (nI f)), (2, .int 1)]) (st' := [.int (-1)]) _ (ms_deC dX6_beside_76 ms_deN) rfl rfl ?_
    refine ms_reti (st := []) (ty := .int) dX6_beside_77 rfl rfl ?_
    exact ms_p1.mk (ms_int_eq (by unfold gr_num; rw [if_neg hin])) rfl
set_option maxHeartbeats 2000000 in
set_option maxRecDepth 20000 in
theorem c_X6_beside2 {n m aw am ai ah W H cnt : Nat} {G : ms_H} {th cl dr pa : Int32} {wl mm ht : Nat → Int32} {u : Nat → Nat → Int32} (hM : md_at G m aw am ai ah W H th cl dr pa cnt wl mm ht u) (hW : W ≤ 14) (hH : H ≤ 14) (hc : cnt ≤ 24) (hW0 : 0 < W) {f : Nat} (hf : f < 1000) : ms_M m_X6_beside [.ref m, .int (nI f), .int 2] n G 0 0 (ms_p1 (some (.int (gr_num (nI W) (nI H) (nI (f % W) + (-1)) (nI (f / W) + 0)))) n G) := by
  refine ms_M.of (by decide) (Nat.le_of_ble_eq_true rfl) ?_
  show ms_W false m_X6_beside _ 0 [(0, .ref m), (1, .int (nI f)), (2, .int 2)] [] n G 0 0
  obtain ⟨hm, hw_, hk_, ⟨it, hi_, hit⟩, hh_⟩ := hM
  refine ms_run (pc' := 2) (lv' := [(0, .ref m), (1, .int (nI f)), (2, .int 2)]) (st' := [.ref m, .int (nI f)]) _ (ms_deC dX6_beside_0 (ms_deC dX6_beside_1 ms_deN)) rfl rfl ?_
  refine ms_getf dX6_beside_2 fg_X6_20 hm rfl ?_
  refine ms_irem dX6_beside_5 (nI_ne0 hW0 (by omega)) ?_
  rw [nI_rem (a := f) (b := W) (by omega) (by omega)]
  refine ms_run (pc' := 7) (lv' := [(0, .ref m), (1, .int (nI f)), (2, .int 2)]) (st' := [.int 2, .int (nI (f % W))]) _ (ms_deC dX6_beside_6 ms_deN) rfl rfl ?_
  refine ms_if_ne (tgt := 14) dX6_beside_7 (by decide) (fun _ => ?_) (fun h9 => absurd h9 (by decide))
  refine ms_run (pc' := 16) (lv' := [(0, .ref m), (1, .int (nI f)), (2, .int 2)]) (st' := [.int 2, .int 2, .int (nI (f % W))]) _ (ms_deC dX6_beside_14 (ms_deC dX6_beside_15 ms_deN)) rfl rfl ?_
  refine ms_icmp_ne (tgt := 23) dX6_beside_16 (by decide) (fun h9 => absurd h9 (by decide)) (fun _ => ?_)
  refine ms_run (pc' := 20) (lv' := [(0, .ref m), (1, .int (nI f)), (2, .int 2)]) (st' := [.int (-1), .int (nI (f % W))]) _ (ms_deC dX6_beside_19 ms_deN) rfl rfl ?_
  refine ms_goto (tgt := 24) dX6_beside_20 (by decide) ?_
  refine ms_run (pc' := 28) (lv' := [(3, .int ((nI (f % W)) + (-1))), (0, .ref m), (1, .int (nI f)), (2, .int 2)]) (st' := [.ref m, .int (nI f)]) _ (ms_deC dX6_beside_24 (ms_deC dX6_beside_25 (ms_deC dX6_beside_26 (ms_deC dX6_beside_27 ms_deN)))) rfl rfl ?_
  refine ms_getf dX6_beside_28 fg_X6_20 hm rfl ?_
  refine ms_idiv dX6_beside_31 (nI_ne0 hW0 (by omega)) ?_
  rw [nI_div (a := f) (b := W) (by omega) (by omega)]
  refine ms_run (pc' := 34) (lv' := [(3, .int ((nI (f % W)) + (-1))), (0, .ref m), (1, .int (nI f)), (2, .int 2)]) (st' := [.int 1, .int 2, .int (nI (f / W))]) _ (ms_deC dX6_beside_32 (ms_deC dX6_beside_33 ms_deN)) rfl rfl ?_
  refine ms_icmp_ne (tgt := 41) dX6_beside_34 (by decide) (fun _ => ?_) (fun h9 => absurd h9 (by decide))
  refine ms_run (pc' := 43) (lv' := [(3, .int ((nI (f % W)) + (-1))), (0, .ref m), (1, .int (nI f)), (2, .int 2)]) (st' := [.int 3, .int 2, .int (nI (f / W))]) _ (ms_deC dX6_beside_41 (ms_deC dX6_beside_42 ms_deN)) rfl rfl ?_
  refine ms_icmp_ne (tgt := 50) dX6_beside_43 (by decide) (fun _ => ?_) (fun h9 => absurd h9 (by decide))
  refine ms_run (pc' := 58) (lv' := [(4, .int ((nI (f / W)) + 0)), (3, .int ((nI (f % W)) + (-1))), (0, .ref m), (1, .int (nI f)), (2, .int 2)]) (st' := [.int ((nI (f / W)) + 0), .int ((nI (f % W)) + (-1)), .ref m]) _ (ms_deC dX6_beside_50 (ms_deC dX6_beside_51 (ms_deC dX6_beside_52 (ms_deC dX6_beside_54 (ms_deC dX6_beside_55 (ms_deC dX6_beside_56 ms_deN)))))) rfl rfl ?_
  refine ms_callVp (As := [.int ((nI (f % W)) + (-1)), .int ((nI (f / W)) + 0)]) dX6_beside_58 (c_X6_isField ⟨hm, hw_, hk_, ⟨it, hi_, hit⟩, hh_⟩ hW hH hc ((nI (f % W)) + (-1)) ((nI (f / W)) + 0)) cv_X6_57 hm rfl ⟨Nat.le_of_ble_eq_true rfl, Nat.le_of_ble_eq_true rfl⟩ rfl (Nat.le_of_ble_eq_true rfl) ?_
  by_cases hin : gr_ins (nI W) (nI H) ((nI (f % W)) + (-1)) ((nI (f / W)) + 0)
  · rw [show ms_b (gr_ins (nI W) (nI H) ((nI (f % W)) + (-1)) ((nI (f / W)) + 0)) = 1 from if_pos hin]
    refine ms_if_eq (tgt := 76) dX6_beside_61 (by decide) (fun h9 => absurd h9 (by decide)) (fun _ => ?_)
    refine ms_run (pc' := 67) (lv' := [(4, .int ((nI (f / W)) + 0)), (3, .int ((nI (f % W)) + (-1))), (0, .ref m), (1, .int (nI f)), (2, .int 2)]) (st' := [.ref m, .int ((nI (f / W)) + 0)]) _ (ms_deC dX6_beside_64 (ms_deC dX6_beside_66 ms_deN)) rfl rfl ?_
    refine ms_getf dX6_beside_67 fg_X6_20 hm rfl ?_
    refine ms_run (pc' := 73) (lv' := [(4, .int ((nI (f / W)) + 0)), (3, .int ((nI (f % W)) + (-1))), (0, .ref m), (1, .int (nI f)), (2, .int 2)]) (st' := [.int ((((nI (f / W)) + 0) * (nI W)) + ((nI (f % W)) + (-1)))]) _ (ms_deC dX6_beside_70 (ms_deC dX6_beside_71 (ms_deC dX6_beside_72 ms_deN))) rfl rfl ?_
    refine ms_goto (tgt := 77) dX6_beside_73 (by decide) ?_
    refine ms_reti (st := []) (ty := .int) dX6_beside_77 rfl rfl ?_
    exact ms_p1.mk (ms_int_eq (by unfold gr_num; rw [if_pos hin])) rfl
  · rw [show ms_b (gr_ins (nI W) (nI H) ((nI (f % W)) + (-1)) ((nI (f / W)) + 0)) = 0 from if_neg hin]
    refine ms_if_eq (tgt := 76) dX6_beside_61 (by decide) (fun _ => ?_) (fun h9 => absurd h9 (by decide))
    refine ms_run (pc' := 77) (lv' := [(4, .int ((nI (f / W)) + 0)), (3, .int ((nI (f % W)) + (-1))), (0, .ref m), (1, .int (nI f)), (2, .int 2)]) (st' := [.int (-1)]) _ (ms_deC dX6_beside_76 ms_deN) rfl rfl ?_
    refine ms_reti (st := []) (ty := .int) dX6_beside_77 rfl rfl ?_
    exact ms_p1.mk (ms_int_eq (by unfold gr_num; rw [if_neg hin])) rfl
set_option maxHeartbeats 2000000 in
set_option maxRecDepth 20000 in
theorem c_X6_beside3 {n m aw am ai ah W H cnt : Nat} {G : ms_H} {th cl dr pa : Int32} {wl mm ht : Nat → Int32} {u : Nat → Nat → Int32} (hM : md_at G m aw am ai ah W H th cl dr pa cnt wl mm ht u) (hW : W ≤ 14) (hH : H ≤ 14) (hc : cnt ≤ 24) (hW0 : 0 < W) {f : Nat} (hf : f < 1000) : ms_M m_X6_beside [.ref m, .int (nI f), .int 3] n G 0 0 (ms_p1 (some (.int (gr_num (nI W) (nI H) (nI (f % W) + 0) (nI (f / W) + (-1))))) n G) := by
  refine ms_M.of (by decide) (Nat.le_of_ble_eq_true rfl) ?_
  show ms_W false m_X6_beside _ 0 [(0, .ref m), (1, .int (nI f)), (2, .int 3)] [] n G 0 0
  obtain ⟨hm, hw_, hk_, ⟨it, hi_, hit⟩, hh_⟩ := hM
  refine ms_run (pc' := 2) (lv' := [(0, .ref m), (1, .int (nI f)), (2, .int 3)]) (st' := [.ref m, .int (nI f)]) _ (ms_deC dX6_beside_0 (ms_deC dX6_beside_1 ms_deN)) rfl rfl ?_
  refine ms_getf dX6_beside_2 fg_X6_20 hm rfl ?_
  refine ms_irem dX6_beside_5 (nI_ne0 hW0 (by omega)) ?_
  rw [nI_rem (a := f) (b := W) (by omega) (by omega)]
  refine ms_run (pc' := 7) (lv' := [(0, .ref m), (1, .int (nI f)), (2, .int 3)]) (st' := [.int 3, .int (nI (f % W))]) _ (ms_deC dX6_beside_6 ms_deN) rfl rfl ?_
  refine ms_if_ne (tgt := 14) dX6_beside_7 (by decide) (fun _ => ?_) (fun h9 => absurd h9 (by decide))
  refine ms_run (pc' := 16) (lv' := [(0, .ref m), (1, .int (nI f)), (2, .int 3)]) (st' := [.int 2, .int 3, .int (nI (f % W))]) _ (ms_deC dX6_beside_14 (ms_deC dX6_beside_15 ms_deN)) rfl rfl ?_
  refine ms_icmp_ne (tgt := 23) dX6_beside_16 (by decide) (fun _ => ?_) (fun h9 => absurd h9 (by decide))
  refine ms_run (pc' := 28) (lv' := [(3, .int ((nI (f % W)) + 0)), (0, .ref m), (1, .int (nI f)), (2, .int 3)]) (st' := [.ref m, .int (nI f)]) _ (ms_deC dX6_beside_23 (ms_deC dX6_beside_24 (ms_deC dX6_beside_25 (ms_deC dX6_beside_26 (ms_deC dX6_beside_27 ms_deN))))) rfl rfl ?_
  refine ms_getf dX6_beside_28 fg_X6_20 hm rfl ?_
  refine ms_idiv dX6_beside_31 (nI_ne0 hW0 (by omega)) ?_
  rw [nI_div (a := f) (b := W) (by omega) (by omega)]
  refine ms_run (pc' := 34) (lv' := [(3, .int ((nI (f % W)) + 0)), (0, .ref m), (1, .int (nI f)), (2, .int 3)]) (st' := [.int 1, .int 3, .int (nI (f / W))]) _ (ms_deC dX6_beside_32 (ms_deC dX6_beside_33 ms_deN)) rfl rfl ?_
  refine ms_icmp_ne (tgt := 41) dX6_beside_34 (by decide) (fun _ => ?_) (fun h9 => absurd h9 (by decide))
  refine ms_run (pc' := 43) (lv' := [(3, .int ((nI (f % W)) + 0)), (0, .ref m), (1, .int (nI f)), (2, .int 3)]) (st' := [.int 3, .int 3, .int (nI (f / W))]) _ (ms_deC dX6_beside_41 (ms_deC dX6_beside_42 ms_deN)) rfl rfl ?_
  refine ms_icmp_ne (tgt := 50) dX6_beside_43 (by decide) (fun h9 => absurd h9 (by decide)) (fun _ => ?_)
  refine ms_run (pc' := 47) (lv' := [(3, .int ((nI (f % W)) + 0)), (0, .ref m), (1, .int (nI f)), (2, .int 3)]) (st' := [.int (-1), .int (nI (f / W))]) _ (ms_deC dX6_beside_46 ms_deN) rfl rfl ?_
  refine ms_goto (tgt := 51) dX6_beside_47 (by decide) ?_
  refine ms_run (pc' := 58) (lv' := [(4, .int ((nI (f / W)) + (-1))), (3, .int ((nI (f % W)) + 0)), (0, .ref m), (1, .int (nI f)), (2, .int 3)]) (st' := [.int ((nI (f / W)) + (-1)), .int ((nI (f % W)) + 0), .ref m]) _ (ms_deC dX6_beside_51 (ms_deC dX6_beside_52 (ms_deC dX6_beside_54 (ms_deC dX6_beside_55 (ms_deC dX6_beside_56 ms_deN))))) rfl rfl ?_
  refine ms_callVp (As := [.int ((nI (f % W)) + 0), .int ((nI (f / W)) + (-1))]) dX6_beside_58 (c_X6_isField ⟨hm, hw_, hk_, ⟨it, hi_, hit⟩, hh_⟩ hW hH hc ((nI (f % W)) + 0) ((nI (f / W)) + (-1))) cv_X6_57 hm rfl ⟨Nat.le_of_ble_eq_true rfl, Nat.le_of_ble_eq_true rfl⟩ rfl (Nat.le_of_ble_eq_true rfl) ?_
  by_cases hin : gr_ins (nI W) (nI H) ((nI (f % W)) + 0) ((nI (f / W)) + (-1))
  · rw [show ms_b (gr_ins (nI W) (nI H) ((nI (f % W)) + 0) ((nI (f / W)) + (-1))) = 1 from if_pos hin]
    refine ms_if_eq (tgt := 76) dX6_beside_61 (by decide) (fun h9 => absurd h9 (by decide)) (fun _ => ?_)
    refine ms_run (pc' := 67) (lv' := [(4, .int ((nI (f / W)) + (-1))), (3, .int ((nI (f % W)) + 0)), (0, .ref m), (1, .int (nI f)), (2, .int 3)]) (st' := [.ref m, .int ((nI (f / W)) + (-1))]) _ (ms_deC dX6_beside_64 (ms_deC dX6_beside_66 ms_deN)) rfl rfl ?_
    refine ms_getf dX6_beside_67 fg_X6_20 hm rfl ?_
    refine ms_run (pc' := 73) (lv' := [(4, .int ((nI (f / W)) + (-1))), (3, .int ((nI (f % W)) + 0)), (0, .ref m), (1, .int (nI f)), (2, .int 3)]) (st' := [.int ((((nI (f / W)) + (-1)) * (nI W)) + ((nI (f % W)) + 0))]) _ (ms_deC dX6_beside_70 (ms_deC dX6_beside_71 (ms_deC dX6_beside_72 ms_deN))) rfl rfl ?_
    refine ms_goto (tgt := 77) dX6_beside_73 (by decide) ?_
    refine ms_reti (st := []) (ty := .int) dX6_beside_77 rfl rfl ?_
    exact ms_p1.mk (ms_int_eq (by unfold gr_num; rw [if_pos hin])) rfl
  · rw [show ms_b (gr_ins (nI W) (nI H) ((nI (f % W)) + 0) ((nI (f / W)) + (-1))) = 0 from if_neg hin]
    refine ms_if_eq (tgt := 76) dX6_beside_61 (by decide) (fun _ => ?_) (fun h9 => absurd h9 (by decide))
    refine ms_run (pc' := 77) (lv' := [(4, .int ((nI (f / W)) + (-1))), (3, .int ((nI (f % W)) + 0)), (0, .ref m), (1, .int (nI f)), (2, .int 3)]) (st' := [.int (-1)]) _ (ms_deC dX6_beside_76 ms_deN) rfl rfl ?_
    refine ms_reti (st := []) (ty := .int) dX6_beside_77 rfl rfl ?_
    exact ms_p1.mk (ms_int_eq (by unfold gr_num; rw [if_neg hin])) rfl

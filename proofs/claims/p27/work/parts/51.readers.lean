/-! Flock: isOn, walls, isFree, sides, areNear, round -/
set_option maxHeartbeats 2000000 in
set_option maxRecDepth 20000 in
theorem c_X6_sideX {n : Nat} {G : ms_H} (s : Int32) : ms_M m_X6_sideX [.int s] n G 0 0 (ms_p1 (some (.int (fsx s))) n G) := by
  refine ms_M.of (by decide) (Nat.le_of_ble_eq_true rfl) ?_
  show ms_W false m_X6_sideX _ 0 [(0, .int s)] [] n G 0 0
  refine ms_run (pc' := 1) (lv' := [(0, .int s)]) (st' := [.int s]) _ (ms_deC dX6_sideX_0 ms_deN) rfl rfl ?_
  refine ms_if_ne (tgt := 8) dX6_sideX_1 (by decide) (fun h_1 => ?_) (fun h_1 => ?_)
  · skip
    refine ms_run (pc' := 10) (lv' := [(0, .int s)]) (st' := [.int 2, .int s]) _ (ms_deC dX6_sideX_8 (ms_deC dX6_sideX_9 ms_deN)) rfl rfl ?_
    refine ms_icmp_ne (tgt := 17) dX6_sideX_10 (by decide) (fun h_10 => ?_) (fun h_10 => ?_)
    · skip
      refine ms_run (pc' := 18) (lv' := [(0, .int s)]) (st' := [.int 0]) _ (ms_deC dX6_sideX_17 ms_deN) rfl rfl ?_
      refine ms_reti (st := []) (ty := .int) dX6_sideX_18 rfl rfl ?_
      exact ms_p1.mk (ms_int_eq (by unfold fsx; grind)) rfl
    · skip
      refine ms_run (pc' := 14) (lv' := [(0, .int s)]) (st' := [.int (-1)]) _ (ms_deC dX6_sideX_13 ms_deN) rfl rfl ?_
      refine ms_goto (tgt := 18) dX6_sideX_14 (by decide) ?_
      refine ms_reti (st := []) (ty := .int) dX6_sideX_18 rfl rfl ?_
      exact ms_p1.mk (ms_int_eq (by unfold fsx; grind)) rfl
  · skip
    refine ms_run (pc' := 5) (lv' := [(0, .int s)]) (st' := [.int 1]) _ (ms_deC dX6_sideX_4 ms_deN) rfl rfl ?_
    refine ms_goto (tgt := 18) dX6_sideX_5 (by decide) ?_
    refine ms_reti (st := []) (ty := .int) dX6_sideX_18 rfl rfl ?_
    exact ms_p1.mk (ms_int_eq (by unfold fsx; grind)) rfl
set_option maxHeartbeats 2000000 in
set_option maxRecDepth 20000 in
theorem c_X6_sideY {n : Nat} {G : ms_H} (s : Int32) : ms_M m_X6_sideY [.int s] n G 0 0 (ms_p1 (some (.int (fsy s))) n G) := by
  refine ms_M.of (by decide) (Nat.le_of_ble_eq_true rfl) ?_
  show ms_W false m_X6_sideY _ 0 [(0, .int s)] [] n G 0 0
  refine ms_run (pc' := 2) (lv' := [(0, .int s)]) (st' := [.int 1, .int s]) _ (ms_deC dX6_sideY_0 (ms_deC dX6_sideY_1 ms_deN)) rfl rfl ?_
  refine ms_icmp_ne (tgt := 9) dX6_sideY_2 (by decide) (fun h_2 => ?_) (fun h_2 => ?_)
  · skip
    refine ms_run (pc' := 11) (lv' := [(0, .int s)]) (st' := [.int 3, .int s]) _ (ms_deC dX6_sideY_9 (ms_deC dX6_sideY_10 ms_deN)) rfl rfl ?_
    refine ms_icmp_ne (tgt := 18) dX6_sideY_11 (by decide) (fun h_11 => ?_) (fun h_11 => ?_)
    · skip
      refine ms_run (pc' := 19) (lv' := [(0, .int s)]) (st' := [.int 0]) _ (ms_deC dX6_sideY_18 ms_deN) rfl rfl ?_
      refine ms_reti (st := []) (ty := .int) dX6_sideY_19 rfl rfl ?_
      exact ms_p1.mk (ms_int_eq (by unfold fsy; grind)) rfl
    · skip
      refine ms_run (pc' := 15) (lv' := [(0, .int s)]) (st' := [.int (-1)]) _ (ms_deC dX6_sideY_14 ms_deN) rfl rfl ?_
      refine ms_goto (tgt := 19) dX6_sideY_15 (by decide) ?_
      refine ms_reti (st := []) (ty := .int) dX6_sideY_19 rfl rfl ?_
      exact ms_p1.mk (ms_int_eq (by unfold fsy; grind)) rfl
  · skip
    refine ms_run (pc' := 6) (lv' := [(0, .int s)]) (st' := [.int 1]) _ (ms_deC dX6_sideY_5 ms_deN) rfl rfl ?_
    refine ms_goto (tgt := 19) dX6_sideY_6 (by decide) ?_
    refine ms_reti (st := []) (ty := .int) dX6_sideY_19 rfl rfl ?_
    exact ms_p1.mk (ms_int_eq (by unfold fsy; grind)) rfl
set_option maxHeartbeats 1000000 in
set_option maxRecDepth 20000 in
theorem l_X6_isOn {n o x sb fa wa W H cnt : Nat} {G : ms_H} {dw cl dr pa : Int32} {wr : Nat → Nat} {fv u : Nat → Nat → Int32} (hM : fk_at G o x sb dw W H cl dr pa fa wa cnt wr fv u) (hW : W ≤ 14) (hH : H ≤ 14) (hc : cnt ≤ 24) {on : Nat → Int32} (hon : onV (W * H) cnt u on) (hv : hvX (nI (W * H)) cnt u) {a b : Nat} (ha : a < W) (hb : b < H) : ∀ (r k : Nat), k + r = cnt → (∀ j, j < k → ¬ u j 3 = nI (b * W + a)) → ms_W false m_X6_isOn (ms_p1 (some (.int (ms_b (¬ on (b * W + a) = -1)))) n G) 12 [(0, .ref o), (1, .int (nI a)), (2, .int (nI b)), (3, .ref wa), (4, .int (nI cnt)), (5, .int (nI k))] [] n G 0 0 := by
  have h9 : W * H ≤ 196 := Nat.mul_le_mul hW hH
  intro r
  induction r with
  | zero =>
    intro k hk hno
    have hkN : k = cnt := by omega
    refine ms_run (pc' := 16) (lv' := [(0, .ref o), (1, .int (nI a)), (2, .int (nI b)), (3, .ref wa), (4, .int (nI cnt)), (5, .int (nI k))]) (st' := [.int (nI cnt), .int (nI k)]) _ (ms_deC dX6_isOn_12 (ms_deC dX6_isOn_14 ms_deN)) rfl rfl ?_
    refine ms_icmp_ge (tgt := 53) dX6_isOn_16 (by decide) (fun h_16 => ?_) (fun h_16 => ?_)
    · skip
      refine ms_run (pc' := 54) (lv' := [(0, .ref o), (1, .int (nI a)), (2, .int (nI b)), (3, .ref wa), (4, .int (nI cnt)), (5, .int (nI k))]) (st' := [.int 0]) _ (ms_deC dX6_isOn_53 ms_deN) rfl rfl ?_
      refine ms_reti (st := []) (ty := .boolean) dX6_isOn_54 rfl rfl ?_
      exact ms_p1.mk (ms_int_eq (if_neg (fun z => z (hon.miss (fij ha hb) (fun j hj => hno j (by omega))))).symm) rfl
    · skip
      exact absurd (by exact nI_le (b := k) (by omega) (by omega)) h_16
  | succ r ih =>
    intro k hk hno
    have hlt : k < cnt := by omega
    refine ms_run (pc' := 16) (lv' := [(0, .ref o), (1, .int (nI a)), (2, .int (nI b)), (3, .ref wa), (4, .int (nI cnt)), (5, .int (nI k))]) (st' := [.int (nI cnt), .int (nI k)]) _ (ms_deC dX6_isOn_12 (ms_deC dX6_isOn_14 ms_deN)) rfl rfl ?_
    refine ms_icmp_ge (tgt := 53) dX6_isOn_16 (by decide) (fun h_16 => ?_) (fun h_16 => ?_)
    · skip
      exact absurd h_16 (by exact nI_ge (b := cnt) (by omega) (by omega))
    · skip
      refine ms_run (pc' := 22) (lv' := [(0, .ref o), (1, .int (nI a)), (2, .int (nI b)), (3, .ref wa), (4, .int (nI cnt)), (5, .int (nI k))]) (st' := [.int (nI k), .ref wa]) _ (ms_deC dX6_isOn_19 (ms_deC dX6_isOn_20 ms_deN)) rfl rfl ?_
      refine fk_ldW (i := k) dX6_isOn_22 hM.2.2 (by first | assumption | omega) hc ?_
      refine ms_run (pc' := 28) (lv' := [(6, .ref (wr k)), (0, .ref o), (1, .int (nI a)), (2, .int (nI b)), (3, .ref wa), (4, .int (nI cnt)), (5, .int (nI k))]) (st' := [.int 3, .ref (wr k)]) _ (ms_deC dX6_isOn_23 (ms_deC dX6_isOn_25 (ms_deC dX6_isOn_27 ms_deN))) rfl rfl ?_
      refine fk_ldR (c := 3) dX6_isOn_28 hM.2.2 (by first | assumption | omega) (by decide) rfl ?_
      refine ms_run (pc' := 30) (lv' := [(6, .ref (wr k)), (0, .ref o), (1, .int (nI a)), (2, .int (nI b)), (3, .ref wa), (4, .int (nI cnt)), (5, .int (nI k))]) (st' := [.int (nI a), .int (xX W (u k 3))]) _ (ms_deC dX6_isOn_29 ms_deN) rfl rfl ?_
      refine ms_icmp_ne (tgt := 47) dX6_isOn_30 (by decide) (fun h_30 => ?_) (fun h_30 => ?_)
      · skip
        refine ms_run (pc' := 50) (lv' := [(5, .int ((nI k) + 1)), (6, .ref (wr k)), (0, .ref o), (1, .int (nI a)), (2, .int (nI b)), (3, .ref wa), (4, .int (nI cnt))]) (st' := []) _ (ms_deC dX6_isOn_47 ms_deN) rfl rfl ?_
        refine ms_goto (tgt := 12) dX6_isOn_50 (by decide) ?_
        rw [nI_1 k]
        refine ms_W.sub (lv2 := [(0, _), (1, _), (2, _), (3, _), (4, _), (5, _)]) ?_ [2, 3, 4, 5, 6, 0] rfl
        refine ih (k + 1) (by omega) (fun j hj => ?_)
        rcases Nat.lt_succ_iff_lt_or_eq.mp hj with h8 | h8
        · exact hno j h8
        · subst h8
          intro h7
          have h6 := (xy_at hW hH hv hlt ha hb).mpr h7
          first | exact h_30 h6.1 | exact h_38 h6.2
      · skip
        refine ms_run (pc' := 36) (lv' := [(6, .ref (wr k)), (0, .ref o), (1, .int (nI a)), (2, .int (nI b)), (3, .ref wa), (4, .int (nI cnt)), (5, .int (nI k))]) (st' := [.int 4, .ref (wr k)]) _ (ms_deC dX6_isOn_33 (ms_deC dX6_isOn_35 ms_deN)) rfl rfl ?_
        refine fk_ldR (c := 4) dX6_isOn_36 hM.2.2 (by first | assumption | omega) (by decide) rfl ?_
        refine ms_run (pc' := 38) (lv' := [(6, .ref (wr k)), (0, .ref o), (1, .int (nI a)), (2, .int (nI b)), (3, .ref wa), (4, .int (nI cnt)), (5, .int (nI k))]) (st' := [.int (nI b), .int (yX W (u k 3))]) _ (ms_deC dX6_isOn_37 ms_deN) rfl rfl ?_
        refine ms_icmp_ne (tgt := 47) dX6_isOn_38 (by decide) (fun h_38 => ?_) (fun h_38 => ?_)
        · skip
          refine ms_run (pc' := 50) (lv' := [(5, .int ((nI k) + 1)), (6, .ref (wr k)), (0, .ref o), (1, .int (nI a)), (2, .int (nI b)), (3, .ref wa), (4, .int (nI cnt))]) (st' := []) _ (ms_deC dX6_isOn_47 ms_deN) rfl rfl ?_
          refine ms_goto (tgt := 12) dX6_isOn_50 (by decide) ?_
          rw [nI_1 k]
          refine ms_W.sub (lv2 := [(0, _), (1, _), (2, _), (3, _), (4, _), (5, _)]) ?_ [2, 3, 4, 5, 6, 0] rfl
          refine ih (k + 1) (by omega) (fun j hj => ?_)
          rcases Nat.lt_succ_iff_lt_or_eq.mp hj with h8 | h8
          · exact hno j h8
          · subst h8
            intro h7
            have h6 := (xy_at hW hH hv hlt ha hb).mpr h7
            first | exact h_30 h6.1 | exact h_38 h6.2
        · skip
          refine ms_run (pc' := 42) (lv' := [(6, .ref (wr k)), (0, .ref o), (1, .int (nI a)), (2, .int (nI b)), (3, .ref wa), (4, .int (nI cnt)), (5, .int (nI k))]) (st' := [.int (nI a)]) _ (ms_deC dX6_isOn_41 ms_deN) rfl rfl ?_
          refine ms_if_lt (tgt := 47) dX6_isOn_42 (by decide) (fun h_42 => ?_) (fun h_42 => ?_)
          · skip
            exact absurd h_42 (nI_pos (by omega))
          · skip
            refine ms_run (pc' := 46) (lv' := [(6, .ref (wr k)), (0, .ref o), (1, .int (nI a)), (2, .int (nI b)), (3, .ref wa), (4, .int (nI cnt)), (5, .int (nI k))]) (st' := [.int 1]) _ (ms_deC dX6_isOn_45 ms_deN) rfl rfl ?_
            refine ms_reti (st := []) (ty := .boolean) dX6_isOn_46 rfl rfl ?_
            have h7 := (xy_at hW hH hv hlt ha hb).mp ⟨h_30, h_38⟩
            exact ms_p1.mk (ms_int_eq (if_pos (by rw [hon.hit (fij ha hb) hlt h7]; exact nI_m1 (by omega))).symm) rfl
set_option maxHeartbeats 1000000 in
set_option maxRecDepth 20000 in
theorem c_X6_isOn {n o x sb fa wa W H cnt : Nat} {G : ms_H} {dw cl dr pa : Int32} {wr : Nat → Nat} {fv u : Nat → Nat → Int32} (hM : fk_at G o x sb dw W H cl dr pa fa wa cnt wr fv u) (hW : W ≤ 14) (hH : H ≤ 14) (hc : cnt ≤ 24) {on : Nat → Int32} (hon : onV (W * H) cnt u on) (hv : hvX (nI (W * H)) cnt u) {a b : Nat} (ha : a < W) (hb : b < H) : ms_M m_X6_isOn [.ref o, .int (nI a), .int (nI b)] n G 0 0 (ms_p1 (some (.int (ms_b (¬ on (b * W + a) = -1)))) n G) := by
  refine ms_M.of (by decide) (Nat.le_of_ble_eq_true rfl) ?_
  show ms_W false m_X6_isOn _ 0 [(0, .ref o), (1, .int (nI a)), (2, .int (nI b))] [] n G 0 0
  refine ms_run (pc' := 1) (lv' := [(0, .ref o), (1, .int (nI a)), (2, .int (nI b))]) (st' := [.ref o]) _ (ms_deC dX6_isOn_0 ms_deN) rfl rfl ?_
  refine ms_getf dX6_isOn_1 fg_X6_36 hM.1 rfl ?_
  refine ms_run (pc' := 6) (lv' := [(3, .ref wa), (0, .ref o), (1, .int (nI a)), (2, .int (nI b))]) (st' := [.ref wa]) _ (ms_deC dX6_isOn_4 (ms_deC dX6_isOn_5 ms_deN)) rfl rfl ?_
  refine fk_len dX6_isOn_6 hM.2.2 ?_
  refine ms_run (pc' := 12) (lv' := [(5, .int 0), (4, .int (nI cnt)), (3, .ref wa), (0, .ref o), (1, .int (nI a)), (2, .int (nI b))]) (st' := []) _ (ms_deC dX6_isOn_7 (ms_deC dX6_isOn_9 (ms_deC dX6_isOn_10 ms_deN))) rfl rfl ?_
  refine ms_W.sub (lv2 := [(0, _), (1, _), (2, _), (3, _), (4, _), (5, _)]) ?_ [3, 4, 5, 2, 1, 0] rfl
  exact l_X6_isOn hM hW hH hc hon hv ha hb cnt 0 (by omega) (fun j hj => absurd hj (Nat.not_lt_zero j))
set_option maxHeartbeats 1000000 in
set_option maxRecDepth 20000 in
theorem c_X6_isFree {n o x sb fa wa W H cnt : Nat} {G : ms_H} {dw cl dr pa : Int32} {wr : Nat → Nat} {fv u : Nat → Nat → Int32} (hM : fk_at G o x sb dw W H cl dr pa fa wa cnt wr fv u) (hW : W ≤ 14) (hH : H ≤ 14) (hc : cnt ≤ 24) {a b : Nat} (ha : a < W) (hb : b < H) : ms_M m_X6_isFree [.ref o, .int (nI a), .int (nI b)] n G 0 0 (ms_p1 (some (.int (ms_b (fv (b * W + a) 0 = 0)))) n G) := by
  refine ms_M.of (by decide) (Nat.le_of_ble_eq_true rfl) ?_
  show ms_W false m_X6_isFree _ 0 [(0, .ref o), (1, .int (nI a)), (2, .int (nI b))] [] n G 0 0
  refine ms_run (pc' := 1) (lv' := [(0, .ref o), (1, .int (nI a)), (2, .int (nI b))]) (st' := [.int (nI a)]) _ (ms_deC dX6_isFree_0 ms_deN) rfl rfl ?_
  refine ms_if_lt (tgt := 41) dX6_isFree_1 (by decide) (fun h_1 => ?_) (fun h_1 => ?_)
  · skip
    exact absurd h_1 (nI_pos (by omega))
  · skip
    refine ms_run (pc' := 6) (lv' := [(0, .ref o), (1, .int (nI a)), (2, .int (nI b))]) (st' := [.ref o, .int (nI a)]) _ (ms_deC dX6_isFree_4 (ms_deC dX6_isFree_5 ms_deN)) rfl rfl ?_
    refine ms_getf dX6_isFree_6 fg_X6_16 hM.1 rfl ?_
    refine ms_icmp_ge (tgt := 41) dX6_isFree_9 (by decide) (fun h_9 => ?_) (fun h_9 => ?_)
    · skip
      exact absurd h_9 (nI_ge ha (by omega))
    · skip
      refine ms_run (pc' := 13) (lv' := [(0, .ref o), (1, .int (nI a)), (2, .int (nI b))]) (st' := [.int (nI b)]) _ (ms_deC dX6_isFree_12 ms_deN) rfl rfl ?_
      refine ms_if_lt (tgt := 41) dX6_isFree_13 (by decide) (fun h_13 => ?_) (fun h_13 => ?_)
      · skip
        exact absurd h_13 (nI_pos (by omega))
      · skip
        refine ms_run (pc' := 18) (lv' := [(0, .ref o), (1, .int (nI a)), (2, .int (nI b))]) (st' := [.ref o, .int (nI b)]) _ (ms_deC dX6_isFree_16 (ms_deC dX6_isFree_17 ms_deN)) rfl rfl ?_
        refine ms_getf dX6_isFree_18 fg_X6_20 hM.1 rfl ?_
        refine ms_icmp_ge (tgt := 41) dX6_isFree_21 (by decide) (fun h_21 => ?_) (fun h_21 => ?_)
        · skip
          exact absurd h_21 (nI_ge hb (by omega))
        · skip
          refine ms_run (pc' := 25) (lv' := [(0, .ref o), (1, .int (nI a)), (2, .int (nI b))]) (st' := [.ref o]) _ (ms_deC dX6_isFree_24 ms_deN) rfl rfl ?_
          refine ms_getf dX6_isFree_25 fg_X6_31 hM.1 rfl ?_
          refine ms_run (pc' := 29) (lv' := [(0, .ref o), (1, .int (nI a)), (2, .int (nI b))]) (st' := [.int (nI a), .ref fa]) _ (ms_deC dX6_isFree_28 ms_deN) rfl rfl ?_
          refine fk_ldA (i := a) dX6_isFree_29 hM.2.1 (by first | assumption | omega) hW ?_
          refine ms_run (pc' := 31) (lv' := [(0, .ref o), (1, .int (nI a)), (2, .int (nI b))]) (st' := [.int (nI b), .ref (mn_ad fa H a)]) _ (ms_deC dX6_isFree_30 ms_deN) rfl rfl ?_
          refine fk_ldB (j := b) dX6_isFree_31 hM.2.1 (by first | assumption | omega) (by first | assumption | omega) hH ?_
          refine ms_run (pc' := 33) (lv' := [(0, .ref o), (1, .int (nI a)), (2, .int (nI b))]) (st' := [.int 0, .ref (mn_ad fa H a + 1 + b)]) _ (ms_deC dX6_isFree_32 ms_deN) rfl rfl ?_
          refine fk_ldC (c := 0) dX6_isFree_33 hM.2.1 (by first | assumption | omega) (by first | assumption | omega) (by decide) rfl ?_
          refine ms_if_ne (tgt := 41) dX6_isFree_34 (by decide) (fun h_34 => ?_) (fun h_34 => ?_)
          · skip
            refine ms_run (pc' := 42) (lv' := [(0, .ref o), (1, .int (nI a)), (2, .int (nI b))]) (st' := [.int 0]) _ (ms_deC dX6_isFree_41 ms_deN) rfl rfl ?_
            refine ms_reti (st := []) (ty := .boolean) dX6_isFree_42 rfl rfl ?_
            exact ms_p1.mk (ms_int_eq (if_neg h_34).symm) rfl
          · skip
            refine ms_run (pc' := 38) (lv' := [(0, .ref o), (1, .int (nI a)), (2, .int (nI b))]) (st' := [.int 1]) _ (ms_deC dX6_isFree_37 ms_deN) rfl rfl ?_
            refine ms_goto (tgt := 42) dX6_isFree_38 (by decide) ?_
            refine ms_reti (st := []) (ty := .boolean) dX6_isFree_42 rfl rfl ?_
            exact ms_p1.mk (ms_int_eq (if_pos h_34).symm) rfl
set_option maxHeartbeats 1000000 in
set_option maxRecDepth 20000 in
theorem c_X6_isFreeO {n o x sb fa wa W H cnt : Nat} {G : ms_H} {dw cl dr pa : Int32} {wr : Nat → Nat} {fv u : Nat → Nat → Int32} (hM : fk_at G o x sb dw W H cl dr pa fa wa cnt wr fv u) (hW : W ≤ 14) (hH : H ≤ 14) (hc : cnt ≤ 24) {p q : Int32} (hni : ¬ gr_ins (nI W) (nI H) p q) : ms_M m_X6_isFree [.ref o, .int p, .int q] n G 0 0 (ms_p1 (some (.int 0)) n G) := by
  refine ms_M.of (by decide) (Nat.le_of_ble_eq_true rfl) ?_
  show ms_W false m_X6_isFree _ 0 [(0, .ref o), (1, .int p), (2, .int q)] [] n G 0 0
  refine ms_run (pc' := 1) (lv' := [(0, .ref o), (1, .int p), (2, .int q)]) (st' := [.int p]) _ (ms_deC dX6_isFree_0 ms_deN) rfl rfl ?_
  refine ms_if_lt (tgt := 41) dX6_isFree_1 (by decide) (fun h_1 => ?_) (fun h_1 => ?_)
  · skip
    refine ms_run (pc' := 42) (lv' := [(0, .ref o), (1, .int p), (2, .int q)]) (st' := [.int 0]) _ (ms_deC dX6_isFree_41 ms_deN) rfl rfl ?_
    refine ms_reti (st := []) (ty := .boolean) dX6_isFree_42 rfl rfl ?_
    exact ms_p1.mk rfl rfl
  · skip
    refine ms_run (pc' := 6) (lv' := [(0, .ref o), (1, .int p), (2, .int q)]) (st' := [.ref o, .int p]) _ (ms_deC dX6_isFree_4 (ms_deC dX6_isFree_5 ms_deN)) rfl rfl ?_
    refine ms_getf dX6_isFree_6 fg_X6_16 hM.1 rfl ?_
    refine ms_icmp_ge (tgt := 41) dX6_isFree_9 (by decide) (fun h_9 => ?_) (fun h_9 => ?_)
    · skip
      refine ms_run (pc' := 42) (lv' := [(0, .ref o), (1, .int p), (2, .int q)]) (st' := [.int 0]) _ (ms_deC dX6_isFree_41 ms_deN) rfl rfl ?_
      refine ms_reti (st := []) (ty := .boolean) dX6_isFree_42 rfl rfl ?_
      exact ms_p1.mk rfl rfl
    · skip
      refine ms_run (pc' := 13) (lv' := [(0, .ref o), (1, .int p), (2, .int q)]) (st' := [.int q]) _ (ms_deC dX6_isFree_12 ms_deN) rfl rfl ?_
      refine ms_if_lt (tgt := 41) dX6_isFree_13 (by decide) (fun h_13 => ?_) (fun h_13 => ?_)
      · skip
        refine ms_run (pc' := 42) (lv' := [(0, .ref o), (1, .int p), (2, .int q)]) (st' := [.int 0]) _ (ms_deC dX6_isFree_41 ms_deN) rfl rfl ?_
        refine ms_reti (st := []) (ty := .boolean) dX6_isFree_42 rfl rfl ?_
        exact ms_p1.mk rfl rfl
      · skip
        refine ms_run (pc' := 18) (lv' := [(0, .ref o), (1, .int p), (2, .int q)]) (st' := [.ref o, .int q]) _ (ms_deC dX6_isFree_16 (ms_deC dX6_isFree_17 ms_deN)) rfl rfl ?_
        refine ms_getf dX6_isFree_18 fg_X6_20 hM.1 rfl ?_
        refine ms_icmp_ge (tgt := 41) dX6_isFree_21 (by decide) (fun h_21 => ?_) (fun h_21 => ?_)
        · skip
          refine ms_run (pc' := 42) (lv' := [(0, .ref o), (1, .int p), (2, .int q)]) (st' := [.int 0]) _ (ms_deC dX6_isFree_41 ms_deN) rfl rfl ?_
          refine ms_reti (st := []) (ty := .boolean) dX6_isFree_42 rfl rfl ?_
          exact ms_p1.mk rfl rfl
        · skip
          exact absurd ⟨Int32.not_lt.mp h_1, Int32.not_le.mp h_9, Int32.not_lt.mp h_13, Int32.not_le.mp h_21⟩ hni
theorem nw_1 {a p : Nat} (ha : a < 1000) (hp : p < 1000) : nI p < nI a - 1 ↔ p + 1 < a := by
  have h1 : (1 : Int32).toInt = 1 := rfl
  rw [nb_lt, nb_sub (by rw [nI_toI (by omega), h1]; omega) (by rw [nI_toI (by omega), h1]; omega), nI_toI (by omega), nI_toI (by omega), h1]
  omega
theorem nw_2 {a p : Nat} (ha : a < 1000) (hp : p < 1000) : nI a + 1 < nI p ↔ a + 1 < p := by rw [nI_1, nI_ltI (by omega) (by omega)]
theorem nw_3 {a p : Nat} (ha : a < 1000) (hp : p < 1000) : nI p = nI a ↔ p = a := nI_eq (by omega) (by omega)
theorem nr_iff {W a b o : Nat} (ha : a < W) : arR W (b * W + a) o ↔ ¬ (o % W = a ∧ o / W = b) ∧ (¬ o % W + 1 < a ∧ ¬ a + 1 < o % W) ∧ ¬ o / W + 1 < b ∧ ¬ b + 1 < o / W := by
  have hm := fd_mod (y := b) ha
  unfold arR
  rw [hm.1, hm.2]
  have e : b * W + a = o ↔ (o % W = a ∧ o / W = b) := by
    constructor
    · intro e
      rw [← e]
      exact hm
    · rintro ⟨e1, e2⟩
      have := Nat.div_add_mod o W
      rw [e1, e2, Nat.mul_comm] at this
      exact this
  rw [e]
  constructor
  · rintro ⟨h1, h2, h3⟩
    exact ⟨h1, by omega, by omega⟩
  · rintro ⟨h1, h2, h3⟩
    exact ⟨h1, by omega, by omega⟩
set_option maxHeartbeats 1000000 in
set_option maxRecDepth 20000 in
theorem c_X6_areNearO {n o x sb fa wa W H cnt : Nat} {G : ms_H} {dw cl dr pa : Int32} {wr : Nat → Nat} {fv u : Nat → Nat → Int32} (hM : fk_at G o x sb dw W H cl dr pa fa wa cnt wr fv u) (hW : W ≤ 14) (hH : H ≤ 14) (hc : cnt ≤ 24) (hv : hvX (nI (W * H)) cnt u) {a b k : Nat} (ha : a < W) (hb : b < H) (hk : k < cnt) (e9 : u k 3 = -1) : ms_M m_X6_areNear [.int (nI a), .int (nI b), .ref (wr k)] n G 0 0 (ms_p1 (some (.int (ms_b (¬ u k 3 = -1 ∧ arR W (b * W + a) (u k 3).toNatClampNeg)))) n G) := by
  refine ms_M.of (by decide) (Nat.le_of_ble_eq_true rfl) ?_
  show ms_W false m_X6_areNear _ 0 [(0, .int (nI a)), (1, .int (nI b)), (2, .ref (wr k))] [] n G 0 0
  refine ms_run (pc' := 2) (lv' := [(0, .int (nI a)), (1, .int (nI b)), (2, .ref (wr k))]) (st' := [.int 3, .ref (wr k)]) _ (ms_deC dX6_areNear_0 (ms_deC dX6_areNear_1 ms_deN)) rfl rfl ?_
  refine fk_ldR (c := 3) dX6_areNear_2 hM.2.2 (by first | assumption | omega) (by decide) rfl ?_
  refine ms_if_lt (tgt := 60) dX6_areNear_3 (by decide) (fun h_3 => ?_) (fun h_3 => ?_)
  · skip
    refine ms_run (pc' := 61) (lv' := [(0, .int (nI a)), (1, .int (nI b)), (2, .ref (wr k))]) (st' := [.int 0]) _ (ms_deC dX6_areNear_60 ms_deN) rfl rfl ?_
    refine ms_reti (st := []) (ty := .boolean) dX6_areNear_61 rfl rfl ?_
    exact ms_p1.mk (ms_int_eq (if_neg (fun z => z.1 e9)).symm) rfl
  · skip
    exact absurd (show xX W (u k 3) < 0 from by rw [(xX_m e9).1]; decide) h_3
set_option maxHeartbeats 1000000 in
set_option maxRecDepth 20000 in
theorem c_X6_areNearI {n o x sb fa wa W H cnt : Nat} {G : ms_H} {dw cl dr pa : Int32} {wr : Nat → Nat} {fv u : Nat → Nat → Int32} (hM : fk_at G o x sb dw W H cl dr pa fa wa cnt wr fv u) (hW : W ≤ 14) (hH : H ≤ 14) (hc : cnt ≤ 24) (hv : hvX (nI (W * H)) cnt u) {a b k : Nat} (ha : a < W) (hb : b < H) (hk : k < cnt) (hon9 : ¬ u k 3 = -1) : ms_M m_X6_areNear [.int (nI a), .int (nI b), .ref (wr k)] n G 0 0 (ms_p1 (some (.int (ms_b (¬ u k 3 = -1 ∧ arR W (b * W + a) (u k 3).toNatClampNeg)))) n G) := by
  refine ms_M.of (by decide) (Nat.le_of_ble_eq_true rfl) ?_
  show ms_W false m_X6_areNear _ 0 [(0, .int (nI a)), (1, .int (nI b)), (2, .ref (wr k))] [] n G 0 0
  have h9 : W * H ≤ 196 := Nat.mul_le_mul hW hH
  obtain ⟨o9, ho9, eo⟩ := pos_of hW hH hv hk hon9
  have hxy := xX_n (W := W) (o := o9) (by omega) eo
  have hd9 := fd_div ho9
  have hoc : (u k 3).toNatClampNeg = o9 := by rw [eo, nI_clamp (by omega)]
  have h5 : a < 1000 ∧ b < 1000 ∧ o9 % W < 1000 ∧ o9 / W < 1000 := ⟨by omega, by omega, by omega, by omega⟩
  refine ms_run (pc' := 2) (lv' := [(0, .int (nI a)), (1, .int (nI b)), (2, .ref (wr k))]) (st' := [.int 3, .ref (wr k)]) _ (ms_deC dX6_areNear_0 (ms_deC dX6_areNear_1 ms_deN)) rfl rfl ?_
  refine fk_ldR (c := 3) dX6_areNear_2 hM.2.2 (by first | assumption | omega) (by decide) rfl ?_
  rw [show wvX W (u k) 3 = (nI (o9 % W)) from hxy.1]
  refine ms_if_lt (tgt := 60) dX6_areNear_3 (by decide) (fun h_3 => ?_) (fun h_3 => ?_)
  · skip
    exact absurd h_3 (nI_pos (by omega))
  · skip
    refine ms_run (pc' := 8) (lv' := [(0, .int (nI a)), (1, .int (nI b)), (2, .ref (wr k))]) (st' := [.int 3, .ref (wr k)]) _ (ms_deC dX6_areNear_6 (ms_deC dX6_areNear_7 ms_deN)) rfl rfl ?_
    refine fk_ldR (c := 3) dX6_areNear_8 hM.2.2 (by first | assumption | omega) (by decide) rfl ?_
    rw [show wvX W (u k) 3 = (nI (o9 % W)) from hxy.1]
    refine ms_run (pc' := 10) (lv' := [(0, .int (nI a)), (1, .int (nI b)), (2, .ref (wr k))]) (st' := [.int (nI a), .int (nI (o9 % W))]) _ (ms_deC dX6_areNear_9 ms_deN) rfl rfl ?_
    refine ms_icmp_ne (tgt := 20) dX6_areNear_10 (by decide) (fun h_10 => ?_) (fun h_10 => ?_)
    · skip
      refine ms_run (pc' := 22) (lv' := [(0, .int (nI a)), (1, .int (nI b)), (2, .ref (wr k))]) (st' := [.int 3, .ref (wr k)]) _ (ms_deC dX6_areNear_20 (ms_deC dX6_areNear_21 ms_deN)) rfl rfl ?_
      refine fk_ldR (c := 3) dX6_areNear_22 hM.2.2 (by first | assumption | omega) (by decide) rfl ?_
      rw [show wvX W (u k) 3 = (nI (o9 % W)) from hxy.1]
      refine ms_run (pc' := 26) (lv' := [(0, .int (nI a)), (1, .int (nI b)), (2, .ref (wr k))]) (st' := [.int ((nI a) - 1), .int (nI (o9 % W))]) _ (ms_deC dX6_areNear_23 (ms_deC dX6_areNear_24 (ms_deC dX6_areNear_25 ms_deN))) rfl rfl ?_
      refine ms_icmp_lt (tgt := 60) dX6_areNear_26 (by decide) (fun h_26 => ?_) (fun h_26 => ?_)
      · skip
        refine ms_run (pc' := 61) (lv' := [(0, .int (nI a)), (1, .int (nI b)), (2, .ref (wr k))]) (st' := [.int 0]) _ (ms_deC dX6_areNear_60 ms_deN) rfl rfl ?_
        refine ms_reti (st := []) (ty := .boolean) dX6_areNear_61 rfl rfl ?_
        exact ms_p1.mk (ms_int_eq (if_neg (fun z => by have z2 := z.2; rw [hoc, nr_iff ha] at z2; simp only [nw_1 h5.1 h5.2.2.1, nw_2 h5.1 h5.2.2.1, nw_3 h5.1 h5.2.2.1, nw_1 h5.2.1 h5.2.2.2, nw_2 h5.2.1 h5.2.2.2, nw_3 h5.2.1 h5.2.2.2] at *; omega)).symm) rfl
      · skip
        refine ms_run (pc' := 31) (lv' := [(0, .int (nI a)), (1, .int (nI b)), (2, .ref (wr k))]) (st' := [.int 3, .ref (wr k)]) _ (ms_deC dX6_areNear_29 (ms_deC dX6_areNear_30 ms_deN)) rfl rfl ?_
        refine fk_ldR (c := 3) dX6_areNear_31 hM.2.2 (by first | assumption | omega) (by decide) rfl ?_
        rw [show wvX W (u k) 3 = (nI (o9 % W)) from hxy.1]
        refine ms_run (pc' := 35) (lv' := [(0, .int (nI a)), (1, .int (nI b)), (2, .ref (wr k))]) (st' := [.int ((nI a) + 1), .int (nI (o9 % W))]) _ (ms_deC dX6_areNear_32 (ms_deC dX6_areNear_33 (ms_deC dX6_areNear_34 ms_deN))) rfl rfl ?_
        refine ms_icmp_gt (tgt := 60) dX6_areNear_35 (by decide) (fun h_35 => ?_) (fun h_35 => ?_)
        · skip
          refine ms_run (pc' := 61) (lv' := [(0, .int (nI a)), (1, .int (nI b)), (2, .ref (wr k))]) (st' := [.int 0]) _ (ms_deC dX6_areNear_60 ms_deN) rfl rfl ?_
          refine ms_reti (st := []) (ty := .boolean) dX6_areNear_61 rfl rfl ?_
          exact ms_p1.mk (ms_int_eq (if_neg (fun z => by have z2 := z.2; rw [hoc, nr_iff ha] at z2; simp only [nw_1 h5.1 h5.2.2.1, nw_2 h5.1 h5.2.2.1, nw_3 h5.1 h5.2.2.1, nw_1 h5.2.1 h5.2.2.2, nw_2 h5.2.1 h5.2.2.2, nw_3 h5.2.1 h5.2.2.2] at *; omega)).symm) rfl
        · skip
          refine ms_run (pc' := 40) (lv' := [(0, .int (nI a)), (1, .int (nI b)), (2, .ref (wr k))]) (st' := [.int 4, .ref (wr k)]) _ (ms_deC dX6_areNear_38 (ms_deC dX6_areNear_39 ms_deN)) rfl rfl ?_
          refine fk_ldR (c := 4) dX6_areNear_40 hM.2.2 (by first | assumption | omega) (by decide) rfl ?_
          rw [show wvX W (u k) 4 = (nI (o9 / W)) from hxy.2]
          refine ms_run (pc' := 44) (lv' := [(0, .int (nI a)), (1, .int (nI b)), (2, .ref (wr k))]) (st' := [.int ((nI b) - 1), .int (nI (o9 / W))]) _ (ms_deC dX6_areNear_41 (ms_deC dX6_areNear_42 (ms_deC dX6_areNear_43 ms_deN))) rfl rfl ?_
          refine ms_icmp_lt (tgt := 60) dX6_areNear_44 (by decide) (fun h_44 => ?_) (fun h_44 => ?_)
          · skip
            refine ms_run (pc' := 61) (lv' := [(0, .int (nI a)), (1, .int (nI b)), (2, .ref (wr k))]) (st' := [.int 0]) _ (ms_deC dX6_areNear_60 ms_deN) rfl rfl ?_
            refine ms_reti (st := []) (ty := .boolean) dX6_areNear_61 rfl rfl ?_
            exact ms_p1.mk (ms_int_eq (if_neg (fun z => by have z2 := z.2; rw [hoc, nr_iff ha] at z2; simp only [nw_1 h5.1 h5.2.2.1, nw_2 h5.1 h5.2.2.1, nw_3 h5.1 h5.2.2.1, nw_1 h5.2.1 h5.2.2.2, nw_2 h5.2.1 h5.2.2.2, nw_3 h5.2.1 h5.2.2.2] at *; omega)).symm) rfl
          · skip
            refine ms_run (pc' := 49) (lv' := [(0, .int (nI a)), (1, .int (nI b)), (2, .ref (wr k))]) (st' := [.int 4, .ref (wr k)]) _ (ms_deC dX6_areNear_47 (ms_deC dX6_areNear_48 ms_deN)) rfl rfl ?_
            refine fk_ldR (c := 4) dX6_areNear_49 hM.2.2 (by first | assumption | omega) (by decide) rfl ?_
            rw [show wvX W (u k) 4 = (nI (o9 / W)) from hxy.2]
            refine ms_run (pc' := 53) (lv' := [(0, .int (nI a)), (1, .int (nI b)), (2, .ref (wr k))]) (st' := [.int ((nI b) + 1), .int (nI (o9 / W))]) _ (ms_deC dX6_areNear_50 (ms_deC dX6_areNear_51 (ms_deC dX6_areNear_52 ms_deN))) rfl rfl ?_
            refine ms_icmp_gt (tgt := 60) dX6_areNear_53 (by decide) (fun h_53 => ?_) (fun h_53 => ?_)
            · skip
              refine ms_run (pc' := 61) (lv' := [(0, .int (nI a)), (1, .int (nI b)), (2, .ref (wr k))]) (st' := [.int 0]) _ (ms_deC dX6_areNear_60 ms_deN) rfl rfl ?_
              refine ms_reti (st := []) (ty := .boolean) dX6_areNear_61 rfl rfl ?_
              exact ms_p1.mk (ms_int_eq (if_neg (fun z => by have z2 := z.2; rw [hoc, nr_iff ha] at z2; simp only [nw_1 h5.1 h5.2.2.1, nw_2 h5.1 h5.2.2.1, nw_3 h5.1 h5.2.2.1, nw_1 h5.2.1 h5.2.2.2, nw_2 h5.2.1 h5.2.2.2, nw_3 h5.2.1 h5.2.2.2] at *; omega)).symm) rfl
            · skip
              refine ms_run (pc' := 57) (lv' := [(0, .int (nI a)), (1, .int (nI b)), (2, .ref (wr k))]) (st' := [.int 1]) _ (ms_deC dX6_areNear_56 ms_deN) rfl rfl ?_
              refine ms_goto (tgt := 61) dX6_areNear_57 (by decide) ?_
              refine ms_reti (st := []) (ty := .boolean) dX6_areNear_61 rfl rfl ?_
              exact ms_p1.mk (ms_int_eq (if_pos ⟨hon9, by rw [hoc, nr_iff ha]; simp only [nw_1 h5.1 h5.2.2.1, nw_2 h5.1 h5.2.2.1, nw_3 h5.1 h5.2.2.1, nw_1 h5.2.1 h5.2.2.2, nw_2 h5.2.1 h5.2.2.2, nw_3 h5.2.1 h5.2.2.2] at *; omega⟩).symm) rfl
    · skip
      refine ms_run (pc' := 15) (lv' := [(0, .int (nI a)), (1, .int (nI b)), (2, .ref (wr k))]) (st' := [.int 4, .ref (wr k)]) _ (ms_deC dX6_areNear_13 (ms_deC dX6_areNear_14 ms_deN)) rfl rfl ?_
      refine fk_ldR (c := 4) dX6_areNear_15 hM.2.2 (by first | assumption | omega) (by decide) rfl ?_
      rw [show wvX W (u k) 4 = (nI (o9 / W)) from hxy.2]
      refine ms_run (pc' := 17) (lv' := [(0, .int (nI a)), (1, .int (nI b)), (2, .ref (wr k))]) (st' := [.int (nI b), .int (nI (o9 / W))]) _ (ms_deC dX6_areNear_16 ms_deN) rfl rfl ?_
      refine ms_icmp_eq (tgt := 60) dX6_areNear_17 (by decide) (fun h_17 => ?_) (fun h_17 => ?_)
      · skip
        refine ms_run (pc' := 61) (lv' := [(0, .int (nI a)), (1, .int (nI b)), (2, .ref (wr k))]) (st' := [.int 0]) _ (ms_deC dX6_areNear_60 ms_deN) rfl rfl ?_
        refine ms_reti (st := []) (ty := .boolean) dX6_areNear_61 rfl rfl ?_
        exact ms_p1.mk (ms_int_eq (if_neg (fun z => by have z2 := z.2; rw [hoc, nr_iff ha] at z2; simp only [nw_1 h5.1 h5.2.2.1, nw_2 h5.1 h5.2.2.1, nw_3 h5.1 h5.2.2.1, nw_1 h5.2.1 h5.2.2.2, nw_2 h5.2.1 h5.2.2.2, nw_3 h5.2.1 h5.2.2.2] at *; omega)).symm) rfl
      · skip
        refine ms_run (pc' := 22) (lv' := [(0, .int (nI a)), (1, .int (nI b)), (2, .ref (wr k))]) (st' := [.int 3, .ref (wr k)]) _ (ms_deC dX6_areNear_20 (ms_deC dX6_areNear_21 ms_deN)) rfl rfl ?_
        refine fk_ldR (c := 3) dX6_areNear_22 hM.2.2 (by first | assumption | omega) (by decide) rfl ?_
        rw [show wvX W (u k) 3 = (nI (o9 % W)) from hxy.1]
        refine ms_run (pc' := 26) (lv' := [(0, .int (nI a)), (1, .int (nI b)), (2, .ref (wr k))]) (st' := [.int ((nI a) - 1), .int (nI (o9 % W))]) _ (ms_deC dX6_areNear_23 (ms_deC dX6_areNear_24 (ms_deC dX6_areNear_25 ms_deN))) rfl rfl ?_
        refine ms_icmp_lt (tgt := 60) dX6_areNear_26 (by decide) (fun h_26 => ?_) (fun h_26 => ?_)
        · skip
          refine ms_run (pc' := 61) (lv' := [(0, .int (nI a)), (1, .int (nI b)), (2, .ref (wr k))]) (st' := [.int 0]) _ (ms_deC dX6_areNear_60 ms_deN) rfl rfl ?_
          refine ms_reti (st := []) (ty := .boolean) dX6_areNear_61 rfl rfl ?_
          exact ms_p1.mk (ms_int_eq (if_neg (fun z => by have z2 := z.2; rw [hoc, nr_iff ha] at z2; simp only [nw_1 h5.1 h5.2.2.1, nw_2 h5.1 h5.2.2.1, nw_3 h5.1 h5.2.2.1, nw_1 h5.2.1 h5.2.2.2, nw_2 h5.2.1 h5.2.2.2, nw_3 h5.2.1 h5.2.2.2] at *; omega)).symm) rfl
        · skip
          refine ms_run (pc' := 31) (lv' := [(0, .int (nI a)), (1, .int (nI b)), (2, .ref (wr k))]) (st' := [.int 3, .ref (wr k)]) _ (ms_deC dX6_areNear_29 (ms_deC dX6_areNear_30 ms_deN)) rfl rfl ?_
          refine fk_ldR (c := 3) dX6_areNear_31 hM.2.2 (by first | assumption | omega) (by decide) rfl ?_
          rw [show wvX W (u k) 3 = (nI (o9 % W)) from hxy.1]
          refine ms_run (pc' := 35) (lv' := [(0, .int (nI a)), (1, .int (nI b)), (2, .ref (wr k))]) (st' := [.int ((nI a) + 1), .int (nI (o9 % W))]) _ (ms_deC dX6_areNear_32 (ms_deC dX6_areNear_33 (ms_deC dX6_areNear_34 ms_deN))) rfl rfl ?_
          refine ms_icmp_gt (tgt := 60) dX6_areNear_35 (by decide) (fun h_35 => ?_) (fun h_35 => ?_)
          · skip
            refine ms_run (pc' := 61) (lv' := [(0, .int (nI a)), (1, .int (nI b)), (2, .ref (wr k))]) (st' := [.int 0]) _ (ms_deC dX6_areNear_60 ms_deN) rfl rfl ?_
            refine ms_reti (st := []) (ty := .boolean) dX6_areNear_61 rfl rfl ?_
            exact ms_p1.mk (ms_int_eq (if_neg (fun z => by have z2 := z.2; rw [hoc, nr_iff ha] at z2; simp only [nw_1 h5.1 h5.2.2.1, nw_2 h5.1 h5.2.2.1, nw_3 h5.1 h5.2.2.1, nw_1 h5.2.1 h5.2.2.2, nw_2 h5.2.1 h5.2.2.2, nw_3 h5.2.1 h5.2.2.2] at *; omega)).symm) rfl
          · skip
            refine ms_run (pc' := 40) (lv' := [(0, .int (nI a)), (1, .int (nI b)), (2, .ref (wr k))]) (st' := [.int 4, .ref (wr k)]) _ (ms_deC dX6_areNear_38 (ms_deC dX6_areNear_39 ms_deN)) rfl rfl ?_
            refine fk_ldR (c := 4) dX6_areNear_40 hM.2.2 (by first | assumption | omega) (by decide) rfl ?_
            rw [show wvX W (u k) 4 = (nI (o9 / W)) from hxy.2]
            refine ms_run (pc' := 44) (lv' := [(0, .int (nI a)), (1, .int (nI b)), (2, .ref (wr k))]) (st' := [.int ((nI b) - 1), .int (nI (o9 / W))]) _ (ms_deC dX6_areNear_41 (ms_deC dX6_areNear_42 (ms_deC dX6_areNear_43 ms_deN))) rfl rfl ?_
            refine ms_icmp_lt (tgt := 60) dX6_areNear_44 (by decide) (fun h_44 => ?_) (fun h_44 => ?_)
            · skip
              refine ms_run (pc' := 61) (lv' := [(0, .int (nI a)), (1, .int (nI b)), (2, .ref (wr k))]) (st' := [.int 0]) _ (ms_deC dX6_areNear_60 ms_deN) rfl rfl ?_
              refine ms_reti (st := []) (ty := .boolean) dX6_areNear_61 rfl rfl ?_
              exact ms_p1.mk (ms_int_eq (if_neg (fun z => by have z2 := z.2; rw [hoc, nr_iff ha] at z2; simp only [nw_1 h5.1 h5.2.2.1, nw_2 h5.1 h5.2.2.1, nw_3 h5.1 h5.2.2.1, nw_1 h5.2.1 h5.2.2.2, nw_2 h5.2.1 h5.2.2.2, nw_3 h5.2.1 h5.2.2.2] at *; omega)).symm) rfl
            · skip
              refine ms_run (pc' := 49) (lv' := [(0, .int (nI a)), (1, .int (nI b)), (2, .ref (wr k))]) (st' := [.int 4, .ref (wr k)]) _ (ms_deC dX6_areNear_47 (ms_deC dX6_areNear_48 ms_deN)) rfl rfl ?_
              refine fk_ldR (c := 4) dX6_areNear_49 hM.2.2 (by first | assumption | omega) (by decide) rfl ?_
              rw [show wvX W (u k) 4 = (nI (o9 / W)) from hxy.2]
              refine ms_run (pc' := 53) (lv' := [(0, .int (nI a)), (1, .int (nI b)), (2, .ref (wr k))]) (st' := [.int ((nI b) + 1), .int (nI (o9 / W))]) _ (ms_deC dX6_areNear_50 (ms_deC dX6_areNear_51 (ms_deC dX6_areNear_52 ms_deN))) rfl rfl ?_
              refine ms_icmp_gt (tgt := 60) dX6_areNear_53 (by decide) (fun h_53 => ?_) (fun h_53 => ?_)
              · skip
                refine ms_run (pc' := 61) (lv' := [(0, .int (nI a)), (1, .int (nI b)), (2, .ref (wr k))]) (st' := [.int 0]) _ (ms_deC dX6_areNear_60 ms_deN) rfl rfl ?_
                refine ms_reti (st := []) (ty := .boolean) dX6_areNear_61 rfl rfl ?_
                exact ms_p1.mk (ms_int_eq (if_neg (fun z => by have z2 := z.2; rw [hoc, nr_iff ha] at z2; simp only [nw_1 h5.1 h5.2.2.1, nw_2 h5.1 h5.2.2.1, nw_3 h5.1 h5.2.2.1, nw_1 h5.2.1 h5.2.2.2, nw_2 h5.2.1 h5.2.2.2, nw_3 h5.2.1 h5.2.2.2] at *; omega)).symm) rfl
              · skip
                refine ms_run (pc' := 57) (lv' := [(0, .int (nI a)), (1, .int (nI b)), (2, .ref (wr k))]) (st' := [.int 1]) _ (ms_deC dX6_areNear_56 ms_deN) rfl rfl ?_
                refine ms_goto (tgt := 61) dX6_areNear_57 (by decide) ?_
                refine ms_reti (st := []) (ty := .boolean) dX6_areNear_61 rfl rfl ?_
                exact ms_p1.mk (ms_int_eq (if_pos ⟨hon9, by rw [hoc, nr_iff ha]; simp only [nw_1 h5.1 h5.2.2.1, nw_2 h5.1 h5.2.2.1, nw_3 h5.1 h5.2.2.1, nw_1 h5.2.1 h5.2.2.2, nw_2 h5.2.1 h5.2.2.2, nw_3 h5.2.1 h5.2.2.2] at *; omega⟩).symm) rfl
theorem c_X6_areNear {n o x sb fa wa W H cnt : Nat} {G : ms_H} {dw cl dr pa : Int32} {wr : Nat → Nat} {fv u : Nat → Nat → Int32} (hM : fk_at G o x sb dw W H cl dr pa fa wa cnt wr fv u) (hW : W ≤ 14) (hH : H ≤ 14) (hc : cnt ≤ 24) (hv : hvX (nI (W * H)) cnt u) {a b k : Nat} (ha : a < W) (hb : b < H) (hk : k < cnt) : ms_M m_X6_areNear [.int (nI a), .int (nI b), .ref (wr k)] n G 0 0 (ms_p1 (some (.int (ms_b (¬ u k 3 = -1 ∧ arR W (b * W + a) (u k 3).toNatClampNeg)))) n G) := by
  by_cases e9 : u k 3 = -1
  · exact c_X6_areNearO hM hW hH hc hv ha hb hk e9
  · exact c_X6_areNearI hM hW hH hc hv ha hb hk e9
set_option maxHeartbeats 1000000 in
set_option maxRecDepth 20000 in
theorem l_X6_round {n o x sb fa wa W H cnt : Nat} {G : ms_H} {dw cl dr pa : Int32} {wr : Nat → Nat} {fv u : Nat → Nat → Int32} (hM : fk_at G o x sb dw W H cl dr pa fa wa cnt wr fv u) (hW : W ≤ 14) (hH : H ≤ 14) (hc : cnt ≤ 24) (hv : hvX (nI (W * H)) cnt u) {a b : Nat} (ha : a < W) (hb : b < H) (bt : Int32) : ∀ (r k : Nat), k + r = cnt →  ms_W false m_X6_round (ms_p1 (some (.int (nI (ct (pRo W u (b * W + a) bt) cnt)))) n G) 6 [(0, .ref o), (1, .int (nI a)), (2, .int (nI b)), (3, .int bt), (4, .int (nI (ct (pRo W u (b * W + a) bt) k))), (5, .int (nI k))] [] n G 0 0 := by
  intro r
  induction r with
  | zero =>
    intro k hk 
    have hkN : k = cnt := by omega
    refine ms_run (pc' := 9) (lv' := [(0, .ref o), (1, .int (nI a)), (2, .int (nI b)), (3, .int bt), (4, .int (nI (ct (pRo W u (b * W + a) bt) k))), (5, .int (nI k))]) (st' := [.ref o, .int (nI k)]) _ (ms_deC dX6_round_6 (ms_deC dX6_round_8 ms_deN)) rfl rfl ?_
    refine ms_getf dX6_round_9 fg_X6_36 hM.1 rfl ?_
    refine fk_len dX6_round_12 hM.2.2 ?_
    refine ms_icmp_ge (tgt := 46) dX6_round_13 (by decide) (fun h_13 => ?_) (fun h_13 => ?_)
    · skip
      refine ms_run (pc' := 48) (lv' := [(0, .ref o), (1, .int (nI a)), (2, .int (nI b)), (3, .int bt), (4, .int (nI (ct (pRo W u (b * W + a) bt) k))), (5, .int (nI k))]) (st' := [.int (nI (ct (pRo W u (b * W + a) bt) k))]) _ (ms_deC dX6_round_46 ms_deN) rfl rfl ?_
      refine ms_reti (st := []) (ty := .int) dX6_round_48 rfl rfl ?_
      exact ms_p1.mk (by rw [hkN]) rfl
    · skip
      exact absurd (by exact nI_le (b := k) (by omega) (by omega)) h_13
  | succ r ih =>
    intro k hk 
    have hlt : k < cnt := by omega
    refine ms_run (pc' := 9) (lv' := [(0, .ref o), (1, .int (nI a)), (2, .int (nI b)), (3, .int bt), (4, .int (nI (ct (pRo W u (b * W + a) bt) k))), (5, .int (nI k))]) (st' := [.ref o, .int (nI k)]) _ (ms_deC dX6_round_6 (ms_deC dX6_round_8 ms_deN)) rfl rfl ?_
    refine ms_getf dX6_round_9 fg_X6_36 hM.1 rfl ?_
    refine fk_len dX6_round_12 hM.2.2 ?_
    refine ms_icmp_ge (tgt := 46) dX6_round_13 (by decide) (fun h_13 => ?_) (fun h_13 => ?_)
    · skip
      exact absurd h_13 (by exact nI_ge (b := cnt) (by omega) (by omega))
    · skip
      refine ms_run (pc' := 19) (lv' := [(0, .ref o), (1, .int (nI a)), (2, .int (nI b)), (3, .int bt), (4, .int (nI (ct (pRo W u (b * W + a) bt) k))), (5, .int (nI k))]) (st' := [.int bt, .int (nI k)]) _ (ms_deC dX6_round_16 (ms_deC dX6_round_18 ms_deN)) rfl rfl ?_
      refine ms_icmp_eq (tgt := 40) dX6_round_19 (by decide) (fun h_19 => ?_) (fun h_19 => ?_)
      · skip
        refine ms_run (pc' := 43) (lv' := [(5, .int ((nI k) + 1)), (0, .ref o), (1, .int (nI a)), (2, .int (nI b)), (3, .int bt), (4, .int (nI (ct (pRo W u (b * W + a) bt) k)))]) (st' := []) _ (ms_deC dX6_round_40 ms_deN) rfl rfl ?_
        refine ms_goto (tgt := 6) dX6_round_43 (by decide) ?_
        have hp : (pRo W u (b * W + a) bt) k = false := decide_eq_false (fun z => by first | exact hc_31 ⟨z.2.1, z.2.2⟩ | exact z.1 h_19)
        rw [ct_f (p := (pRo W u (b * W + a) bt)) hp]
        rw [nI_1 k]
        refine ms_W.sub (lv2 := [(0, _), (1, _), (2, _), (3, _), (4, _), (5, _)]) ?_ [1, 2, 3, 4, 5, 0] rfl
        exact ih (k + 1) (by omega)
      · skip
        refine ms_run (pc' := 25) (lv' := [(0, .ref o), (1, .int (nI a)), (2, .int (nI b)), (3, .int bt), (4, .int (nI (ct (pRo W u (b * W + a) bt) k))), (5, .int (nI k))]) (st' := [.ref o, .int (nI b), .int (nI a)]) _ (ms_deC dX6_round_22 (ms_deC dX6_round_23 (ms_deC dX6_round_24 ms_deN))) rfl rfl ?_
        refine ms_getf dX6_round_25 fg_X6_36 hM.1 rfl ?_
        refine ms_run (pc' := 30) (lv' := [(0, .ref o), (1, .int (nI a)), (2, .int (nI b)), (3, .int bt), (4, .int (nI (ct (pRo W u (b * W + a) bt) k))), (5, .int (nI k))]) (st' := [.int (nI k), .ref wa, .int (nI b), .int (nI a)]) _ (ms_deC dX6_round_28 ms_deN) rfl rfl ?_
        refine fk_ldW (i := k) dX6_round_30 hM.2.2 (by first | assumption | omega) hc ?_
        refine ms_callSp (As := [.int (nI a), .int (nI b), .ref (wr k)]) dX6_round_31 (c_X6_areNear hM hW hH hc hv ha hb (k := k) hlt) cs_X6_118 rfl ⟨Nat.le_of_ble_eq_true rfl, Nat.le_of_ble_eq_true rfl⟩ rfl (Nat.le_of_ble_eq_true rfl) ?_
        by_cases hc_31 : ¬ u k 3 = -1 ∧ arR W (b * W + a) (u k 3).toNatClampNeg
        · rw [show ms_b (¬ u k 3 = -1 ∧ arR W (b * W + a) (u k 3).toNatClampNeg) = 1 from if_pos hc_31]
          refine ms_if_eq (tgt := 40) dX6_round_34 (by decide) (fun h9 => absurd h9 (by decide)) (fun _ => ?_)
          refine ms_run (pc' := 43) (lv' := [(5, .int ((nI k) + 1)), (4, .int ((nI (ct (pRo W u (b * W + a) bt) k)) + 1)), (0, .ref o), (1, .int (nI a)), (2, .int (nI b)), (3, .int bt)]) (st' := []) _ (ms_deC dX6_round_37 (ms_deC dX6_round_40 ms_deN)) rfl rfl ?_
          refine ms_goto (tgt := 6) dX6_round_43 (by decide) ?_
          have hp : (pRo W u (b * W + a) bt) k = true := decide_eq_true ⟨h_19, hc_31.1, hc_31.2⟩
          rw [ct_t (p := (pRo W u (b * W + a) bt)) hp]
          rw [nI_1 k]
          refine ms_W.sub (lv2 := [(0, _), (1, _), (2, _), (3, _), (4, _), (5, _)]) ?_ [2, 3, 4, 5, 1, 0] rfl
          exact ih (k + 1) (by omega)
        · rw [show ms_b (¬ u k 3 = -1 ∧ arR W (b * W + a) (u k 3).toNatClampNeg) = 0 from if_neg hc_31]
          refine ms_if_eq (tgt := 40) dX6_round_34 (by decide) (fun _ => ?_) (fun h9 => absurd h9 (by decide))
          refine ms_run (pc' := 43) (lv' := [(5, .int ((nI k) + 1)), (0, .ref o), (1, .int (nI a)), (2, .int (nI b)), (3, .int bt), (4, .int (nI (ct (pRo W u (b * W + a) bt) k)))]) (st' := []) _ (ms_deC dX6_round_40 ms_deN) rfl rfl ?_
          refine ms_goto (tgt := 6) dX6_round_43 (by decide) ?_
          have hp : (pRo W u (b * W + a) bt) k = false := decide_eq_false (fun z => by first | exact hc_31 ⟨z.2.1, z.2.2⟩ | exact z.1 h_19)
          rw [ct_f (p := (pRo W u (b * W + a) bt)) hp]
          rw [nI_1 k]
          refine ms_W.sub (lv2 := [(0, _), (1, _), (2, _), (3, _), (4, _), (5, _)]) ?_ [1, 2, 3, 4, 5, 0] rfl
          exact ih (k + 1) (by omega)
set_option maxHeartbeats 1000000 in
set_option maxRecDepth 20000 in
theorem c_X6_round {n o x sb fa wa W H cnt : Nat} {G : ms_H} {dw cl dr pa : Int32} {wr : Nat → Nat} {fv u : Nat → Nat → Int32} (hM : fk_at G o x sb dw W H cl dr pa fa wa cnt wr fv u) (hW : W ≤ 14) (hH : H ≤ 14) (hc : cnt ≤ 24) (hv : hvX (nI (W * H)) cnt u) {a b : Nat} (ha : a < W) (hb : b < H) (bt : Int32) : ms_M m_X6_round [.ref o, .int (nI a), .int (nI b), .int bt] n G 0 0 (ms_p1 (some (.int (nI (ct (pRo W u (b * W + a) bt) cnt)))) n G) := by
  refine ms_M.of (by decide) (Nat.le_of_ble_eq_true rfl) ?_
  show ms_W false m_X6_round _ 0 [(0, .ref o), (1, .int (nI a)), (2, .int (nI b)), (3, .int bt)] [] n G 0 0
  refine ms_run (pc' := 6) (lv' := [(5, .int 0), (4, .int 0), (0, .ref o), (1, .int (nI a)), (2, .int (nI b)), (3, .int bt)]) (st' := []) _ (ms_deC dX6_round_0 (ms_deC dX6_round_1 (ms_deC dX6_round_3 (ms_deC dX6_round_4 ms_deN)))) rfl rfl ?_
  refine ms_W.sub (lv2 := [(0, _), (1, _), (2, _), (3, _), (4, _), (5, _)]) ?_ [2, 3, 4, 5, 1, 0] rfl
  exact l_X6_round hM hW hH hc hv ha hb bt cnt 0 (by omega)
/-- sums by columns -/
theorem sn_mono0 {g : Nat → Nat} {M : Nat} (h : ∀ i, g i ≤ M) : ∀ k, sn g k ≤ k * M
  | 0 => by show 0 ≤ _; omega
  | k + 1 => by
    have := sn_mono0 h k
    show sn g k + g k ≤ _
    have := h k
    rw [Nat.succ_mul]
    omega
theorem sn_split {g : Nat → Nat} {W : Nat} : ∀ H, sn g (H * W) = sn (fun j => sn (fun i => g (j * W + i)) W) H
  | 0 => by rw [Nat.zero_mul]; rfl
  | H + 1 => by
    have e : ∀ r, sn g (H * W + r) = sn g (H * W) + sn (fun i => g (H * W + i)) r := by
      intro r
      induction r with
      | zero => rfl
      | succ r ih =>
        show sn g (H * W + r) + g (H * W + r) = _
        rw [ih]
        show _ = _ + (sn _ r + g (H * W + r))
        omega
    rw [Nat.succ_mul, e, sn_split H]
    rfl
theorem sn_cols {g : Nat → Nat} {W H : Nat} : sn (fun i => sn (fun j => g (j * W + i)) H) W = sn g (W * H) := by
  rw [Nat.mul_comm, sn_split, sn_swap]
set_option maxHeartbeats 1000000 in
set_option maxRecDepth 20000 in
theorem l2_X6_walls {n o x sb fa wa W H cnt : Nat} {G : ms_H} {dw cl dr pa : Int32} {wr : Nat → Nat} {fv u : Nat → Nat → Int32} (hM : fk_at G o x sb dw W H cl dr pa fa wa cnt wr fv u) (hW : W ≤ 14) (hH : H ≤ 14) (hc : cnt ≤ 24) {gN : Nat → Nat} (hg : ∀ f, f < W * H → fv f 0 = nI (gN f)) {i : Nat} (hi : i < W) (kk : ms_W false m_X6_walls (ms_p1 (some (.int (nI (sn gN (W * H))))) n G) 64 [(0, .ref o), (1, .int (nI (sn (fun i => sn (fun j => gN (j * W + i)) H) (i + 1)))), (2, .ref fa), (3, .int (nI W)), (4, .int (nI i))] [] n G 0 0) : ∀ (r k : Nat), k + r = H →  ms_W false m_X6_walls (ms_p1 (some (.int (nI (sn gN (W * H))))) n G) 37 [(0, .ref o), (1, .int (nI (sn (fun i => sn (fun j => gN (j * W + i)) H) i + sn (fun j => gN (j * W + i)) k))), (2, .ref fa), (3, .int (nI W)), (4, .int (nI i)), (5, .ref (mn_ad fa H i)), (6, .ref (mn_ad fa H i)), (7, .int (nI H)), (8, .int (nI k))] [] n G 0 0 := by
  intro r
  induction r with
  | zero =>
    intro k hk 
    have hkN : k = H := by omega
    refine ms_run (pc' := 41) (lv' := [(0, .ref o), (1, .int (nI (sn (fun i => sn (fun j => gN (j * W + i)) H) i + sn (fun j => gN (j * W + i)) k))), (2, .ref fa), (3, .int (nI W)), (4, .int (nI i)), (5, .ref (mn_ad fa H i)), (6, .ref (mn_ad fa H i)), (7, .int (nI H)), (8, .int (nI k))]) (st' := [.int (nI H), .int (nI k)]) _ (ms_deC dX6_walls_37 (ms_deC dX6_walls_39 ms_deN)) rfl rfl ?_
    refine ms_icmp_ge (tgt := 64) dX6_walls_41 (by decide) (fun h_41 => ?_) (fun h_41 => ?_)
    · skip
      rw [hkN]
      rw [show sn (fun i => sn (fun j => gN (j * W + i)) H) i + sn (fun j => gN (j * W + i)) H = sn (fun i => sn (fun j => gN (j * W + i)) H) (i + 1) from rfl]
      refine ms_W.sub (lv2 := [(0, _), (1, _), (2, _), (3, _), (4, _)]) ?_ [0, 1, 2, 3, 4] rfl
      exact kk
    · skip
      exact absurd (by exact nI_le (b := k) (by omega) (by omega)) h_41
  | succ r ih =>
    intro k hk 
    have hlt : k < H := by omega
    refine ms_run (pc' := 41) (lv' := [(0, .ref o), (1, .int (nI (sn (fun i => sn (fun j => gN (j * W + i)) H) i + sn (fun j => gN (j * W + i)) k))), (2, .ref fa), (3, .int (nI W)), (4, .int (nI i)), (5, .ref (mn_ad fa H i)), (6, .ref (mn_ad fa H i)), (7, .int (nI H)), (8, .int (nI k))]) (st' := [.int (nI H), .int (nI k)]) _ (ms_deC dX6_walls_37 (ms_deC dX6_walls_39 ms_deN)) rfl rfl ?_
    refine ms_icmp_ge (tgt := 64) dX6_walls_41 (by decide) (fun h_41 => ?_) (fun h_41 => ?_)
    · skip
      exact absurd h_41 (by exact nI_ge (b := H) (by omega) (by omega))
    · skip
      refine ms_run (pc' := 48) (lv' := [(0, .ref o), (1, .int (nI (sn (fun i => sn (fun j => gN (j * W + i)) H) i + sn (fun j => gN (j * W + i)) k))), (2, .ref fa), (3, .int (nI W)), (4, .int (nI i)), (5, .ref (mn_ad fa H i)), (6, .ref (mn_ad fa H i)), (7, .int (nI H)), (8, .int (nI k))]) (st' := [.int (nI k), .ref (mn_ad fa H i)]) _ (ms_deC dX6_walls_44 (ms_deC dX6_walls_46 ms_deN)) rfl rfl ?_
      refine fk_ldB (j := k) dX6_walls_48 hM.2.1 (by first | assumption | omega) (by first | assumption | omega) hH ?_
      refine ms_run (pc' := 55) (lv' := [(9, .ref (mn_ad fa H i + 1 + k)), (0, .ref o), (1, .int (nI (sn (fun i => sn (fun j => gN (j * W + i)) H) i + sn (fun j => gN (j * W + i)) k))), (2, .ref fa), (3, .int (nI W)), (4, .int (nI i)), (5, .ref (mn_ad fa H i)), (6, .ref (mn_ad fa H i)), (7, .int (nI H)), (8, .int (nI k))]) (st' := [.int 0, .ref (mn_ad fa H i + 1 + k), .int (nI (sn (fun i => sn (fun j => gN (j * W + i)) H) i + sn (fun j => gN (j * W + i)) k))]) _ (ms_deC dX6_walls_49 (ms_deC dX6_walls_51 (ms_deC dX6_walls_52 (ms_deC dX6_walls_54 ms_deN)))) rfl rfl ?_
      refine fk_ldC (c := 0) dX6_walls_55 hM.2.1 (by first | assumption | omega) (by first | assumption | omega) (by decide) rfl ?_
      refine ms_run (pc' := 61) (lv' := [(8, .int ((nI k) + 1)), (1, .int ((nI (sn (fun i => sn (fun j => gN (j * W + i)) H) i + sn (fun j => gN (j * W + i)) k)) + (fv (k * W + i) 0))), (9, .ref (mn_ad fa H i + 1 + k)), (0, .ref o), (2, .ref fa), (3, .int (nI W)), (4, .int (nI i)), (5, .ref (mn_ad fa H i)), (6, .ref (mn_ad fa H i)), (7, .int (nI H))]) (st' := []) _ (ms_deC dX6_walls_56 (ms_deC dX6_walls_57 (ms_deC dX6_walls_58 ms_deN))) rfl rfl ?_
      refine ms_goto (tgt := 37) dX6_walls_61 (by decide) ?_
      rw [hg _ (fij hi hlt), nI_add, show sn (fun i => sn (fun j => gN (j * W + i)) H) i + sn (fun j => gN (j * W + i)) k + gN (k * W + i) = sn (fun i => sn (fun j => gN (j * W + i)) H) i + sn (fun j => gN (j * W + i)) (k + 1) from Nat.add_assoc _ _ _]
      rw [nI_1 k]
      refine ms_W.sub (lv2 := [(0, _), (1, _), (2, _), (3, _), (4, _), (5, _), (6, _), (7, _), (8, _)]) ?_ [3, 1, 4, 5, 6, 7, 8, 9, 0] rfl
      exact ih (k + 1) (by omega)
set_option maxHeartbeats 1000000 in
set_option maxRecDepth 20000 in
theorem l1_X6_walls {n o x sb fa wa W H cnt : Nat} {G : ms_H} {dw cl dr pa : Int32} {wr : Nat → Nat} {fv u : Nat → Nat → Int32} (hM : fk_at G o x sb dw W H cl dr pa fa wa cnt wr fv u) (hW : W ≤ 14) (hH : H ≤ 14) (hc : cnt ≤ 24) {gN : Nat → Nat} (hg : ∀ f, f < W * H → fv f 0 = nI (gN f)) : ∀ (r k : Nat), k + r = W →  ms_W false m_X6_walls (ms_p1 (some (.int (nI (sn gN (W * H))))) n G) 13 [(0, .ref o), (1, .int (nI (sn (fun i => sn (fun j => gN (j * W + i)) H) k))), (2, .ref fa), (3, .int (nI W)), (4, .int (nI k))] [] n G 0 0 := by
  intro r
  induction r with
  | zero =>
    intro k hk 
    have hkN : k = W := by omega
    refine ms_run (pc' := 16) (lv' := [(0, .ref o), (1, .int (nI (sn (fun i => sn (fun j => gN (j * W + i)) H) k))), (2, .ref fa), (3, .int (nI W)), (4, .int (nI k))]) (st' := [.int (nI W), .int (nI k)]) _ (ms_deC dX6_walls_13 (ms_deC dX6_walls_15 ms_deN)) rfl rfl ?_
    refine ms_icmp_ge (tgt := 70) dX6_walls_16 (by decide) (fun h_16 => ?_) (fun h_16 => ?_)
    · skip
      refine ms_run (pc' := 71) (lv' := [(0, .ref o), (1, .int (nI (sn (fun i => sn (fun j => gN (j * W + i)) H) k))), (2, .ref fa), (3, .int (nI W)), (4, .int (nI k))]) (st' := [.int (nI (sn (fun i => sn (fun j => gN (j * W + i)) H) k))]) _ (ms_deC dX6_walls_70 ms_deN) rfl rfl ?_
      refine ms_reti (st := []) (ty := .int) dX6_walls_71 rfl rfl ?_
      exact ms_p1.mk (by rw [hkN, sn_cols]) rfl
    · skip
      exact absurd (by exact nI_le (b := k) (by omega) (by omega)) h_16
  | succ r ih =>
    intro k hk 
    have hlt : k < W := by omega
    refine ms_run (pc' := 16) (lv' := [(0, .ref o), (1, .int (nI (sn (fun i => sn (fun j => gN (j * W + i)) H) k))), (2, .ref fa), (3, .int (nI W)), (4, .int (nI k))]) (st' := [.int (nI W), .int (nI k)]) _ (ms_deC dX6_walls_13 (ms_deC dX6_walls_15 ms_deN)) rfl rfl ?_
    refine ms_icmp_ge (tgt := 70) dX6_walls_16 (by decide) (fun h_16 => ?_) (fun h_16 => ?_)
    · skip
      exact absurd h_16 (by exact nI_ge (b := W) (by omega) (by omega))
    · skip
      refine ms_run (pc' := 22) (lv' := [(0, .ref o), (1, .int (nI (sn (fun i => sn (fun j => gN (j * W + i)) H) k))), (2, .ref fa), (3, .int (nI W)), (4, .int (nI k))]) (st' := [.int (nI k), .ref fa]) _ (ms_deC dX6_walls_19 (ms_deC dX6_walls_20 ms_deN)) rfl rfl ?_
      refine fk_ldA (i := k) dX6_walls_22 hM.2.1 (by first | assumption | omega) hW ?_
      refine ms_run (pc' := 31) (lv' := [(6, .ref (mn_ad fa H k)), (5, .ref (mn_ad fa H k)), (0, .ref o), (1, .int (nI (sn (fun i => sn (fun j => gN (j * W + i)) H) k))), (2, .ref fa), (3, .int (nI W)), (4, .int (nI k))]) (st' := [.ref (mn_ad fa H k)]) _ (ms_deC dX6_walls_23 (ms_deC dX6_walls_25 (ms_deC dX6_walls_27 (ms_deC dX6_walls_29 ms_deN)))) rfl rfl ?_
      refine fk_lenR dX6_walls_31 hM.2.1 (by first | assumption | omega) ?_
      refine ms_run (pc' := 37) (lv' := [(8, .int 0), (7, .int (nI H)), (6, .ref (mn_ad fa H k)), (5, .ref (mn_ad fa H k)), (0, .ref o), (1, .int (nI (sn (fun i => sn (fun j => gN (j * W + i)) H) k))), (2, .ref fa), (3, .int (nI W)), (4, .int (nI k))]) (st' := []) _ (ms_deC dX6_walls_32 (ms_deC dX6_walls_34 (ms_deC dX6_walls_35 ms_deN))) rfl rfl ?_
      rw [show nI (sn (fun i => sn (fun j => gN (j * W + i)) H) k) = nI (sn (fun i => sn (fun j => gN (j * W + i)) H) k + sn (fun j => gN (j * W + k)) 0) from rfl]
      refine ms_W.sub (lv2 := [(0, _), (1, _), (2, _), (3, _), (4, _), (5, _), (6, _), (7, _), (8, _)]) ?_ [4, 5, 6, 7, 8, 3, 2, 1, 0] rfl
      refine l2_X6_walls hM hW hH hc hg (i := k) hlt ?_ H 0 (by omega)
      refine ms_run (pc' := 67) (lv' := [(4, .int ((nI k) + 1)), (0, .ref o), (1, .int (nI (sn (fun i => sn (fun j => gN (j * W + i)) H) (k + 1)))), (2, .ref fa), (3, .int (nI W))]) (st' := []) _ (ms_deC dX6_walls_64 ms_deN) rfl rfl ?_
      refine ms_goto (tgt := 13) dX6_walls_67 (by decide) ?_
      rw [nI_1 k]
      refine ms_W.sub (lv2 := [(0, _), (1, _), (2, _), (3, _), (4, _)]) ?_ [1, 2, 3, 4, 0] rfl
      exact ih (k + 1) (by omega)
set_option maxHeartbeats 1000000 in
set_option maxRecDepth 20000 in
theorem c_X6_walls {n o x sb fa wa W H cnt : Nat} {G : ms_H} {dw cl dr pa : Int32} {wr : Nat → Nat} {fv u : Nat → Nat → Int32} (hM : fk_at G o x sb dw W H cl dr pa fa wa cnt wr fv u) (hW : W ≤ 14) (hH : H ≤ 14) (hc : cnt ≤ 24) {gN : Nat → Nat} (hg : ∀ f, f < W * H → fv f 0 = nI (gN f)) : ms_M m_X6_walls [.ref o] n G 0 0 (ms_p1 (some (.int (nI (sn gN (W * H))))) n G) := by
  refine ms_M.of (by decide) (Nat.le_of_ble_eq_true rfl) ?_
  show ms_W false m_X6_walls _ 0 [(0, .ref o)] [] n G 0 0
  refine ms_run (pc' := 3) (lv' := [(1, .int 0), (0, .ref o)]) (st' := [.ref o]) _ (ms_deC dX6_walls_0 (ms_deC dX6_walls_1 (ms_deC dX6_walls_2 ms_deN))) rfl rfl ?_
  refine ms_getf dX6_walls_3 fg_X6_31 hM.1 rfl ?_
  refine ms_run (pc' := 8) (lv' := [(2, .ref fa), (1, .int 0), (0, .ref o)]) (st' := [.ref fa]) _ (ms_deC dX6_walls_6 (ms_deC dX6_walls_7 ms_deN)) rfl rfl ?_
  refine fk_lenF dX6_walls_8 hM.2.1 ?_
  refine ms_run (pc' := 13) (lv' := [(4, .int 0), (3, .int (nI W)), (2, .ref fa), (1, .int 0), (0, .ref o)]) (st' := []) _ (ms_deC dX6_walls_9 (ms_deC dX6_walls_10 (ms_deC dX6_walls_11 ms_deN))) rfl rfl ?_
  rw [show ([(4, .int 0), (3, .int (nI W)), (2, .ref fa), (1, .int 0), (0, .ref o)] : List (Nat × Value)) = [(4, .int (nI 0)), (3, .int (nI W)), (2, .ref fa), (1, .int (nI (sn (fun i => sn (fun j => gN (j * W + i)) H) 0))), (0, .ref o)] from rfl]
  refine ms_W.sub (lv2 := [(0, _), (1, _), (2, _), (3, _), (4, _)]) ?_ [4, 3, 2, 1, 0] rfl
  exact l1_X6_walls hM hW hH hc hg W 0 (by omega)

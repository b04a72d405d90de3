/-! Grid: has, number, next -/
set_option maxHeartbeats 2000000 in
set_option maxRecDepth 20000 in
theorem c_X1_has {n g : Nat} {G : ms_H} {fl w h : Int32} {nr : Nat → Int32} (hG : gr_at G g fl w h nr) (f : Int32) : ms_M m_X1_has [.ref g, .int f] n G 0 0 (ms_p1 (some (.int (ms_b (gr_has fl f)))) n G) := by
  refine ms_M.of (by decide) (Nat.le_of_ble_eq_true rfl) ?_
  show ms_W false m_X1_has _ 0 [(0, .ref g), (1, .int f)] [] n G 0 0
  refine ms_run (pc' := 1) (lv' := [(0, .ref g), (1, .int f)]) (st' := [.int f]) _ (ms_deC dX1_has_0 ms_deN) rfl rfl ?_
  refine ms_if_lt (tgt := 23) dX1_has_1 (by decide) (fun h_1 => ?_) (fun h_1 => ?_)
  · skip
    refine ms_run (pc' := 24) (lv' := [(0, .ref g), (1, .int f)]) (st' := [.int 0]) _ (ms_deC dX1_has_23 ms_deN) rfl rfl ?_
    refine ms_reti (st := []) (ty := .boolean) dX1_has_24 rfl rfl ?_
    exact ms_p1.mk (ms_int_eq (by grind)) rfl
  · skip
    refine ms_run (pc' := 6) (lv' := [(0, .ref g), (1, .int f)]) (st' := [.ref g, .int f]) _ (ms_deC dX1_has_4 (ms_deC dX1_has_5 ms_deN)) rfl rfl ?_
    refine ms_getf dX1_has_6 fg_X1_22 hG.1 rfl ?_
    refine ms_icmp_ge (tgt := 23) dX1_has_9 (by decide) (fun h_9 => ?_) (fun h_9 => ?_)
    · skip
      refine ms_run (pc' := 24) (lv' := [(0, .ref g), (1, .int f)]) (st' := [.int 0]) _ (ms_deC dX1_has_23 ms_deN) rfl rfl ?_
      refine ms_reti (st := []) (ty := .boolean) dX1_has_24 rfl rfl ?_
      exact ms_p1.mk (ms_int_eq (by grind)) rfl
    · skip
      refine ms_run (pc' := 16) (lv' := [(0, .ref g), (1, .int f)]) (st' := [.int 196, .int f]) _ (ms_deC dX1_has_12 (ms_deC dX1_has_13 ms_deN)) rfl rfl ?_
      refine ms_icmp_ge (tgt := 23) dX1_has_16 (by decide) (fun h_16 => ?_) (fun h_16 => ?_)
      · skip
        refine ms_run (pc' := 24) (lv' := [(0, .ref g), (1, .int f)]) (st' := [.int 0]) _ (ms_deC dX1_has_23 ms_deN) rfl rfl ?_
        refine ms_reti (st := []) (ty := .boolean) dX1_has_24 rfl rfl ?_
        exact ms_p1.mk (ms_int_eq (by grind)) rfl
      · skip
        refine ms_run (pc' := 20) (lv' := [(0, .ref g), (1, .int f)]) (st' := [.int 1]) _ (ms_deC dX1_has_19 ms_deN) rfl rfl ?_
        refine ms_goto (tgt := 24) dX1_has_20 (by decide) ?_
        refine ms_reti (st := []) (ty := .boolean) dX1_has_24 rfl rfl ?_
        exact ms_p1.mk (ms_int_eq (by grind)) rfl
set_option maxHeartbeats 2000000 in
set_option maxRecDepth 20000 in
theorem c_X1_number {n g : Nat} {G : ms_H} {fl w h : Int32} {nr : Nat → Int32} (hG : gr_at G g fl w h nr) (x y : Int32) : ms_M m_X1_number [.ref g, .int x, .int y] n G 0 0 (ms_p1 (some (.int (gr_num w h x y))) n G) := by
  refine ms_M.of (by decide) (Nat.le_of_ble_eq_true rfl) ?_
  show ms_W false m_X1_number _ 0 [(0, .ref g), (1, .int x), (2, .int y)] [] n G 0 0
  refine ms_run (pc' := 1) (lv' := [(0, .ref g), (1, .int x), (2, .int y)]) (st' := [.int x]) _ (ms_deC dX1_number_0 ms_deN) rfl rfl ?_
  refine ms_if_lt (tgt := 28) dX1_number_1 (by decide) (fun h_1 => ?_) (fun h_1 => ?_)
  · skip
    refine ms_run (pc' := 31) (lv' := [(3, .int 0), (0, .ref g), (1, .int x), (2, .int y)]) (st' := [.int 0]) _ (ms_deC dX1_number_28 (ms_deC dX1_number_29 (ms_deC dX1_number_30 ms_deN))) rfl rfl ?_
    refine ms_if_eq (tgt := 45) dX1_number_31 (by decide) (fun _ => ?_) (fun h9 => absurd h9 (by decide))
    refine ms_run (pc' := 46) (lv' := [(3, .int 0), (0, .ref g), (1, .int x), (2, .int y)]) (st' := [.int (-1)]) _ (ms_deC dX1_number_45 ms_deN) rfl rfl ?_
    refine ms_reti (st := []) (ty := .int) dX1_number_46 rfl rfl ?_
    exact ms_p1.mk (ms_int_eq (by unfold gr_num; grind)) rfl
  · skip
    refine ms_run (pc' := 6) (lv' := [(0, .ref g), (1, .int x), (2, .int y)]) (st' := [.ref g, .int x]) _ (ms_deC dX1_number_4 (ms_deC dX1_number_5 ms_deN)) rfl rfl ?_
    refine ms_getf dX1_number_6 fg_X1_15 hG.1 rfl ?_
    refine ms_icmp_ge (tgt := 28) dX1_number_9 (by decide) (fun h_9 => ?_) (fun h_9 => ?_)
    · skip
      refine ms_run (pc' := 31) (lv' := [(3, .int 0), (0, .ref g), (1, .int x), (2, .int y)]) (st' := [.int 0]) _ (ms_deC dX1_number_28 (ms_deC dX1_number_29 (ms_deC dX1_number_30 ms_deN))) rfl rfl ?_
      refine ms_if_eq (tgt := 45) dX1_number_31 (by decide) (fun _ => ?_) (fun h9 => absurd h9 (by decide))
      refine ms_run (pc' := 46) (lv' := [(3, .int 0), (0, .ref g), (1, .int x), (2, .int y)]) (st' := [.int (-1)]) _ (ms_deC dX1_number_45 ms_deN) rfl rfl ?_
      refine ms_reti (st := []) (ty := .int) dX1_number_46 rfl rfl ?_
      exact ms_p1.mk (ms_int_eq (by unfold gr_num; grind)) rfl
    · skip
      refine ms_run (pc' := 13) (lv' := [(0, .ref g), (1, .int x), (2, .int y)]) (st' := [.int y]) _ (ms_deC dX1_number_12 ms_deN) rfl rfl ?_
      refine ms_if_lt (tgt := 28) dX1_number_13 (by decide) (fun h_13 => ?_) (fun h_13 => ?_)
      · skip
        refine ms_run (pc' := 31) (lv' := [(3, .int 0), (0, .ref g), (1, .int x), (2, .int y)]) (st' := [.int 0]) _ (ms_deC dX1_number_28 (ms_deC dX1_number_29 (ms_deC dX1_number_30 ms_deN))) rfl rfl ?_
        refine ms_if_eq (tgt := 45) dX1_number_31 (by decide) (fun _ => ?_) (fun h9 => absurd h9 (by decide))
        refine ms_run (pc' := 46) (lv' := [(3, .int 0), (0, .ref g), (1, .int x), (2, .int y)]) (st' := [.int (-1)]) _ (ms_deC dX1_number_45 ms_deN) rfl rfl ?_
        refine ms_reti (st := []) (ty := .int) dX1_number_46 rfl rfl ?_
        exact ms_p1.mk (ms_int_eq (by unfold gr_num; grind)) rfl
      · skip
        refine ms_run (pc' := 18) (lv' := [(0, .ref g), (1, .int x), (2, .int y)]) (st' := [.ref g, .int y]) _ (ms_deC dX1_number_16 (ms_deC dX1_number_17 ms_deN)) rfl rfl ?_
        refine ms_getf dX1_number_18 fg_X1_19 hG.1 rfl ?_
        refine ms_icmp_ge (tgt := 28) dX1_number_21 (by decide) (fun h_21 => ?_) (fun h_21 => ?_)
        · skip
          refine ms_run (pc' := 31) (lv' := [(3, .int 0), (0, .ref g), (1, .int x), (2, .int y)]) (st' := [.int 0]) _ (ms_deC dX1_number_28 (ms_deC dX1_number_29 (ms_deC dX1_number_30 ms_deN))) rfl rfl ?_
          refine ms_if_eq (tgt := 45) dX1_number_31 (by decide) (fun _ => ?_) (fun h9 => absurd h9 (by decide))
          refine ms_run (pc' := 46) (lv' := [(3, .int 0), (0, .ref g), (1, .int x), (2, .int y)]) (st' := [.int (-1)]) _ (ms_deC dX1_number_45 ms_deN) rfl rfl ?_
          refine ms_reti (st := []) (ty := .int) dX1_number_46 rfl rfl ?_
          exact ms_p1.mk (ms_int_eq (by unfold gr_num; grind)) rfl
        · skip
          refine ms_run (pc' := 25) (lv' := [(0, .ref g), (1, .int x), (2, .int y)]) (st' := [.int 1]) _ (ms_deC dX1_number_24 ms_deN) rfl rfl ?_
          refine ms_goto (tgt := 29) dX1_number_25 (by decide) ?_
          refine ms_run (pc' := 31) (lv' := [(3, .int 1), (0, .ref g), (1, .int x), (2, .int y)]) (st' := [.int 1]) _ (ms_deC dX1_number_29 (ms_deC dX1_number_30 ms_deN)) rfl rfl ?_
          refine ms_if_eq (tgt := 45) dX1_number_31 (by decide) (fun h9 => absurd h9 (by decide)) (fun _ => ?_)
          refine ms_run (pc' := 36) (lv' := [(3, .int 1), (0, .ref g), (1, .int x), (2, .int y)]) (st' := [.ref g, .int y]) _ (ms_deC dX1_number_34 (ms_deC dX1_number_35 ms_deN)) rfl rfl ?_
          refine ms_getf dX1_number_36 fg_X1_15 hG.1 rfl ?_
          refine ms_run (pc' := 42) (lv' := [(3, .int 1), (0, .ref g), (1, .int x), (2, .int y)]) (st' := [.int ((y * w) + x)]) _ (ms_deC dX1_number_39 (ms_deC dX1_number_40 (ms_deC dX1_number_41 ms_deN))) rfl rfl ?_
          refine ms_goto (tgt := 46) dX1_number_42 (by decide) ?_
          refine ms_reti (st := []) (ty := .int) dX1_number_46 rfl rfl ?_
          exact ms_p1.mk (ms_int_eq (by unfold gr_num; grind)) rfl
set_option maxHeartbeats 2000000 in
set_option maxRecDepth 20000 in
theorem c_X1_next {n g : Nat} {G : ms_H} {fl w h : Int32} {nr : Nat → Int32} (hG : gr_at G g fl w h nr) (f k : Int32) : ms_M m_X1_next [.ref g, .int f, .int k] n G 0 0 (ms_p1 (some (.int (gr_next nr f k))) n G) := by
  refine ms_M.of (by decide) (Nat.le_of_ble_eq_true rfl) ?_
  show ms_W false m_X1_next _ 0 [(0, .ref g), (1, .int f), (2, .int k)] [] n G 0 0
  refine ms_run (pc' := 1) (lv' := [(0, .ref g), (1, .int f), (2, .int k)]) (st' := [.int f]) _ (ms_deC dX1_next_0 ms_deN) rfl rfl ?_
  refine ms_if_lt (tgt := 25) dX1_next_1 (by decide) (fun h_1 => ?_) (fun h_1 => ?_)
  · skip
    refine ms_run (pc' := 28) (lv' := [(3, .int 0), (0, .ref g), (1, .int f), (2, .int k)]) (st' := [.int 0]) _ (ms_deC dX1_next_25 (ms_deC dX1_next_26 (ms_deC dX1_next_27 ms_deN))) rfl rfl ?_
    refine ms_if_eq (tgt := 45) dX1_next_28 (by decide) (fun _ => ?_) (fun h9 => absurd h9 (by decide))
    refine ms_run (pc' := 46) (lv' := [(3, .int 0), (0, .ref g), (1, .int f), (2, .int k)]) (st' := [.int (-1)]) _ (ms_deC dX1_next_45 ms_deN) rfl rfl ?_
    refine ms_reti (st := []) (ty := .int) dX1_next_46 rfl rfl ?_
    exact ms_p1.mk (ms_int_eq (by unfold gr_next; grind)) rfl
  · skip
    refine ms_run (pc' := 8) (lv' := [(0, .ref g), (1, .int f), (2, .int k)]) (st' := [.int 196, .int f]) _ (ms_deC dX1_next_4 (ms_deC dX1_next_5 ms_deN)) rfl rfl ?_
    refine ms_icmp_ge (tgt := 25) dX1_next_8 (by decide) (fun h_8 => ?_) (fun h_8 => ?_)
    · skip
      refine ms_run (pc' := 28) (lv' := [(3, .int 0), (0, .ref g), (1, .int f), (2, .int k)]) (st' := [.int 0]) _ (ms_deC dX1_next_25 (ms_deC dX1_next_26 (ms_deC dX1_next_27 ms_deN))) rfl rfl ?_
      refine ms_if_eq (tgt := 45) dX1_next_28 (by decide) (fun _ => ?_) (fun h9 => absurd h9 (by decide))
      refine ms_run (pc' := 46) (lv' := [(3, .int 0), (0, .ref g), (1, .int f), (2, .int k)]) (st' := [.int (-1)]) _ (ms_deC dX1_next_45 ms_deN) rfl rfl ?_
      refine ms_reti (st := []) (ty := .int) dX1_next_46 rfl rfl ?_
      exact ms_p1.mk (ms_int_eq (by unfold gr_next; grind)) rfl
    · skip
      refine ms_run (pc' := 12) (lv' := [(0, .ref g), (1, .int f), (2, .int k)]) (st' := [.int k]) _ (ms_deC dX1_next_11 ms_deN) rfl rfl ?_
      refine ms_if_lt (tgt := 25) dX1_next_12 (by decide) (fun h_12 => ?_) (fun h_12 => ?_)
      · skip
        refine ms_run (pc' := 28) (lv' := [(3, .int 0), (0, .ref g), (1, .int f), (2, .int k)]) (st' := [.int 0]) _ (ms_deC dX1_next_25 (ms_deC dX1_next_26 (ms_deC dX1_next_27 ms_deN))) rfl rfl ?_
        refine ms_if_eq (tgt := 45) dX1_next_28 (by decide) (fun _ => ?_) (fun h9 => absurd h9 (by decide))
        refine ms_run (pc' := 46) (lv' := [(3, .int 0), (0, .ref g), (1, .int f), (2, .int k)]) (st' := [.int (-1)]) _ (ms_deC dX1_next_45 ms_deN) rfl rfl ?_
        refine ms_reti (st := []) (ty := .int) dX1_next_46 rfl rfl ?_
        exact ms_p1.mk (ms_int_eq (by unfold gr_next; grind)) rfl
      · skip
        refine ms_run (pc' := 18) (lv' := [(0, .ref g), (1, .int f), (2, .int k)]) (st' := [.int 8, .int k]) _ (ms_deC dX1_next_15 (ms_deC dX1_next_16 ms_deN)) rfl rfl ?_
        refine ms_icmp_ge (tgt := 25) dX1_next_18 (by decide) (fun h_18 => ?_) (fun h_18 => ?_)
        · skip
          refine ms_run (pc' := 28) (lv' := [(3, .int 0), (0, .ref g), (1, .int f), (2, .int k)]) (st' := [.int 0]) _ (ms_deC dX1_next_25 (ms_deC dX1_next_26 (ms_deC dX1_next_27 ms_deN))) rfl rfl ?_
          refine ms_if_eq (tgt := 45) dX1_next_28 (by decide) (fun _ => ?_) (fun h9 => absurd h9 (by decide))
          refine ms_run (pc' := 46) (lv' := [(3, .int 0), (0, .ref g), (1, .int f), (2, .int k)]) (st' := [.int (-1)]) _ (ms_deC dX1_next_45 ms_deN) rfl rfl ?_
          refine ms_reti (st := []) (ty := .int) dX1_next_46 rfl rfl ?_
          exact ms_p1.mk (ms_int_eq (by unfold gr_next; grind)) rfl
        · skip
          refine ms_run (pc' := 22) (lv' := [(0, .ref g), (1, .int f), (2, .int k)]) (st' := [.int 1]) _ (ms_deC dX1_next_21 ms_deN) rfl rfl ?_
          refine ms_goto (tgt := 26) dX1_next_22 (by decide) ?_
          refine ms_run (pc' := 28) (lv' := [(3, .int 1), (0, .ref g), (1, .int f), (2, .int k)]) (st' := [.int 1]) _ (ms_deC dX1_next_26 (ms_deC dX1_next_27 ms_deN)) rfl rfl ?_
          refine ms_if_eq (tgt := 45) dX1_next_28 (by decide) (fun h9 => absurd h9 (by decide)) (fun _ => ?_)
          refine ms_run (pc' := 32) (lv' := [(3, .int 1), (0, .ref g), (1, .int f), (2, .int k)]) (st' := [.ref g]) _ (ms_deC dX1_next_31 ms_deN) rfl rfl ?_
          refine ms_getf dX1_next_32 fg_X1_9 hG.1 rfl ?_
          refine ms_run (pc' := 41) (lv' := [(3, .int 1), (0, .ref g), (1, .int f), (2, .int k)]) (st' := [.int ((f * 8) + k), .ref (g + 1)]) _ (ms_deC dX1_next_35 (ms_deC dX1_next_36 (ms_deC dX1_next_38 (ms_deC dX1_next_39 (ms_deC dX1_next_40 ms_deN))))) rfl rfl ?_
          refine ms_iaload dX1_next_41 hG.2 (gr_nin (by assumption) (by assumption) (by assumption) (by assumption)) ?_
          refine ms_goto (tgt := 46) dX1_next_42 (by decide) ?_
          refine ms_reti (st := []) (ty := .int) dX1_next_46 rfl rfl ?_
          exact ms_p1.mk (ms_int_eq (by unfold gr_next; grind)) rfl

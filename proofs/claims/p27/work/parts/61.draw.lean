/-! the law's below and cell; Flock: draw -/
def clV (L : Nat) (xs : Nat → Int32) (a : Nat) : Int32 := if nI L ≤ nI a then 790386105 * (nI a + 3) else xs a
def bwV (v : Int32) (N : Nat) : Nat := (v &&& 2147483647).toNatClampNeg % N
theorem and_pos (v : Int32) : ¬ (v &&& 2147483647) < 0 := by
  intro h
  have h1 := Int32.lt_iff_toInt_lt.mp h
  have h2 : (v &&& 2147483647).toInt = (v.toBitVec &&& (2147483647 : Int32).toBitVec).toInt := rfl
  have h3 : (v.toBitVec &&& (2147483647 : Int32).toBitVec).msb = false := by
    rw [BitVec.msb_and]
    rw [show ((2147483647 : Int32).toBitVec).msb = false from by decide]
    exact Bool.and_false _
  rw [BitVec.msb_eq_toInt] at h3
  have h4 := of_decide_eq_false h3
  rw [h2] at h1
  exact h4 h1
theorem nI_remB {a b : Nat} (ha : a < 2 ^ 31) (hb : b < 1000) (hb0 : 0 < b) : nI a - nI a / nI b * nI b = nI (a % b) := by
  have hd : nI a / nI b = nI (a / b) := by
    have hq := Nat.div_le_self a b
    apply Int32.toInt_inj.mp
    rw [Int32.toInt_div, nI_toInt ha, nI_toInt (by omega), nI_toInt (by omega), ← Int.ofNat_tdiv]
    generalize a / b = q at hq ⊢
    rw [Int.bmod_eq_of_le (by omega) (by omega)]
  rw [hd, pk_mul]
  have hm := Nat.div_add_mod a b
  rw [Nat.mul_comm] at hm
  apply Int32.toInt_inj.mp
  have hle : a / b * b ≤ a := by omega
  have hlt : a % b < 2 ^ 31 := Nat.lt_of_le_of_lt (Nat.mod_le a b) ha
  rw [nb_sub (by rw [nI_toInt ha, nI_toInt (by omega)]; omega) (by rw [nI_toInt ha, nI_toInt (by omega)]; omega), nI_toInt ha, nI_toInt (by omega), nI_toInt hlt]
  omega
theorem bw_rem {v : Int32} {N : Nat} (hN : N < 1000) (h0 : 0 < N) : (v &&& 2147483647) - (v &&& 2147483647) / nI N * nI N = nI (bwV v N) := by
  obtain ⟨j, hj, e⟩ := nI_of (and_pos v)
  unfold bwV
  rw [e, nI_remB hj hN h0, nI_clamp hj]
theorem bw_lt {v : Int32} {N : Nat} (h0 : 0 < N) : bwV v N < N := Nat.mod_lt _ h0
set_option maxHeartbeats 2000000 in
set_option maxRecDepth 20000 in
theorem c_L_below {n N : Nat} {G : ms_H} (v : Int32) (hN : N < 1000) (h0 : 0 < N) : ms_M m_L_below [.int v, .int (nI N)] n G 0 0 (ms_p1 (some (.int (nI (bwV v N)))) n G) := by
  refine ms_M.of (by decide) (Nat.le_of_ble_eq_true rfl) ?_
  show ms_W false m_L_below _ 0 [(0, .int v), (1, .int (nI N))] [] n G 0 0
  refine ms_run (pc' := 1) (lv' := [(0, .int v), (1, .int (nI N))]) (st' := [.int v]) _ (ms_deC dL_below_0 ms_deN) rfl rfl ?_
  refine ms_ldcI dL_below_1 li_L_7 ?_
  refine ms_run (pc' := 5) (lv' := [(0, .int v), (1, .int (nI N))]) (st' := [.int (nI N), .int (v &&& 2147483647)]) _ (ms_deC dL_below_3 (ms_deC dL_below_4 ms_deN)) rfl rfl ?_
  refine ms_irem dL_below_5 (nI_ne0 h0 (by omega)) ?_
  rw [bw_rem hN h0]
  refine ms_reti (st := []) (ty := .int) dL_below_6 rfl rfl ?_
  exact ms_p1.mk rfl rfl
set_option maxHeartbeats 2000000 in
set_option maxRecDepth 20000 in
theorem c_L_cell {n a sb L : Nat} {xs : Nat → Int32} {G : ms_H} (hLb : L < 1000) (ha : a < 1000) : ms_M (ms_S (sb, L, xs) m_L_cell) [.ref sb, .int (nI a)] n G 0 0 (ms_p1 (some (.int (clV L xs a))) n G) := by
  refine ms_M.of (show plainName m_L_cell.1.cls = true from by decide) (Nat.le_of_ble_eq_true rfl) ?_
  show ms_W false (ms_S (sb, L, xs) m_L_cell) _ 0 [(0, .ref sb), (1, .int (nI a))] [] n G 0 0
  refine ms_run (pc' := 2) (lv' := [(0, .ref sb), (1, .int (nI a))]) (st' := [.ref sb, .int (nI a)]) _ (ms_deC dL_cell_0 (ms_deC dL_cell_1 ms_deN)) rfl rfl ?_
  refine ms_slen dL_cell_2 rfl ?_
  refine ms_icmp_ge (tgt := 12) dL_cell_3 (by decide) (fun h_3 => ?_) (fun h_3 => ?_)
  · skip
    refine ms_ldcI dL_cell_12 li_L_8 ?_
    refine ms_run (pc' := 18) (lv' := [(0, .ref sb), (1, .int (nI a))]) (st' := [.int (790386105 * ((nI a) + 3))]) _ (ms_deC dL_cell_14 (ms_deC dL_cell_15 (ms_deC dL_cell_16 (ms_deC dL_cell_17 ms_deN)))) rfl rfl ?_
    refine ms_reti (st := []) (ty := .int) dL_cell_18 rfl rfl ?_
    exact ms_p1.mk (ms_int_eq (by unfold clV; first | exact (if_pos h_3).symm | exact (if_neg h_3).symm)) rfl
  · skip
    refine ms_run (pc' := 8) (lv' := [(0, .ref sb), (1, .int (nI a))]) (st' := [.int (nI a), .ref sb]) _ (ms_deC dL_cell_6 (ms_deC dL_cell_7 ms_deN)) rfl rfl ?_
    refine ms_sld dL_cell_8 rfl (vp_in_nI (Nat.not_le.mp (fun z => h_3 (nI_le z (by omega)))) (by omega)) ?_
    rw [nI_clamp (n := a) (by omega)]
    refine ms_goto (tgt := 18) dL_cell_9 (by decide) ?_
    refine ms_reti (st := []) (ty := .int) dL_cell_18 rfl rfl ?_
    exact ms_p1.mk (ms_int_eq (by unfold clV; first | exact (if_pos h_3).symm | exact (if_neg h_3).symm)) rfl
set_option maxHeartbeats 2000000 in
set_option maxRecDepth 20000 in
theorem c_X6_draw {n o x sb fa wa L d N : Nat} {xs : Nat → Int32} {G : ms_H} {Wv Hv cl dr pa : Int32} (hO : G o = some (.inr (6, [.ref x, .ref sb, .int (nI d), .int Wv, .int Hv, .int cl, .int dr, .int pa, .ref fa, .ref wa]))) (hd : d < 900) (hLb : L < 1000) (hN : N < 1000) (h0 : 0 < N) : ms_M (ms_S (sb, L, xs) m_X6_draw) [.ref o, .int (nI N)] n G 0 0 (fun r n1 G1 => ∃ v, v < N ∧ r = .inl (some (.int (nI v))) ∧ n1 = n ∧ G1 = ms_up G o (.inr (6, [.ref x, .ref sb, .int (nI (d + 1)), .int Wv, .int Hv, .int cl, .int dr, .int pa, .ref fa, .ref wa]))) := by
  refine ms_M.of (show plainName m_X6_draw.1.cls = true from by decide) (Nat.le_of_ble_eq_true rfl) ?_
  show ms_W false (ms_S (sb, L, xs) m_X6_draw) _ 0 [(0, .ref o), (1, .int (nI N))] [] n G 0 0
  refine ms_run (pc' := 1) (lv' := [(0, .ref o), (1, .int (nI N))]) (st' := [.ref o]) _ (ms_deC dX6_draw_0 ms_deN) rfl rfl ?_
  refine ms_getf dX6_draw_1 fg_X6_40 hO rfl ?_
  refine ms_run (pc' := 5) (lv' := [(0, .ref o), (1, .int (nI N))]) (st' := [.ref o, .ref sb]) _ (ms_deC dX6_draw_4 ms_deN) rfl rfl ?_
  refine ms_getf dX6_draw_5 fg_X6_43 hO rfl ?_
  refine ms_run (pc' := 10) (lv' := [(0, .ref o), (1, .int (nI N))]) (st' := [.int 24, .int (nI d), .ref sb]) _ (ms_deC dX6_draw_8 ms_deN) rfl rfl ?_
  refine ms_irem dX6_draw_10 (by decide) ?_
  rw [show nI d - nI d / 24 * 24 = nI (d % 24) from nI_remB (b := 24) (by omega) (by omega) (by omega)]
  refine ms_callSNp (As := [.ref sb, .int (nI (d % 24))]) dX6_draw_11 (c_L_cell hLb (a := d % 24) (by have := Nat.mod_lt d (show 0 < 24 by omega); omega)) csn_X6_46 rfl ⟨Nat.le_of_ble_eq_true rfl, Nat.le_of_ble_eq_true rfl⟩ rfl (Nat.le_of_ble_eq_true rfl) ?_
  refine ms_run (pc' := 15) (lv' := [(0, .ref o), (1, .int (nI N))]) (st' := [.ref o, .int (clV L xs (d % 24))]) _ (ms_deC dX6_draw_14 ms_deN) rfl rfl ?_
  refine ms_getf dX6_draw_15 fg_X6_43 hO rfl ?_
  refine ms_run (pc' := 20) (lv' := [(0, .ref o), (1, .int (nI N))]) (st' := [.int 24, .int (nI d), .int (clV L xs (d % 24))]) _ (ms_deC dX6_draw_18 ms_deN) rfl rfl ?_
  refine ms_idiv dX6_draw_20 (by decide) ?_
  refine ms_run (pc' := 23) (lv' := [(0, .ref o), (1, .int (nI N))]) (st' := [.int 8, .int ((nI d) / 24), .int (clV L xs (d % 24))]) _ (ms_deC dX6_draw_21 ms_deN) rfl rfl ?_
  refine ms_irem dX6_draw_23 (by decide) ?_
  refine ms_ishr dX6_draw_24 ?_
  refine ms_run (pc' := 29) (lv' := [(0, .ref o), (1, .int (nI N))]) (st' := [.ref o, .int 163, .int ((clV L xs (d % 24)) >>> ((((nI d) / 24) - ((nI d) / 24) / 8 * 8) &&& 31))]) _ (ms_deC dX6_draw_25 (ms_deC dX6_draw_28 ms_deN)) rfl rfl ?_
  refine ms_getf dX6_draw_29 fg_X6_43 hO rfl ?_
  refine ms_run (pc' := 35) (lv' := [(0, .ref o), (1, .int (nI N))]) (st' := [.int (nI N), .int (((clV L xs (d % 24)) >>> ((((nI d) / 24) - ((nI d) / 24) / 8 * 8) &&& 31)) + (163 * (nI d)))]) _ (ms_deC dX6_draw_32 (ms_deC dX6_draw_33 (ms_deC dX6_draw_34 ms_deN))) rfl rfl ?_
  refine ms_callSNp (As := [.int (((clV L xs (d % 24)) >>> ((((nI d) / 24) - ((nI d) / 24) / 8 * 8) &&& 31)) + (163 * (nI d))), .int (nI N)]) dX6_draw_35 (c_L_below (((clV L xs (d % 24)) >>> ((((nI d) / 24) - ((nI d) / 24) / 8 * 8) &&& 31)) + (163 * (nI d))) hN h0) csn_X6_52 rfl ⟨Nat.le_of_ble_eq_true rfl, Nat.le_of_ble_eq_true rfl⟩ rfl (Nat.le_of_ble_eq_true rfl) ?_
  refine ms_run (pc' := 41) (lv' := [(2, .int (nI (bwV (((clV L xs (d % 24)) >>> ((((nI d) / 24) - ((nI d) / 24) / 8 * 8) &&& 31)) + (163 * (nI d))) N))), (0, .ref o), (1, .int (nI N))]) (st' := [.ref o, .ref o]) _ (ms_deC dX6_draw_38 (ms_deC dX6_draw_39 (ms_deC dX6_draw_40 ms_deN))) rfl rfl ?_
  refine ms_getf dX6_draw_41 fg_X6_43 hO rfl ?_
  refine ms_run (pc' := 46) (lv' := [(2, .int (nI (bwV (((clV L xs (d % 24)) >>> ((((nI d) / 24) - ((nI d) / 24) / 8 * 8) &&& 31)) + (163 * (nI d))) N))), (0, .ref o), (1, .int (nI N))]) (st' := [.int ((nI d) + 1), .ref o]) _ (ms_deC dX6_draw_44 (ms_deC dX6_draw_45 ms_deN)) rfl rfl ?_
  refine ms_putf dX6_draw_46 fp_X6_43 hO (Nat.le_of_ble_eq_true rfl) rfl rfl ?_
  rw [nI_1 d]
  refine ms_run (pc' := 50) (lv' := [(2, .int (nI (bwV (((clV L xs (d % 24)) >>> ((((nI d) / 24) - ((nI d) / 24) / 8 * 8) &&& 31)) + (163 * (nI d))) N))), (0, .ref o), (1, .int (nI N))]) (st' := [.int (nI (bwV (((clV L xs (d % 24)) >>> ((((nI d) / 24) - ((nI d) / 24) / 8 * 8) &&& 31)) + (163 * (nI d))) N))]) _ (ms_deC dX6_draw_49 ms_deN) rfl rfl ?_
  refine ms_reti (st := []) (ty := .int) dX6_draw_50 rfl rfl ?_
  exact ⟨_, bw_lt h0, rfl, rfl, rfl⟩

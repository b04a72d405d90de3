/-! more readers of Square and Crowd -/
theorem cr_bs_t {f : Nat → Int32} {k : Nat} (h : f k < (cr_bs f k).2) : cr_bs f (k + 1) = (nI k, f k) := if_pos h
theorem cr_bs_f {f : Nat → Int32} {k : Nat} (h : ¬ f k < (cr_bs f k).2) : cr_bs f (k + 1) = cr_bs f k := if_neg h
theorem hx_t {f : Nat → Int32} {k : Nat} (h : ¬ f (k + 1) ≤ f (hx f k)) : hx f (k + 1) = k + 1 := if_pos (Int32.not_le.mp h)
theorem hx_f {f : Nat → Int32} {k : Nat} (h : f (k + 1) ≤ f (hx f k)) : hx f (k + 1) = hx f k := if_neg (Int32.not_lt.mpr h)
/-- the first of r places from k on of which p holds: v of it; -1 without one -/
def fst1 (p : Nat → Bool) (v : Nat → Int32) : Nat → Nat → Int32
  | _, 0 => -1
  | k, r + 1 => if p k then v k else fst1 p v (k + 1) r
theorem fst1_t {p : Nat → Bool} {v : Nat → Int32} {k r : Nat} (h : p k = true) : fst1 p v k (r + 1) = v k := by unfold fst1; rw [if_pos h]
theorem fst1_f {p : Nat → Bool} {v : Nat → Int32} {k r : Nat} (h : p k = false) : fst1 p v k (r + 1) = fst1 p v (k + 1) r := by show (if p k then v k else fst1 p v (k + 1) r) = _; rw [h]; rfl
def pNear (fl : Int32) (nr ds : Nat → Int32) (g f : Int32) (k : Nat) : Bool := decide (¬ gr_next nr f (nI k) = -1 ∧ sq_ds fl ds g (gr_next nr f (nI k)) = sq_ds fl ds g f - 1)
def sq_near (fl : Int32) (nr ds : Nat → Int32) (g f : Int32) : Int32 := fst1 (pNear fl nr ds g f) (fun k => gr_next nr f (nI k)) 0 4
def sq_way (fl : Int32) (nr ds : Nat → Int32) (g f : Int32) : Nat → Int32
  | 0 => f
  | k + 1 => sq_near fl nr ds g (sq_way fl nr ds g f k)
set_option maxHeartbeats 2000000 in
set_option maxRecDepth 20000 in
theorem l_X0_hottest {n g q c : Nat} {G : ms_H} {fl w h : Int32} {nr : Nat → Int32} (hG : gr_at G g fl w h nr){hd on ht cm : Nat → Int32} {wk : Nat → Nat → Int32} (hC : cr_at G g q c hd on ht cm wk) {nf : Nat} (hf : fl = nI (nf + 1)) (h9 : nf < 196) : ∀ (r k : Nat), k + r = nf → ms_W false m_X0_hottest (ms_p1 (some (.int (nI (hx ht nf)))) n G) 4 [(0, .ref c), (1, .int (nI (hx ht k))), (2, .int (nI (k + 1)))] [] n G 0 0 := by
  intro r
  induction r with
  | zero =>
    intro k hk
    have hkN : k = nf := by omega
    refine ms_run (pc' := 6) (lv' := [(0, .ref c), (1, .int (nI (hx ht k))), (2, .int (nI (k + 1)))]) (st' := [.ref c, .int (nI (k + 1))]) _ (ms_deC dX0_hottest_4 (ms_deC dX0_hottest_5 ms_deN)) rfl rfl ?_
    refine ms_getf dX0_hottest_6 fg_X0_34 hC.1 rfl ?_
    refine ms_getf dX0_hottest_9 fg_X0_85 hG.1 rfl ?_
    refine ms_icmp_ge (tgt := 36) dX0_hottest_12 (by decide) (fun h_12 => ?_) (fun h_12 => ?_)
    · skip
      refine ms_run (pc' := 37) (lv' := [(0, .ref c), (1, .int (nI (hx ht k))), (2, .int (nI (k + 1)))]) (st' := [.int (nI (hx ht k))]) _ (ms_deC dX0_hottest_36 ms_deN) rfl rfl ?_
      refine ms_reti (st := []) (ty := .int) dX0_hottest_37 rfl rfl ?_
      exact ms_p1.mk (by rw [hkN]) rfl
    · skip
      exact absurd (by rw [hf, hkN]; exact nI_le (Nat.le_refl _) (by omega)) h_12
  | succ r ih =>
    intro k hk
    have hlt : k < nf := by omega
    refine ms_run (pc' := 6) (lv' := [(0, .ref c), (1, .int (nI (hx ht k))), (2, .int (nI (k + 1)))]) (st' := [.ref c, .int (nI (k + 1))]) _ (ms_deC dX0_hottest_4 (ms_deC dX0_hottest_5 ms_deN)) rfl rfl ?_
    refine ms_getf dX0_hottest_6 fg_X0_34 hC.1 rfl ?_
    refine ms_getf dX0_hottest_9 fg_X0_85 hG.1 rfl ?_
    refine ms_icmp_ge (tgt := 36) dX0_hottest_12 (by decide) (fun h_12 => ?_) (fun h_12 => ?_)
    · skip
      exact absurd h_12 (by rw [hf]; exact nI_ge (b := nf + 1) (by omega) (by omega))
    · skip
      refine ms_run (pc' := 17) (lv' := [(0, .ref c), (1, .int (nI (hx ht k))), (2, .int (nI (k + 1)))]) (st' := [.int (nI (k + 1)), .ref c]) _ (ms_deC dX0_hottest_15 (ms_deC dX0_hottest_16 ms_deN)) rfl rfl ?_
      refine ms_callVp (As := [.int (nI (k + 1))]) dX0_hottest_17 (c_X0_heatOf hC (nI (k + 1))) cv_X0_88 hC.1 rfl ⟨Nat.le_of_ble_eq_true rfl, Nat.le_of_ble_eq_true rfl⟩ rfl (Nat.le_of_ble_eq_true rfl) ?_
      rw [cr_htI ht (by omega)]
      refine ms_run (pc' := 22) (lv' := [(0, .ref c), (1, .int (nI (hx ht k))), (2, .int (nI (k + 1)))]) (st' := [.int (nI (hx ht k)), .ref c, .int (ht (k + 1))]) _ (ms_deC dX0_hottest_20 (ms_deC dX0_hottest_21 ms_deN)) rfl rfl ?_
      refine ms_callVp (As := [.int (nI (hx ht k))]) dX0_hottest_22 (c_X0_heatOf hC (nI (hx ht k))) cv_X0_88 hC.1 rfl ⟨Nat.le_of_ble_eq_true rfl, Nat.le_of_ble_eq_true rfl⟩ rfl (Nat.le_of_ble_eq_true rfl) ?_
      rw [cr_htI ht (by have := hx_le ht k; omega)]
      refine ms_icmp_le (tgt := 30) dX0_hottest_25 (by decide) (fun h_25 => ?_) (fun h_25 => ?_)
      · skip
        refine ms_run (pc' := 33) (lv' := [(2, .int ((nI (k + 1)) + 1)), (0, .ref c), (1, .int (nI (hx ht k)))]) (st' := []) _ (ms_deC dX0_hottest_30 ms_deN) rfl rfl ?_
        refine ms_goto (tgt := 4) dX0_hottest_33 (by decide) ?_
        have h7 := ih (k + 1) (by omega)
        rw [hx_f h_25] at h7
        rw [nI_1 (k + 1)]
        refine ms_W.sub (lv2 := [(0, _), (1, _), (2, _)]) ?_ [1, 2, 0] rfl
        exact h7
      · skip
        refine ms_run (pc' := 33) (lv' := [(2, .int ((nI (k + 1)) + 1)), (1, .int (nI (k + 1))), (0, .ref c)]) (st' := []) _ (ms_deC dX0_hottest_28 (ms_deC dX0_hottest_29 (ms_deC dX0_hottest_30 ms_deN))) rfl rfl ?_
        refine ms_goto (tgt := 4) dX0_hottest_33 (by decide) ?_
        have h7 := ih (k + 1) (by omega)
        rw [hx_t h_25] at h7
        rw [nI_1 (k + 1)]
        refine ms_W.sub (lv2 := [(0, _), (1, _), (2, _)]) ?_ [2, 1, 0] rfl
        exact h7
set_option maxHeartbeats 2000000 in
set_option maxRecDepth 20000 in
theorem c_X0_hottest {n g q c : Nat} {G : ms_H} {fl w h : Int32} {nr : Nat → Int32} (hG : gr_at G g fl w h nr){hd on ht cm : Nat → Int32} {wk : Nat → Nat → Int32} (hC : cr_at G g q c hd on ht cm wk) {nf : Nat} (hf : fl = nI (nf + 1)) (h9 : nf < 196) : ms_M m_X0_hottest [.ref c] n G 0 0 (ms_p1 (some (.int (nI (hx ht nf)))) n G) := by
  refine ms_M.of (by decide) (Nat.le_of_ble_eq_true rfl) ?_
  show ms_W false m_X0_hottest _ 0 [(0, .ref c)] [] n G 0 0
  refine ms_run (pc' := 4) (lv' := [(2, .int 1), (1, .int 0), (0, .ref c)]) (st' := []) _ (ms_deC dX0_hottest_0 (ms_deC dX0_hottest_1 (ms_deC dX0_hottest_2 (ms_deC dX0_hottest_3 ms_deN)))) rfl rfl ?_
  refine ms_W.sub (lv2 := [(0, _), (1, _), (2, _)]) ?_ [2, 1, 0] rfl
  exact l_X0_hottest hG hC hf h9 nf 0 (by omega)
set_option maxHeartbeats 2000000 in
set_option maxRecDepth 20000 in
theorem c_X0_isJammed {n g q c : Nat} {G : ms_H} {hd on ht cm : Nat → Int32} {wk : Nat → Nat → Int32} (hC : cr_at G g q c hd on ht cm wk) {a : Nat} {u : Nat → Int32} (hw : G a = some (.inr (4, cr_w u))) : ms_M m_X0_isJammed [.ref c, .ref a] n G 0 0 (ms_p1 (some (.int (ms_b (pJam (hd 3) u)))) n G) := by
  refine ms_M.of (by decide) (Nat.le_of_ble_eq_true rfl) ?_
  show ms_W false m_X0_isJammed _ 0 [(0, .ref c), (1, .ref a)] [] n G 0 0
  refine ms_run (pc' := 1) (lv' := [(0, .ref c), (1, .ref a)]) (st' := [.ref a]) _ (ms_deC dX0_isJammed_0 ms_deN) rfl rfl ?_
  refine ms_ifnull dX0_isJammed_1 ?_
  refine ms_run (pc' := 5) (lv' := [(0, .ref c), (1, .ref a)]) (st' := [.ref a]) _ (ms_deC dX0_isJammed_4 ms_deN) rfl rfl ?_
  refine ms_callVp (As := []) dX0_isJammed_5 (c_X4_isOut hw) cv_X0_91 hw rfl ⟨Nat.le_of_ble_eq_true rfl, Nat.le_of_ble_eq_true rfl⟩ rfl (Nat.le_of_ble_eq_true rfl) ?_
  by_cases hc_5 : u 3 = -1
  · rw [show ms_b (u 3 = -1) = 1 from if_pos hc_5]
    refine ms_if_ne (tgt := 26) dX0_isJammed_8 (by decide) (fun _ => ?_) (fun h9 => absurd h9 (by decide))
    refine ms_run (pc' := 27) (lv' := [(0, .ref c), (1, .ref a)]) (st' := [.int 0]) _ (ms_deC dX0_isJammed_26 ms_deN) rfl rfl ?_
    refine ms_reti (st := []) (ty := .boolean) dX0_isJammed_27 rfl rfl ?_
    exact ms_p1.mk (ms_int_eq (by grind)) rfl
  · rw [show ms_b (u 3 = -1) = 0 from if_neg hc_5]
    refine ms_if_ne (tgt := 26) dX0_isJammed_8 (by decide) (fun h9 => absurd h9 (by decide)) (fun _ => ?_)
    refine ms_run (pc' := 12) (lv' := [(0, .ref c), (1, .ref a)]) (st' := [.ref a]) _ (ms_deC dX0_isJammed_11 ms_deN) rfl rfl ?_
    refine ms_getf dX0_isJammed_12 fg_X0_118 hw rfl ?_
    refine ms_run (pc' := 16) (lv' := [(0, .ref c), (1, .ref a)]) (st' := [.ref c, .int (u 5)]) _ (ms_deC dX0_isJammed_15 ms_deN) rfl rfl ?_
    refine ms_getf dX0_isJammed_16 fg_X0_15 hC.1 rfl ?_
    refine ms_icmp_lt (tgt := 26) dX0_isJammed_19 (by decide) (fun h_19 => ?_) (fun h_19 => ?_)
    · skip
      refine ms_run (pc' := 27) (lv' := [(0, .ref c), (1, .ref a)]) (st' := [.int 0]) _ (ms_deC dX0_isJammed_26 ms_deN) rfl rfl ?_
      refine ms_reti (st := []) (ty := .boolean) dX0_isJammed_27 rfl rfl ?_
      exact ms_p1.mk (ms_int_eq (by grind)) rfl
    · skip
      refine ms_run (pc' := 23) (lv' := [(0, .ref c), (1, .ref a)]) (st' := [.int 1]) _ (ms_deC dX0_isJammed_22 ms_deN) rfl rfl ?_
      refine ms_goto (tgt := 27) dX0_isJammed_23 (by decide) ?_
      refine ms_reti (st := []) (ty := .boolean) dX0_isJammed_27 rfl rfl ?_
      exact ms_p1.mk (ms_int_eq (by grind)) rfl
set_option maxHeartbeats 2000000 in
set_option maxRecDepth 20000 in
theorem c_X0_isJammedN {n c : Nat} {G : ms_H} : ms_M m_X0_isJammed [.ref c, .null] n G 0 0 (ms_p1 (some (.int 0)) n G) := by
  refine ms_M.of (by decide) (Nat.le_of_ble_eq_true rfl) ?_
  show ms_W false m_X0_isJammed _ 0 [(0, .ref c), (1, .null)] [] n G 0 0
  refine ms_run (pc' := 1) (lv' := [(0, .ref c), (1, .null)]) (st' := [.null]) _ (ms_deC dX0_isJammed_0 ms_deN) rfl rfl ?_
  refine ms_ifnullN (tgt := 26) dX0_isJammed_1 (by decide) ?_
  refine ms_run (pc' := 27) (lv' := [(0, .ref c), (1, .null)]) (st' := [.int 0]) _ (ms_deC dX0_isJammed_26 ms_deN) rfl rfl ?_
  refine ms_reti (st := []) (ty := .boolean) dX0_isJammed_27 rfl rfl ?_
  exact ms_p1.mk rfl rfl
set_option maxHeartbeats 2000000 in
set_option maxRecDepth 20000 in
theorem l_X0_hasJam {n g q c : Nat} {G : ms_H} {hd on ht cm : Nat → Int32} {wk : Nat → Nat → Int32} (hC : cr_at G g q c hd on ht cm wk){cnt : Nat} (hx : hd 0 = nI cnt) (hc : cnt ≤ 24) : ∀ (r k : Nat), k + r = cnt → an (fun j => decide (pJam (hd 3) (wk j))) k = false → ms_W false m_X0_hasJam (ms_p1 (some (.int (if an (fun j => decide (pJam (hd 3) (wk j))) cnt then 1 else 0))) n G) 2 [(0, .ref c), (1, .int (nI k))] [] n G 0 0 := by
  intro r
  induction r with
  | zero =>
    intro k hk ha
    have hkN : k = cnt := by omega
    refine ms_run (pc' := 4) (lv' := [(0, .ref c), (1, .int (nI k))]) (st' := [.ref c, .int (nI k)]) _ (ms_deC dX0_hasJam_2 (ms_deC dX0_hasJam_3 ms_deN)) rfl rfl ?_
    refine ms_getf dX0_hasJam_4 fg_X0_43 hC.1 rfl ?_
    refine ms_icmp_ge (tgt := 30) dX0_hasJam_7 (by decide) (fun h_7 => ?_) (fun h_7 => ?_)
    · skip
      refine ms_run (pc' := 31) (lv' := [(0, .ref c), (1, .int (nI k))]) (st' := [.int 0]) _ (ms_deC dX0_hasJam_30 ms_deN) rfl rfl ?_
      refine ms_reti (st := []) (ty := .boolean) dX0_hasJam_31 rfl rfl ?_
      exact ms_p1.mk (by rw [← hkN, ha]; rfl) rfl
    · skip
      exact absurd (by rw [hx]; exact nI_le (b := k) (by omega) (by omega)) h_7
  | succ r ih =>
    intro k hk ha
    have hlt : k < cnt := by omega
    refine ms_run (pc' := 4) (lv' := [(0, .ref c), (1, .int (nI k))]) (st' := [.ref c, .int (nI k)]) _ (ms_deC dX0_hasJam_2 (ms_deC dX0_hasJam_3 ms_deN)) rfl rfl ?_
    refine ms_getf dX0_hasJam_4 fg_X0_43 hC.1 rfl ?_
    refine ms_icmp_ge (tgt := 30) dX0_hasJam_7 (by decide) (fun h_7 => ?_) (fun h_7 => ?_)
    · skip
      exact absurd h_7 (by rw [hx]; exact nI_ge (b := cnt) (by omega) (by omega))
    · skip
      refine ms_run (pc' := 13) (lv' := [(0, .ref c), (1, .int (nI k))]) (st' := [.int (nI k), .ref c, .ref c]) _ (ms_deC dX0_hasJam_10 (ms_deC dX0_hasJam_11 (ms_deC dX0_hasJam_12 ms_deN))) rfl rfl ?_
      refine ms_callVp (As := [.int (nI k)]) dX0_hasJam_13 (c_X0_getI hC hx hc hlt) cv_X0_55 hC.1 rfl ⟨Nat.le_of_ble_eq_true rfl, Nat.le_of_ble_eq_true rfl⟩ rfl (Nat.le_of_ble_eq_true rfl) ?_
      have hw := hC.2.2.2.2.2 k (by omega)
      refine ms_callVp (As := [.ref (c + 5 + k)]) dX0_hasJam_16 (c_X0_isJammed hC hw) cv_X0_147 hC.1 rfl ⟨Nat.le_of_ble_eq_true rfl, Nat.le_of_ble_eq_true rfl⟩ rfl (Nat.le_of_ble_eq_true rfl) ?_
      by_cases hj : pJam (hd 3) (wk k)
      · rw [show ms_b (pJam (hd 3) (wk k)) = 1 from if_pos hj]
        refine ms_if_eq (tgt := 24) dX0_hasJam_19 (by decide) (fun h9 => absurd h9 (by decide)) (fun _ => ?_)
        refine ms_run (pc' := 23) (lv' := [(0, .ref c), (1, .int (nI k))]) (st' := [.int 1]) _ (ms_deC dX0_hasJam_22 ms_deN) rfl rfl ?_
        refine ms_reti (st := []) (ty := .boolean) dX0_hasJam_23 rfl rfl ?_
        exact ms_p1.mk (by rw [an_t (p := (fun j => decide (pJam (hd 3) (wk j)))) (k := k) (decide_eq_true hj) hlt]; rfl) rfl
      · rw [show ms_b (pJam (hd 3) (wk k)) = 0 from if_neg hj]
        refine ms_if_eq (tgt := 24) dX0_hasJam_19 (by decide) (fun _ => ?_) (fun h9 => absurd h9 (by decide))
        refine ms_run (pc' := 27) (lv' := [(1, .int ((nI k) + 1)), (0, .ref c)]) (st' := []) _ (ms_deC dX0_hasJam_24 ms_deN) rfl rfl ?_
        refine ms_goto (tgt := 2) dX0_hasJam_27 (by decide) ?_
        rw [nI_1 k]
        refine ms_W.sub (lv2 := [(0, _), (1, _)]) ?_ [1, 0] rfl
        exact ih (k + 1) (by omega) (an_f (decide_eq_false hj) ha)
set_option maxHeartbeats 2000000 in
set_option maxRecDepth 20000 in
theorem c_X0_hasJam {n g q c : Nat} {G : ms_H} {hd on ht cm : Nat → Int32} {wk : Nat → Nat → Int32} (hC : cr_at G g q c hd on ht cm wk){cnt : Nat} (hx : hd 0 = nI cnt) (hc : cnt ≤ 24) : ms_M m_X0_hasJam [.ref c] n G 0 0 (ms_p1 (some (.int (if an (fun j => decide (pJam (hd 3) (wk j))) cnt then 1 else 0))) n G) := by
  refine ms_M.of (by decide) (Nat.le_of_ble_eq_true rfl) ?_
  show ms_W false m_X0_hasJam _ 0 [(0, .ref c)] [] n G 0 0
  refine ms_run (pc' := 2) (lv' := [(1, .int 0), (0, .ref c)]) (st' := []) _ (ms_deC dX0_hasJam_0 (ms_deC dX0_hasJam_1 ms_deN)) rfl rfl ?_
  refine ms_W.sub (lv2 := [(0, _), (1, _)]) ?_ [1, 0] rfl
  exact l_X0_hasJam hC hx hc cnt 0 (by omega) rfl
set_option maxHeartbeats 2000000 in
set_option maxRecDepth 20000 in
theorem c_X0_costOf {n g q c : Nat} {G : ms_H} {fl w h : Int32} {nr : Nat → Int32} (hG : gr_at G g fl w h nr){wl mk ds qu : Nat → Int32} (hQ : sq_at G g q wl mk ds qu){hd on ht cm : Nat → Int32} {wk : Nat → Nat → Int32} (hC : cr_at G g q c hd on ht cm wk) {a : Nat} {u : Nat → Int32} (hw : G a = some (.inr (4, cr_w u))) (sd : Int32) : ms_M m_X0_costOf [.ref c, .ref a, .int sd] n G 0 0 (ms_p1 (some (.int (cr_cost fl nr ds on hd wk u sd))) n G) := by
  refine ms_M.of (by decide) (Nat.le_of_ble_eq_true rfl) ?_
  show ms_W false m_X0_costOf _ 0 [(0, .ref c), (1, .ref a), (2, .int sd)] [] n G 0 0
  refine ms_run (pc' := 2) (lv' := [(0, .ref c), (1, .ref a), (2, .int sd)]) (st' := [.int 4, .int sd]) _ (ms_deC dX0_costOf_0 (ms_deC dX0_costOf_1 ms_deN)) rfl rfl ?_
  refine ms_icmp_ne (tgt := 51) dX0_costOf_2 (by decide) (fun h_2 => ?_) (fun h_2 => ?_)
  · skip
    refine ms_run (pc' := 52) (lv' := [(0, .ref c), (1, .ref a), (2, .int sd)]) (st' := [.ref c]) _ (ms_deC dX0_costOf_51 ms_deN) rfl rfl ?_
    refine ms_getf dX0_costOf_52 fg_X0_34 hC.1 rfl ?_
    refine ms_run (pc' := 56) (lv' := [(0, .ref c), (1, .ref a), (2, .int sd)]) (st' := [.ref a, .ref g]) _ (ms_deC dX0_costOf_55 ms_deN) rfl rfl ?_
    refine ms_getf dX0_costOf_56 fg_X0_98 hw rfl ?_
    refine ms_run (pc' := 60) (lv' := [(0, .ref c), (1, .ref a), (2, .int sd)]) (st' := [.int sd, .int (u 3), .ref g]) _ (ms_deC dX0_costOf_59 ms_deN) rfl rfl ?_
    refine ms_callVp (As := [.int (u 3), .int sd]) dX0_costOf_60 (c_X1_next hG (u 3) sd) cv_X0_124 hG.1 rfl ⟨Nat.le_of_ble_eq_true rfl, Nat.le_of_ble_eq_true rfl⟩ rfl (Nat.le_of_ble_eq_true rfl) ?_
    refine ms_run (pc' := 65) (lv' := [(3, .int (gr_next nr (u 3) sd)), (0, .ref c), (1, .ref a), (2, .int sd)]) (st' := [.ref c]) _ (ms_deC dX0_costOf_63 (ms_deC dX0_costOf_64 ms_deN)) rfl rfl ?_
    refine ms_getf dX0_costOf_65 fg_X0_38 hC.1 rfl ?_
    refine ms_run (pc' := 69) (lv' := [(3, .int (gr_next nr (u 3) sd)), (0, .ref c), (1, .ref a), (2, .int sd)]) (st' := [.ref a, .ref q]) _ (ms_deC dX0_costOf_68 ms_deN) rfl rfl ?_
    refine ms_getf dX0_costOf_69 fg_X0_95 hw rfl ?_
    refine ms_run (pc' := 73) (lv' := [(3, .int (gr_next nr (u 3) sd)), (0, .ref c), (1, .ref a), (2, .int sd)]) (st' := [.int (gr_next nr (u 3) sd), .int (u 0), .ref q]) _ (ms_deC dX0_costOf_72 ms_deN) rfl rfl ?_
    refine ms_callVp (As := [.int (u 0), .int (gr_next nr (u 3) sd)]) dX0_costOf_73 (c_X3_distance hG hQ (u 0) (gr_next nr (u 3) sd)) cv_X0_101 hQ.1 rfl ⟨Nat.le_of_ble_eq_true rfl, Nat.le_of_ble_eq_true rfl⟩ rfl (Nat.le_of_ble_eq_true rfl) ?_
    refine ms_run (pc' := 81) (lv' := [(4, .int (sq_ds fl ds (u 0) (gr_next nr (u 3) sd))), (3, .int (gr_next nr (u 3) sd)), (0, .ref c), (1, .ref a), (2, .int sd)]) (st' := [.int (-1), .int (sq_ds fl ds (u 0) (gr_next nr (u 3) sd))]) _ (ms_deC dX0_costOf_76 (ms_deC dX0_costOf_78 (ms_deC dX0_costOf_80 ms_deN))) rfl rfl ?_
    refine ms_icmp_eq (tgt := 93) dX0_costOf_81 (by decide) (fun h_81 => ?_) (fun h_81 => ?_)
    · skip
      refine ms_run (pc' := 96) (lv' := [(4, .int (sq_ds fl ds (u 0) (gr_next nr (u 3) sd))), (3, .int (gr_next nr (u 3) sd)), (0, .ref c), (1, .ref a), (2, .int sd)]) (st' := [.int 10000]) _ (ms_deC dX0_costOf_93 ms_deN) rfl rfl ?_
      refine ms_reti (st := []) (ty := .int) dX0_costOf_96 rfl rfl ?_
      exact ms_p1.mk (ms_int_eq (by unfold cr_cost; grind)) rfl
    · skip
      refine ms_run (pc' := 86) (lv' := [(4, .int (sq_ds fl ds (u 0) (gr_next nr (u 3) sd))), (3, .int (gr_next nr (u 3) sd)), (0, .ref c), (1, .ref a), (2, .int sd)]) (st' := [.int (gr_next nr (u 3) sd), .ref c]) _ (ms_deC dX0_costOf_84 (ms_deC dX0_costOf_85 ms_deN)) rfl rfl ?_
      refine ms_callVp (As := [.int (gr_next nr (u 3) sd)]) dX0_costOf_86 (c_X0_numberOn hC (gr_next nr (u 3) sd)) cv_X0_73 hC.1 rfl ⟨Nat.le_of_ble_eq_true rfl, Nat.le_of_ble_eq_true rfl⟩ rfl (Nat.le_of_ble_eq_true rfl) ?_
      refine ms_run (pc' := 90) (lv' := [(4, .int (sq_ds fl ds (u 0) (gr_next nr (u 3) sd))), (3, .int (gr_next nr (u 3) sd)), (0, .ref c), (1, .ref a), (2, .int sd)]) (st' := [.int (-1), .int (cr_on on (gr_next nr (u 3) sd))]) _ (ms_deC dX0_costOf_89 ms_deN) rfl rfl ?_
      refine ms_icmp_eq (tgt := 97) dX0_costOf_90 (by decide) (fun h_90 => ?_) (fun h_90 => ?_)
      · skip
        refine ms_run (pc' := 99) (lv' := [(4, .int (sq_ds fl ds (u 0) (gr_next nr (u 3) sd))), (3, .int (gr_next nr (u 3) sd)), (0, .ref c), (1, .ref a), (2, .int sd)]) (st' := [.int (gr_next nr (u 3) sd), .ref c]) _ (ms_deC dX0_costOf_97 (ms_deC dX0_costOf_98 ms_deN)) rfl rfl ?_
        refine ms_callVp (As := [.int (gr_next nr (u 3) sd)]) dX0_costOf_99 (c_X0_countRound hG hC (gr_next nr (u 3) sd)) cv_X0_127 hC.1 rfl ⟨Nat.le_of_ble_eq_true rfl, Nat.le_of_ble_eq_true rfl⟩ rfl (Nat.le_of_ble_eq_true rfl) ?_
        refine ms_run (pc' := 112) (lv' := [(5, .int ((cRound nr on (gr_next nr (u 3) sd)) - 1)), (4, .int (sq_ds fl ds (u 0) (gr_next nr (u 3) sd))), (3, .int (gr_next nr (u 3) sd)), (0, .ref c), (1, .ref a), (2, .int sd)]) (st' := [.ref a, .int (10 * (sq_ds fl ds (u 0) (gr_next nr (u 3) sd)))]) _ (ms_deC dX0_costOf_102 (ms_deC dX0_costOf_103 (ms_deC dX0_costOf_104 (ms_deC dX0_costOf_106 (ms_deC dX0_costOf_108 (ms_deC dX0_costOf_110 (ms_deC dX0_costOf_111 ms_deN))))))) rfl rfl ?_
        refine ms_getf dX0_costOf_112 fg_X0_112 hw rfl ?_
        refine ms_run (pc' := 120) (lv' := [(5, .int ((cRound nr on (gr_next nr (u 3) sd)) - 1)), (4, .int (sq_ds fl ds (u 0) (gr_next nr (u 3) sd))), (3, .int (gr_next nr (u 3) sd)), (0, .ref c), (1, .ref a), (2, .int sd)]) (st' := [.ref c, .int ((10 * (sq_ds fl ds (u 0) (gr_next nr (u 3) sd))) + ((u 2) * ((cRound nr on (gr_next nr (u 3) sd)) - 1)))]) _ (ms_deC dX0_costOf_115 (ms_deC dX0_costOf_117 (ms_deC dX0_costOf_118 (ms_deC dX0_costOf_119 ms_deN)))) rfl rfl ?_
        refine ms_getf dX0_costOf_120 fg_X0_9 hC.1 rfl ?_
        refine ms_run (pc' := 125) (lv' := [(5, .int ((cRound nr on (gr_next nr (u 3) sd)) - 1)), (4, .int (sq_ds fl ds (u 0) (gr_next nr (u 3) sd))), (3, .int (gr_next nr (u 3) sd)), (0, .ref c), (1, .ref a), (2, .int sd)]) (st' := [.ref a, .ref c, .int (hd 2), .int ((10 * (sq_ds fl ds (u 0) (gr_next nr (u 3) sd))) + ((u 2) * ((cRound nr on (gr_next nr (u 3) sd)) - 1)))]) _ (ms_deC dX0_costOf_123 (ms_deC dX0_costOf_124 ms_deN)) rfl rfl ?_
        refine ms_getf dX0_costOf_125 fg_X0_98 hw rfl ?_
        refine ms_run (pc' := 129) (lv' := [(5, .int ((cRound nr on (gr_next nr (u 3) sd)) - 1)), (4, .int (sq_ds fl ds (u 0) (gr_next nr (u 3) sd))), (3, .int (gr_next nr (u 3) sd)), (0, .ref c), (1, .ref a), (2, .int sd)]) (st' := [.int sd, .int (u 3), .ref c, .int (hd 2), .int ((10 * (sq_ds fl ds (u 0) (gr_next nr (u 3) sd))) + ((u 2) * ((cRound nr on (gr_next nr (u 3) sd)) - 1)))]) _ (ms_deC dX0_costOf_128 ms_deN) rfl rfl ?_
        refine ms_callVp (As := [.int (u 3), .int sd]) dX0_costOf_129 (c_X0_countFacing hG hC (u 3) sd) cv_X0_130 hC.1 rfl ⟨Nat.le_of_ble_eq_true rfl, Nat.le_of_ble_eq_true rfl⟩ rfl (Nat.le_of_ble_eq_true rfl) ?_
        refine ms_run (pc' := 134) (lv' := [(5, .int ((cRound nr on (gr_next nr (u 3) sd)) - 1)), (4, .int (sq_ds fl ds (u 0) (gr_next nr (u 3) sd))), (3, .int (gr_next nr (u 3) sd)), (0, .ref c), (1, .ref a), (2, .int sd)]) (st' := [.int (((10 * (sq_ds fl ds (u 0) (gr_next nr (u 3) sd))) + ((u 2) * ((cRound nr on (gr_next nr (u 3) sd)) - 1))) - ((hd 2) * (cFace (hd 0) nr on wk (u 3) sd)))]) _ (ms_deC dX0_costOf_132 (ms_deC dX0_costOf_133 ms_deN)) rfl rfl ?_
        refine ms_reti (st := []) (ty := .int) dX0_costOf_134 rfl rfl ?_
        exact ms_p1.mk (ms_int_eq (by unfold cr_cost; grind)) rfl
      · skip
        refine ms_run (pc' := 96) (lv' := [(4, .int (sq_ds fl ds (u 0) (gr_next nr (u 3) sd))), (3, .int (gr_next nr (u 3) sd)), (0, .ref c), (1, .ref a), (2, .int sd)]) (st' := [.int 10000]) _ (ms_deC dX0_costOf_93 ms_deN) rfl rfl ?_
        refine ms_reti (st := []) (ty := .int) dX0_costOf_96 rfl rfl ?_
        exact ms_p1.mk (ms_int_eq (by unfold cr_cost; grind)) rfl
  · skip
    refine ms_run (pc' := 6) (lv' := [(0, .ref c), (1, .ref a), (2, .int sd)]) (st' := [.ref c]) _ (ms_deC dX0_costOf_5 ms_deN) rfl rfl ?_
    refine ms_getf dX0_costOf_6 fg_X0_38 hC.1 rfl ?_
    refine ms_run (pc' := 10) (lv' := [(0, .ref c), (1, .ref a), (2, .int sd)]) (st' := [.ref a, .ref q]) _ (ms_deC dX0_costOf_9 ms_deN) rfl rfl ?_
    refine ms_getf dX0_costOf_10 fg_X0_95 hw rfl ?_
    refine ms_run (pc' := 14) (lv' := [(0, .ref c), (1, .ref a), (2, .int sd)]) (st' := [.ref a, .int (u 0), .ref q]) _ (ms_deC dX0_costOf_13 ms_deN) rfl rfl ?_
    refine ms_getf dX0_costOf_14 fg_X0_98 hw rfl ?_
    refine ms_callVp (As := [.int (u 0), .int (u 3)]) dX0_costOf_17 (c_X3_distance hG hQ (u 0) (u 3)) cv_X0_101 hQ.1 rfl ⟨Nat.le_of_ble_eq_true rfl, Nat.le_of_ble_eq_true rfl⟩ rfl (Nat.le_of_ble_eq_true rfl) ?_
    refine ms_run (pc' := 23) (lv' := [(3, .int (sq_ds fl ds (u 0) (u 3))), (0, .ref c), (1, .ref a), (2, .int sd)]) (st' := [.int (-1), .int (sq_ds fl ds (u 0) (u 3))]) _ (ms_deC dX0_costOf_20 (ms_deC dX0_costOf_21 (ms_deC dX0_costOf_22 ms_deN))) rfl rfl ?_
    refine ms_icmp_ne (tgt := 32) dX0_costOf_23 (by decide) (fun h_23 => ?_) (fun h_23 => ?_)
    · skip
      refine ms_run (pc' := 37) (lv' := [(3, .int (sq_ds fl ds (u 0) (u 3))), (0, .ref c), (1, .ref a), (2, .int sd)]) (st' := [.ref a, .int (10 * (sq_ds fl ds (u 0) (u 3)))]) _ (ms_deC dX0_costOf_32 (ms_deC dX0_costOf_34 (ms_deC dX0_costOf_35 (ms_deC dX0_costOf_36 ms_deN)))) rfl rfl ?_
      refine ms_getf dX0_costOf_37 fg_X0_112 hw rfl ?_
      refine ms_run (pc' := 42) (lv' := [(3, .int (sq_ds fl ds (u 0) (u 3))), (0, .ref c), (1, .ref a), (2, .int sd)]) (st' := [.ref a, .ref c, .int (u 2), .int (10 * (sq_ds fl ds (u 0) (u 3)))]) _ (ms_deC dX0_costOf_40 (ms_deC dX0_costOf_41 ms_deN)) rfl rfl ?_
      refine ms_getf dX0_costOf_42 fg_X0_98 hw rfl ?_
      refine ms_callVp (As := [.int (u 3)]) dX0_costOf_45 (c_X0_countRound hG hC (u 3)) cv_X0_127 hC.1 rfl ⟨Nat.le_of_ble_eq_true rfl, Nat.le_of_ble_eq_true rfl⟩ rfl (Nat.le_of_ble_eq_true rfl) ?_
      refine ms_run (pc' := 50) (lv' := [(3, .int (sq_ds fl ds (u 0) (u 3))), (0, .ref c), (1, .ref a), (2, .int sd)]) (st' := [.int ((10 * (sq_ds fl ds (u 0) (u 3))) + ((u 2) * (cRound nr on (u 3))))]) _ (ms_deC dX0_costOf_48 (ms_deC dX0_costOf_49 ms_deN)) rfl rfl ?_
      refine ms_reti (st := []) (ty := .int) dX0_costOf_50 rfl rfl ?_
      exact ms_p1.mk (ms_int_eq (by unfold cr_cost; grind)) rfl
    · skip
      refine ms_run (pc' := 29) (lv' := [(3, .int (sq_ds fl ds (u 0) (u 3))), (0, .ref c), (1, .ref a), (2, .int sd)]) (st' := [.int 10000]) _ (ms_deC dX0_costOf_26 ms_deN) rfl rfl ?_
      refine ms_goto (tgt := 50) dX0_costOf_29 (by decide) ?_
      refine ms_reti (st := []) (ty := .int) dX0_costOf_50 rfl rfl ?_
      exact ms_p1.mk (ms_int_eq (by unfold cr_cost; grind)) rfl
set_option maxHeartbeats 2000000 in
set_option maxRecDepth 20000 in
theorem l_X0_bestSide {n g q c : Nat} {G : ms_H} {fl w h : Int32} {nr : Nat → Int32} (hG : gr_at G g fl w h nr){wl mk ds qu : Nat → Int32} (hQ : sq_at G g q wl mk ds qu){hd on ht cm : Nat → Int32} {wk : Nat → Nat → Int32} (hC : cr_at G g q c hd on ht cm wk) {a : Nat} {u : Nat → Int32} (hw : G a = some (.inr (4, cr_w u))) : ∀ (r k : Nat), k + r = 5 → ms_W false m_X0_bestSide (ms_p1 (some (.int (cr_bs (fun j => cr_cost fl nr ds on hd wk u (nI j)) 5).1)) n G) 9 [(0, .ref c), (1, .ref a), (2, .int ((cr_bs (fun j => cr_cost fl nr ds on hd wk u (nI j)) k).1)), (3, .int ((cr_bs (fun j => cr_cost fl nr ds on hd wk u (nI j)) k).2)), (4, .int (nI k))] [] n G 0 0 := by
  intro r
  induction r with
  | zero =>
    intro k hk
    have hkN : k = 5 := by omega
    refine ms_run (pc' := 12) (lv' := [(0, .ref c), (1, .ref a), (2, .int ((cr_bs (fun j => cr_cost fl nr ds on hd wk u (nI j)) k).1)), (3, .int ((cr_bs (fun j => cr_cost fl nr ds on hd wk u (nI j)) k).2)), (4, .int (nI k))]) (st' := [.int 4, .int (nI k)]) _ (ms_deC dX0_bestSide_9 (ms_deC dX0_bestSide_11 ms_deN)) rfl rfl ?_
    refine ms_icmp_gt (tgt := 42) dX0_bestSide_12 (by decide) (fun h_12 => ?_) (fun h_12 => ?_)
    · skip
      refine ms_run (pc' := 43) (lv' := [(0, .ref c), (1, .ref a), (2, .int ((cr_bs (fun j => cr_cost fl nr ds on hd wk u (nI j)) k).1)), (3, .int ((cr_bs (fun j => cr_cost fl nr ds on hd wk u (nI j)) k).2)), (4, .int (nI k))]) (st' := [.int ((cr_bs (fun j => cr_cost fl nr ds on hd wk u (nI j)) k).1)]) _ (ms_deC dX0_bestSide_42 ms_deN) rfl rfl ?_
      refine ms_reti (st := []) (ty := .int) dX0_bestSide_43 rfl rfl ?_
      exact ms_p1.mk (by rw [hkN]) rfl
    · skip
      exact absurd (show nI 4 < nI k from nI_lt (by omega) (by omega)) h_12
  | succ r ih =>
    intro k hk
    have hlt : k < 5 := by omega
    refine ms_run (pc' := 12) (lv' := [(0, .ref c), (1, .ref a), (2, .int ((cr_bs (fun j => cr_cost fl nr ds on hd wk u (nI j)) k).1)), (3, .int ((cr_bs (fun j => cr_cost fl nr ds on hd wk u (nI j)) k).2)), (4, .int (nI k))]) (st' := [.int 4, .int (nI k)]) _ (ms_deC dX0_bestSide_9 (ms_deC dX0_bestSide_11 ms_deN)) rfl rfl ?_
    refine ms_icmp_gt (tgt := 42) dX0_bestSide_12 (by decide) (fun h_12 => ?_) (fun h_12 => ?_)
    · skip
      exact absurd h_12 (show ¬ nI 4 < nI k from nI_nlt (by omega) (by omega))
    · skip
      refine ms_run (pc' := 19) (lv' := [(0, .ref c), (1, .ref a), (2, .int ((cr_bs (fun j => cr_cost fl nr ds on hd wk u (nI j)) k).1)), (3, .int ((cr_bs (fun j => cr_cost fl nr ds on hd wk u (nI j)) k).2)), (4, .int (nI k))]) (st' := [.int (nI k), .ref a, .ref c]) _ (ms_deC dX0_bestSide_15 (ms_deC dX0_bestSide_16 (ms_deC dX0_bestSide_17 ms_deN))) rfl rfl ?_
      refine ms_callVp (As := [.ref a, .int (nI k)]) dX0_bestSide_19 (c_X0_costOf hG hQ hC hw (nI k)) cv_X0_133 hC.1 rfl ⟨Nat.le_of_ble_eq_true rfl, Nat.le_of_ble_eq_true rfl⟩ rfl (Nat.le_of_ble_eq_true rfl) ?_
      refine ms_run (pc' := 27) (lv' := [(5, .int (cr_cost fl nr ds on hd wk u (nI k))), (0, .ref c), (1, .ref a), (2, .int ((cr_bs (fun j => cr_cost fl nr ds on hd wk u (nI j)) k).1)), (3, .int ((cr_bs (fun j => cr_cost fl nr ds on hd wk u (nI j)) k).2)), (4, .int (nI k))]) (st' := [.int ((cr_bs (fun j => cr_cost fl nr ds on hd wk u (nI j)) k).2), .int (cr_cost fl nr ds on hd wk u (nI k))]) _ (ms_deC dX0_bestSide_22 (ms_deC dX0_bestSide_24 (ms_deC dX0_bestSide_26 ms_deN))) rfl rfl ?_
      refine ms_icmp_ge (tgt := 36) dX0_bestSide_27 (by decide) (fun h_27 => ?_) (fun h_27 => ?_)
      · skip
        have h_27 : ¬ (fun j => cr_cost fl nr ds on hd wk u (nI j)) k < (cr_bs (fun j => cr_cost fl nr ds on hd wk u (nI j)) k).2 := Int32.not_lt.mpr h_27
        refine ms_run (pc' := 39) (lv' := [(4, .int ((nI k) + 1)), (5, .int (cr_cost fl nr ds on hd wk u (nI k))), (0, .ref c), (1, .ref a), (2, .int ((cr_bs (fun j => cr_cost fl nr ds on hd wk u (nI j)) k).1)), (3, .int ((cr_bs (fun j => cr_cost fl nr ds on hd wk u (nI j)) k).2))]) (st' := []) _ (ms_deC dX0_bestSide_36 ms_deN) rfl rfl ?_
        refine ms_goto (tgt := 9) dX0_bestSide_39 (by decide) ?_
        have h7 := ih (k + 1) (by omega)
        rw [cr_bs_f (f := (fun j => cr_cost fl nr ds on hd wk u (nI j))) h_27] at h7
        rw [nI_1 k]
        refine ms_W.sub (lv2 := [(0, _), (1, _), (2, _), (3, _), (4, _)]) ?_ [2, 3, 4, 5, 0] rfl
        exact h7
      · skip
        have h_27 : (fun j => cr_cost fl nr ds on hd wk u (nI j)) k < (cr_bs (fun j => cr_cost fl nr ds on hd wk u (nI j)) k).2 := Int32.not_le.mp h_27
        refine ms_run (pc' := 39) (lv' := [(4, .int ((nI k) + 1)), (2, .int (nI k)), (3, .int (cr_cost fl nr ds on hd wk u (nI k))), (5, .int (cr_cost fl nr ds on hd wk u (nI k))), (0, .ref c), (1, .ref a)]) (st' := []) _ (ms_deC dX0_bestSide_30 (ms_deC dX0_bestSide_32 (ms_deC dX0_bestSide_33 (ms_deC dX0_bestSide_35 (ms_deC dX0_bestSide_36 ms_deN))))) rfl rfl ?_
        refine ms_goto (tgt := 9) dX0_bestSide_39 (by decide) ?_
        have h7 := ih (k + 1) (by omega)
        rw [cr_bs_t (f := (fun j => cr_cost fl nr ds on hd wk u (nI j))) h_27] at h7
        rw [nI_1 k]
        refine ms_W.sub (lv2 := [(0, _), (1, _), (2, _), (3, _), (4, _)]) ?_ [4, 5, 1, 2, 0] rfl
        exact h7
set_option maxHeartbeats 2000000 in
set_option maxRecDepth 20000 in
theorem c_X0_bestSide {n g q c : Nat} {G : ms_H} {fl w h : Int32} {nr : Nat → Int32} (hG : gr_at G g fl w h nr){wl mk ds qu : Nat → Int32} (hQ : sq_at G g q wl mk ds qu){hd on ht cm : Nat → Int32} {wk : Nat → Nat → Int32} (hC : cr_at G g q c hd on ht cm wk) {a : Nat} {u : Nat → Int32} (hw : G a = some (.inr (4, cr_w u))) : ms_M m_X0_bestSide [.ref c, .ref a] n G 0 0 (ms_p1 (some (.int (cr_bs (fun j => cr_cost fl nr ds on hd wk u (nI j)) 5).1)) n G) := by
  refine ms_M.of (by decide) (Nat.le_of_ble_eq_true rfl) ?_
  show ms_W false m_X0_bestSide _ 0 [(0, .ref c), (1, .ref a)] [] n G 0 0
  refine ms_run (pc' := 9) (lv' := [(4, .int 0), (3, .int 10000), (2, .int 4), (0, .ref c), (1, .ref a)]) (st' := []) _ (ms_deC dX0_bestSide_0 (ms_deC dX0_bestSide_1 (ms_deC dX0_bestSide_2 (ms_deC dX0_bestSide_5 (ms_deC dX0_bestSide_6 (ms_deC dX0_bestSide_7 ms_deN)))))) rfl rfl ?_
  refine ms_W.sub (lv2 := [(0, _), (1, _), (2, _), (3, _), (4, _)]) ?_ [3, 4, 2, 1, 0] rfl
  exact l_X0_bestSide hG hQ hC hw 5 0 rfl
set_option maxHeartbeats 2000000 in
set_option maxRecDepth 20000 in
theorem c_X0_walkerFigure_0 {n g q c : Nat} {G : ms_H} {fl w h : Int32} {nr : Nat → Int32} (hG : gr_at G g fl w h nr){wl mk ds qu : Nat → Int32} (hQ : sq_at G g q wl mk ds qu){hd on ht cm : Nat → Int32} {wk : Nat → Nat → Int32} (hC : cr_at G g q c hd on ht cm wk) {a : Nat} {u : Nat → Int32} (hw : G a = some (.inr (4, cr_w u))) : ms_M m_X0_walkerFigure [.ref c, .ref a, .int 0] n G 0 0 (ms_p1 (some (.int (cr_fig fl ds u 0))) n G) := by
  refine ms_M.of (by decide) (Nat.le_of_ble_eq_true rfl) ?_
  show ms_W false m_X0_walkerFigure _ 0 [(0, .ref c), (1, .ref a), (2, .int 0)] [] n G 0 0
  refine ms_run (pc' := 1) (lv' := [(0, .ref c), (1, .ref a), (2, .int 0)]) (st' := [.int 0]) _ (ms_deC dX0_walkerFigure_0 ms_deN) rfl rfl ?_
  refine ms_tabIn (off := 47) (tgt := 48) dX0_walkerFigure_1 (by decide) (by decide) (by decide) (by decide) ?_
  refine ms_run (pc' := 49) (lv' := [(0, .ref c), (1, .ref a), (2, .int 0)]) (st' := [.ref a]) _ (ms_deC dX0_walkerFigure_48 ms_deN) rfl rfl ?_
  refine ms_getf dX0_walkerFigure_49 fg_X0_95 hw rfl ?_
  refine ms_reti (st := []) (ty := .int) dX0_walkerFigure_52 rfl rfl ?_
  exact ms_p1.mk (ms_int_eq (by simp [cr_fig])) rfl
set_option maxHeartbeats 2000000 in
set_option maxRecDepth 20000 in
theorem c_X0_walkerFigure_1 {n g q c : Nat} {G : ms_H} {fl w h : Int32} {nr : Nat → Int32} (hG : gr_at G g fl w h nr){wl mk ds qu : Nat → Int32} (hQ : sq_at G g q wl mk ds qu){hd on ht cm : Nat → Int32} {wk : Nat → Nat → Int32} (hC : cr_at G g q c hd on ht cm wk) {a : Nat} {u : Nat → Int32} (hw : G a = some (.inr (4, cr_w u))) : ms_M m_X0_walkerFigure [.ref c, .ref a, .int 1] n G 0 0 (ms_p1 (some (.int (cr_fig fl ds u 1))) n G) := by
  refine ms_M.of (by decide) (Nat.le_of_ble_eq_true rfl) ?_
  show ms_W false m_X0_walkerFigure _ 0 [(0, .ref c), (1, .ref a), (2, .int 1)] [] n G 0 0
  refine ms_run (pc' := 1) (lv' := [(0, .ref c), (1, .ref a), (2, .int 1)]) (st' := [.int 1]) _ (ms_deC dX0_walkerFigure_0 ms_deN) rfl rfl ?_
  refine ms_tabIn (off := 52) (tgt := 53) dX0_walkerFigure_1 (by decide) (by decide) (by decide) (by decide) ?_
  refine ms_run (pc' := 54) (lv' := [(0, .ref c), (1, .ref a), (2, .int 1)]) (st' := [.ref a]) _ (ms_deC dX0_walkerFigure_53 ms_deN) rfl rfl ?_
  refine ms_getf dX0_walkerFigure_54 fg_X0_109 hw rfl ?_
  refine ms_reti (st := []) (ty := .int) dX0_walkerFigure_57 rfl rfl ?_
  exact ms_p1.mk (ms_int_eq (by simp [cr_fig])) rfl
set_option maxHeartbeats 2000000 in
set_option maxRecDepth 20000 in
theorem c_X0_walkerFigure_2 {n g q c : Nat} {G : ms_H} {fl w h : Int32} {nr : Nat → Int32} (hG : gr_at G g fl w h nr){wl mk ds qu : Nat → Int32} (hQ : sq_at G g q wl mk ds qu){hd on ht cm : Nat → Int32} {wk : Nat → Nat → Int32} (hC : cr_at G g q c hd on ht cm wk) {a : Nat} {u : Nat → Int32} (hw : G a = some (.inr (4, cr_w u))) : ms_M m_X0_walkerFigure [.ref c, .ref a, .int 2] n G 0 0 (ms_p1 (some (.int (cr_fig fl ds u 2))) n G) := by
  refine ms_M.of (by decide) (Nat.le_of_ble_eq_true rfl) ?_
  show ms_W false m_X0_walkerFigure _ 0 [(0, .ref c), (1, .ref a), (2, .int 2)] [] n G 0 0
  refine ms_run (pc' := 1) (lv' := [(0, .ref c), (1, .ref a), (2, .int 2)]) (st' := [.int 2]) _ (ms_deC dX0_walkerFigure_0 ms_deN) rfl rfl ?_
  refine ms_tabIn (off := 57) (tgt := 58) dX0_walkerFigure_1 (by decide) (by decide) (by decide) (by decide) ?_
  refine ms_run (pc' := 59) (lv' := [(0, .ref c), (1, .ref a), (2, .int 2)]) (st' := [.ref a]) _ (ms_deC dX0_walkerFigure_58 ms_deN) rfl rfl ?_
  refine ms_getf dX0_walkerFigure_59 fg_X0_112 hw rfl ?_
  refine ms_reti (st := []) (ty := .int) dX0_walkerFigure_62 rfl rfl ?_
  exact ms_p1.mk (ms_int_eq (by simp [cr_fig])) rfl
set_option maxHeartbeats 2000000 in
set_option maxRecDepth 20000 in
theorem c_X0_walkerFigure_3 {n g q c : Nat} {G : ms_H} {fl w h : Int32} {nr : Nat → Int32} (hG : gr_at G g fl w h nr){wl mk ds qu : Nat → Int32} (hQ : sq_at G g q wl mk ds qu){hd on ht cm : Nat → Int32} {wk : Nat → Nat → Int32} (hC : cr_at G g q c hd on ht cm wk) {a : Nat} {u : Nat → Int32} (hw : G a = some (.inr (4, cr_w u))) : ms_M m_X0_walkerFigure [.ref c, .ref a, .int 3] n G 0 0 (ms_p1 (some (.int (cr_fig fl ds u 3))) n G) := by
  refine ms_M.of (by decide) (Nat.le_of_ble_eq_true rfl) ?_
  show ms_W false m_X0_walkerFigure _ 0 [(0, .ref c), (1, .ref a), (2, .int 3)] [] n G 0 0
  refine ms_run (pc' := 1) (lv' := [(0, .ref c), (1, .ref a), (2, .int 3)]) (st' := [.int 3]) _ (ms_deC dX0_walkerFigure_0 ms_deN) rfl rfl ?_
  refine ms_tabIn (off := 62) (tgt := 63) dX0_walkerFigure_1 (by decide) (by decide) (by decide) (by decide) ?_
  refine ms_run (pc' := 64) (lv' := [(0, .ref c), (1, .ref a), (2, .int 3)]) (st' := [.ref a]) _ (ms_deC dX0_walkerFigure_63 ms_deN) rfl rfl ?_
  refine ms_getf dX0_walkerFigure_64 fg_X0_98 hw rfl ?_
  refine ms_reti (st := []) (ty := .int) dX0_walkerFigure_67 rfl rfl ?_
  exact ms_p1.mk (ms_int_eq (by simp [cr_fig])) rfl
set_option maxHeartbeats 2000000 in
set_option maxRecDepth 20000 in
theorem c_X0_walkerFigure_4 {n g q c : Nat} {G : ms_H} {fl w h : Int32} {nr : Nat → Int32} (hG : gr_at G g fl w h nr){wl mk ds qu : Nat → Int32} (hQ : sq_at G g q wl mk ds qu){hd on ht cm : Nat → Int32} {wk : Nat → Nat → Int32} (hC : cr_at G g q c hd on ht cm wk) {a : Nat} {u : Nat → Int32} (hw : G a = some (.inr (4, cr_w u))) : ms_M m_X0_walkerFigure [.ref c, .ref a, .int 4] n G 0 0 (ms_p1 (some (.int (cr_fig fl ds u 4))) n G) := by
  refine ms_M.of (by decide) (Nat.le_of_ble_eq_true rfl) ?_
  show ms_W false m_X0_walkerFigure _ 0 [(0, .ref c), (1, .ref a), (2, .int 4)] [] n G 0 0
  refine ms_run (pc' := 1) (lv' := [(0, .ref c), (1, .ref a), (2, .int 4)]) (st' := [.int 4]) _ (ms_deC dX0_walkerFigure_0 ms_deN) rfl rfl ?_
  refine ms_tabIn (off := 67) (tgt := 68) dX0_walkerFigure_1 (by decide) (by decide) (by decide) (by decide) ?_
  refine ms_run (pc' := 69) (lv' := [(0, .ref c), (1, .ref a), (2, .int 4)]) (st' := [.ref a]) _ (ms_deC dX0_walkerFigure_68 ms_deN) rfl rfl ?_
  refine ms_getf dX0_walkerFigure_69 fg_X0_115 hw rfl ?_
  refine ms_reti (st := []) (ty := .int) dX0_walkerFigure_72 rfl rfl ?_
  exact ms_p1.mk (ms_int_eq (by simp [cr_fig])) rfl
set_option maxHeartbeats 2000000 in
set_option maxRecDepth 20000 in
theorem c_X0_walkerFigure_5 {n g q c : Nat} {G : ms_H} {fl w h : Int32} {nr : Nat → Int32} (hG : gr_at G g fl w h nr){wl mk ds qu : Nat → Int32} (hQ : sq_at G g q wl mk ds qu){hd on ht cm : Nat → Int32} {wk : Nat → Nat → Int32} (hC : cr_at G g q c hd on ht cm wk) {a : Nat} {u : Nat → Int32} (hw : G a = some (.inr (4, cr_w u))) : ms_M m_X0_walkerFigure [.ref c, .ref a, .int 5] n G 0 0 (ms_p1 (some (.int (cr_fig fl ds u 5))) n G) := by
  refine ms_M.of (by decide) (Nat.le_of_ble_eq_true rfl) ?_
  show ms_W false m_X0_walkerFigure _ 0 [(0, .ref c), (1, .ref a), (2, .int 5)] [] n G 0 0
  refine ms_run (pc' := 1) (lv' := [(0, .ref c), (1, .ref a), (2, .int 5)]) (st' := [.int 5]) _ (ms_deC dX0_walkerFigure_0 ms_deN) rfl rfl ?_
  refine ms_tabIn (off := 72) (tgt := 73) dX0_walkerFigure_1 (by decide) (by decide) (by decide) (by decide) ?_
  refine ms_run (pc' := 74) (lv' := [(0, .ref c), (1, .ref a), (2, .int 5)]) (st' := [.ref a]) _ (ms_deC dX0_walkerFigure_73 ms_deN) rfl rfl ?_
  refine ms_getf dX0_walkerFigure_74 fg_X0_118 hw rfl ?_
  refine ms_reti (st := []) (ty := .int) dX0_walkerFigure_77 rfl rfl ?_
  exact ms_p1.mk (ms_int_eq (by simp [cr_fig])) rfl
set_option maxHeartbeats 2000000 in
set_option maxRecDepth 20000 in
theorem c_X0_walkerFigure_6 {n g q c : Nat} {G : ms_H} {fl w h : Int32} {nr : Nat → Int32} (hG : gr_at G g fl w h nr){wl mk ds qu : Nat → Int32} (hQ : sq_at G g q wl mk ds qu){hd on ht cm : Nat → Int32} {wk : Nat → Nat → Int32} (hC : cr_at G g q c hd on ht cm wk) {a : Nat} {u : Nat → Int32} (hw : G a = some (.inr (4, cr_w u))) : ms_M m_X0_walkerFigure [.ref c, .ref a, .int 6] n G 0 0 (ms_p1 (some (.int (cr_fig fl ds u 6))) n G) := by
  refine ms_M.of (by decide) (Nat.le_of_ble_eq_true rfl) ?_
  show ms_W false m_X0_walkerFigure _ 0 [(0, .ref c), (1, .ref a), (2, .int 6)] [] n G 0 0
  refine ms_run (pc' := 1) (lv' := [(0, .ref c), (1, .ref a), (2, .int 6)]) (st' := [.int 6]) _ (ms_deC dX0_walkerFigure_0 ms_deN) rfl rfl ?_
  refine ms_tabIn (off := 77) (tgt := 78) dX0_walkerFigure_1 (by decide) (by decide) (by decide) (by decide) ?_
  refine ms_run (pc' := 79) (lv' := [(0, .ref c), (1, .ref a), (2, .int 6)]) (st' := [.ref a]) _ (ms_deC dX0_walkerFigure_78 ms_deN) rfl rfl ?_
  refine ms_getf dX0_walkerFigure_79 fg_X0_106 hw rfl ?_
  refine ms_reti (st := []) (ty := .int) dX0_walkerFigure_82 rfl rfl ?_
  exact ms_p1.mk (ms_int_eq (by simp [cr_fig])) rfl
set_option maxHeartbeats 2000000 in
set_option maxRecDepth 20000 in
theorem c_X0_walkerFigure_7 {n g q c : Nat} {G : ms_H} {fl w h : Int32} {nr : Nat → Int32} (hG : gr_at G g fl w h nr){wl mk ds qu : Nat → Int32} (hQ : sq_at G g q wl mk ds qu){hd on ht cm : Nat → Int32} {wk : Nat → Nat → Int32} (hC : cr_at G g q c hd on ht cm wk) {a : Nat} {u : Nat → Int32} (hw : G a = some (.inr (4, cr_w u))) : ms_M m_X0_walkerFigure [.ref c, .ref a, .int 7] n G 0 0 (ms_p1 (some (.int (cr_fig fl ds u 7))) n G) := by
  refine ms_M.of (by decide) (Nat.le_of_ble_eq_true rfl) ?_
  show ms_W false m_X0_walkerFigure _ 0 [(0, .ref c), (1, .ref a), (2, .int 7)] [] n G 0 0
  refine ms_run (pc' := 1) (lv' := [(0, .ref c), (1, .ref a), (2, .int 7)]) (st' := [.int 7]) _ (ms_deC dX0_walkerFigure_0 ms_deN) rfl rfl ?_
  refine ms_tabIn (off := 82) (tgt := 83) dX0_walkerFigure_1 (by decide) (by decide) (by decide) (by decide) ?_
  refine ms_run (pc' := 84) (lv' := [(0, .ref c), (1, .ref a), (2, .int 7)]) (st' := [.ref a]) _ (ms_deC dX0_walkerFigure_83 ms_deN) rfl rfl ?_
  refine ms_callVp (As := []) dX0_walkerFigure_84 (c_X4_isOut hw) cv_X0_91 hw rfl ⟨Nat.le_of_ble_eq_true rfl, Nat.le_of_ble_eq_true rfl⟩ rfl (Nat.le_of_ble_eq_true rfl) ?_
  by_cases hc_84 : u 3 = -1
  · rw [show ms_b (u 3 = -1) = 1 from if_pos hc_84]
    refine ms_if_eq (tgt := 94) dX0_walkerFigure_87 (by decide) (fun h9 => absurd h9 (by decide)) (fun _ => ?_)
    refine ms_run (pc' := 91) (lv' := [(0, .ref c), (1, .ref a), (2, .int 7)]) (st' := [.int 0]) _ (ms_deC dX0_walkerFigure_90 ms_deN) rfl rfl ?_
    refine ms_goto (tgt := 109) dX0_walkerFigure_91 (by decide) ?_
    refine ms_reti (st := []) (ty := .int) dX0_walkerFigure_109 rfl rfl ?_
    exact ms_p1.mk (ms_int_eq (by simp [cr_fig, *])) rfl
  · rw [show ms_b (u 3 = -1) = 0 from if_neg hc_84]
    refine ms_if_eq (tgt := 94) dX0_walkerFigure_87 (by decide) (fun _ => ?_) (fun h9 => absurd h9 (by decide))
    refine ms_run (pc' := 95) (lv' := [(0, .ref c), (1, .ref a), (2, .int 7)]) (st' := [.ref c]) _ (ms_deC dX0_walkerFigure_94 ms_deN) rfl rfl ?_
    refine ms_getf dX0_walkerFigure_95 fg_X0_38 hC.1 rfl ?_
    refine ms_run (pc' := 99) (lv' := [(0, .ref c), (1, .ref a), (2, .int 7)]) (st' := [.ref a, .ref q]) _ (ms_deC dX0_walkerFigure_98 ms_deN) rfl rfl ?_
    refine ms_getf dX0_walkerFigure_99 fg_X0_95 hw rfl ?_
    refine ms_run (pc' := 103) (lv' := [(0, .ref c), (1, .ref a), (2, .int 7)]) (st' := [.ref a, .int (u 0), .ref q]) _ (ms_deC dX0_walkerFigure_102 ms_deN) rfl rfl ?_
    refine ms_getf dX0_walkerFigure_103 fg_X0_98 hw rfl ?_
    refine ms_callVp (As := [.int (u 0), .int (u 3)]) dX0_walkerFigure_106 (c_X3_distance hG hQ (u 0) (u 3)) cv_X0_101 hQ.1 rfl ⟨Nat.le_of_ble_eq_true rfl, Nat.le_of_ble_eq_true rfl⟩ rfl (Nat.le_of_ble_eq_true rfl) ?_
    refine ms_reti (st := []) (ty := .int) dX0_walkerFigure_109 rfl rfl ?_
    exact ms_p1.mk (ms_int_eq (by simp [cr_fig, *])) rfl
set_option maxHeartbeats 2000000 in
set_option maxRecDepth 20000 in
theorem c_X0_walkerFigure_8 {n g q c : Nat} {G : ms_H} {fl w h : Int32} {nr : Nat → Int32} (hG : gr_at G g fl w h nr){wl mk ds qu : Nat → Int32} (hQ : sq_at G g q wl mk ds qu){hd on ht cm : Nat → Int32} {wk : Nat → Nat → Int32} (hC : cr_at G g q c hd on ht cm wk) {a : Nat} {u : Nat → Int32} (hw : G a = some (.inr (4, cr_w u))) : ms_M m_X0_walkerFigure [.ref c, .ref a, .int 8] n G 0 0 (ms_p1 (some (.int (cr_fig fl ds u 8))) n G) := by
  refine ms_M.of (by decide) (Nat.le_of_ble_eq_true rfl) ?_
  show ms_W false m_X0_walkerFigure _ 0 [(0, .ref c), (1, .ref a), (2, .int 8)] [] n G 0 0
  refine ms_run (pc' := 1) (lv' := [(0, .ref c), (1, .ref a), (2, .int 8)]) (st' := [.int 8]) _ (ms_deC dX0_walkerFigure_0 ms_deN) rfl rfl ?_
  refine ms_tabOut (tgt := 110) dX0_walkerFigure_1 (by decide) (by decide) ?_
  refine ms_run (pc' := 111) (lv' := [(0, .ref c), (1, .ref a), (2, .int 8)]) (st' := [.ref a]) _ (ms_deC dX0_walkerFigure_110 ms_deN) rfl rfl ?_
  refine ms_getf dX0_walkerFigure_111 fg_X0_121 hw rfl ?_
  refine ms_reti (st := []) (ty := .int) dX0_walkerFigure_114 rfl rfl ?_
  exact ms_p1.mk (ms_int_eq (by simp [cr_fig])) rfl
theorem c_X0_walkerFigure {n g q c : Nat} {G : ms_H} {fl w h : Int32} {nr : Nat → Int32} (hG : gr_at G g fl w h nr){wl mk ds qu : Nat → Int32} (hQ : sq_at G g q wl mk ds qu){hd on ht cm : Nat → Int32} {wk : Nat → Nat → Int32} (hC : cr_at G g q c hd on ht cm wk) {a : Nat} {u : Nat → Int32} (hw : G a = some (.inr (4, cr_w u))) : ∀ k, k < 9 → ms_M m_X0_walkerFigure [.ref c, .ref a, .int (nI k)] n G 0 0 (ms_p1 (some (.int (cr_fig fl ds u k))) n G)
  | 0, _ => c_X0_walkerFigure_0 hG hQ hC hw
  | 1, _ => c_X0_walkerFigure_1 hG hQ hC hw
  | 2, _ => c_X0_walkerFigure_2 hG hQ hC hw
  | 3, _ => c_X0_walkerFigure_3 hG hQ hC hw
  | 4, _ => c_X0_walkerFigure_4 hG hQ hC hw
  | 5, _ => c_X0_walkerFigure_5 hG hQ hC hw
  | 6, _ => c_X0_walkerFigure_6 hG hQ hC hw
  | 7, _ => c_X0_walkerFigure_7 hG hQ hC hw
  | 8, _ => c_X0_walkerFigure_8 hG hQ hC hw
  | k + 9, h => absurd h (by omega)
set_option maxHeartbeats 2000000 in
set_option maxRecDepth 20000 in
theorem l_X3_nearer {n g q : Nat} {G : ms_H} {fl w h : Int32} {nr : Nat → Int32} (hG : gr_at G g fl w h nr){wl mk ds qu : Nat → Int32} (hQ : sq_at G g q wl mk ds qu) (gl f : Int32) : ∀ (r k : Nat), k + r = 4 → ms_W false m_X3_nearer (ms_p1 (some (.int (fst1 (pNear fl nr ds gl f) (fun k => gr_next nr f (nI k)) k r))) n G) 12 [(0, .ref q), (1, .int gl), (2, .int f), (3, .int (sq_ds fl ds gl f - 1)), (4, .int (nI k))] [] n G 0 0 := by
  intro r
  induction r with
  | zero =>
    intro k hk
    have hkN : k = 4 := by omega
    refine ms_run (pc' := 15) (lv' := [(0, .ref q), (1, .int gl), (2, .int f), (3, .int (sq_ds fl ds gl f - 1)), (4, .int (nI k))]) (st' := [.int 4, .int (nI k)]) _ (ms_deC dX3_nearer_12 (ms_deC dX3_nearer_14 ms_deN)) rfl rfl ?_
    refine ms_icmp_ge (tgt := 56) dX3_nearer_15 (by decide) (fun h_15 => ?_) (fun h_15 => ?_)
    · skip
      refine ms_run (pc' := 57) (lv' := [(0, .ref q), (1, .int gl), (2, .int f), (3, .int (sq_ds fl ds gl f - 1)), (4, .int (nI k))]) (st' := [.int (-1)]) _ (ms_deC dX3_nearer_56 ms_deN) rfl rfl ?_
      refine ms_reti (st := []) (ty := .int) dX3_nearer_57 rfl rfl ?_
      exact ms_p1.mk rfl rfl
    · skip
      exact absurd (by show nI 4 ≤ nI k; exact nI_le (b := k) (by omega) (by omega)) h_15
  | succ r ih =>
    intro k hk
    have hlt : k < 4 := by omega
    refine ms_run (pc' := 15) (lv' := [(0, .ref q), (1, .int gl), (2, .int f), (3, .int (sq_ds fl ds gl f - 1)), (4, .int (nI k))]) (st' := [.int 4, .int (nI k)]) _ (ms_deC dX3_nearer_12 (ms_deC dX3_nearer_14 ms_deN)) rfl rfl ?_
    refine ms_icmp_ge (tgt := 56) dX3_nearer_15 (by decide) (fun h_15 => ?_) (fun h_15 => ?_)
    · skip
      exact absurd h_15 (by show ¬ nI 4 ≤ nI k; exact nI_ge (b := 4) (by omega) (by omega))
    · skip
      refine ms_run (pc' := 19) (lv' := [(0, .ref q), (1, .int gl), (2, .int f), (3, .int (sq_ds fl ds gl f - 1)), (4, .int (nI k))]) (st' := [.ref q]) _ (ms_deC dX3_nearer_18 ms_deN) rfl rfl ?_
      refine ms_getf dX3_nearer_19 fg_X3_24 hQ.1 rfl ?_
      refine ms_run (pc' := 25) (lv' := [(0, .ref q), (1, .int gl), (2, .int f), (3, .int (sq_ds fl ds gl f - 1)), (4, .int (nI k))]) (st' := [.int (nI k), .int f, .ref g]) _ (ms_deC dX3_nearer_22 (ms_deC dX3_nearer_23 ms_deN)) rfl rfl ?_
      refine ms_callVp (As := [.int f, .int (nI k)]) dX3_nearer_25 (c_X1_next hG f (nI k)) cv_X3_78 hG.1 rfl ⟨Nat.le_of_ble_eq_true rfl, Nat.le_of_ble_eq_true rfl⟩ rfl (Nat.le_of_ble_eq_true rfl) ?_
      refine ms_run (pc' := 33) (lv' := [(5, .int (gr_next nr f (nI k))), (0, .ref q), (1, .int gl), (2, .int f), (3, .int (sq_ds fl ds gl f - 1)), (4, .int (nI k))]) (st' := [.int (-1), .int (gr_next nr f (nI k))]) _ (ms_deC dX3_nearer_28 (ms_deC dX3_nearer_30 (ms_deC dX3_nearer_32 ms_deN))) rfl rfl ?_
      refine ms_icmp_eq (tgt := 50) dX3_nearer_33 (by decide) (fun h_33 => ?_) (fun h_33 => ?_)
      · skip
        refine ms_run (pc' := 53) (lv' := [(4, .int ((nI k) + 1)), (5, .int (gr_next nr f (nI k))), (0, .ref q), (1, .int gl), (2, .int f), (3, .int (sq_ds fl ds gl f - 1))]) (st' := []) _ (ms_deC dX3_nearer_50 ms_deN) rfl rfl ?_
        refine ms_goto (tgt := 12) dX3_nearer_53 (by decide) ?_
        rw [fst1_f (p := (pNear fl nr ds gl f)) (k := k) (decide_eq_false (by first | exact fun h8 => h8.1 h_33 | exact fun h8 => h_44 h8.2))]
        rw [nI_1 k]
        refine ms_W.sub (lv2 := [(0, _), (1, _), (2, _), (3, _), (4, _)]) ?_ [2, 3, 4, 5, 0] rfl
        exact ih (k + 1) (by omega)
      · skip
        refine ms_run (pc' := 40) (lv' := [(5, .int (gr_next nr f (nI k))), (0, .ref q), (1, .int gl), (2, .int f), (3, .int (sq_ds fl ds gl f - 1)), (4, .int (nI k))]) (st' := [.int (gr_next nr f (nI k)), .int gl, .ref q]) _ (ms_deC dX3_nearer_36 (ms_deC dX3_nearer_37 (ms_deC dX3_nearer_38 ms_deN))) rfl rfl ?_
        refine ms_callVp (As := [.int gl, .int (gr_next nr f (nI k))]) dX3_nearer_40 (c_X3_distance hG hQ gl (gr_next nr f (nI k))) cv_X3_54 hQ.1 rfl ⟨Nat.le_of_ble_eq_true rfl, Nat.le_of_ble_eq_true rfl⟩ rfl (Nat.le_of_ble_eq_true rfl) ?_
        refine ms_run (pc' := 44) (lv' := [(5, .int (gr_next nr f (nI k))), (0, .ref q), (1, .int gl), (2, .int f), (3, .int (sq_ds fl ds gl f - 1)), (4, .int (nI k))]) (st' := [.int (sq_ds fl ds gl f - 1), .int (sq_ds fl ds gl (gr_next nr f (nI k)))]) _ (ms_deC dX3_nearer_43 ms_deN) rfl rfl ?_
        refine ms_icmp_ne (tgt := 50) dX3_nearer_44 (by decide) (fun h_44 => ?_) (fun h_44 => ?_)
        · skip
          refine ms_run (pc' := 53) (lv' := [(4, .int ((nI k) + 1)), (5, .int (gr_next nr f (nI k))), (0, .ref q), (1, .int gl), (2, .int f), (3, .int (sq_ds fl ds gl f - 1))]) (st' := []) _ (ms_deC dX3_nearer_50 ms_deN) rfl rfl ?_
          refine ms_goto (tgt := 12) dX3_nearer_53 (by decide) ?_
          rw [fst1_f (p := (pNear fl nr ds gl f)) (k := k) (decide_eq_false (by first | exact fun h8 => h8.1 h_33 | exact fun h8 => h_44 h8.2))]
          rw [nI_1 k]
          refine ms_W.sub (lv2 := [(0, _), (1, _), (2, _), (3, _), (4, _)]) ?_ [2, 3, 4, 5, 0] rfl
          exact ih (k + 1) (by omega)
        · skip
          refine ms_run (pc' := 49) (lv' := [(5, .int (gr_next nr f (nI k))), (0, .ref q), (1, .int gl), (2, .int f), (3, .int (sq_ds fl ds gl f - 1)), (4, .int (nI k))]) (st' := [.int (gr_next nr f (nI k))]) _ (ms_deC dX3_nearer_47 ms_deN) rfl rfl ?_
          refine ms_reti (st := []) (ty := .int) dX3_nearer_49 rfl rfl ?_
          exact ms_p1.mk (by rw [fst1_t (p := (pNear fl nr ds gl f)) (k := k) (decide_eq_true ⟨h_33, h_44⟩)]) rfl
set_option maxHeartbeats 2000000 in
set_option maxRecDepth 20000 in
theorem c_X3_nearer {n g q : Nat} {G : ms_H} {fl w h : Int32} {nr : Nat → Int32} (hG : gr_at G g fl w h nr){wl mk ds qu : Nat → Int32} (hQ : sq_at G g q wl mk ds qu) (gl f : Int32) : ms_M m_X3_nearer [.ref q, .int gl, .int f] n G 0 0 (ms_p1 (some (.int (sq_near fl nr ds gl f))) n G) := by
  refine ms_M.of (by decide) (Nat.le_of_ble_eq_true rfl) ?_
  show ms_W false m_X3_nearer _ 0 [(0, .ref q), (1, .int gl), (2, .int f)] [] n G 0 0
  refine ms_run (pc' := 3) (lv' := [(0, .ref q), (1, .int gl), (2, .int f)]) (st' := [.int f, .int gl, .ref q]) _ (ms_deC dX3_nearer_0 (ms_deC dX3_nearer_1 (ms_deC dX3_nearer_2 ms_deN))) rfl rfl ?_
  refine ms_callVp (As := [.int gl, .int f]) dX3_nearer_3 (c_X3_distance hG hQ gl f) cv_X3_54 hQ.1 rfl ⟨Nat.le_of_ble_eq_true rfl, Nat.le_of_ble_eq_true rfl⟩ rfl (Nat.le_of_ble_eq_true rfl) ?_
  refine ms_run (pc' := 12) (lv' := [(4, .int 0), (3, .int ((sq_ds fl ds gl f) - 1)), (0, .ref q), (1, .int gl), (2, .int f)]) (st' := []) _ (ms_deC dX3_nearer_6 (ms_deC dX3_nearer_7 (ms_deC dX3_nearer_8 (ms_deC dX3_nearer_9 (ms_deC dX3_nearer_10 ms_deN))))) rfl rfl ?_
  refine ms_W.sub (lv2 := [(0, _), (1, _), (2, _), (3, _), (4, _)]) ?_ [2, 3, 4, 1, 0] rfl
  exact l_X3_nearer hG hQ gl f 4 0 rfl
set_option maxHeartbeats 2000000 in
set_option maxRecDepth 20000 in
theorem l_X3_fieldOnWay {n g q : Nat} {G : ms_H} {fl w h : Int32} {nr : Nat → Int32} (hG : gr_at G g fl w h nr){wl mk ds qu : Nat → Int32} (hQ : sq_at G g q wl mk ds qu) (gl f : Int32) {kk : Nat} (hk9 : kk < 2 ^ 31) : ∀ (r k : Nat), k + r = kk → ms_W false m_X3_fieldOnWay (ms_p1 (some (.int (sq_way fl nr ds gl f kk))) n G) 22 [(0, .ref q), (1, .int gl), (2, .int f), (3, .int (nI kk)), (5, .int (sq_way fl nr ds gl f k)), (6, .int (nI k))] [] n G 0 0 := by
  intro r
  induction r with
  | zero =>
    intro k hk
    have hkN : k = kk := by omega
    refine ms_run (pc' := 25) (lv' := [(0, .ref q), (1, .int gl), (2, .int f), (3, .int (nI kk)), (5, .int (sq_way fl nr ds gl f k)), (6, .int (nI k))]) (st' := [.int (nI kk), .int (nI k)]) _ (ms_deC dX3_fieldOnWay_22 (ms_deC dX3_fieldOnWay_24 ms_deN)) rfl rfl ?_
    refine ms_icmp_ge (tgt := 43) dX3_fieldOnWay_25 (by decide) (fun h_25 => ?_) (fun h_25 => ?_)
    · skip
      refine ms_run (pc' := 45) (lv' := [(0, .ref q), (1, .int gl), (2, .int f), (3, .int (nI kk)), (5, .int (sq_way fl nr ds gl f k)), (6, .int (nI k))]) (st' := [.int (sq_way fl nr ds gl f k)]) _ (ms_deC dX3_fieldOnWay_43 ms_deN) rfl rfl ?_
      refine ms_reti (st := []) (ty := .int) dX3_fieldOnWay_45 rfl rfl ?_
      exact ms_p1.mk (by rw [hkN]) rfl
    · skip
      exact absurd (by exact nI_le (b := k) (by omega) (by omega)) h_25
  | succ r ih =>
    intro k hk
    have hlt : k < kk := by omega
    refine ms_run (pc' := 25) (lv' := [(0, .ref q), (1, .int gl), (2, .int f), (3, .int (nI kk)), (5, .int (sq_way fl nr ds gl f k)), (6, .int (nI k))]) (st' := [.int (nI kk), .int (nI k)]) _ (ms_deC dX3_fieldOnWay_22 (ms_deC dX3_fieldOnWay_24 ms_deN)) rfl rfl ?_
    refine ms_icmp_ge (tgt := 43) dX3_fieldOnWay_25 (by decide) (fun h_25 => ?_) (fun h_25 => ?_)
    · skip
      exact absurd h_25 (by exact nI_ge (b := kk) (by omega) (by omega))
    · skip
      refine ms_run (pc' := 32) (lv' := [(0, .ref q), (1, .int gl), (2, .int f), (3, .int (nI kk)), (5, .int (sq_way fl nr ds gl f k)), (6, .int (nI k))]) (st' := [.int (sq_way fl nr ds gl f k), .int gl, .ref q]) _ (ms_deC dX3_fieldOnWay_28 (ms_deC dX3_fieldOnWay_29 (ms_deC dX3_fieldOnWay_30 ms_deN))) rfl rfl ?_
      refine ms_callVp (As := [.int gl, .int (sq_way fl nr ds gl f k)]) dX3_fieldOnWay_32 (c_X3_nearer hG hQ gl (sq_way fl nr ds gl f k)) cv_X3_81 hQ.1 rfl ⟨Nat.le_of_ble_eq_true rfl, Nat.le_of_ble_eq_true rfl⟩ rfl (Nat.le_of_ble_eq_true rfl) ?_
      refine ms_run (pc' := 40) (lv' := [(6, .int ((nI k) + 1)), (5, .int (sq_way fl nr ds gl f (k + 1))), (0, .ref q), (1, .int gl), (2, .int f), (3, .int (nI kk))]) (st' := []) _ (ms_deC dX3_fieldOnWay_35 (ms_deC dX3_fieldOnWay_37 ms_deN)) rfl rfl ?_
      refine ms_goto (tgt := 22) dX3_fieldOnWay_40 (by decide) ?_
      rw [nI_1 k]
      refine ms_W.sub (lv2 := [(0, _), (1, _), (2, _), (3, _), (5, _), (6, _)]) ?_ [2, 3, 4, 5, 1, 0] rfl
      exact ih (k + 1) (by omega)
set_option maxHeartbeats 2000000 in
set_option maxRecDepth 20000 in
theorem c_X3_fieldOnWay {n g q : Nat} {G : ms_H} {fl w h : Int32} {nr : Nat → Int32} (hG : gr_at G g fl w h nr){wl mk ds qu : Nat → Int32} (hQ : sq_at G g q wl mk ds qu) (gl f : Int32) {kk : Nat} (hk9 : kk < 2 ^ 31) : ms_M m_X3_fieldOnWay [.ref q, .int gl, .int f, .int (nI kk)] n G 0 0 (ms_p1 (some (.int (if sq_ds fl ds gl f < nI kk then -1 else sq_way fl nr ds gl f kk))) n G) := by
  refine ms_M.of (by decide) (Nat.le_of_ble_eq_true rfl) ?_
  show ms_W false m_X3_fieldOnWay _ 0 [(0, .ref q), (1, .int gl), (2, .int f), (3, .int (nI kk))] [] n G 0 0
  refine ms_run (pc' := 3) (lv' := [(0, .ref q), (1, .int gl), (2, .int f), (3, .int (nI kk))]) (st' := [.int f, .int gl, .ref q]) _ (ms_deC dX3_fieldOnWay_0 (ms_deC dX3_fieldOnWay_1 (ms_deC dX3_fieldOnWay_2 ms_deN))) rfl rfl ?_
  refine ms_callVp (As := [.int gl, .int f]) dX3_fieldOnWay_3 (c_X3_distance hG hQ gl f) cv_X3_54 hQ.1 rfl ⟨Nat.le_of_ble_eq_true rfl, Nat.le_of_ble_eq_true rfl⟩ rfl (Nat.le_of_ble_eq_true rfl) ?_
  refine ms_run (pc' := 11) (lv' := [(4, .int (sq_ds fl ds gl f)), (0, .ref q), (1, .int gl), (2, .int f), (3, .int (nI kk))]) (st' := [.int (sq_ds fl ds gl f), .int (nI kk)]) _ (ms_deC dX3_fieldOnWay_6 (ms_deC dX3_fieldOnWay_8 (ms_deC dX3_fieldOnWay_9 ms_deN))) rfl rfl ?_
  refine ms_icmp_le (tgt := 16) dX3_fieldOnWay_11 (by decide) (fun h_11 => ?_) (fun h_11 => ?_)
  · skip
    refine ms_run (pc' := 22) (lv' := [(6, .int 0), (5, .int f), (4, .int (sq_ds fl ds gl f)), (0, .ref q), (1, .int gl), (2, .int f), (3, .int (nI kk))]) (st' := []) _ (ms_deC dX3_fieldOnWay_16 (ms_deC dX3_fieldOnWay_17 (ms_deC dX3_fieldOnWay_19 (ms_deC dX3_fieldOnWay_20 ms_deN)))) rfl rfl ?_
    refine ms_W.sub (lv2 := [(0, _), (1, _), (2, _), (3, _), (5, _), (6, _)]) ?_ [3, 4, 5, 6, 1, 0] rfl
    rw [if_neg (Int32.not_lt.mpr h_11)]
    exact l_X3_fieldOnWay hG hQ gl f hk9 kk 0 (by omega)
  · skip
    refine ms_run (pc' := 15) (lv' := [(4, .int (sq_ds fl ds gl f)), (0, .ref q), (1, .int gl), (2, .int f), (3, .int (nI kk))]) (st' := [.int (-1)]) _ (ms_deC dX3_fieldOnWay_14 ms_deN) rfl rfl ?_
    refine ms_reti (st := []) (ty := .int) dX3_fieldOnWay_15 rfl rfl ?_
    exact ms_p1.mk (by rw [if_pos (Int32.not_le.mp h_11)]) rfl

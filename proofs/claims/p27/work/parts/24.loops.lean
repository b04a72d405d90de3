/-! the loops of Square and Crowd that only read -/
set_option maxHeartbeats 2000000 in
set_option maxRecDepth 20000 in
theorem l_X3_countWalls {n g q : Nat} {G : ms_H} {fl w h : Int32} {nr : Nat → Int32} (hG : gr_at G g fl w h nr){wl mk ds qu : Nat → Int32} (hQ : sq_at G g q wl mk ds qu){nf : Nat} (hf : fl = nI nf) (h9 : nf ≤ 196) : ∀ (r k : Nat), k + r = nf → ms_W false m_X3_countWalls (ms_p1 (some (.int (nI (ct (pWall wl) nf)))) n G) 4 [(0, .ref q), (1, .int (nI (ct (pWall wl) k))), (2, .int (nI k))] [] n G 0 0 := by
  intro r
  induction r with
  | zero =>
    intro k hk
    have hkN : k = nf := by omega
    refine ms_run (pc' := 6) (lv' := [(0, .ref q), (1, .int (nI (ct (pWall wl) k))), (2, .int (nI k))]) (st' := [.ref q, .int (nI k)]) _ (ms_deC dX3_countWalls_4 (ms_deC dX3_countWalls_5 ms_deN)) rfl rfl ?_
    refine ms_getf dX3_countWalls_6 fg_X3_24 hQ.1 rfl ?_
    refine ms_getf dX3_countWalls_9 fg_X3_43 hG.1 rfl ?_
    refine ms_icmp_ge (tgt := 32) dX3_countWalls_12 (by decide) (fun h_12 => ?_) (fun h_12 => ?_)
    · skip
      refine ms_run (pc' := 33) (lv' := [(0, .ref q), (1, .int (nI (ct (pWall wl) k))), (2, .int (nI k))]) (st' := [.int (nI (ct (pWall wl) k))]) _ (ms_deC dX3_countWalls_32 ms_deN) rfl rfl ?_
      refine ms_reti (st := []) (ty := .int) dX3_countWalls_33 rfl rfl ?_
      exact ms_p1.mk (by rw [hkN]) rfl
    · skip
      exact absurd (by rw [hf]; exact nI_le (b := k) (by omega) (by omega)) h_12
  | succ r ih =>
    intro k hk
    have hlt : k < nf := by omega
    refine ms_run (pc' := 6) (lv' := [(0, .ref q), (1, .int (nI (ct (pWall wl) k))), (2, .int (nI k))]) (st' := [.ref q, .int (nI k)]) _ (ms_deC dX3_countWalls_4 (ms_deC dX3_countWalls_5 ms_deN)) rfl rfl ?_
    refine ms_getf dX3_countWalls_6 fg_X3_24 hQ.1 rfl ?_
    refine ms_getf dX3_countWalls_9 fg_X3_43 hG.1 rfl ?_
    refine ms_icmp_ge (tgt := 32) dX3_countWalls_12 (by decide) (fun h_12 => ?_) (fun h_12 => ?_)
    · skip
      exact absurd h_12 (by rw [hf]; exact nI_ge (b := nf) (by omega) (by omega))
    · skip
      refine ms_run (pc' := 17) (lv' := [(0, .ref q), (1, .int (nI (ct (pWall wl) k))), (2, .int (nI k))]) (st' := [.int (nI k), .ref q]) _ (ms_deC dX3_countWalls_15 (ms_deC dX3_countWalls_16 ms_deN)) rfl rfl ?_
      refine ms_callVp (As := [.int (nI k)]) dX3_countWalls_17 (c_X3_isFreeI hG hQ hf h9 hlt) cv_X3_47 hQ.1 rfl ⟨Nat.le_of_ble_eq_true rfl, Nat.le_of_ble_eq_true rfl⟩ rfl (Nat.le_of_ble_eq_true rfl) ?_
      by_cases hc_17 : wl k = 0
      · rw [show ms_b (wl k = 0) = 1 from if_pos hc_17]
        refine ms_if_ne (tgt := 26) dX3_countWalls_20 (by decide) (fun _ => ?_) (fun h9 => absurd h9 (by decide))
        refine ms_run (pc' := 29) (lv' := [(2, .int ((nI k) + 1)), (0, .ref q), (1, .int (nI (ct (pWall wl) k)))]) (st' := []) _ (ms_deC dX3_countWalls_26 ms_deN) rfl rfl ?_
        refine ms_goto (tgt := 4) dX3_countWalls_29 (by decide) ?_
        rw [ct_f (p := pWall wl) (k := k) (decide_eq_false (not_not_intro hc_17))]
        rw [nI_1 k]
        refine ms_W.sub (lv2 := [(0, _), (1, _), (2, _)]) ?_ [1, 2, 0] rfl
        exact ih (k + 1) (by omega)
      · rw [show ms_b (wl k = 0) = 0 from if_neg hc_17]
        refine ms_if_ne (tgt := 26) dX3_countWalls_20 (by decide) (fun h9 => absurd h9 (by decide)) (fun _ => ?_)
        refine ms_run (pc' := 29) (lv' := [(2, .int ((nI k) + 1)), (1, .int ((nI (ct (pWall wl) k)) + 1)), (0, .ref q)]) (st' := []) _ (ms_deC dX3_countWalls_23 (ms_deC dX3_countWalls_26 ms_deN)) rfl rfl ?_
        refine ms_goto (tgt := 4) dX3_countWalls_29 (by decide) ?_
        rw [ct_t (p := pWall wl) (k := k) (decide_eq_true hc_17)]
        rw [nI_1 k]
        refine ms_W.sub (lv2 := [(0, _), (1, _), (2, _)]) ?_ [2, 1, 0] rfl
        exact ih (k + 1) (by omega)
set_option maxHeartbeats 2000000 in
set_option maxRecDepth 20000 in
theorem c_X3_countWalls {n g q : Nat} {G : ms_H} {fl w h : Int32} {nr : Nat → Int32} (hG : gr_at G g fl w h nr){wl mk ds qu : Nat → Int32} (hQ : sq_at G g q wl mk ds qu){nf : Nat} (hf : fl = nI nf) (h9 : nf ≤ 196) : ms_M m_X3_countWalls [.ref q] n G 0 0 (ms_p1 (some (.int (nI (ct (pWall wl) nf)))) n G) := by
  refine ms_M.of (by decide) (Nat.le_of_ble_eq_true rfl) ?_
  show ms_W false m_X3_countWalls _ 0 [(0, .ref q)] [] n G 0 0
  refine ms_run (pc' := 4) (lv' := [(2, .int 0), (1, .int 0), (0, .ref q)]) (st' := []) _ (ms_deC dX3_countWalls_0 (ms_deC dX3_countWalls_1 (ms_deC dX3_countWalls_2 (ms_deC dX3_countWalls_3 ms_deN)))) rfl rfl ?_
  refine ms_W.sub (lv2 := [(0, _), (1, _), (2, _)]) ?_ [2, 1, 0] rfl
  exact l_X3_countWalls hG hQ hf h9 nf 0 (by omega)
set_option maxHeartbeats 2000000 in
set_option maxRecDepth 20000 in
theorem l_X3_countMarks {n g q : Nat} {G : ms_H} {fl w h : Int32} {nr : Nat → Int32} (hG : gr_at G g fl w h nr){wl mk ds qu : Nat → Int32} (hQ : sq_at G g q wl mk ds qu){nf : Nat} (hf : fl = nI nf) (h9 : nf ≤ 196) {gi : Nat} (hg : gi < 4) : ∀ (r k : Nat), k + r = nf → ms_W false m_X3_countMarks (ms_p1 (some (.int (nI (ct (pMark mk gi) nf)))) n G) 4 [(0, .ref q), (1, .int (nI gi)), (2, .int (nI (ct (pMark mk gi) k))), (3, .int (nI k))] [] n G 0 0 := by
  intro r
  induction r with
  | zero =>
    intro k hk
    have hkN : k = nf := by omega
    refine ms_run (pc' := 6) (lv' := [(0, .ref q), (1, .int (nI gi)), (2, .int (nI (ct (pMark mk gi) k))), (3, .int (nI k))]) (st' := [.ref q, .int (nI k)]) _ (ms_deC dX3_countMarks_4 (ms_deC dX3_countMarks_5 ms_deN)) rfl rfl ?_
    refine ms_getf dX3_countMarks_6 fg_X3_24 hQ.1 rfl ?_
    refine ms_getf dX3_countMarks_9 fg_X3_43 hG.1 rfl ?_
    refine ms_icmp_ge (tgt := 33) dX3_countMarks_12 (by decide) (fun h_12 => ?_) (fun h_12 => ?_)
    · skip
      refine ms_run (pc' := 34) (lv' := [(0, .ref q), (1, .int (nI gi)), (2, .int (nI (ct (pMark mk gi) k))), (3, .int (nI k))]) (st' := [.int (nI (ct (pMark mk gi) k))]) _ (ms_deC dX3_countMarks_33 ms_deN) rfl rfl ?_
      refine ms_reti (st := []) (ty := .int) dX3_countMarks_34 rfl rfl ?_
      exact ms_p1.mk (by rw [hkN]) rfl
    · skip
      exact absurd (by rw [hf]; exact nI_le (b := k) (by omega) (by omega)) h_12
  | succ r ih =>
    intro k hk
    have hlt : k < nf := by omega
    refine ms_run (pc' := 6) (lv' := [(0, .ref q), (1, .int (nI gi)), (2, .int (nI (ct (pMark mk gi) k))), (3, .int (nI k))]) (st' := [.ref q, .int (nI k)]) _ (ms_deC dX3_countMarks_4 (ms_deC dX3_countMarks_5 ms_deN)) rfl rfl ?_
    refine ms_getf dX3_countMarks_6 fg_X3_24 hQ.1 rfl ?_
    refine ms_getf dX3_countMarks_9 fg_X3_43 hG.1 rfl ?_
    refine ms_icmp_ge (tgt := 33) dX3_countMarks_12 (by decide) (fun h_12 => ?_) (fun h_12 => ?_)
    · skip
      exact absurd h_12 (by rw [hf]; exact nI_ge (b := nf) (by omega) (by omega))
    · skip
      refine ms_run (pc' := 18) (lv' := [(0, .ref q), (1, .int (nI gi)), (2, .int (nI (ct (pMark mk gi) k))), (3, .int (nI k))]) (st' := [.int (nI k), .int (nI gi), .ref q]) _ (ms_deC dX3_countMarks_15 (ms_deC dX3_countMarks_16 (ms_deC dX3_countMarks_17 ms_deN))) rfl rfl ?_
      refine ms_callVp (As := [.int (nI gi), .int (nI k)]) dX3_countMarks_18 (c_X3_isMarkedI hG hQ hf h9 hlt hg) cv_X3_50 hQ.1 rfl ⟨Nat.le_of_ble_eq_true rfl, Nat.le_of_ble_eq_true rfl⟩ rfl (Nat.le_of_ble_eq_true rfl) ?_
      by_cases hc_18 : ¬ mk k &&& (1 <<< (nI gi &&& 31)) = 0
      · rw [show ms_b (¬ mk k &&& (1 <<< (nI gi &&& 31)) = 0) = 1 from if_pos hc_18]
        refine ms_if_eq (tgt := 27) dX3_countMarks_21 (by decide) (fun h9 => absurd h9 (by decide)) (fun _ => ?_)
        refine ms_run (pc' := 30) (lv' := [(3, .int ((nI k) + 1)), (2, .int ((nI (ct (pMark mk gi) k)) + 1)), (0, .ref q), (1, .int (nI gi))]) (st' := []) _ (ms_deC dX3_countMarks_24 (ms_deC dX3_countMarks_27 ms_deN)) rfl rfl ?_
        refine ms_goto (tgt := 4) dX3_countMarks_30 (by decide) ?_
        rw [ct_t (p := pMark mk gi) (k := k) (decide_eq_true hc_18)]
        rw [nI_1 k]
        refine ms_W.sub (lv2 := [(0, _), (1, _), (2, _), (3, _)]) ?_ [2, 3, 1, 0] rfl
        exact ih (k + 1) (by omega)
      · rw [show ms_b (¬ mk k &&& (1 <<< (nI gi &&& 31)) = 0) = 0 from if_neg hc_18]
        refine ms_if_eq (tgt := 27) dX3_countMarks_21 (by decide) (fun _ => ?_) (fun h9 => absurd h9 (by decide))
        refine ms_run (pc' := 30) (lv' := [(3, .int ((nI k) + 1)), (0, .ref q), (1, .int (nI gi)), (2, .int (nI (ct (pMark mk gi) k)))]) (st' := []) _ (ms_deC dX3_countMarks_27 ms_deN) rfl rfl ?_
        refine ms_goto (tgt := 4) dX3_countMarks_30 (by decide) ?_
        rw [ct_f (p := pMark mk gi) (k := k) (decide_eq_false hc_18)]
        rw [nI_1 k]
        refine ms_W.sub (lv2 := [(0, _), (1, _), (2, _), (3, _)]) ?_ [1, 2, 3, 0] rfl
        exact ih (k + 1) (by omega)
set_option maxHeartbeats 2000000 in
set_option maxRecDepth 20000 in
theorem c_X3_countMarks {n g q : Nat} {G : ms_H} {fl w h : Int32} {nr : Nat → Int32} (hG : gr_at G g fl w h nr){wl mk ds qu : Nat → Int32} (hQ : sq_at G g q wl mk ds qu){nf : Nat} (hf : fl = nI nf) (h9 : nf ≤ 196) {gi : Nat} (hg : gi < 4) : ms_M m_X3_countMarks [.ref q, .int (nI gi)] n G 0 0 (ms_p1 (some (.int (nI (ct (pMark mk gi) nf)))) n G) := by
  refine ms_M.of (by decide) (Nat.le_of_ble_eq_true rfl) ?_
  show ms_W false m_X3_countMarks _ 0 [(0, .ref q), (1, .int (nI gi))] [] n G 0 0
  refine ms_run (pc' := 4) (lv' := [(3, .int 0), (2, .int 0), (0, .ref q), (1, .int (nI gi))]) (st' := []) _ (ms_deC dX3_countMarks_0 (ms_deC dX3_countMarks_1 (ms_deC dX3_countMarks_2 (ms_deC dX3_countMarks_3 ms_deN)))) rfl rfl ?_
  refine ms_W.sub (lv2 := [(0, _), (1, _), (2, _), (3, _)]) ?_ [2, 3, 1, 0] rfl
  exact l_X3_countMarks hG hQ hf h9 hg nf 0 (by omega)
set_option maxHeartbeats 2000000 in
set_option maxRecDepth 20000 in
theorem l_X3_greatestDistance {n g q : Nat} {G : ms_H} {fl w h : Int32} {nr : Nat → Int32} (hG : gr_at G g fl w h nr){wl mk ds qu : Nat → Int32} (hQ : sq_at G g q wl mk ds qu){nf : Nat} (hf : fl = nI nf) (h9 : nf ≤ 196) {gi : Nat} (hg : gi < 4) : ∀ (r k : Nat), k + r = nf → ms_W false m_X3_greatestDistance (ms_p1 (some (.int (mx (fun j => ds (gi * 196 + j)) nf))) n G) 4 [(0, .ref q), (1, .int (nI gi)), (2, .int (mx (fun j => ds (gi * 196 + j)) k)), (3, .int (nI k))] [] n G 0 0 := by
  intro r
  induction r with
  | zero =>
    intro k hk
    have hkN : k = nf := by omega
    refine ms_run (pc' := 6) (lv' := [(0, .ref q), (1, .int (nI gi)), (2, .int (mx (fun j => ds (gi * 196 + j)) k)), (3, .int (nI k))]) (st' := [.ref q, .int (nI k)]) _ (ms_deC dX3_greatestDistance_4 (ms_deC dX3_greatestDistance_5 ms_deN)) rfl rfl ?_
    refine ms_getf dX3_greatestDistance_6 fg_X3_24 hQ.1 rfl ?_
    refine ms_getf dX3_greatestDistance_9 fg_X3_43 hG.1 rfl ?_
    refine ms_icmp_ge (tgt := 32) dX3_greatestDistance_12 (by decide) (fun h_12 => ?_) (fun h_12 => ?_)
    · skip
      refine ms_run (pc' := 33) (lv' := [(0, .ref q), (1, .int (nI gi)), (2, .int (mx (fun j => ds (gi * 196 + j)) k)), (3, .int (nI k))]) (st' := [.int (mx (fun j => ds (gi * 196 + j)) k)]) _ (ms_deC dX3_greatestDistance_32 ms_deN) rfl rfl ?_
      refine ms_reti (st := []) (ty := .int) dX3_greatestDistance_33 rfl rfl ?_
      exact ms_p1.mk (by rw [hkN]) rfl
    · skip
      exact absurd (by rw [hf]; exact nI_le (b := k) (by omega) (by omega)) h_12
  | succ r ih =>
    intro k hk
    have hlt : k < nf := by omega
    refine ms_run (pc' := 6) (lv' := [(0, .ref q), (1, .int (nI gi)), (2, .int (mx (fun j => ds (gi * 196 + j)) k)), (3, .int (nI k))]) (st' := [.ref q, .int (nI k)]) _ (ms_deC dX3_greatestDistance_4 (ms_deC dX3_greatestDistance_5 ms_deN)) rfl rfl ?_
    refine ms_getf dX3_greatestDistance_6 fg_X3_24 hQ.1 rfl ?_
    refine ms_getf dX3_greatestDistance_9 fg_X3_43 hG.1 rfl ?_
    refine ms_icmp_ge (tgt := 32) dX3_greatestDistance_12 (by decide) (fun h_12 => ?_) (fun h_12 => ?_)
    · skip
      exact absurd h_12 (by rw [hf]; exact nI_ge (b := nf) (by omega) (by omega))
    · skip
      refine ms_run (pc' := 19) (lv' := [(0, .ref q), (1, .int (nI gi)), (2, .int (mx (fun j => ds (gi * 196 + j)) k)), (3, .int (nI k))]) (st' := [.int (nI k), .int (nI gi), .ref q, .int (mx (fun j => ds (gi * 196 + j)) k)]) _ (ms_deC dX3_greatestDistance_15 (ms_deC dX3_greatestDistance_16 (ms_deC dX3_greatestDistance_17 (ms_deC dX3_greatestDistance_18 ms_deN)))) rfl rfl ?_
      refine ms_callVp (As := [.int (nI gi), .int (nI k)]) dX3_greatestDistance_19 (c_X3_distance hG hQ (nI gi) (nI k)) cv_X3_54 hQ.1 rfl ⟨Nat.le_of_ble_eq_true rfl, Nat.le_of_ble_eq_true rfl⟩ rfl (Nat.le_of_ble_eq_true rfl) ?_
      rw [sq_dsI ds hf h9 hlt hg]
      refine ms_max dX3_greatestDistance_22 mm_X3_58 ⟨Nat.le_of_ble_eq_true rfl, Nat.le_of_ble_eq_true rfl⟩ (Nat.le_of_ble_eq_true rfl) ?_
      refine ms_run (pc' := 29) (lv' := [(3, .int ((nI k) + 1)), (2, .int (if mx (fun j => ds (gi * 196 + j)) k < ds (gi * 196 + k) then ds (gi * 196 + k) else mx (fun j => ds (gi * 196 + j)) k)), (0, .ref q), (1, .int (nI gi))]) (st' := []) _ (ms_deC dX3_greatestDistance_25 (ms_deC dX3_greatestDistance_26 ms_deN)) rfl rfl ?_
      refine ms_goto (tgt := 4) dX3_greatestDistance_29 (by decide) ?_
      show ms_W _ _ _ _ [(3, .int (nI k + 1)), (2, .int (mx (fun j => ds (gi * 196 + j)) (k + 1))), (0, .ref q), (1, .int (nI gi))] _ _ _ _ _
      rw [nI_1 k]
      refine ms_W.sub (lv2 := [(0, _), (1, _), (2, _), (3, _)]) ?_ [2, 3, 1, 0] rfl
      exact ih (k + 1) (by omega)
set_option maxHeartbeats 2000000 in
set_option maxRecDepth 20000 in
theorem c_X3_greatestDistance {n g q : Nat} {G : ms_H} {fl w h : Int32} {nr : Nat → Int32} (hG : gr_at G g fl w h nr){wl mk ds qu : Nat → Int32} (hQ : sq_at G g q wl mk ds qu){nf : Nat} (hf : fl = nI nf) (h9 : nf ≤ 196) {gi : Nat} (hg : gi < 4) : ms_M m_X3_greatestDistance [.ref q, .int (nI gi)] n G 0 0 (ms_p1 (some (.int (mx (fun j => ds (gi * 196 + j)) nf))) n G) := by
  refine ms_M.of (by decide) (Nat.le_of_ble_eq_true rfl) ?_
  show ms_W false m_X3_greatestDistance _ 0 [(0, .ref q), (1, .int (nI gi))] [] n G 0 0
  refine ms_run (pc' := 4) (lv' := [(3, .int 0), (2, .int (-1)), (0, .ref q), (1, .int (nI gi))]) (st' := []) _ (ms_deC dX3_greatestDistance_0 (ms_deC dX3_greatestDistance_1 (ms_deC dX3_greatestDistance_2 (ms_deC dX3_greatestDistance_3 ms_deN)))) rfl rfl ?_
  refine ms_W.sub (lv2 := [(0, _), (1, _), (2, _), (3, _)]) ?_ [2, 3, 1, 0] rfl
  exact l_X3_greatestDistance hG hQ hf h9 hg nf 0 (by omega)
set_option maxHeartbeats 2000000 in
set_option maxRecDepth 20000 in
theorem l_X0_countRound {n g q c : Nat} {G : ms_H} {fl w h : Int32} {nr : Nat → Int32} (hG : gr_at G g fl w h nr){hd on ht cm : Nat → Int32} {wk : Nat → Nat → Int32} (hC : cr_at G g q c hd on ht cm wk) (f : Int32) : ∀ (r k : Nat), k + r = 8 → ms_W false m_X0_countRound (ms_p1 (some (.int (cRound nr on f))) n G) 4 [(0, .ref c), (1, .int f), (2, .int (nI (ct (pRound nr on f) k))), (3, .int (nI k))] [] n G 0 0 := by
  intro r
  induction r with
  | zero =>
    intro k hk
    have hkN : k = 8 := by omega
    refine ms_run (pc' := 7) (lv' := [(0, .ref c), (1, .int f), (2, .int (nI (ct (pRound nr on f) k))), (3, .int (nI k))]) (st' := [.int 8, .int (nI k)]) _ (ms_deC dX0_countRound_4 (ms_deC dX0_countRound_5 ms_deN)) rfl rfl ?_
    refine ms_icmp_ge (tgt := 36) dX0_countRound_7 (by decide) (fun h_7 => ?_) (fun h_7 => ?_)
    · skip
      refine ms_run (pc' := 37) (lv' := [(0, .ref c), (1, .int f), (2, .int (nI (ct (pRound nr on f) k))), (3, .int (nI k))]) (st' := [.int (nI (ct (pRound nr on f) k))]) _ (ms_deC dX0_countRound_36 ms_deN) rfl rfl ?_
      refine ms_reti (st := []) (ty := .int) dX0_countRound_37 rfl rfl ?_
      exact ms_p1.mk (by rw [hkN]; rfl) rfl
    · skip
      exact absurd (by show nI 8 ≤ nI k; exact nI_le (b := k) (by omega) (by omega)) h_7
  | succ r ih =>
    intro k hk
    have hlt : k < 8 := by omega
    refine ms_run (pc' := 7) (lv' := [(0, .ref c), (1, .int f), (2, .int (nI (ct (pRound nr on f) k))), (3, .int (nI k))]) (st' := [.int 8, .int (nI k)]) _ (ms_deC dX0_countRound_4 (ms_deC dX0_countRound_5 ms_deN)) rfl rfl ?_
    refine ms_icmp_ge (tgt := 36) dX0_countRound_7 (by decide) (fun h_7 => ?_) (fun h_7 => ?_)
    · skip
      exact absurd h_7 (by show ¬ nI 8 ≤ nI k; exact nI_ge (b := 8) (by omega) (by omega))
    · skip
      refine ms_run (pc' := 12) (lv' := [(0, .ref c), (1, .int f), (2, .int (nI (ct (pRound nr on f) k))), (3, .int (nI k))]) (st' := [.ref c, .ref c]) _ (ms_deC dX0_countRound_10 (ms_deC dX0_countRound_11 ms_deN)) rfl rfl ?_
      refine ms_getf dX0_countRound_12 fg_X0_34 hC.1 rfl ?_
      refine ms_run (pc' := 17) (lv' := [(0, .ref c), (1, .int f), (2, .int (nI (ct (pRound nr on f) k))), (3, .int (nI k))]) (st' := [.int (nI k), .int f, .ref g, .ref c]) _ (ms_deC dX0_countRound_15 (ms_deC dX0_countRound_16 ms_deN)) rfl rfl ?_
      refine ms_callVp (As := [.int f, .int (nI k)]) dX0_countRound_17 (c_X1_next hG f (nI k)) cv_X0_124 hG.1 rfl ⟨Nat.le_of_ble_eq_true rfl, Nat.le_of_ble_eq_true rfl⟩ rfl (Nat.le_of_ble_eq_true rfl) ?_
      refine ms_callVp (As := [.int (gr_next nr f (nI k))]) dX0_countRound_20 (c_X0_numberOn hC (gr_next nr f (nI k))) cv_X0_73 hC.1 rfl ⟨Nat.le_of_ble_eq_true rfl, Nat.le_of_ble_eq_true rfl⟩ rfl (Nat.le_of_ble_eq_true rfl) ?_
      refine ms_run (pc' := 24) (lv' := [(0, .ref c), (1, .int f), (2, .int (nI (ct (pRound nr on f) k))), (3, .int (nI k))]) (st' := [.int (-1), .int (cr_on on (gr_next nr f (nI k)))]) _ (ms_deC dX0_countRound_23 ms_deN) rfl rfl ?_
      refine ms_icmp_eq (tgt := 30) dX0_countRound_24 (by decide) (fun h_24 => ?_) (fun h_24 => ?_)
      · skip
        refine ms_run (pc' := 33) (lv' := [(3, .int ((nI k) + 1)), (0, .ref c), (1, .int f), (2, .int (nI (ct (pRound nr on f) k)))]) (st' := []) _ (ms_deC dX0_countRound_30 ms_deN) rfl rfl ?_
        refine ms_goto (tgt := 4) dX0_countRound_33 (by decide) ?_
        rw [ct_f (p := pRound nr on f) (k := k) (decide_eq_false (not_not_intro h_24))]
        rw [nI_1 k]
        refine ms_W.sub (lv2 := [(0, _), (1, _), (2, _), (3, _)]) ?_ [1, 2, 3, 0] rfl
        exact ih (k + 1) (by omega)
      · skip
        refine ms_run (pc' := 33) (lv' := [(3, .int ((nI k) + 1)), (2, .int ((nI (ct (pRound nr on f) k)) + 1)), (0, .ref c), (1, .int f)]) (st' := []) _ (ms_deC dX0_countRound_27 (ms_deC dX0_countRound_30 ms_deN)) rfl rfl ?_
        refine ms_goto (tgt := 4) dX0_countRound_33 (by decide) ?_
        rw [ct_t (p := pRound nr on f) (k := k) (decide_eq_true h_24)]
        rw [nI_1 k]
        refine ms_W.sub (lv2 := [(0, _), (1, _), (2, _), (3, _)]) ?_ [2, 3, 1, 0] rfl
        exact ih (k + 1) (by omega)
set_option maxHeartbeats 2000000 in
set_option maxRecDepth 20000 in
theorem c_X0_countRound {n g q c : Nat} {G : ms_H} {fl w h : Int32} {nr : Nat → Int32} (hG : gr_at G g fl w h nr){hd on ht cm : Nat → Int32} {wk : Nat → Nat → Int32} (hC : cr_at G g q c hd on ht cm wk) (f : Int32) : ms_M m_X0_countRound [.ref c, .int f] n G 0 0 (ms_p1 (some (.int (cRound nr on f))) n G) := by
  refine ms_M.of (by decide) (Nat.le_of_ble_eq_true rfl) ?_
  show ms_W false m_X0_countRound _ 0 [(0, .ref c), (1, .int f)] [] n G 0 0
  refine ms_run (pc' := 4) (lv' := [(3, .int 0), (2, .int 0), (0, .ref c), (1, .int f)]) (st' := []) _ (ms_deC dX0_countRound_0 (ms_deC dX0_countRound_1 (ms_deC dX0_countRound_2 (ms_deC dX0_countRound_3 ms_deN)))) rfl rfl ?_
  refine ms_W.sub (lv2 := [(0, _), (1, _), (2, _), (3, _)]) ?_ [2, 3, 1, 0] rfl
  exact l_X0_countRound hG hC f 8 0 rfl
theorem pIs_lt {cnt o : Int32} (h : pIs cnt o) : o.toNatClampNeg < 24 := nb_clt (M := 24) rfl (Int32.not_lt.mpr h.1) (Int32.not_le.mpr h.2.2)
set_option maxHeartbeats 2000000 in
set_option maxRecDepth 20000 in
theorem l_X0_countFacing {n g q c : Nat} {G : ms_H} {fl w h : Int32} {nr : Nat → Int32} (hG : gr_at G g fl w h nr){hd on ht cm : Nat → Int32} {wk : Nat → Nat → Int32} (hC : cr_at G g q c hd on ht cm wk) (f sd : Int32) : ∀ (r k : Nat), k + r = 8 → ms_W false m_X0_countFacing (ms_p1 (some (.int (cFace (hd 0) nr on wk f sd))) n G) 5 [(0, .ref c), (1, .int f), (2, .int sd), (3, .int (nI (ct (pFace (hd 0) nr on wk f sd) k))), (4, .int (nI k))] [] n G 0 0 := by
  intro r
  induction r with
  | zero =>
    intro k hk
    have hkN : k = 8 := by omega
    refine ms_run (pc' := 9) (lv' := [(0, .ref c), (1, .int f), (2, .int sd), (3, .int (nI (ct (pFace (hd 0) nr on wk f sd) k))), (4, .int (nI k))]) (st' := [.int 8, .int (nI k)]) _ (ms_deC dX0_countFacing_5 (ms_deC dX0_countFacing_7 ms_deN)) rfl rfl ?_
    refine ms_icmp_ge (tgt := 55) dX0_countFacing_9 (by decide) (fun h_9 => ?_) (fun h_9 => ?_)
    · skip
      refine ms_run (pc' := 56) (lv' := [(0, .ref c), (1, .int f), (2, .int sd), (3, .int (nI (ct (pFace (hd 0) nr on wk f sd) k))), (4, .int (nI k))]) (st' := [.int (nI (ct (pFace (hd 0) nr on wk f sd) k))]) _ (ms_deC dX0_countFacing_55 ms_deN) rfl rfl ?_
      refine ms_reti (st := []) (ty := .int) dX0_countFacing_56 rfl rfl ?_
      exact ms_p1.mk (by rw [hkN]; rfl) rfl
    · skip
      exact absurd (by show nI 8 ≤ nI k; exact nI_le (b := k) (by omega) (by omega)) h_9
  | succ r ih =>
    intro k hk
    have hlt : k < 8 := by omega
    refine ms_run (pc' := 9) (lv' := [(0, .ref c), (1, .int f), (2, .int sd), (3, .int (nI (ct (pFace (hd 0) nr on wk f sd) k))), (4, .int (nI k))]) (st' := [.int 8, .int (nI k)]) _ (ms_deC dX0_countFacing_5 (ms_deC dX0_countFacing_7 ms_deN)) rfl rfl ?_
    refine ms_icmp_ge (tgt := 55) dX0_countFacing_9 (by decide) (fun h_9 => ?_) (fun h_9 => ?_)
    · skip
      exact absurd h_9 (by show ¬ nI 8 ≤ nI k; exact nI_ge (b := 8) (by omega) (by omega))
    · skip
      refine ms_run (pc' := 15) (lv' := [(0, .ref c), (1, .int f), (2, .int sd), (3, .int (nI (ct (pFace (hd 0) nr on wk f sd) k))), (4, .int (nI k))]) (st' := [.ref c, .ref c, .ref c]) _ (ms_deC dX0_countFacing_12 (ms_deC dX0_countFacing_13 (ms_deC dX0_countFacing_14 ms_deN))) rfl rfl ?_
      refine ms_getf dX0_countFacing_15 fg_X0_34 hC.1 rfl ?_
      refine ms_run (pc' := 21) (lv' := [(0, .ref c), (1, .int f), (2, .int sd), (3, .int (nI (ct (pFace (hd 0) nr on wk f sd) k))), (4, .int (nI k))]) (st' := [.int (nI k), .int f, .ref g, .ref c, .ref c]) _ (ms_deC dX0_countFacing_18 (ms_deC dX0_countFacing_19 ms_deN)) rfl rfl ?_
      refine ms_callVp (As := [.int f, .int (nI k)]) dX0_countFacing_21 (c_X1_next hG f (nI k)) cv_X0_124 hG.1 rfl ⟨Nat.le_of_ble_eq_true rfl, Nat.le_of_ble_eq_true rfl⟩ rfl (Nat.le_of_ble_eq_true rfl) ?_
      refine ms_callVp (As := [.int (gr_next nr f (nI k))]) dX0_countFacing_24 (c_X0_numberOn hC (gr_next nr f (nI k))) cv_X0_73 hC.1 rfl ⟨Nat.le_of_ble_eq_true rfl, Nat.le_of_ble_eq_true rfl⟩ rfl (Nat.le_of_ble_eq_true rfl) ?_
      refine ms_callVp (As := [.int (cr_on on (gr_next nr f (nI k)))]) dX0_countFacing_27 (c_X0_get hC (cr_on on (gr_next nr f (nI k)))) cv_X0_55 hC.1 rfl ⟨Nat.le_of_ble_eq_true rfl, Nat.le_of_ble_eq_true rfl⟩ rfl (Nat.le_of_ble_eq_true rfl) ?_
      by_cases hc_27 : pIs (hd 0) (cr_on on (gr_next nr f (nI k)))
      · rw [show cr_get c (hd 0) (cr_on on (gr_next nr f (nI k))) = .ref (c + 5 + (cr_on on (gr_next nr f (nI k))).toNatClampNeg) from if_pos hc_27]
        have hw := hC.2.2.2.2.2 (cr_on on (gr_next nr f (nI k))).toNatClampNeg (pIs_lt hc_27)
        refine ms_run (pc' := 34) (lv' := [(5, .ref (c + 5 + (cr_on on (gr_next nr f (nI k))).toNatClampNeg)), (0, .ref c), (1, .int f), (2, .int sd), (3, .int (nI (ct (pFace (hd 0) nr on wk f sd) k))), (4, .int (nI k))]) (st' := [.ref (c + 5 + (cr_on on (gr_next nr f (nI k))).toNatClampNeg)]) _ (ms_deC dX0_countFacing_30 (ms_deC dX0_countFacing_32 ms_deN)) rfl rfl ?_
        refine ms_ifnull dX0_countFacing_34 ?_
        refine ms_run (pc' := 39) (lv' := [(5, .ref (c + 5 + (cr_on on (gr_next nr f (nI k))).toNatClampNeg)), (0, .ref c), (1, .int f), (2, .int sd), (3, .int (nI (ct (pFace (hd 0) nr on wk f sd) k))), (4, .int (nI k))]) (st' := [.ref (c + 5 + (cr_on on (gr_next nr f (nI k))).toNatClampNeg)]) _ (ms_deC dX0_countFacing_37 ms_deN) rfl rfl ?_
        refine ms_getf dX0_countFacing_39 fg_X0_115 hw rfl ?_
        refine ms_run (pc' := 43) (lv' := [(5, .ref (c + 5 + (cr_on on (gr_next nr f (nI k))).toNatClampNeg)), (0, .ref c), (1, .int f), (2, .int sd), (3, .int (nI (ct (pFace (hd 0) nr on wk f sd) k))), (4, .int (nI k))]) (st' := [.int sd, .int (wk (cr_on on (gr_next nr f (nI k))).toNatClampNeg 4)]) _ (ms_deC dX0_countFacing_42 ms_deN) rfl rfl ?_
        refine ms_icmp_ne (tgt := 49) dX0_countFacing_43 (by decide) (fun h_43 => ?_) (fun h_43 => ?_)
        · skip
          refine ms_run (pc' := 52) (lv' := [(4, .int ((nI k) + 1)), (5, .ref (c + 5 + (cr_on on (gr_next nr f (nI k))).toNatClampNeg)), (0, .ref c), (1, .int f), (2, .int sd), (3, .int (nI (ct (pFace (hd 0) nr on wk f sd) k)))]) (st' := []) _ (ms_deC dX0_countFacing_49 ms_deN) rfl rfl ?_
          refine ms_goto (tgt := 5) dX0_countFacing_52 (by decide) ?_
          rw [ct_f (p := pFace (hd 0) nr on wk f sd) (k := k) (decide_eq_false (fun h8 => h_43 h8.2))]
          rw [nI_1 k]
          refine ms_W.sub (lv2 := [(0, _), (1, _), (2, _), (3, _), (4, _)]) ?_ [2, 3, 4, 5, 0] rfl
          exact ih (k + 1) (by omega)
        · skip
          refine ms_run (pc' := 52) (lv' := [(4, .int ((nI k) + 1)), (3, .int ((nI (ct (pFace (hd 0) nr on wk f sd) k)) + 1)), (5, .ref (c + 5 + (cr_on on (gr_next nr f (nI k))).toNatClampNeg)), (0, .ref c), (1, .int f), (2, .int sd)]) (st' := []) _ (ms_deC dX0_countFacing_46 (ms_deC dX0_countFacing_49 ms_deN)) rfl rfl ?_
          refine ms_goto (tgt := 5) dX0_countFacing_52 (by decide) ?_
          rw [ct_t (p := pFace (hd 0) nr on wk f sd) (k := k) (decide_eq_true ⟨hc_27, h_43⟩)]
          rw [nI_1 k]
          refine ms_W.sub (lv2 := [(0, _), (1, _), (2, _), (3, _), (4, _)]) ?_ [3, 4, 5, 1, 0] rfl
          exact ih (k + 1) (by omega)
      · rw [show cr_get c (hd 0) (cr_on on (gr_next nr f (nI k))) = .null from if_neg hc_27]
        refine ms_run (pc' := 34) (lv' := [(5, .null), (0, .ref c), (1, .int f), (2, .int sd), (3, .int (nI (ct (pFace (hd 0) nr on wk f sd) k))), (4, .int (nI k))]) (st' := [.null]) _ (ms_deC dX0_countFacing_30 (ms_deC dX0_countFacing_32 ms_deN)) rfl rfl ?_
        refine ms_ifnullN (tgt := 49) dX0_countFacing_34 (by decide) ?_
        refine ms_run (pc' := 52) (lv' := [(4, .int ((nI k) + 1)), (5, .null), (0, .ref c), (1, .int f), (2, .int sd), (3, .int (nI (ct (pFace (hd 0) nr on wk f sd) k)))]) (st' := []) _ (ms_deC dX0_countFacing_49 ms_deN) rfl rfl ?_
        refine ms_goto (tgt := 5) dX0_countFacing_52 (by decide) ?_
        rw [ct_f (p := pFace (hd 0) nr on wk f sd) (k := k) (decide_eq_false (fun h8 => hc_27 h8.1))]
        rw [nI_1 k]
        refine ms_W.sub (lv2 := [(0, _), (1, _), (2, _), (3, _), (4, _)]) ?_ [2, 3, 4, 5, 0] rfl
        exact ih (k + 1) (by omega)
set_option maxHeartbeats 2000000 in
set_option maxRecDepth 20000 in
theorem c_X0_countFacing {n g q c : Nat} {G : ms_H} {fl w h : Int32} {nr : Nat → Int32} (hG : gr_at G g fl w h nr){hd on ht cm : Nat → Int32} {wk : Nat → Nat → Int32} (hC : cr_at G g q c hd on ht cm wk) (f sd : Int32) : ms_M m_X0_countFacing [.ref c, .int f, .int sd] n G 0 0 (ms_p1 (some (.int (cFace (hd 0) nr on wk f sd))) n G) := by
  refine ms_M.of (by decide) (Nat.le_of_ble_eq_true rfl) ?_
  show ms_W false m_X0_countFacing _ 0 [(0, .ref c), (1, .int f), (2, .int sd)] [] n G 0 0
  refine ms_run (pc' := 5) (lv' := [(4, .int 0), (3, .int 0), (0, .ref c), (1, .int f), (2, .int sd)]) (st' := []) _ (ms_deC dX0_countFacing_0 (ms_deC dX0_countFacing_1 (ms_deC dX0_countFacing_2 (ms_deC dX0_countFacing_3 ms_deN)))) rfl rfl ?_
  refine ms_W.sub (lv2 := [(0, _), (1, _), (2, _), (3, _), (4, _)]) ?_ [2, 3, 4, 1, 0] rfl
  exact l_X0_countFacing hG hC f sd 8 0 rfl
set_option maxHeartbeats 2000000 in
set_option maxRecDepth 20000 in
theorem l_X0_countOut {n g q c : Nat} {G : ms_H} {hd on ht cm : Nat → Int32} {wk : Nat → Nat → Int32} (hC : cr_at G g q c hd on ht cm wk){cnt : Nat} (hx : hd 0 = nI cnt) (hc : cnt ≤ 24) : ∀ (r k : Nat), k + r = cnt → ms_W false m_X0_countOut (ms_p1 (some (.int (nI (ct (pOut wk) cnt)))) n G) 4 [(0, .ref c), (1, .int (nI (ct (pOut wk) k))), (2, .int (nI k))] [] n G 0 0 := by
  intro r
  induction r with
  | zero =>
    intro k hk
    have hkN : k = cnt := by omega
    refine ms_run (pc' := 6) (lv' := [(0, .ref c), (1, .int (nI (ct (pOut wk) k))), (2, .int (nI k))]) (st' := [.ref c, .int (nI k)]) _ (ms_deC dX0_countOut_4 (ms_deC dX0_countOut_5 ms_deN)) rfl rfl ?_
    refine ms_getf dX0_countOut_6 fg_X0_43 hC.1 rfl ?_
    refine ms_icmp_ge (tgt := 38) dX0_countOut_9 (by decide) (fun h_9 => ?_) (fun h_9 => ?_)
    · skip
      refine ms_run (pc' := 39) (lv' := [(0, .ref c), (1, .int (nI (ct (pOut wk) k))), (2, .int (nI k))]) (st' := [.int (nI (ct (pOut wk) k))]) _ (ms_deC dX0_countOut_38 ms_deN) rfl rfl ?_
      refine ms_reti (st := []) (ty := .int) dX0_countOut_39 rfl rfl ?_
      exact ms_p1.mk (by rw [hkN]) rfl
    · skip
      exact absurd (by rw [hx]; exact nI_le (b := k) (by omega) (by omega)) h_9
  | succ r ih =>
    intro k hk
    have hlt : k < cnt := by omega
    refine ms_run (pc' := 6) (lv' := [(0, .ref c), (1, .int (nI (ct (pOut wk) k))), (2, .int (nI k))]) (st' := [.ref c, .int (nI k)]) _ (ms_deC dX0_countOut_4 (ms_deC dX0_countOut_5 ms_deN)) rfl rfl ?_
    refine ms_getf dX0_countOut_6 fg_X0_43 hC.1 rfl ?_
    refine ms_icmp_ge (tgt := 38) dX0_countOut_9 (by decide) (fun h_9 => ?_) (fun h_9 => ?_)
    · skip
      exact absurd h_9 (by rw [hx]; exact nI_ge (b := cnt) (by omega) (by omega))
    · skip
      refine ms_run (pc' := 14) (lv' := [(0, .ref c), (1, .int (nI (ct (pOut wk) k))), (2, .int (nI k))]) (st' := [.int (nI k), .ref c]) _ (ms_deC dX0_countOut_12 (ms_deC dX0_countOut_13 ms_deN)) rfl rfl ?_
      refine ms_callVp (As := [.int (nI k)]) dX0_countOut_14 (c_X0_getI hC hx hc hlt) cv_X0_55 hC.1 rfl ⟨Nat.le_of_ble_eq_true rfl, Nat.le_of_ble_eq_true rfl⟩ rfl (Nat.le_of_ble_eq_true rfl) ?_
      have hw := hC.2.2.2.2.2 k (by omega)
      refine ms_run (pc' := 19) (lv' := [(3, .ref (c + 5 + k)), (0, .ref c), (1, .int (nI (ct (pOut wk) k))), (2, .int (nI k))]) (st' := [.ref (c + 5 + k)]) _ (ms_deC dX0_countOut_17 (ms_deC dX0_countOut_18 ms_deN)) rfl rfl ?_
      refine ms_ifnull dX0_countOut_19 ?_
      refine ms_run (pc' := 23) (lv' := [(3, .ref (c + 5 + k)), (0, .ref c), (1, .int (nI (ct (pOut wk) k))), (2, .int (nI k))]) (st' := [.ref (c + 5 + k)]) _ (ms_deC dX0_countOut_22 ms_deN) rfl rfl ?_
      refine ms_callVp (As := []) dX0_countOut_23 (c_X4_isOut hw) cv_X0_91 hw rfl ⟨Nat.le_of_ble_eq_true rfl, Nat.le_of_ble_eq_true rfl⟩ rfl (Nat.le_of_ble_eq_true rfl) ?_
      by_cases ho : wk k 3 = -1
      · rw [show ms_b (wk k 3 = -1) = 1 from if_pos ho]
        refine ms_if_eq (tgt := 32) dX0_countOut_26 (by decide) (fun h9 => absurd h9 (by decide)) (fun _ => ?_)
        refine ms_run (pc' := 35) (lv' := [(2, .int ((nI k) + 1)), (1, .int ((nI (ct (pOut wk) k)) + 1)), (3, .ref (c + 5 + k)), (0, .ref c)]) (st' := []) _ (ms_deC dX0_countOut_29 (ms_deC dX0_countOut_32 ms_deN)) rfl rfl ?_
        refine ms_goto (tgt := 4) dX0_countOut_35 (by decide) ?_
        rw [ct_t (p := pOut wk) (k := k) (decide_eq_true ho)]
        rw [nI_1 k]
        refine ms_W.sub (lv2 := [(0, _), (1, _), (2, _)]) ?_ [3, 1, 0] rfl
        exact ih (k + 1) (by omega)
      · rw [show ms_b (wk k 3 = -1) = 0 from if_neg ho]
        refine ms_if_eq (tgt := 32) dX0_countOut_26 (by decide) (fun _ => ?_) (fun h9 => absurd h9 (by decide))
        refine ms_run (pc' := 35) (lv' := [(2, .int ((nI k) + 1)), (3, .ref (c + 5 + k)), (0, .ref c), (1, .int (nI (ct (pOut wk) k)))]) (st' := []) _ (ms_deC dX0_countOut_32 ms_deN) rfl rfl ?_
        refine ms_goto (tgt := 4) dX0_countOut_35 (by decide) ?_
        rw [ct_f (p := pOut wk) (k := k) (decide_eq_false ho)]
        rw [nI_1 k]
        refine ms_W.sub (lv2 := [(0, _), (1, _), (2, _)]) ?_ [2, 3, 0] rfl
        exact ih (k + 1) (by omega)
set_option maxHeartbeats 2000000 in
set_option maxRecDepth 20000 in
theorem c_X0_countOut {n g q c : Nat} {G : ms_H} {hd on ht cm : Nat → Int32} {wk : Nat → Nat → Int32} (hC : cr_at G g q c hd on ht cm wk){cnt : Nat} (hx : hd 0 = nI cnt) (hc : cnt ≤ 24) : ms_M m_X0_countOut [.ref c] n G 0 0 (ms_p1 (some (.int (nI (ct (pOut wk) cnt)))) n G) := by
  refine ms_M.of (by decide) (Nat.le_of_ble_eq_true rfl) ?_
  show ms_W false m_X0_countOut _ 0 [(0, .ref c)] [] n G 0 0
  refine ms_run (pc' := 4) (lv' := [(2, .int 0), (1, .int 0), (0, .ref c)]) (st' := []) _ (ms_deC dX0_countOut_0 (ms_deC dX0_countOut_1 (ms_deC dX0_countOut_2 (ms_deC dX0_countOut_3 ms_deN)))) rfl rfl ?_
  refine ms_W.sub (lv2 := [(0, _), (1, _), (2, _)]) ?_ [2, 1, 0] rfl
  exact l_X0_countOut hC hx hc cnt 0 (by omega)
set_option maxHeartbeats 2000000 in
set_option maxRecDepth 20000 in
theorem l_X0_countLost {n g q c : Nat} {G : ms_H} {fl w h : Int32} {nr : Nat → Int32} (hG : gr_at G g fl w h nr){wl mk ds qu : Nat → Int32} (hQ : sq_at G g q wl mk ds qu){hd on ht cm : Nat → Int32} {wk : Nat → Nat → Int32} (hC : cr_at G g q c hd on ht cm wk){cnt : Nat} (hx : hd 0 = nI cnt) (hc : cnt ≤ 24) : ∀ (r k : Nat), k + r = cnt → ms_W false m_X0_countLost (ms_p1 (some (.int (nI (ct (pLost fl ds wk) cnt)))) n G) 4 [(0, .ref c), (1, .int (nI (ct (pLost fl ds wk) k))), (2, .int (nI k))] [] n G 0 0 := by
  intro r
  induction r with
  | zero =>
    intro k hk
    have hkN : k = cnt := by omega
    refine ms_run (pc' := 6) (lv' := [(0, .ref c), (1, .int (nI (ct (pLost fl ds wk) k))), (2, .int (nI k))]) (st' := [.ref c, .int (nI k)]) _ (ms_deC dX0_countLost_4 (ms_deC dX0_countLost_5 ms_deN)) rfl rfl ?_
    refine ms_getf dX0_countLost_6 fg_X0_43 hC.1 rfl ?_
    refine ms_icmp_ge (tgt := 57) dX0_countLost_9 (by decide) (fun h_9 => ?_) (fun h_9 => ?_)
    · skip
      refine ms_run (pc' := 58) (lv' := [(0, .ref c), (1, .int (nI (ct (pLost fl ds wk) k))), (2, .int (nI k))]) (st' := [.int (nI (ct (pLost fl ds wk) k))]) _ (ms_deC dX0_countLost_57 ms_deN) rfl rfl ?_
      refine ms_reti (st := []) (ty := .int) dX0_countLost_58 rfl rfl ?_
      exact ms_p1.mk (by rw [hkN]) rfl
    · skip
      exact absurd (by rw [hx]; exact nI_le (b := k) (by omega) (by omega)) h_9
  | succ r ih =>
    intro k hk
    have hlt : k < cnt := by omega
    refine ms_run (pc' := 6) (lv' := [(0, .ref c), (1, .int (nI (ct (pLost fl ds wk) k))), (2, .int (nI k))]) (st' := [.ref c, .int (nI k)]) _ (ms_deC dX0_countLost_4 (ms_deC dX0_countLost_5 ms_deN)) rfl rfl ?_
    refine ms_getf dX0_countLost_6 fg_X0_43 hC.1 rfl ?_
    refine ms_icmp_ge (tgt := 57) dX0_countLost_9 (by decide) (fun h_9 => ?_) (fun h_9 => ?_)
    · skip
      exact absurd h_9 (by rw [hx]; exact nI_ge (b := cnt) (by omega) (by omega))
    · skip
      refine ms_run (pc' := 14) (lv' := [(0, .ref c), (1, .int (nI (ct (pLost fl ds wk) k))), (2, .int (nI k))]) (st' := [.int (nI k), .ref c]) _ (ms_deC dX0_countLost_12 (ms_deC dX0_countLost_13 ms_deN)) rfl rfl ?_
      refine ms_callVp (As := [.int (nI k)]) dX0_countLost_14 (c_X0_getI hC hx hc hlt) cv_X0_55 hC.1 rfl ⟨Nat.le_of_ble_eq_true rfl, Nat.le_of_ble_eq_true rfl⟩ rfl (Nat.le_of_ble_eq_true rfl) ?_
      have hw := hC.2.2.2.2.2 k (by omega)
      refine ms_run (pc' := 19) (lv' := [(3, .ref (c + 5 + k)), (0, .ref c), (1, .int (nI (ct (pLost fl ds wk) k))), (2, .int (nI k))]) (st' := [.ref (c + 5 + k)]) _ (ms_deC dX0_countLost_17 (ms_deC dX0_countLost_18 ms_deN)) rfl rfl ?_
      refine ms_ifnull dX0_countLost_19 ?_
      refine ms_run (pc' := 23) (lv' := [(3, .ref (c + 5 + k)), (0, .ref c), (1, .int (nI (ct (pLost fl ds wk) k))), (2, .int (nI k))]) (st' := [.ref (c + 5 + k)]) _ (ms_deC dX0_countLost_22 ms_deN) rfl rfl ?_
      refine ms_callVp (As := []) dX0_countLost_23 (c_X4_isOut hw) cv_X0_91 hw rfl ⟨Nat.le_of_ble_eq_true rfl, Nat.le_of_ble_eq_true rfl⟩ rfl (Nat.le_of_ble_eq_true rfl) ?_
      by_cases ho : wk k 3 = -1
      · rw [show ms_b (wk k 3 = -1) = 1 from if_pos ho]
        refine ms_if_ne (tgt := 51) dX0_countLost_26 (by decide) (fun _ => ?_) (fun h9 => absurd h9 (by decide))
        refine ms_run (pc' := 54) (lv' := [(2, .int ((nI k) + 1)), (3, .ref (c + 5 + k)), (0, .ref c), (1, .int (nI (ct (pLost fl ds wk) k)))]) (st' := []) _ (ms_deC dX0_countLost_51 ms_deN) rfl rfl ?_
        refine ms_goto (tgt := 4) dX0_countLost_54 (by decide) ?_
        rw [ct_f (p := pLost fl ds wk) (k := k) (decide_eq_false (by first | exact fun h8 => h8.1 ho | exact fun h8 => h_45 h8.2))]
        rw [nI_1 k]
        refine ms_W.sub (lv2 := [(0, _), (1, _), (2, _)]) ?_ [2, 3, 0] rfl
        exact ih (k + 1) (by omega)
      · rw [show ms_b (wk k 3 = -1) = 0 from if_neg ho]
        refine ms_if_ne (tgt := 51) dX0_countLost_26 (by decide) (fun h9 => absurd h9 (by decide)) (fun _ => ?_)
        refine ms_run (pc' := 30) (lv' := [(3, .ref (c + 5 + k)), (0, .ref c), (1, .int (nI (ct (pLost fl ds wk) k))), (2, .int (nI k))]) (st' := [.ref c]) _ (ms_deC dX0_countLost_29 ms_deN) rfl rfl ?_
        refine ms_getf dX0_countLost_30 fg_X0_38 hC.1 rfl ?_
        refine ms_run (pc' := 34) (lv' := [(3, .ref (c + 5 + k)), (0, .ref c), (1, .int (nI (ct (pLost fl ds wk) k))), (2, .int (nI k))]) (st' := [.ref (c + 5 + k), .ref q]) _ (ms_deC dX0_countLost_33 ms_deN) rfl rfl ?_
        refine ms_getf dX0_countLost_34 fg_X0_95 hw rfl ?_
        refine ms_run (pc' := 38) (lv' := [(3, .ref (c + 5 + k)), (0, .ref c), (1, .int (nI (ct (pLost fl ds wk) k))), (2, .int (nI k))]) (st' := [.ref (c + 5 + k), .int (wk k 0), .ref q]) _ (ms_deC dX0_countLost_37 ms_deN) rfl rfl ?_
        refine ms_getf dX0_countLost_38 fg_X0_98 hw rfl ?_
        refine ms_callVp (As := [.int (wk k 0), .int (wk k 3)]) dX0_countLost_41 (c_X3_distance hG hQ (wk k 0) (wk k 3)) cv_X0_101 hQ.1 rfl ⟨Nat.le_of_ble_eq_true rfl, Nat.le_of_ble_eq_true rfl⟩ rfl (Nat.le_of_ble_eq_true rfl) ?_
        refine ms_run (pc' := 45) (lv' := [(3, .ref (c + 5 + k)), (0, .ref c), (1, .int (nI (ct (pLost fl ds wk) k))), (2, .int (nI k))]) (st' := [.int (-1), .int (sq_ds fl ds (wk k 0) (wk k 3))]) _ (ms_deC dX0_countLost_44 ms_deN) rfl rfl ?_
        refine ms_icmp_ne (tgt := 51) dX0_countLost_45 (by decide) (fun h_45 => ?_) (fun h_45 => ?_)
        · skip
          refine ms_run (pc' := 54) (lv' := [(2, .int ((nI k) + 1)), (3, .ref (c + 5 + k)), (0, .ref c), (1, .int (nI (ct (pLost fl ds wk) k)))]) (st' := []) _ (ms_deC dX0_countLost_51 ms_deN) rfl rfl ?_
          refine ms_goto (tgt := 4) dX0_countLost_54 (by decide) ?_
          rw [ct_f (p := pLost fl ds wk) (k := k) (decide_eq_false (by first | exact fun h8 => h8.1 ho | exact fun h8 => h_45 h8.2))]
          rw [nI_1 k]
          refine ms_W.sub (lv2 := [(0, _), (1, _), (2, _)]) ?_ [2, 3, 0] rfl
          exact ih (k + 1) (by omega)
        · skip
          refine ms_run (pc' := 54) (lv' := [(2, .int ((nI k) + 1)), (1, .int ((nI (ct (pLost fl ds wk) k)) + 1)), (3, .ref (c + 5 + k)), (0, .ref c)]) (st' := []) _ (ms_deC dX0_countLost_48 (ms_deC dX0_countLost_51 ms_deN)) rfl rfl ?_
          refine ms_goto (tgt := 4) dX0_countLost_54 (by decide) ?_
          rw [ct_t (p := pLost fl ds wk) (k := k) (decide_eq_true ⟨ho, h_45⟩)]
          rw [nI_1 k]
          refine ms_W.sub (lv2 := [(0, _), (1, _), (2, _)]) ?_ [3, 1, 0] rfl
          exact ih (k + 1) (by omega)
set_option maxHeartbeats 2000000 in
set_option maxRecDepth 20000 in
theorem c_X0_countLost {n g q c : Nat} {G : ms_H} {fl w h : Int32} {nr : Nat → Int32} (hG : gr_at G g fl w h nr){wl mk ds qu : Nat → Int32} (hQ : sq_at G g q wl mk ds qu){hd on ht cm : Nat → Int32} {wk : Nat → Nat → Int32} (hC : cr_at G g q c hd on ht cm wk){cnt : Nat} (hx : hd 0 = nI cnt) (hc : cnt ≤ 24) : ms_M m_X0_countLost [.ref c] n G 0 0 (ms_p1 (some (.int (nI (ct (pLost fl ds wk) cnt)))) n G) := by
  refine ms_M.of (by decide) (Nat.le_of_ble_eq_true rfl) ?_
  show ms_W false m_X0_countLost _ 0 [(0, .ref c)] [] n G 0 0
  refine ms_run (pc' := 4) (lv' := [(2, .int 0), (1, .int 0), (0, .ref c)]) (st' := []) _ (ms_deC dX0_countLost_0 (ms_deC dX0_countLost_1 (ms_deC dX0_countLost_2 (ms_deC dX0_countLost_3 ms_deN)))) rfl rfl ?_
  refine ms_W.sub (lv2 := [(0, _), (1, _), (2, _)]) ?_ [2, 1, 0] rfl
  exact l_X0_countLost hG hQ hC hx hc cnt 0 (by omega)
set_option maxHeartbeats 2000000 in
set_option maxRecDepth 20000 in
theorem l_X0_countSteps {n g q c : Nat} {G : ms_H} {hd on ht cm : Nat → Int32} {wk : Nat → Nat → Int32} (hC : cr_at G g q c hd on ht cm wk){cnt : Nat} (hx : hd 0 = nI cnt) (hc : cnt ≤ 24) (o : Int32) : ∀ (r k : Nat), k + r = cnt → ms_W false m_X0_countSteps (ms_p1 (some (.int (sm (vStep o wk) cnt))) n G) 4 [(0, .ref c), (1, .int o), (2, .int (sm (vStep o wk) k)), (3, .int (nI k))] [] n G 0 0 := by
  intro r
  induction r with
  | zero =>
    intro k hk
    have hkN : k = cnt := by omega
    refine ms_run (pc' := 6) (lv' := [(0, .ref c), (1, .int o), (2, .int (sm (vStep o wk) k)), (3, .int (nI k))]) (st' := [.ref c, .int (nI k)]) _ (ms_deC dX0_countSteps_4 (ms_deC dX0_countSteps_5 ms_deN)) rfl rfl ?_
    refine ms_getf dX0_countSteps_6 fg_X0_43 hC.1 rfl ?_
    refine ms_icmp_ge (tgt := 50) dX0_countSteps_9 (by decide) (fun h_9 => ?_) (fun h_9 => ?_)
    · skip
      refine ms_run (pc' := 51) (lv' := [(0, .ref c), (1, .int o), (2, .int (sm (vStep o wk) k)), (3, .int (nI k))]) (st' := [.int (sm (vStep o wk) k)]) _ (ms_deC dX0_countSteps_50 ms_deN) rfl rfl ?_
      refine ms_reti (st := []) (ty := .int) dX0_countSteps_51 rfl rfl ?_
      exact ms_p1.mk (by rw [hkN]) rfl
    · skip
      exact absurd (by rw [hx]; exact nI_le (b := k) (by omega) (by omega)) h_9
  | succ r ih =>
    intro k hk
    have hlt : k < cnt := by omega
    refine ms_run (pc' := 6) (lv' := [(0, .ref c), (1, .int o), (2, .int (sm (vStep o wk) k)), (3, .int (nI k))]) (st' := [.ref c, .int (nI k)]) _ (ms_deC dX0_countSteps_4 (ms_deC dX0_countSteps_5 ms_deN)) rfl rfl ?_
    refine ms_getf dX0_countSteps_6 fg_X0_43 hC.1 rfl ?_
    refine ms_icmp_ge (tgt := 50) dX0_countSteps_9 (by decide) (fun h_9 => ?_) (fun h_9 => ?_)
    · skip
      exact absurd h_9 (by rw [hx]; exact nI_ge (b := cnt) (by omega) (by omega))
    · skip
      refine ms_run (pc' := 14) (lv' := [(0, .ref c), (1, .int o), (2, .int (sm (vStep o wk) k)), (3, .int (nI k))]) (st' := [.int (nI k), .ref c]) _ (ms_deC dX0_countSteps_12 (ms_deC dX0_countSteps_13 ms_deN)) rfl rfl ?_
      refine ms_callVp (As := [.int (nI k)]) dX0_countSteps_14 (c_X0_getI hC hx hc hlt) cv_X0_55 hC.1 rfl ⟨Nat.le_of_ble_eq_true rfl, Nat.le_of_ble_eq_true rfl⟩ rfl (Nat.le_of_ble_eq_true rfl) ?_
      have hw := hC.2.2.2.2.2 k (by omega)
      refine ms_run (pc' := 21) (lv' := [(4, .ref (c + 5 + k)), (0, .ref c), (1, .int o), (2, .int (sm (vStep o wk) k)), (3, .int (nI k))]) (st' := [.ref (c + 5 + k)]) _ (ms_deC dX0_countSteps_17 (ms_deC dX0_countSteps_19 ms_deN)) rfl rfl ?_
      refine ms_ifnull dX0_countSteps_21 ?_
      refine ms_run (pc' := 25) (lv' := [(4, .ref (c + 5 + k)), (0, .ref c), (1, .int o), (2, .int (sm (vStep o wk) k)), (3, .int (nI k))]) (st' := [.int o]) _ (ms_deC dX0_countSteps_24 ms_deN) rfl rfl ?_
      refine ms_if_eq (tgt := 36) dX0_countSteps_25 (by decide) (fun h_25 => ?_) (fun h_25 => ?_)
      · skip
        refine ms_run (pc' := 39) (lv' := [(4, .ref (c + 5 + k)), (0, .ref c), (1, .int o), (2, .int (sm (vStep o wk) k)), (3, .int (nI k))]) (st' := [.ref (c + 5 + k), .int (sm (vStep o wk) k)]) _ (ms_deC dX0_countSteps_36 (ms_deC dX0_countSteps_37 ms_deN)) rfl rfl ?_
        refine ms_getf dX0_countSteps_39 fg_X0_106 hw rfl ?_
        refine ms_run (pc' := 47) (lv' := [(3, .int ((nI k) + 1)), (2, .int ((sm (vStep o wk) k) + (wk k 6))), (4, .ref (c + 5 + k)), (0, .ref c), (1, .int o)]) (st' := []) _ (ms_deC dX0_countSteps_42 (ms_deC dX0_countSteps_43 (ms_deC dX0_countSteps_44 ms_deN))) rfl rfl ?_
        refine ms_goto (tgt := 4) dX0_countSteps_47 (by decide) ?_
        rw [show sm (vStep o wk) k + wk k 6 = sm (vStep o wk) (k + 1) from by show _ = sm (vStep o wk) k + vStep o wk k; unfold vStep; rw [if_pos (by first | exact Or.inl h_25 | exact Or.inr ho)]]
        rw [nI_1 k]
        refine ms_W.sub (lv2 := [(0, _), (1, _), (2, _), (3, _)]) ?_ [3, 4, 1, 0] rfl
        exact ih (k + 1) (by omega)
      · skip
        refine ms_run (pc' := 30) (lv' := [(4, .ref (c + 5 + k)), (0, .ref c), (1, .int o), (2, .int (sm (vStep o wk) k)), (3, .int (nI k))]) (st' := [.ref (c + 5 + k)]) _ (ms_deC dX0_countSteps_28 ms_deN) rfl rfl ?_
        refine ms_callVp (As := []) dX0_countSteps_30 (c_X4_isOut hw) cv_X0_91 hw rfl ⟨Nat.le_of_ble_eq_true rfl, Nat.le_of_ble_eq_true rfl⟩ rfl (Nat.le_of_ble_eq_true rfl) ?_
        by_cases ho : wk k 3 = -1
        · rw [show ms_b (wk k 3 = -1) = 1 from if_pos ho]
          refine ms_if_eq (tgt := 44) dX0_countSteps_33 (by decide) (fun h9 => absurd h9 (by decide)) (fun _ => ?_)
          refine ms_run (pc' := 39) (lv' := [(4, .ref (c + 5 + k)), (0, .ref c), (1, .int o), (2, .int (sm (vStep o wk) k)), (3, .int (nI k))]) (st' := [.ref (c + 5 + k), .int (sm (vStep o wk) k)]) _ (ms_deC dX0_countSteps_36 (ms_deC dX0_countSteps_37 ms_deN)) rfl rfl ?_
          refine ms_getf dX0_countSteps_39 fg_X0_106 hw rfl ?_
          refine ms_run (pc' := 47) (lv' := [(3, .int ((nI k) + 1)), (2, .int ((sm (vStep o wk) k) + (wk k 6))), (4, .ref (c + 5 + k)), (0, .ref c), (1, .int o)]) (st' := []) _ (ms_deC dX0_countSteps_42 (ms_deC dX0_countSteps_43 (ms_deC dX0_countSteps_44 ms_deN))) rfl rfl ?_
          refine ms_goto (tgt := 4) dX0_countSteps_47 (by decide) ?_
          rw [show sm (vStep o wk) k + wk k 6 = sm (vStep o wk) (k + 1) from by show _ = sm (vStep o wk) k + vStep o wk k; unfold vStep; rw [if_pos (by first | exact Or.inl h_25 | exact Or.inr ho)]]
          rw [nI_1 k]
          refine ms_W.sub (lv2 := [(0, _), (1, _), (2, _), (3, _)]) ?_ [3, 4, 1, 0] rfl
          exact ih (k + 1) (by omega)
        · rw [show ms_b (wk k 3 = -1) = 0 from if_neg ho]
          refine ms_if_eq (tgt := 44) dX0_countSteps_33 (by decide) (fun _ => ?_) (fun h9 => absurd h9 (by decide))
          refine ms_run (pc' := 47) (lv' := [(3, .int ((nI k) + 1)), (4, .ref (c + 5 + k)), (0, .ref c), (1, .int o), (2, .int (sm (vStep o wk) k))]) (st' := []) _ (ms_deC dX0_countSteps_44 ms_deN) rfl rfl ?_
          refine ms_goto (tgt := 4) dX0_countSteps_47 (by decide) ?_
          rw [show sm (vStep o wk) k = sm (vStep o wk) (k + 1) from by show _ = sm (vStep o wk) k + vStep o wk k; unfold vStep; rw [if_neg (by rintro (h8 | h8); exact h_25 h8; exact ho h8)]; simp]
          rw [nI_1 k]
          refine ms_W.sub (lv2 := [(0, _), (1, _), (2, _), (3, _)]) ?_ [2, 3, 4, 0] rfl
          exact ih (k + 1) (by omega)
set_option maxHeartbeats 2000000 in
set_option maxRecDepth 20000 in
theorem c_X0_countSteps {n g q c : Nat} {G : ms_H} {hd on ht cm : Nat → Int32} {wk : Nat → Nat → Int32} (hC : cr_at G g q c hd on ht cm wk){cnt : Nat} (hx : hd 0 = nI cnt) (hc : cnt ≤ 24) (o : Int32) : ms_M m_X0_countSteps [.ref c, .int o] n G 0 0 (ms_p1 (some (.int (sm (vStep o wk) cnt))) n G) := by
  refine ms_M.of (by decide) (Nat.le_of_ble_eq_true rfl) ?_
  show ms_W false m_X0_countSteps _ 0 [(0, .ref c), (1, .int o)] [] n G 0 0
  refine ms_run (pc' := 4) (lv' := [(3, .int 0), (2, .int 0), (0, .ref c), (1, .int o)]) (st' := []) _ (ms_deC dX0_countSteps_0 (ms_deC dX0_countSteps_1 (ms_deC dX0_countSteps_2 (ms_deC dX0_countSteps_3 ms_deN)))) rfl rfl ?_
  refine ms_W.sub (lv2 := [(0, _), (1, _), (2, _), (3, _)]) ?_ [2, 3, 1, 0] rfl
  exact l_X0_countSteps hC hx hc o cnt 0 (by omega)

/-! Square, Crowd, Grid: clear, copyFrom, shape -/
/-- the first k places of a row are v -/
def fl_ (f : Nat → Int32) (v : Int32) (k : Nat) : Nat → Int32 := fun j => if j < k then v else f j
theorem fl_s {f : Nat → Int32} {v : Int32} {k : Nat} : upd (fl_ f v k) k v = fl_ f v (k + 1) := by
  funext j
  unfold upd fl_
  by_cases e : j = k
  · subst e
    rw [if_pos rfl, if_pos (Nat.lt_succ_self _)]
  · rw [if_neg e]
    by_cases h : j < k
    · rw [if_pos h, if_pos (show j < k + 1 by omega)]
    · rw [if_neg h, if_neg (show ¬ j < k + 1 by omega)]
theorem fl_0 {f : Nat → Int32} {v : Int32} : fl_ f v 0 = f := by
  funext j
  exact if_neg (Nat.not_lt_zero j)
theorem fl_n {f : Nat → Int32} {v : Int32} {n : Nat} : ∀ j, j < n → fl_ f v n j = v := fun j h => if_pos h
def cr_P (g q c n : Nat) (G : ms_H) (hd on ht : Nat → Int32) (wk : Nat → Nat → Int32) : ms_P := fun r n1 G1 => r = .inl none ∧ n1 = n ∧ (∃ cm, cr_at G1 g q c hd on ht cm wk) ∧ ms_fr c 29 G G1
theorem nI_ty (k : Nat) : (nI k).toNatClampNeg = k ∨ 2 ^ 31 ≤ k := by
  rcases Nat.lt_or_ge k (2 ^ 31) with h | h
  · exact Or.inl (nI_clamp h)
  · exact Or.inr h
set_option maxHeartbeats 4000000 in
set_option maxRecDepth 20000 in
theorem c_X3_copyFrom {n g q : Nat} {G : ms_H} {wl mk ds qu : Nat → Int32} (hQ : sq_at G g q wl mk ds qu) {q2 : Nat} {wl2 mk2 ds2 qu2 : Nat → Int32} (hQ2 : sq_at G g q2 wl2 mk2 ds2 qu2) (hne : q + 4 < q2 ∨ q2 + 4 < q) : ms_M m_X3_copyFrom [.ref q, .ref q2] n G 0 0 (sq_P g q n G wl2 mk2 ds2) := by
  refine ms_M.of (by decide) (Nat.le_of_ble_eq_true rfl) ?_
  show ms_W false m_X3_copyFrom _ 0 [(0, .ref q), (1, .ref q2)] [] n G 0 0
  have hF : ms_fr q 5 G G := ms_fr.rf
  refine ms_run (pc' := 1) (lv' := [(0, .ref q), (1, .ref q2)]) (st' := [.ref q2]) _ (ms_deC dX3_copyFrom_0 ms_deN) rfl rfl ?_
  refine ms_getf dX3_copyFrom_1 fg_X3_9 hQ2.1 rfl ?_
  refine ms_run (pc' := 6) (lv' := [(0, .ref q), (1, .ref q2)]) (st' := [.ref q, .int 0, .ref (q2 + 1)]) _ (ms_deC dX3_copyFrom_4 (ms_deC dX3_copyFrom_5 ms_deN)) rfl rfl ?_
  refine ms_getf dX3_copyFrom_6 fg_X3_9 hQ.1 rfl ?_
  refine ms_run (pc' := 13) (lv' := [(0, .ref q), (1, .ref q2)]) (st' := [.int 196, .int 0, .ref (q + 1), .int 0, .ref (q2 + 1)]) _ (ms_deC dX3_copyFrom_9 (ms_deC dX3_copyFrom_10 ms_deN)) rfl rfl ?_
  refine ms_copyF (N := 196) dX3_copyFrom_13 ac_X3_28 hQ2.2.1 hQ.2.1 (by decide) ⟨Nat.le_of_ble_eq_true rfl, by decide +kernel⟩ (Nat.le_of_ble_eq_true rfl) ?_
  obtain ⟨G_1, eG_1⟩ : ∃ K9 : ms_H, K9 = ms_up G (q + 1) (.inl (0, 196, .inl wl2)) := ⟨_, rfl⟩
  refine ms_W.heq eG_1 ?_
  have hQ_2 : sq_at G_1 g q wl2 mk ds qu := by rw [eG_1]; exact sq_at.s_wl hQ wl2
  have hQ2_3 : sq_at G_1 g q2 wl2 mk2 ds2 qu2 := by rw [eG_1]; exact sq_at.up hQ2 (by omega)
  have hF_4 : ms_fr q 5 G G_1 := by rw [eG_1]; exact ms_fr.up hF (by omega)
  have hf_5 := (congrFun eG_1 q).trans ((ms_up_n G _ (by omega)).trans hQ.1)
  have hf_6 := (congrFun eG_1 q2).trans ((ms_up_n G _ (by omega)).trans hQ2.1)
  refine ms_run (pc' := 17) (lv' := [(0, .ref q), (1, .ref q2)]) (st' := [.ref q2]) _ (ms_deC dX3_copyFrom_16 ms_deN) rfl rfl ?_
  refine ms_getf dX3_copyFrom_17 fg_X3_15 hQ2_3.1 rfl ?_
  refine ms_run (pc' := 22) (lv' := [(0, .ref q), (1, .ref q2)]) (st' := [.ref q, .int 0, .ref (q2 + 2)]) _ (ms_deC dX3_copyFrom_20 (ms_deC dX3_copyFrom_21 ms_deN)) rfl rfl ?_
  refine ms_getf dX3_copyFrom_22 fg_X3_15 hQ_2.1 rfl ?_
  refine ms_run (pc' := 29) (lv' := [(0, .ref q), (1, .ref q2)]) (st' := [.int 196, .int 0, .ref (q + 2), .int 0, .ref (q2 + 2)]) _ (ms_deC dX3_copyFrom_25 (ms_deC dX3_copyFrom_26 ms_deN)) rfl rfl ?_
  refine ms_copyF (N := 196) dX3_copyFrom_29 ac_X3_28 hQ2_3.2.2.1 hQ_2.2.2.1 (by decide) ⟨Nat.le_of_ble_eq_true rfl, by decide +kernel⟩ (Nat.le_of_ble_eq_true rfl) ?_
  obtain ⟨G_7, eG_7⟩ : ∃ K9 : ms_H, K9 = ms_up G_1 (q + 2) (.inl (0, 196, .inl mk2)) := ⟨_, rfl⟩
  refine ms_W.heq eG_7 ?_
  have hQ_8 : sq_at G_7 g q wl2 mk2 ds qu := by rw [eG_7]; exact sq_at.s_mk hQ_2 mk2
  have hQ2_9 : sq_at G_7 g q2 wl2 mk2 ds2 qu2 := by rw [eG_7]; exact sq_at.up hQ2_3 (by omega)
  have hF_10 : ms_fr q 5 G G_7 := by rw [eG_7]; exact ms_fr.up hF_4 (by omega)
  have hf_11 := (congrFun eG_7 q).trans ((ms_up_n G_1 _ (by omega)).trans hQ_2.1)
  have hf_12 := (congrFun eG_7 q2).trans ((ms_up_n G_1 _ (by omega)).trans hQ2_3.1)
  refine ms_run (pc' := 33) (lv' := [(0, .ref q), (1, .ref q2)]) (st' := [.ref q2]) _ (ms_deC dX3_copyFrom_32 ms_deN) rfl rfl ?_
  refine ms_getf dX3_copyFrom_33 fg_X3_18 hQ2_9.1 rfl ?_
  refine ms_run (pc' := 38) (lv' := [(0, .ref q), (1, .ref q2)]) (st' := [.ref q, .int 0, .ref (q2 + 3)]) _ (ms_deC dX3_copyFrom_36 (ms_deC dX3_copyFrom_37 ms_deN)) rfl rfl ?_
  refine ms_getf dX3_copyFrom_38 fg_X3_18 hQ_8.1 rfl ?_
  refine ms_run (pc' := 45) (lv' := [(0, .ref q), (1, .ref q2)]) (st' := [.int 784, .int 0, .ref (q + 3), .int 0, .ref (q2 + 3)]) _ (ms_deC dX3_copyFrom_41 (ms_deC dX3_copyFrom_42 ms_deN)) rfl rfl ?_
  refine ms_copyF (N := 784) dX3_copyFrom_45 ac_X3_28 hQ2_9.2.2.2.1 hQ_8.2.2.2.1 (by decide) ⟨Nat.le_of_ble_eq_true rfl, by decide +kernel⟩ (Nat.le_of_ble_eq_true rfl) ?_
  obtain ⟨G_13, eG_13⟩ : ∃ K9 : ms_H, K9 = ms_up G_7 (q + 3) (.inl (0, 784, .inl ds2)) := ⟨_, rfl⟩
  refine ms_W.heq eG_13 ?_
  have hQ_14 : sq_at G_13 g q wl2 mk2 ds2 qu := by rw [eG_13]; exact sq_at.s_ds hQ_8 ds2
  have hQ2_15 : sq_at G_13 g q2 wl2 mk2 ds2 qu2 := by rw [eG_13]; exact sq_at.up hQ2_9 (by omega)
  have hF_16 : ms_fr q 5 G G_13 := by rw [eG_13]; exact ms_fr.up hF_10 (by omega)
  have hf_17 := (congrFun eG_13 q).trans ((ms_up_n G_7 _ (by omega)).trans hQ_8.1)
  have hf_18 := (congrFun eG_13 q2).trans ((ms_up_n G_7 _ (by omega)).trans hQ2_9.1)
  refine ms_retv (st := []) dX3_copyFrom_48 rfl ?_
  exact ⟨rfl, rfl, ⟨_, hQ_14⟩, hF_16⟩
set_option maxHeartbeats 4000000 in
set_option maxRecDepth 20000 in
theorem l2_X3_clear {n g q : Nat} {G : ms_H} {ds qu : Nat → Int32} : ∀ (r k : Nat), k + r = 784 → ∀ (K : ms_H), sq_at K g q (fun _ => 0) (fun _ => 0) (fl_ ds (-1) k) qu → ms_fr q 5 G K → ms_W false m_X3_clear (sq_P g q n G (fun _ => 0) (fun _ => 0) (fun _ => -1)) 31 [(0, .ref q), (1, .int (nI k))] [] n K 0 0 := by
  intro r
  induction r with
  | zero =>
    intro k hk K hQ hF
    have hkN : k = 784 := by omega
    refine ms_run (pc' := 35) (lv' := [(0, .ref q), (1, .int (nI k))]) (st' := [.int 784, .int (nI k)]) _ (ms_deC dX3_clear_31 (ms_deC dX3_clear_32 ms_deN)) rfl rfl ?_
    refine ms_icmp_ge (tgt := 51) dX3_clear_35 (by decide) (fun h_35 => ?_) (fun h_35 => ?_)
    · skip
      refine ms_extI (f' := (fun _ => -1)) hQ.2.2.2.1 (fun j hj => by rw [hkN]; exact fl_n j hj) ?_
      obtain ⟨G_1, eG_1⟩ : ∃ K9 : ms_H, K9 = ms_up K (q + 3) (.inl (0, 784, .inl (fun _ => -1))) := ⟨_, rfl⟩
      refine ms_W.heq eG_1 ?_
      have hQ_2 : sq_at G_1 g q (fun _ => 0) (fun _ => 0) (fun _ => -1) qu := by rw [eG_1]; exact sq_at.s_ds hQ (fun _ => -1)
      have hF_3 : ms_fr q 5 G G_1 := by rw [eG_1]; exact ms_fr.up hF (by omega)
      have hf_4 := (congrFun eG_1 q).trans ((ms_up_n K _ (by omega)).trans hQ.1)
      refine ms_retv (st := []) dX3_clear_51 rfl ?_
      exact ⟨rfl, rfl, ⟨_, hQ_2⟩, hF_3⟩
    · skip
      exact absurd (by show nI 784 ≤ nI k; exact nI_le (b := k) (by omega) (by omega)) h_35
  | succ r ih =>
    intro k hk K hQ hF
    have hlt : k < 784 := by omega
    refine ms_run (pc' := 35) (lv' := [(0, .ref q), (1, .int (nI k))]) (st' := [.int 784, .int (nI k)]) _ (ms_deC dX3_clear_31 (ms_deC dX3_clear_32 ms_deN)) rfl rfl ?_
    refine ms_icmp_ge (tgt := 51) dX3_clear_35 (by decide) (fun h_35 => ?_) (fun h_35 => ?_)
    · skip
      exact absurd h_35 (by show ¬ nI 784 ≤ nI k; exact nI_ge (b := 784) (by omega) (by omega))
    · skip
      refine ms_run (pc' := 39) (lv' := [(0, .ref q), (1, .int (nI k))]) (st' := [.ref q]) _ (ms_deC dX3_clear_38 ms_deN) rfl rfl ?_
      refine ms_getf dX3_clear_39 fg_X3_18 hQ.1 rfl ?_
      refine ms_run (pc' := 44) (lv' := [(0, .ref q), (1, .int (nI k))]) (st' := [.int (-1), .int (nI k), .ref (q + 3)]) _ (ms_deC dX3_clear_42 (ms_deC dX3_clear_43 ms_deN)) rfl rfl ?_
      refine ms_iastore dX3_clear_44 hQ.2.2.2.1 (vp_in_nI (by omega) (by omega)) ?_
      rw [nI_clamp (by omega), fl_s]
      obtain ⟨G_1, eG_1⟩ : ∃ K9 : ms_H, K9 = ms_up K (q + 3) (.inl (0, 784, .inl (fl_ ds (-1) (k + 1)))) := ⟨_, rfl⟩
      refine ms_W.heq eG_1 ?_
      have hQ_2 : sq_at G_1 g q (fun _ => 0) (fun _ => 0) (fl_ ds (-1) (k + 1)) qu := by rw [eG_1]; exact sq_at.s_ds hQ (fl_ ds (-1) (k + 1))
      have hF_3 : ms_fr q 5 G G_1 := by rw [eG_1]; exact ms_fr.up hF (by omega)
      have hf_4 := (congrFun eG_1 q).trans ((ms_up_n K _ (by omega)).trans hQ.1)
      refine ms_run (pc' := 48) (lv' := [(1, .int ((nI k) + 1)), (0, .ref q)]) (st' := []) _ (ms_deC dX3_clear_45 ms_deN) rfl rfl ?_
      refine ms_goto (tgt := 31) dX3_clear_48 (by decide) ?_
      rw [nI_1 k]
      refine ms_W.sub (lv2 := [(0, _), (1, _)]) ?_ [1, 0] rfl
      exact ih (k + 1) (by omega) G_1 hQ_2 hF_3
set_option maxHeartbeats 4000000 in
set_option maxRecDepth 20000 in
theorem l1_X3_clear {n g q : Nat} {G : ms_H} {wl mk ds qu : Nat → Int32} : ∀ (r k : Nat), k + r = 196 → ∀ (K : ms_H), sq_at K g q (fl_ wl 0 k) (fl_ mk 0 k) ds qu → ms_fr q 5 G K → ms_W false m_X3_clear (sq_P g q n G (fun _ => 0) (fun _ => 0) (fun _ => -1)) 2 [(0, .ref q), (1, .int (nI k))] [] n K 0 0 := by
  intro r
  induction r with
  | zero =>
    intro k hk K hQ hF
    have hkN : k = 196 := by omega
    refine ms_run (pc' := 6) (lv' := [(0, .ref q), (1, .int (nI k))]) (st' := [.int 196, .int (nI k)]) _ (ms_deC dX3_clear_2 (ms_deC dX3_clear_3 ms_deN)) rfl rfl ?_
    refine ms_icmp_ge (tgt := 29) dX3_clear_6 (by decide) (fun h_6 => ?_) (fun h_6 => ?_)
    · skip
      refine ms_run (pc' := 31) (lv' := [(1, .int 0), (0, .ref q)]) (st' := []) _ (ms_deC dX3_clear_29 (ms_deC dX3_clear_30 ms_deN)) rfl rfl ?_
      refine ms_extI (f' := (fun _ => 0)) hQ.2.1 (fun j hj => by rw [hkN]; exact fl_n j hj) ?_
      obtain ⟨G_1, eG_1⟩ : ∃ K9 : ms_H, K9 = ms_up K (q + 1) (.inl (0, 196, .inl (fun _ => 0))) := ⟨_, rfl⟩
      refine ms_W.heq eG_1 ?_
      have hQ_2 : sq_at G_1 g q (fun _ => 0) (fl_ mk 0 k) ds qu := by rw [eG_1]; exact sq_at.s_wl hQ (fun _ => 0)
      have hF_3 : ms_fr q 5 G G_1 := by rw [eG_1]; exact ms_fr.up hF (by omega)
      have hf_4 := (congrFun eG_1 q).trans ((ms_up_n K _ (by omega)).trans hQ.1)
      refine ms_extI (f' := (fun _ => 0)) hQ_2.2.2.1 (fun j hj => by rw [hkN]; exact fl_n j hj) ?_
      obtain ⟨G_5, eG_5⟩ : ∃ K9 : ms_H, K9 = ms_up G_1 (q + 2) (.inl (0, 196, .inl (fun _ => 0))) := ⟨_, rfl⟩
      refine ms_W.heq eG_5 ?_
      have hQ_6 : sq_at G_5 g q (fun _ => 0) (fun _ => 0) ds qu := by rw [eG_5]; exact sq_at.s_mk hQ_2 (fun _ => 0)
      have hF_7 : ms_fr q 5 G G_5 := by rw [eG_5]; exact ms_fr.up hF_3 (by omega)
      have hf_8 := (congrFun eG_5 q).trans ((ms_up_n G_1 _ (by omega)).trans hQ_2.1)
      refine ms_W.sub (lv2 := [(0, _), (1, _)]) ?_ [1, 0] rfl
      exact l2_X3_clear 784 0 (by omega) _ (by rw [fl_0]; exact hQ_6) hF_7
    · skip
      exact absurd (by show nI 196 ≤ nI k; exact nI_le (b := k) (by omega) (by omega)) h_6
  | succ r ih =>
    intro k hk K hQ hF
    have hlt : k < 196 := by omega
    refine ms_run (pc' := 6) (lv' := [(0, .ref q), (1, .int (nI k))]) (st' := [.int 196, .int (nI k)]) _ (ms_deC dX3_clear_2 (ms_deC dX3_clear_3 ms_deN)) rfl rfl ?_
    refine ms_icmp_ge (tgt := 29) dX3_clear_6 (by decide) (fun h_6 => ?_) (fun h_6 => ?_)
    · skip
      exact absurd h_6 (by show ¬ nI 196 ≤ nI k; exact nI_ge (b := 196) (by omega) (by omega))
    · skip
      refine ms_run (pc' := 10) (lv' := [(0, .ref q), (1, .int (nI k))]) (st' := [.ref q]) _ (ms_deC dX3_clear_9 ms_deN) rfl rfl ?_
      refine ms_getf dX3_clear_10 fg_X3_9 hQ.1 rfl ?_
      refine ms_run (pc' := 15) (lv' := [(0, .ref q), (1, .int (nI k))]) (st' := [.int 0, .int (nI k), .ref (q + 1)]) _ (ms_deC dX3_clear_13 (ms_deC dX3_clear_14 ms_deN)) rfl rfl ?_
      refine ms_iastore dX3_clear_15 hQ.2.1 (vp_in_nI (by omega) (by omega)) ?_
      rw [nI_clamp (by omega), fl_s]
      obtain ⟨G_1, eG_1⟩ : ∃ K9 : ms_H, K9 = ms_up K (q + 1) (.inl (0, 196, .inl (fl_ wl 0 (k + 1)))) := ⟨_, rfl⟩
      refine ms_W.heq eG_1 ?_
      have hQ_2 : sq_at G_1 g q (fl_ wl 0 (k + 1)) (fl_ mk 0 k) ds qu := by rw [eG_1]; exact sq_at.s_wl hQ (fl_ wl 0 (k + 1))
      have hF_3 : ms_fr q 5 G G_1 := by rw [eG_1]; exact ms_fr.up hF (by omega)
      have hf_4 := (congrFun eG_1 q).trans ((ms_up_n K _ (by omega)).trans hQ.1)
      refine ms_run (pc' := 17) (lv' := [(0, .ref q), (1, .int (nI k))]) (st' := [.ref q]) _ (ms_deC dX3_clear_16 ms_deN) rfl rfl ?_
      refine ms_getf dX3_clear_17 fg_X3_15 hQ_2.1 rfl ?_
      refine ms_run (pc' := 22) (lv' := [(0, .ref q), (1, .int (nI k))]) (st' := [.int 0, .int (nI k), .ref (q + 2)]) _ (ms_deC dX3_clear_20 (ms_deC dX3_clear_21 ms_deN)) rfl rfl ?_
      refine ms_iastore dX3_clear_22 hQ_2.2.2.1 (vp_in_nI (by omega) (by omega)) ?_
      rw [nI_clamp (by omega), fl_s]
      obtain ⟨G_5, eG_5⟩ : ∃ K9 : ms_H, K9 = ms_up G_1 (q + 2) (.inl (0, 196, .inl (fl_ mk 0 (k + 1)))) := ⟨_, rfl⟩
      refine ms_W.heq eG_5 ?_
      have hQ_6 : sq_at G_5 g q (fl_ wl 0 (k + 1)) (fl_ mk 0 (k + 1)) ds qu := by rw [eG_5]; exact sq_at.s_mk hQ_2 (fl_ mk 0 (k + 1))
      have hF_7 : ms_fr q 5 G G_5 := by rw [eG_5]; exact ms_fr.up hF_3 (by omega)
      have hf_8 := (congrFun eG_5 q).trans ((ms_up_n G_1 _ (by omega)).trans hQ_2.1)
      refine ms_run (pc' := 26) (lv' := [(1, .int ((nI k) + 1)), (0, .ref q)]) (st' := []) _ (ms_deC dX3_clear_23 ms_deN) rfl rfl ?_
      refine ms_goto (tgt := 2) dX3_clear_26 (by decide) ?_
      rw [nI_1 k]
      refine ms_W.sub (lv2 := [(0, _), (1, _)]) ?_ [1, 0] rfl
      exact ih (k + 1) (by omega) G_5 hQ_6 hF_7
set_option maxHeartbeats 4000000 in
set_option maxRecDepth 20000 in
theorem c_X3_clear {n g q : Nat} {G : ms_H} {wl mk ds qu : Nat → Int32} (hQ : sq_at G g q wl mk ds qu) : ms_M m_X3_clear [.ref q] n G 0 0 (sq_P g q n G (fun _ => 0) (fun _ => 0) (fun _ => -1)) := by
  refine ms_M.of (by decide) (Nat.le_of_ble_eq_true rfl) ?_
  show ms_W false m_X3_clear _ 0 [(0, .ref q)] [] n G 0 0
  refine ms_run (pc' := 2) (lv' := [(1, .int 0), (0, .ref q)]) (st' := []) _ (ms_deC dX3_clear_0 (ms_deC dX3_clear_1 ms_deN)) rfl rfl ?_
  refine ms_W.sub (lv2 := [(0, _), (1, _)]) ?_ [1, 0] rfl
  exact l1_X3_clear (wl := wl) (mk := mk) 196 0 rfl G (by rw [fl_0, fl_0]; exact hQ) ms_fr.rf
set_option maxHeartbeats 4000000 in
set_option maxRecDepth 20000 in
theorem l_X0_clear {n g q c : Nat} {G : ms_H} {hd on ht cm : Nat → Int32} {wk : Nat → Nat → Int32} : ∀ (r k : Nat), k + r = 196 → ∀ (K : ms_H), cr_at K g q c hd (fl_ on (-1) k) (fl_ ht 0 k) cm wk → ms_fr c 29 G K → ms_W false m_X0_clear (cr_P g q c n G hd (fun _ => -1) (fun _ => 0) wk) 12 [(0, .ref c), (1, .int (nI k))] [] n K 0 0 := by
  intro r
  induction r with
  | zero =>
    intro k hk K hC hF
    have hkN : k = 196 := by omega
    refine ms_run (pc' := 16) (lv' := [(0, .ref c), (1, .int (nI k))]) (st' := [.int 196, .int (nI k)]) _ (ms_deC dX0_clear_12 (ms_deC dX0_clear_13 ms_deN)) rfl rfl ?_
    refine ms_icmp_ge (tgt := 39) dX0_clear_16 (by decide) (fun h_16 => ?_) (fun h_16 => ?_)
    · skip
      refine ms_extI (f' := (fun _ => -1)) hC.2.2.1 (fun j hj => by rw [hkN]; exact fl_n j hj) ?_
      obtain ⟨G_1, eG_1⟩ : ∃ K9 : ms_H, K9 = ms_up K (c + 2) (.inl (0, 196, .inl (fun _ => -1))) := ⟨_, rfl⟩
      refine ms_W.heq eG_1 ?_
      have hC_2 : cr_at G_1 g q c hd (fun _ => -1) (fl_ ht 0 k) cm wk := by rw [eG_1]; exact cr_at.s_on hC (fun _ => -1)
      have hF_3 : ms_fr c 29 G G_1 := by rw [eG_1]; exact ms_fr.up hF (by omega)
      refine ms_extI (f' := (fun _ => 0)) hC_2.2.2.2.1 (fun j hj => by rw [hkN]; exact fl_n j hj) ?_
      obtain ⟨G_4, eG_4⟩ : ∃ K9 : ms_H, K9 = ms_up G_1 (c + 3) (.inl (0, 196, .inl (fun _ => 0))) := ⟨_, rfl⟩
      refine ms_W.heq eG_4 ?_
      have hC_5 : cr_at G_4 g q c hd (fun _ => -1) (fun _ => 0) cm wk := by rw [eG_4]; exact cr_at.s_ht hC_2 (fun _ => 0)
      have hF_6 : ms_fr c 29 G G_4 := by rw [eG_4]; exact ms_fr.up hF_3 (by omega)
      refine ms_retv (st := []) dX0_clear_39 rfl ?_
      exact ⟨rfl, rfl, ⟨_, hC_5⟩, hF_6⟩
    · skip
      exact absurd (by show nI 196 ≤ nI k; exact nI_le (b := k) (by omega) (by omega)) h_16
  | succ r ih =>
    intro k hk K hC hF
    have hlt : k < 196 := by omega
    refine ms_run (pc' := 16) (lv' := [(0, .ref c), (1, .int (nI k))]) (st' := [.int 196, .int (nI k)]) _ (ms_deC dX0_clear_12 (ms_deC dX0_clear_13 ms_deN)) rfl rfl ?_
    refine ms_icmp_ge (tgt := 39) dX0_clear_16 (by decide) (fun h_16 => ?_) (fun h_16 => ?_)
    · skip
      exact absurd h_16 (by show ¬ nI 196 ≤ nI k; exact nI_ge (b := 196) (by omega) (by omega))
    · skip
      refine ms_run (pc' := 20) (lv' := [(0, .ref c), (1, .int (nI k))]) (st' := [.ref c]) _ (ms_deC dX0_clear_19 ms_deN) rfl rfl ?_
      refine ms_getf dX0_clear_20 fg_X0_24 hC.1 rfl ?_
      refine ms_run (pc' := 25) (lv' := [(0, .ref c), (1, .int (nI k))]) (st' := [.int (-1), .int (nI k), .ref (c + 2)]) _ (ms_deC dX0_clear_23 (ms_deC dX0_clear_24 ms_deN)) rfl rfl ?_
      refine ms_iastore dX0_clear_25 hC.2.2.1 (vp_in_nI (by omega) (by omega)) ?_
      rw [nI_clamp (by omega), fl_s]
      obtain ⟨G_1, eG_1⟩ : ∃ K9 : ms_H, K9 = ms_up K (c + 2) (.inl (0, 196, .inl (fl_ on (-1) (k + 1)))) := ⟨_, rfl⟩
      refine ms_W.heq eG_1 ?_
      have hC_2 : cr_at G_1 g q c hd (fl_ on (-1) (k + 1)) (fl_ ht 0 k) cm wk := by rw [eG_1]; exact cr_at.s_on hC (fl_ on (-1) (k + 1))
      have hF_3 : ms_fr c 29 G G_1 := by rw [eG_1]; exact ms_fr.up hF (by omega)
      refine ms_run (pc' := 27) (lv' := [(0, .ref c), (1, .int (nI k))]) (st' := [.ref c]) _ (ms_deC dX0_clear_26 ms_deN) rfl rfl ?_
      refine ms_getf dX0_clear_27 fg_X0_28 hC_2.1 rfl ?_
      refine ms_run (pc' := 32) (lv' := [(0, .ref c), (1, .int (nI k))]) (st' := [.int 0, .int (nI k), .ref (c + 3)]) _ (ms_deC dX0_clear_30 (ms_deC dX0_clear_31 ms_deN)) rfl rfl ?_
      refine ms_iastore dX0_clear_32 hC_2.2.2.2.1 (vp_in_nI (by omega) (by omega)) ?_
      rw [nI_clamp (by omega), fl_s]
      obtain ⟨G_4, eG_4⟩ : ∃ K9 : ms_H, K9 = ms_up G_1 (c + 3) (.inl (0, 196, .inl (fl_ ht 0 (k + 1)))) := ⟨_, rfl⟩
      refine ms_W.heq eG_4 ?_
      have hC_5 : cr_at G_4 g q c hd (fl_ on (-1) (k + 1)) (fl_ ht 0 (k + 1)) cm wk := by rw [eG_4]; exact cr_at.s_ht hC_2 (fl_ ht 0 (k + 1))
      have hF_6 : ms_fr c 29 G G_4 := by rw [eG_4]; exact ms_fr.up hF_3 (by omega)
      refine ms_run (pc' := 36) (lv' := [(1, .int ((nI k) + 1)), (0, .ref c)]) (st' := []) _ (ms_deC dX0_clear_33 ms_deN) rfl rfl ?_
      refine ms_goto (tgt := 12) dX0_clear_36 (by decide) ?_
      rw [nI_1 k]
      refine ms_W.sub (lv2 := [(0, _), (1, _)]) ?_ [1, 0] rfl
      exact ih (k + 1) (by omega) G_4 hC_5 hF_6
set_option maxHeartbeats 4000000 in
set_option maxRecDepth 20000 in
theorem c_X0_clear {n g q c : Nat} {G : ms_H} {hd on ht cm : Nat → Int32} {wk : Nat → Nat → Int32} (hC : cr_at G g q c hd on ht cm wk) : ms_M m_X0_clear [.ref c] n G 0 0 (cr_P g q c n G (h4 0 0 (hd 2) (hd 3)) (fun _ => -1) (fun _ => 0) wk) := by
  refine ms_M.of (by decide) (Nat.le_of_ble_eq_true rfl) ?_
  show ms_W false m_X0_clear _ 0 [(0, .ref c)] [] n G 0 0
  have hF : ms_fr c 29 G G := ms_fr.rf
  refine ms_run (pc' := 2) (lv' := [(0, .ref c)]) (st' := [.int 0, .ref c]) _ (ms_deC dX0_clear_0 (ms_deC dX0_clear_1 ms_deN)) rfl rfl ?_
  refine ms_putf dX0_clear_2 fp_X0_43 hC.1 (Nat.le_of_ble_eq_true rfl) rfl rfl ?_
  obtain ⟨G_1, eG_1⟩ : ∃ K9 : ms_H, K9 = ms_up G c (.inr (0, [.int 0, .int (hd 1), .int (hd 2), .int (hd 3), .ref g, .ref q, .ref (c + 1), .ref (c + 2), .ref (c + 3), .ref (c + 4)])) := ⟨_, rfl⟩
  refine ms_W.heq eG_1 ?_
  have hC_2 : cr_at G_1 g q c (h4 0 (hd 1) (hd 2) (hd 3)) on ht cm wk := by rw [eG_1]; exact cr_at.s_hd hC 0 (hd 1) (hd 2) (hd 3)
  have hF_3 : ms_fr c 29 G G_1 := by rw [eG_1]; exact ms_fr.up hF (by omega)
  refine ms_run (pc' := 7) (lv' := [(0, .ref c)]) (st' := [.int 0, .ref c]) _ (ms_deC dX0_clear_5 (ms_deC dX0_clear_6 ms_deN)) rfl rfl ?_
  refine ms_putf dX0_clear_7 fp_X0_46 hC_2.1 (Nat.le_of_ble_eq_true rfl) rfl rfl ?_
  obtain ⟨G_4, eG_4⟩ : ∃ K9 : ms_H, K9 = ms_up G_1 c (.inr (0, [.int 0, .int 0, .int (hd 2), .int (hd 3), .ref g, .ref q, .ref (c + 1), .ref (c + 2), .ref (c + 3), .ref (c + 4)])) := ⟨_, rfl⟩
  refine ms_W.heq eG_4 ?_
  have hC_5 : cr_at G_4 g q c (h4 0 0 (hd 2) (hd 3)) on ht cm wk := by rw [eG_4]; exact cr_at.s_hd hC_2 0 0 (hd 2) (hd 3)
  have hF_6 : ms_fr c 29 G G_4 := by rw [eG_4]; exact ms_fr.up hF_3 (by omega)
  refine ms_run (pc' := 12) (lv' := [(1, .int 0), (0, .ref c)]) (st' := []) _ (ms_deC dX0_clear_10 (ms_deC dX0_clear_11 ms_deN)) rfl rfl ?_
  refine ms_W.sub (lv2 := [(0, _), (1, _)]) ?_ [1, 0] rfl
  exact l_X0_clear (on := on) (ht := ht) 196 0 rfl _ (by rw [fl_0, fl_0]; exact hC_5) hF_6
set_option maxHeartbeats 2000000 in
set_option maxRecDepth 20000 in
theorem c_X0_copyWalker {n w w2 : Nat} {G : ms_H} {u v : Nat → Int32} (hw : G w = some (.inr (4, cr_w u))) (hw2 : G w2 = some (.inr (4, cr_w v))) (hne : w ≠ w2) : ms_M m_X0_copyWalker [.ref w, .ref w2] n G 0 0 (ms_p1 none n (ms_up G w (.inr (4, cr_w (wk_copy u v))))) := by
  refine ms_M.of (by decide) (Nat.le_of_ble_eq_true rfl) ?_
  show ms_W false m_X0_copyWalker _ 0 [(0, .ref w), (1, .ref w2)] [] n G 0 0
  refine ms_run (pc' := 1) (lv' := [(0, .ref w), (1, .ref w2)]) (st' := [.ref w]) _ (ms_deC dX0_copyWalker_0 ms_deN) rfl rfl ?_
  refine ms_ifnull dX0_copyWalker_1 ?_
  refine ms_run (pc' := 5) (lv' := [(0, .ref w), (1, .ref w2)]) (st' := [.ref w2]) _ (ms_deC dX0_copyWalker_4 ms_deN) rfl rfl ?_
  refine ms_ifnull dX0_copyWalker_5 ?_
  refine ms_run (pc' := 10) (lv' := [(0, .ref w), (1, .ref w2)]) (st' := [.ref w2, .ref w]) _ (ms_deC dX0_copyWalker_8 (ms_deC dX0_copyWalker_9 ms_deN)) rfl rfl ?_
  refine ms_callVp (As := [.ref w2]) dX0_copyWalker_10 (c_X4_copyFrom hw hw2 hne) cv_X0_63 hw rfl ⟨Nat.le_of_ble_eq_true rfl, Nat.le_of_ble_eq_true rfl⟩ rfl (Nat.le_of_ble_eq_true rfl) ?_
  refine ms_retv (st := []) dX0_copyWalker_13 rfl ?_
  exact ms_p1.mk rfl rfl
/-- the first k walkers copied -/
def wcp (wk wk2 : Nat → Nat → Int32) (k : Nat) : Nat → Nat → Int32 := fun i => if i < k then wk_copy (wk i) (wk2 i) else wk i
theorem wcp_s {wk wk2 : Nat → Nat → Int32} {k : Nat} : va_up (wcp wk wk2 k) k (wk_copy (wcp wk wk2 k k) (wk2 k)) = wcp wk wk2 (k + 1) := by
  funext i
  unfold va_up wcp
  by_cases e : i = k
  · subst e
    rw [if_pos rfl, if_neg (Nat.lt_irrefl _), if_pos (Nat.lt_succ_self _)]
  · rw [if_neg e]
    by_cases h : i < k
    · rw [if_pos h, if_pos (show i < k + 1 by omega)]
    · rw [if_neg h, if_neg (show ¬ i < k + 1 by omega)]
theorem wcp_0 {wk wk2 : Nat → Nat → Int32} : wcp wk wk2 0 = wk := by
  funext i
  exact if_neg (Nat.not_lt_zero i)
theorem wcp_get {wk wk2 : Nat → Nat → Int32} {n k j : Nat} (hk : k < n) (hj : j < 8) : wcp wk wk2 n k j = wk2 k j := by
  unfold wcp wk_copy
  rw [if_pos hk, if_pos hj]
set_option maxHeartbeats 4000000 in
set_option maxRecDepth 20000 in
theorem l_X0_copyFrom {n g q c q2 c2 : Nat} {G : ms_H} {hd on ht cm hd2 on2 ht2 cm2 : Nat → Int32} {wk wk2 : Nat → Nat → Int32} (hne : c + 28 < c2 ∨ c2 + 28 < c) {cnt : Nat} (hx : hd2 0 = nI cnt) (hc : cnt ≤ 24) : ∀ (r k : Nat), k + r = cnt → ∀ (K : ms_H), cr_at K g q c hd2 on2 ht2 cm (wcp wk wk2 k) → cr_at K g q2 c2 hd2 on2 ht2 cm2 wk2 → ms_fr c 29 G K → ms_W false m_X0_copyFrom (cr_P g q c n G hd2 on2 ht2 (wcp wk wk2 cnt)) 66 [(0, .ref c), (1, .ref c2), (2, .int (nI k))] [] n K 0 0 := by
  intro r
  induction r with
  | zero =>
    intro k hk K hC hC2 hF
    have hkN : k = cnt := by omega
    refine ms_run (pc' := 68) (lv' := [(0, .ref c), (1, .ref c2), (2, .int (nI k))]) (st' := [.ref c, .int (nI k)]) _ (ms_deC dX0_copyFrom_66 (ms_deC dX0_copyFrom_67 ms_deN)) rfl rfl ?_
    refine ms_getf dX0_copyFrom_68 fg_X0_43 hC.1 rfl ?_
    refine ms_icmp_ge (tgt := 93) dX0_copyFrom_71 (by decide) (fun h_71 => ?_) (fun h_71 => ?_)
    · skip
      refine ms_retv (st := []) dX0_copyFrom_93 rfl ?_
      exact ⟨rfl, rfl, ⟨_, by rw [← hkN]; exact hC⟩, hF⟩
    · skip
      exact absurd (by rw [hx]; exact nI_le (b := k) (by omega) (by omega)) h_71
  | succ r ih =>
    intro k hk K hC hC2 hF
    have hlt : k < cnt := by omega
    refine ms_run (pc' := 68) (lv' := [(0, .ref c), (1, .ref c2), (2, .int (nI k))]) (st' := [.ref c, .int (nI k)]) _ (ms_deC dX0_copyFrom_66 (ms_deC dX0_copyFrom_67 ms_deN)) rfl rfl ?_
    refine ms_getf dX0_copyFrom_68 fg_X0_43 hC.1 rfl ?_
    refine ms_icmp_ge (tgt := 93) dX0_copyFrom_71 (by decide) (fun h_71 => ?_) (fun h_71 => ?_)
    · skip
      exact absurd h_71 (by rw [hx]; exact nI_ge (b := cnt) (by omega) (by omega))
    · skip
      refine ms_run (pc' := 76) (lv' := [(0, .ref c), (1, .ref c2), (2, .int (nI k))]) (st' := [.int (nI k), .ref c]) _ (ms_deC dX0_copyFrom_74 (ms_deC dX0_copyFrom_75 ms_deN)) rfl rfl ?_
      refine ms_callVp (As := [.int (nI k)]) dX0_copyFrom_76 (c_X0_getI hC hx hc hlt) cv_X0_55 hC.1 rfl ⟨Nat.le_of_ble_eq_true rfl, Nat.le_of_ble_eq_true rfl⟩ rfl (Nat.le_of_ble_eq_true rfl) ?_
      refine ms_run (pc' := 81) (lv' := [(0, .ref c), (1, .ref c2), (2, .int (nI k))]) (st' := [.int (nI k), .ref c2, .ref (c + 5 + k)]) _ (ms_deC dX0_copyFrom_79 (ms_deC dX0_copyFrom_80 ms_deN)) rfl rfl ?_
      refine ms_callVp (As := [.int (nI k)]) dX0_copyFrom_81 (c_X0_getI hC2 hx hc hlt) cv_X0_55 hC2.1 rfl ⟨Nat.le_of_ble_eq_true rfl, Nat.le_of_ble_eq_true rfl⟩ rfl (Nat.le_of_ble_eq_true rfl) ?_
      refine ms_callSp (As := [.ref (c + 5 + k), .ref (c2 + 5 + k)]) dX0_copyFrom_84 (c_X0_copyWalker (hC.2.2.2.2.2 k (by omega)) (hC2.2.2.2.2.2 k (by omega)) (by omega)) cs_X0_59 rfl ⟨Nat.le_of_ble_eq_true rfl, Nat.le_of_ble_eq_true rfl⟩ rfl (Nat.le_of_ble_eq_true rfl) ?_
      obtain ⟨G_1, eG_1⟩ : ∃ K9 : ms_H, K9 = ms_up K (c + 5 + k) (.inr (4, cr_w (wk_copy (wcp wk wk2 k k) (wk2 k)))) := ⟨_, rfl⟩
      refine ms_W.heq eG_1 ?_
      have hC_2 : cr_at G_1 g q c hd2 on2 ht2 cm (va_up (wcp wk wk2 k) k (wk_copy (wcp wk wk2 k k) (wk2 k))) := by rw [eG_1]; exact cr_at.s_wk hC (by omega) (wk_copy (wcp wk wk2 k k) (wk2 k))
      have hC2_3 : cr_at G_1 g q2 c2 hd2 on2 ht2 cm2 wk2 := by rw [eG_1]; exact cr_at.up hC2 (by omega)
      have hF_4 : ms_fr c 29 G G_1 := by rw [eG_1]; exact ms_fr.up hF (by omega)
      have hf_5 : G_1 (c + 5 + k) = some (.inr (4, cr_w (wk_copy (wcp wk wk2 k k) (wk2 k)))) := by rw [eG_1]; exact ms_up_s _ _ _
      refine ms_run (pc' := 90) (lv' := [(2, .int ((nI k) + 1)), (0, .ref c), (1, .ref c2)]) (st' := []) _ (ms_deC dX0_copyFrom_87 ms_deN) rfl rfl ?_
      refine ms_goto (tgt := 66) dX0_copyFrom_90 (by decide) ?_
      rw [nI_1 k]
      refine ms_W.sub (lv2 := [(0, _), (1, _), (2, _)]) ?_ [1, 2, 0] rfl
      exact ih (k + 1) (by omega) G_1 (by rw [← wcp_s]; exact hC_2) hC2_3 hF_4
theorem cr_at.hdc {G : ms_H} {g q c : Nat} {hd hd' on ht cm : Nat → Int32} {wk : Nat → Nat → Int32} (hC : cr_at G g q c hd on ht cm wk) (h : ∀ k, k < 4 → hd k = hd' k) : cr_at G g q c hd' on ht cm wk := by
  obtain ⟨h1, h2⟩ := hC
  refine ⟨?_, h2⟩
  rw [← h 0 (by omega), ← h 1 (by omega), ← h 2 (by omega), ← h 3 (by omega)]
  exact h1
set_option maxHeartbeats 4000000 in
set_option maxRecDepth 20000 in
theorem c_X0_copyFrom {n g q c q2 c2 : Nat} {G : ms_H} {hd on ht cm hd2 on2 ht2 cm2 : Nat → Int32} {wk wk2 : Nat → Nat → Int32} (hne : c + 28 < c2 ∨ c2 + 28 < c) {cnt : Nat} (hx : hd2 0 = nI cnt) (hc : cnt ≤ 24) (hC : cr_at G g q c hd on ht cm wk) (hC2 : cr_at G g q2 c2 hd2 on2 ht2 cm2 wk2) : ms_M m_X0_copyFrom [.ref c, .ref c2] n G 0 0 (cr_P g q c n G hd2 on2 ht2 (wcp wk wk2 cnt)) := by
  refine ms_M.of (by decide) (Nat.le_of_ble_eq_true rfl) ?_
  show ms_W false m_X0_copyFrom _ 0 [(0, .ref c), (1, .ref c2)] [] n G 0 0
  have hF : ms_fr c 29 G G := ms_fr.rf
  refine ms_run (pc' := 2) (lv' := [(0, .ref c), (1, .ref c2)]) (st' := [.ref c2, .ref c]) _ (ms_deC dX0_copyFrom_0 (ms_deC dX0_copyFrom_1 ms_deN)) rfl rfl ?_
  refine ms_getf dX0_copyFrom_2 fg_X0_43 hC2.1 rfl ?_
  refine ms_putf dX0_copyFrom_5 fp_X0_43 hC.1 (Nat.le_of_ble_eq_true rfl) rfl rfl ?_
  obtain ⟨G_1, eG_1⟩ : ∃ K9 : ms_H, K9 = ms_up G c (.inr (0, [.int (hd2 0), .int (hd 1), .int (hd 2), .int (hd 3), .ref g, .ref q, .ref (c + 1), .ref (c + 2), .ref (c + 3), .ref (c + 4)])) := ⟨_, rfl⟩
  refine ms_W.heq eG_1 ?_
  have hC_2 : cr_at G_1 g q c (h4 (hd2 0) (hd 1) (hd 2) (hd 3)) on ht cm wk := by rw [eG_1]; exact cr_at.s_hd hC (hd2 0) (hd 1) (hd 2) (hd 3)
  have hC2_3 : cr_at G_1 g q2 c2 hd2 on2 ht2 cm2 wk2 := by rw [eG_1]; exact cr_at.up hC2 (by omega)
  have hF_4 : ms_fr c 29 G G_1 := by rw [eG_1]; exact ms_fr.up hF (by omega)
  refine ms_run (pc' := 10) (lv' := [(0, .ref c), (1, .ref c2)]) (st' := [.ref c2, .ref c]) _ (ms_deC dX0_copyFrom_8 (ms_deC dX0_copyFrom_9 ms_deN)) rfl rfl ?_
  refine ms_getf dX0_copyFrom_10 fg_X0_46 hC2_3.1 rfl ?_
  refine ms_putf dX0_copyFrom_13 fp_X0_46 hC_2.1 (Nat.le_of_ble_eq_true rfl) rfl rfl ?_
  obtain ⟨G_5, eG_5⟩ : ∃ K9 : ms_H, K9 = ms_up G_1 c (.inr (0, [.int (hd2 0), .int (hd2 1), .int (hd 2), .int (hd 3), .ref g, .ref q, .ref (c + 1), .ref (c + 2), .ref (c + 3), .ref (c + 4)])) := ⟨_, rfl⟩
  refine ms_W.heq eG_5 ?_
  have hC_6 : cr_at G_5 g q c (h4 (hd2 0) (hd2 1) (hd 2) (hd 3)) on ht cm wk := by rw [eG_5]; exact cr_at.s_hd hC_2 (hd2 0) (hd2 1) (hd 2) (hd 3)
  have hC2_7 : cr_at G_5 g q2 c2 hd2 on2 ht2 cm2 wk2 := by rw [eG_5]; exact cr_at.up hC2_3 (by omega)
  have hF_8 : ms_fr c 29 G G_5 := by rw [eG_5]; exact ms_fr.up hF_4 (by omega)
  refine ms_run (pc' := 18) (lv' := [(0, .ref c), (1, .ref c2)]) (st' := [.ref c2, .ref c]) _ (ms_deC dX0_copyFrom_16 (ms_deC dX0_copyFrom_17 ms_deN)) rfl rfl ?_
  refine ms_getf dX0_copyFrom_18 fg_X0_9 hC2_7.1 rfl ?_
  refine ms_putf dX0_copyFrom_21 fp_X0_9 hC_6.1 (Nat.le_of_ble_eq_true rfl) rfl rfl ?_
  obtain ⟨G_9, eG_9⟩ : ∃ K9 : ms_H, K9 = ms_up G_5 c (.inr (0, [.int (hd2 0), .int (hd2 1), .int (hd2 2), .int (hd 3), .ref g, .ref q, .ref (c + 1), .ref (c + 2), .ref (c + 3), .ref (c + 4)])) := ⟨_, rfl⟩
  refine ms_W.heq eG_9 ?_
  have hC_10 : cr_at G_9 g q c (h4 (hd2 0) (hd2 1) (hd2 2) (hd 3)) on ht cm wk := by rw [eG_9]; exact cr_at.s_hd hC_6 (hd2 0) (hd2 1) (hd2 2) (hd 3)
  have hC2_11 : cr_at G_9 g q2 c2 hd2 on2 ht2 cm2 wk2 := by rw [eG_9]; exact cr_at.up hC2_7 (by omega)
  have hF_12 : ms_fr c 29 G G_9 := by rw [eG_9]; exact ms_fr.up hF_8 (by omega)
  refine ms_run (pc' := 26) (lv' := [(0, .ref c), (1, .ref c2)]) (st' := [.ref c2, .ref c]) _ (ms_deC dX0_copyFrom_24 (ms_deC dX0_copyFrom_25 ms_deN)) rfl rfl ?_
  refine ms_getf dX0_copyFrom_26 fg_X0_15 hC2_11.1 rfl ?_
  refine ms_putf dX0_copyFrom_29 fp_X0_15 hC_10.1 (Nat.le_of_ble_eq_true rfl) rfl rfl ?_
  obtain ⟨G_13, eG_13⟩ : ∃ K9 : ms_H, K9 = ms_up G_9 c (.inr (0, [.int (hd2 0), .int (hd2 1), .int (hd2 2), .int (hd2 3), .ref g, .ref q, .ref (c + 1), .ref (c + 2), .ref (c + 3), .ref (c + 4)])) := ⟨_, rfl⟩
  refine ms_W.heq eG_13 ?_
  have hC_14 : cr_at G_13 g q c (h4 (hd2 0) (hd2 1) (hd2 2) (hd2 3)) on ht cm wk := by rw [eG_13]; exact cr_at.s_hd hC_10 (hd2 0) (hd2 1) (hd2 2) (hd2 3)
  have hC2_15 : cr_at G_13 g q2 c2 hd2 on2 ht2 cm2 wk2 := by rw [eG_13]; exact cr_at.up hC2_11 (by omega)
  have hF_16 : ms_fr c 29 G G_13 := by rw [eG_13]; exact ms_fr.up hF_12 (by omega)
  refine ms_run (pc' := 33) (lv' := [(0, .ref c), (1, .ref c2)]) (st' := [.ref c2]) _ (ms_deC dX0_copyFrom_32 ms_deN) rfl rfl ?_
  refine ms_getf dX0_copyFrom_33 fg_X0_24 hC2_15.1 rfl ?_
  refine ms_run (pc' := 38) (lv' := [(0, .ref c), (1, .ref c2)]) (st' := [.ref c, .int 0, .ref (c2 + 2)]) _ (ms_deC dX0_copyFrom_36 (ms_deC dX0_copyFrom_37 ms_deN)) rfl rfl ?_
  refine ms_getf dX0_copyFrom_38 fg_X0_24 hC_14.1 rfl ?_
  refine ms_run (pc' := 45) (lv' := [(0, .ref c), (1, .ref c2)]) (st' := [.int 196, .int 0, .ref (c + 2), .int 0, .ref (c2 + 2)]) _ (ms_deC dX0_copyFrom_41 (ms_deC dX0_copyFrom_42 ms_deN)) rfl rfl ?_
  refine ms_copyF (N := 196) dX0_copyFrom_45 ac_X0_49 hC2_15.2.2.1 hC_14.2.2.1 (by decide) ⟨Nat.le_of_ble_eq_true rfl, by decide +kernel⟩ (Nat.le_of_ble_eq_true rfl) ?_
  obtain ⟨G_17, eG_17⟩ : ∃ K9 : ms_H, K9 = ms_up G_13 (c + 2) (.inl (0, 196, .inl on2)) := ⟨_, rfl⟩
  refine ms_W.heq eG_17 ?_
  have hC_18 : cr_at G_17 g q c (h4 (hd2 0) (hd2 1) (hd2 2) (hd2 3)) on2 ht cm wk := by rw [eG_17]; exact cr_at.s_on hC_14 on2
  have hC2_19 : cr_at G_17 g q2 c2 hd2 on2 ht2 cm2 wk2 := by rw [eG_17]; exact cr_at.up hC2_15 (by omega)
  have hF_20 : ms_fr c 29 G G_17 := by rw [eG_17]; exact ms_fr.up hF_16 (by omega)
  refine ms_run (pc' := 49) (lv' := [(0, .ref c), (1, .ref c2)]) (st' := [.ref c2]) _ (ms_deC dX0_copyFrom_48 ms_deN) rfl rfl ?_
  refine ms_getf dX0_copyFrom_49 fg_X0_28 hC2_19.1 rfl ?_
  refine ms_run (pc' := 54) (lv' := [(0, .ref c), (1, .ref c2)]) (st' := [.ref c, .int 0, .ref (c2 + 3)]) _ (ms_deC dX0_copyFrom_52 (ms_deC dX0_copyFrom_53 ms_deN)) rfl rfl ?_
  refine ms_getf dX0_copyFrom_54 fg_X0_28 hC_18.1 rfl ?_
  refine ms_run (pc' := 61) (lv' := [(0, .ref c), (1, .ref c2)]) (st' := [.int 196, .int 0, .ref (c + 3), .int 0, .ref (c2 + 3)]) _ (ms_deC dX0_copyFrom_57 (ms_deC dX0_copyFrom_58 ms_deN)) rfl rfl ?_
  refine ms_copyF (N := 196) dX0_copyFrom_61 ac_X0_49 hC2_19.2.2.2.1 hC_18.2.2.2.1 (by decide) ⟨Nat.le_of_ble_eq_true rfl, by decide +kernel⟩ (Nat.le_of_ble_eq_true rfl) ?_
  obtain ⟨G_21, eG_21⟩ : ∃ K9 : ms_H, K9 = ms_up G_17 (c + 3) (.inl (0, 196, .inl ht2)) := ⟨_, rfl⟩
  refine ms_W.heq eG_21 ?_
  have hC_22 : cr_at G_21 g q c (h4 (hd2 0) (hd2 1) (hd2 2) (hd2 3)) on2 ht2 cm wk := by rw [eG_21]; exact cr_at.s_ht hC_18 ht2
  have hC2_23 : cr_at G_21 g q2 c2 hd2 on2 ht2 cm2 wk2 := by rw [eG_21]; exact cr_at.up hC2_19 (by omega)
  have hF_24 : ms_fr c 29 G G_21 := by rw [eG_21]; exact ms_fr.up hF_20 (by omega)
  refine ms_run (pc' := 66) (lv' := [(2, .int 0), (0, .ref c), (1, .ref c2)]) (st' := []) _ (ms_deC dX0_copyFrom_64 (ms_deC dX0_copyFrom_65 ms_deN)) rfl rfl ?_
  refine ms_W.sub (lv2 := [(0, _), (1, _), (2, _)]) ?_ [1, 2, 0] rfl
  exact l_X0_copyFrom (hd := hd) (on := on) (ht := ht) (hd2 := hd2) hne hx hc cnt 0 (by omega) _ (by rw [wcp_0]; exact cr_at.hdc hC_22 (h4_id hd2)) hC2_23 hF_24
theorem gr_numI {W H x y : Nat} (hW : W ≤ 14) (hH : H ≤ 14) (hx : x < W) (hy : y < H) : gr_num (nI W) (nI H) (nI x) (nI y) = nI (y * W + x) := by
  unfold gr_num
  rw [if_pos ⟨nI_pos' (by omega), nI_lt hx (by omega), nI_pos' (by omega), nI_lt hy (by omega)⟩, pk_mul, nI_add]
def lk_v (W H x y k : Nat) : Int32 := gr_num (nI W) (nI H) (nI x + ms_sx k) (nI y + ms_sy k)
def lk_P (g n W H x y : Nat) (G : ms_H) (nr : Nat → Int32) : ms_P := fun r n1 G1 => r = .inl none ∧ n1 = n ∧ (∃ nr', gr_at G1 g (nI (W * H)) (nI W) (nI H) nr' ∧ (∀ k, k < 8 → nr' ((y * W + x) * 8 + k) = lk_v W H x y k) ∧ ∀ j, (j < (y * W + x) * 8 ∨ (y * W + x) * 8 + 8 ≤ j) → nr' j = nr j) ∧ ms_fr g 2 G G1
/-- the first k neighbours of field f written -/
def lk_r (nr v : Nat → Int32) (f k : Nat) : Nat → Int32 := fun j => if f * 8 ≤ j ∧ j < f * 8 + k then v (j - f * 8) else nr j
theorem lk_s {nr v : Nat → Int32} {f k : Nat} : upd (lk_r nr v f k) (f * 8 + k) (v k) = lk_r nr v f (k + 1) := by
  funext j
  unfold upd lk_r
  by_cases e : j = f * 8 + k
  · subst e
    rw [if_pos rfl, if_pos ⟨by omega, by omega⟩]
    congr 1
    omega
  · rw [if_neg e]
    by_cases h : f * 8 ≤ j ∧ j < f * 8 + k
    · rw [if_pos h, if_pos ⟨h.1, by omega⟩]
    · rw [if_neg h, if_neg (by omega)]
theorem lk_0 {nr v : Nat → Int32} {f : Nat} : lk_r nr v f 0 = nr := by
  funext j
  unfold lk_r
  rw [if_neg (by omega)]
theorem fd_lt {W H x y : Nat} (hx : x < W) (hy : y < H) : y * W + x < W * H := by
  have h1 : y * W + W ≤ H * W := by
    have := Nat.mul_le_mul_right W (show y + 1 ≤ H by omega)
    rw [Nat.add_mul] at this
    omega
  rw [Nat.mul_comm W H]
  omega
theorem fd_196 {W H : Nat} (hW : W ≤ 14) (hH : H ≤ 14) : W * H ≤ 196 := Nat.le_trans (Nat.mul_le_mul hW hH) (by decide)
set_option maxHeartbeats 4000000 in
set_option maxRecDepth 20000 in
theorem l_X1_link {n g W H x y : Nat} {G : ms_H} {nr : Nat → Int32} (hW : W ≤ 14) (hH : H ≤ 14) (hx : x < W) (hy : y < H) : ∀ (r k : Nat), k + r = 8 → ∀ (K : ms_H), gr_at K g (nI (W * H)) (nI W) (nI H) (lk_r nr (lk_v W H x y) (y * W + x) k) → ms_fr g 2 G K → ms_W false m_X1_link (lk_P g n W H x y G nr) 19 [(0, .ref g), (1, .int (nI x)), (2, .int (nI y)), (3, .int (nI (y * W + x))), (4, .int (nI k))] [] n K 0 0 := by
  intro r
  induction r with
  | zero =>
    intro k hk K hG hF
    have hkN : k = 8 := by omega
    have hlf := Nat.lt_of_lt_of_le (fd_lt hx hy) (fd_196 hW hH)
    have hix : nI (y * W + x) * 8 + nI k = nI ((y * W + x) * 8 + k) := by rw [show (8 : Int32) = nI 8 from rfl, pk_mul, nI_add]
    refine ms_run (pc' := 23) (lv' := [(0, .ref g), (1, .int (nI x)), (2, .int (nI y)), (3, .int (nI (y * W + x))), (4, .int (nI k))]) (st' := [.int 8, .int (nI k)]) _ (ms_deC dX1_link_19 (ms_deC dX1_link_21 ms_deN)) rfl rfl ?_
    refine ms_icmp_ge (tgt := 64) dX1_link_23 (by decide) (fun h_23 => ?_) (fun h_23 => ?_)
    · skip
      refine ms_retv (st := []) dX1_link_64 rfl ?_
      exact ⟨rfl, rfl, ⟨_, hG, fun k9 h9 => by unfold lk_r; rw [if_pos ⟨by omega, by omega⟩]; congr 1; omega, fun j h9 => by unfold lk_r; rw [if_neg (by omega)]⟩, hF⟩
    · skip
      exact absurd (by show nI 8 ≤ nI k; exact nI_le (b := k) (by omega) (by omega)) h_23
  | succ r ih =>
    intro k hk K hG hF
    have hlt : k < 8 := by omega
    have hlf := Nat.lt_of_lt_of_le (fd_lt hx hy) (fd_196 hW hH)
    have hix : nI (y * W + x) * 8 + nI k = nI ((y * W + x) * 8 + k) := by rw [show (8 : Int32) = nI 8 from rfl, pk_mul, nI_add]
    refine ms_run (pc' := 23) (lv' := [(0, .ref g), (1, .int (nI x)), (2, .int (nI y)), (3, .int (nI (y * W + x))), (4, .int (nI k))]) (st' := [.int 8, .int (nI k)]) _ (ms_deC dX1_link_19 (ms_deC dX1_link_21 ms_deN)) rfl rfl ?_
    refine ms_icmp_ge (tgt := 64) dX1_link_23 (by decide) (fun h_23 => ?_) (fun h_23 => ?_)
    · skip
      exact absurd h_23 (by show ¬ nI 8 ≤ nI k; exact nI_ge (b := 8) (by omega) (by omega))
    · skip
      refine ms_run (pc' := 27) (lv' := [(0, .ref g), (1, .int (nI x)), (2, .int (nI y)), (3, .int (nI (y * W + x))), (4, .int (nI k))]) (st' := [.ref g]) _ (ms_deC dX1_link_26 ms_deN) rfl rfl ?_
      refine ms_getf dX1_link_27 fg_X1_9 hG.1 rfl ?_
      refine ms_run (pc' := 39) (lv' := [(0, .ref g), (1, .int (nI x)), (2, .int (nI y)), (3, .int (nI (y * W + x))), (4, .int (nI k))]) (st' := [.int (nI x), .ref g, .int (((nI (y * W + x)) * 8) + (nI k)), .ref (g + 1)]) _ (ms_deC dX1_link_30 (ms_deC dX1_link_31 (ms_deC dX1_link_33 (ms_deC dX1_link_34 (ms_deC dX1_link_36 (ms_deC dX1_link_37 (ms_deC dX1_link_38 ms_deN))))))) rfl rfl ?_
      refine ms_stepX dX1_link_39 dX1_link_42 dX1_link_44 rfl rfl (vp_in_nI (by omega) (by omega)) ?_
      rw [nI_clamp (by omega)]
      refine ms_run (pc' := 47) (lv' := [(0, .ref g), (1, .int (nI x)), (2, .int (nI y)), (3, .int (nI (y * W + x))), (4, .int (nI k))]) (st' := [.int (nI y), .int ((nI x) + (ms_sx k)), .ref g, .int (((nI (y * W + x)) * 8) + (nI k)), .ref (g + 1)]) _ (ms_deC dX1_link_45 (ms_deC dX1_link_46 ms_deN)) rfl rfl ?_
      refine ms_stepY dX1_link_47 dX1_link_50 dX1_link_52 rfl rfl (vp_in_nI (by omega) (by omega)) ?_
      rw [nI_clamp (by omega)]
      refine ms_run (pc' := 54) (lv' := [(0, .ref g), (1, .int (nI x)), (2, .int (nI y)), (3, .int (nI (y * W + x))), (4, .int (nI k))]) (st' := [.int ((nI y) + (ms_sy k)), .int ((nI x) + (ms_sx k)), .ref g, .int (((nI (y * W + x)) * 8) + (nI k)), .ref (g + 1)]) _ (ms_deC dX1_link_53 ms_deN) rfl rfl ?_
      refine ms_callVp (As := [.int ((nI x) + (ms_sx k)), .int ((nI y) + (ms_sy k))]) dX1_link_54 (c_X1_number hG ((nI x) + (ms_sx k)) ((nI y) + (ms_sy k))) cv_X1_29 hG.1 rfl ⟨Nat.le_of_ble_eq_true rfl, Nat.le_of_ble_eq_true rfl⟩ rfl (Nat.le_of_ble_eq_true rfl) ?_
      refine ms_iastore dX1_link_57 hG.2 (by rw [hix]; exact vp_in_nI (by have := hlf; omega) (by have := hlf; omega)) ?_
      rw [hix, nI_clamp (by have := hlf; omega), show gr_num (nI W) (nI H) (nI x + ms_sx k) (nI y + ms_sy k) = lk_v W H x y k from rfl, lk_s (nr := nr) (v := lk_v W H x y)]
      obtain ⟨G_1, eG_1⟩ : ∃ K9 : ms_H, K9 = ms_up K (g + 1) (.inl (0, 1568, .inl (lk_r nr (lk_v W H x y) (y * W + x) (k + 1)))) := ⟨_, rfl⟩
      refine ms_W.heq eG_1 ?_
      have hG_2 : gr_at G_1 g (nI (W * H)) (nI W) (nI H) (lk_r nr (lk_v W H x y) (y * W + x) (k + 1)) := by rw [eG_1]; exact gr_at.s_nr hG (lk_r nr (lk_v W H x y) (y * W + x) (k + 1))
      have hF_3 : ms_fr g 2 G G_1 := by rw [eG_1]; exact ms_fr.up hF (by omega)
      refine ms_run (pc' := 61) (lv' := [(4, .int ((nI k) + 1)), (0, .ref g), (1, .int (nI x)), (2, .int (nI y)), (3, .int (nI (y * W + x)))]) (st' := []) _ (ms_deC dX1_link_58 ms_deN) rfl rfl ?_
      refine ms_goto (tgt := 19) dX1_link_61 (by decide) ?_
      rw [nI_1 k]
      refine ms_W.sub (lv2 := [(0, _), (1, _), (2, _), (3, _), (4, _)]) ?_ [1, 2, 3, 4, 0] rfl
      exact ih (k + 1) (by omega) G_1 hG_2 hF_3
set_option maxHeartbeats 4000000 in
set_option maxRecDepth 20000 in
theorem c_X1_link {n g W H x y : Nat} {G : ms_H} {nr : Nat → Int32} (hW : W ≤ 14) (hH : H ≤ 14) (hx : x < W) (hy : y < H) (hG : gr_at G g (nI (W * H)) (nI W) (nI H) nr) : ms_M m_X1_link [.ref g, .int (nI x), .int (nI y)] n G 0 0 (lk_P g n W H x y G nr) := by
  refine ms_M.of (by decide) (Nat.le_of_ble_eq_true rfl) ?_
  show ms_W false m_X1_link _ 0 [(0, .ref g), (1, .int (nI x)), (2, .int (nI y))] [] n G 0 0
  refine ms_run (pc' := 3) (lv' := [(0, .ref g), (1, .int (nI x)), (2, .int (nI y))]) (st' := [.int (nI y), .int (nI x), .ref g]) _ (ms_deC dX1_link_0 (ms_deC dX1_link_1 (ms_deC dX1_link_2 ms_deN))) rfl rfl ?_
  refine ms_callVp (As := [.int (nI x), .int (nI y)]) dX1_link_3 (c_X1_number hG (nI x) (nI y)) cv_X1_29 hG.1 rfl ⟨Nat.le_of_ble_eq_true rfl, Nat.le_of_ble_eq_true rfl⟩ rfl (Nat.le_of_ble_eq_true rfl) ?_
  rw [gr_numI hW hH hx hy]
  refine ms_run (pc' := 9) (lv' := [(3, .int (nI (y * W + x))), (0, .ref g), (1, .int (nI x)), (2, .int (nI y))]) (st' := [.int (nI (y * W + x)), .ref g]) _ (ms_deC dX1_link_6 (ms_deC dX1_link_7 (ms_deC dX1_link_8 ms_deN))) rfl rfl ?_
  refine ms_callVp (As := [.int (nI (y * W + x))]) dX1_link_9 (c_X1_has hG (nI (y * W + x))) cv_X1_33 hG.1 rfl ⟨Nat.le_of_ble_eq_true rfl, Nat.le_of_ble_eq_true rfl⟩ rfl (Nat.le_of_ble_eq_true rfl) ?_
  by_cases hc_9 : gr_has (nI (W * H)) (nI (y * W + x))
  · rw [show ms_b (gr_has (nI (W * H)) (nI (y * W + x))) = 1 from if_pos hc_9]
    refine ms_if_ne (tgt := 16) dX1_link_12 (by decide) (fun _ => ?_) (fun h9 => absurd h9 (by decide))
    refine ms_run (pc' := 19) (lv' := [(4, .int 0), (3, .int (nI (y * W + x))), (0, .ref g), (1, .int (nI x)), (2, .int (nI y))]) (st' := []) _ (ms_deC dX1_link_16 (ms_deC dX1_link_17 ms_deN)) rfl rfl ?_
    refine ms_W.sub (lv2 := [(0, _), (1, _), (2, _), (3, _), (4, _)]) ?_ [2, 3, 4, 1, 0] rfl
    exact l_X1_link hW hH hx hy 8 0 rfl G (by rw [lk_0]; exact hG) ms_fr.rf
  · rw [show ms_b (gr_has (nI (W * H)) (nI (y * W + x))) = 0 from if_neg hc_9]
    exact absurd (gr_hasI rfl (fd_lt hx hy) (fd_196 hW hH)) hc_9
/-- the neighbours of the first c fields are written -/
def lk_ok (W H c : Nat) (nr : Nat → Int32) : Prop := ∀ f, f < c → ∀ k, k < 8 → nr (f * 8 + k) = lk_v W H (f % W) (f / W) k
def sh_P (g n W H : Nat) (G : ms_H) : ms_P := fun r n1 G1 => r = .inl none ∧ n1 = n ∧ (∃ nr, gr_at G1 g (nI (W * H)) (nI W) (nI H) nr ∧ lk_ok W H (W * H) nr) ∧ ms_fr g 2 G G1
theorem lk_ok.add {W H x y : Nat} {nr nr' : Nat → Int32} (hx : x < W) (h : lk_ok W H (y * W + x) nr) (h1 : ∀ k, k < 8 → nr' ((y * W + x) * 8 + k) = lk_v W H x y k) (h2 : ∀ j, (j < (y * W + x) * 8 ∨ (y * W + x) * 8 + 8 ≤ j) → nr' j = nr j) : lk_ok W H (y * W + (x + 1)) nr' := by
  intro f hf k hk
  by_cases e : f = y * W + x
  · subst e
    rw [h1 k hk, show (y * W + x) % W = x from by rw [Nat.mul_comm, Nat.mul_add_mod, Nat.mod_eq_of_lt hx], show (y * W + x) / W = y from by rw [Nat.mul_comm, Nat.mul_add_div (by omega), Nat.div_eq_of_lt hx, Nat.add_zero]]
  · rw [h2 _ (by omega)]
    exact h f (by omega) k hk
set_option maxHeartbeats 4000000 in
set_option maxRecDepth 20000 in
theorem l2_X1_shape {n g W H : Nat} {G : ms_H} (hW : W ≤ 14) (hH : H ≤ 14) {y : Nat} (hy : y < H) : ∀ (r k : Nat), k + r = W → ∀ (K : ms_H) (nr : Nat → Int32), gr_at K g (nI (W * H)) (nI W) (nI H) nr → lk_ok W H (y * W + k) nr → ms_fr g 2 G K → (∀ (K : ms_H) (nr : Nat → Int32), gr_at K g (nI (W * H)) (nI W) (nI H) nr → lk_ok W H (y * W + W) nr → ms_fr g 2 G K → ms_W false m_X1_shape (sh_P g n W H G) 46 [(0, .ref g), (1, .int (nI W)), (2, .int (nI H)), (3, .int (nI y))] [] n K 0 0) → ms_W false m_X1_shape (sh_P g n W H G) 27 [(0, .ref g), (1, .int (nI W)), (2, .int (nI H)), (3, .int (nI y)), (4, .int (nI k))] [] n K 0 0 := by
  intro r
  induction r with
  | zero =>
    intro k hk K nr hG hL hF kk
    have hkN : k = W := by omega
    refine ms_run (pc' := 30) (lv' := [(0, .ref g), (1, .int (nI W)), (2, .int (nI H)), (3, .int (nI y)), (4, .int (nI k))]) (st' := [.int (nI W), .int (nI k)]) _ (ms_deC dX1_shape_27 (ms_deC dX1_shape_29 ms_deN)) rfl rfl ?_
    refine ms_icmp_ge (tgt := 46) dX1_shape_30 (by decide) (fun h_30 => ?_) (fun h_30 => ?_)
    · skip
      refine ms_W.sub (lv2 := [(0, _), (1, _), (2, _), (3, _)]) ?_ [0, 1, 2, 3] rfl
      exact kk K nr hG (by rw [hkN] at hL; exact hL) hF
    · skip
      exact absurd (by exact nI_le (b := k) (by omega) (by omega)) h_30
  | succ r ih =>
    intro k hk K nr hG hL hF kk
    have hlt : k < W := by omega
    refine ms_run (pc' := 30) (lv' := [(0, .ref g), (1, .int (nI W)), (2, .int (nI H)), (3, .int (nI y)), (4, .int (nI k))]) (st' := [.int (nI W), .int (nI k)]) _ (ms_deC dX1_shape_27 (ms_deC dX1_shape_29 ms_deN)) rfl rfl ?_
    refine ms_icmp_ge (tgt := 46) dX1_shape_30 (by decide) (fun h_30 => ?_) (fun h_30 => ?_)
    · skip
      exact absurd h_30 (by exact nI_ge (b := W) (by omega) (by omega))
    · skip
      refine ms_run (pc' := 37) (lv' := [(0, .ref g), (1, .int (nI W)), (2, .int (nI H)), (3, .int (nI y)), (4, .int (nI k))]) (st' := [.int (nI y), .int (nI k), .ref g]) _ (ms_deC dX1_shape_33 (ms_deC dX1_shape_34 (ms_deC dX1_shape_36 ms_deN))) rfl rfl ?_
      refine ms_callV0 (As := [.int (nI k), .int (nI y)]) dX1_shape_37 (c_X1_link hW hH hlt hy hG) cv_X1_25 hG.1 rfl ⟨Nat.le_of_ble_eq_true rfl, Nat.le_of_ble_eq_true rfl⟩ rfl (Nat.le_of_ble_eq_true rfl) (fun v9 n9 K_lk hp9 => ?_)
      obtain ⟨hv9, rfl, ⟨nr2, hG2, hA2, hB2⟩, hF2⟩ := hp9
      cases hv9
      have hF_1 : ms_fr g 2 G K_lk := ms_fr.trans hF (ms_fr.mono hF2 (by omega) (by omega))
      refine ms_run (pc' := 43) (lv' := [(4, .int ((nI k) + 1)), (0, .ref g), (1, .int (nI W)), (2, .int (nI H)), (3, .int (nI y))]) (st' := []) _ (ms_deC dX1_shape_40 ms_deN) rfl rfl ?_
      refine ms_goto (tgt := 27) dX1_shape_43 (by decide) ?_
      rw [nI_1 k]
      refine ms_W.sub (lv2 := [(0, _), (1, _), (2, _), (3, _), (4, _)]) ?_ [1, 2, 3, 4, 0] rfl
      exact ih (k + 1) (by omega) K_lk nr2 hG2 (hL.add hlt hA2 hB2) hF_1 kk
set_option maxHeartbeats 4000000 in
set_option maxRecDepth 20000 in
theorem l1_X1_shape {n g W H : Nat} {G : ms_H} (hW : W ≤ 14) (hH : H ≤ 14) : ∀ (r k : Nat), k + r = H → ∀ (K : ms_H) (nr : Nat → Int32), gr_at K g (nI (W * H)) (nI W) (nI H) nr → lk_ok W H (k * W) nr → ms_fr g 2 G K → ms_W false m_X1_shape (sh_P g n W H G) 19 [(0, .ref g), (1, .int (nI W)), (2, .int (nI H)), (3, .int (nI k))] [] n K 0 0 := by
  intro r
  induction r with
  | zero =>
    intro k hk K nr hG hL hF
    have hkN : k = H := by omega
    refine ms_run (pc' := 21) (lv' := [(0, .ref g), (1, .int (nI W)), (2, .int (nI H)), (3, .int (nI k))]) (st' := [.int (nI H), .int (nI k)]) _ (ms_deC dX1_shape_19 (ms_deC dX1_shape_20 ms_deN)) rfl rfl ?_
    refine ms_icmp_ge (tgt := 52) dX1_shape_21 (by decide) (fun h_21 => ?_) (fun h_21 => ?_)
    · skip
      refine ms_retv (st := []) dX1_shape_52 rfl ?_
      exact ⟨rfl, rfl, ⟨nr, hG, by rw [hkN, Nat.mul_comm] at hL; exact hL⟩, hF⟩
    · skip
      exact absurd (by exact nI_le (b := k) (by omega) (by omega)) h_21
  | succ r ih =>
    intro k hk K nr hG hL hF
    have hlt : k < H := by omega
    refine ms_run (pc' := 21) (lv' := [(0, .ref g), (1, .int (nI W)), (2, .int (nI H)), (3, .int (nI k))]) (st' := [.int (nI H), .int (nI k)]) _ (ms_deC dX1_shape_19 (ms_deC dX1_shape_20 ms_deN)) rfl rfl ?_
    refine ms_icmp_ge (tgt := 52) dX1_shape_21 (by decide) (fun h_21 => ?_) (fun h_21 => ?_)
    · skip
      exact absurd h_21 (by exact nI_ge (b := H) (by omega) (by omega))
    · skip
      refine ms_run (pc' := 27) (lv' := [(4, .int 0), (0, .ref g), (1, .int (nI W)), (2, .int (nI H)), (3, .int (nI k))]) (st' := []) _ (ms_deC dX1_shape_24 (ms_deC dX1_shape_25 ms_deN)) rfl rfl ?_
      refine ms_W.sub (lv2 := [(0, _), (1, _), (2, _), (3, _), (4, _)]) ?_ [1, 2, 3, 4, 0] rfl
      refine l2_X1_shape hW hH hlt W 0 (by omega) K nr hG (by rw [Nat.add_zero]; exact hL) hF (fun K2 nr2 hG2 hL2 hF2 => ?_)
      refine ms_run (pc' := 49) (lv' := [(3, .int ((nI k) + 1)), (0, .ref g), (1, .int (nI W)), (2, .int (nI H))]) (st' := []) _ (ms_deC dX1_shape_46 ms_deN) rfl rfl ?_
      refine ms_goto (tgt := 19) dX1_shape_49 (by decide) ?_
      rw [nI_1 k]
      refine ms_W.sub (lv2 := [(0, _), (1, _), (2, _), (3, _)]) ?_ [1, 2, 3, 0] rfl
      exact ih (k + 1) (by omega) K2 nr2 hG2 (by rw [show (k + 1) * W = k * W + W from by rw [Nat.add_mul, Nat.one_mul]]; exact hL2) hF2
set_option maxHeartbeats 4000000 in
set_option maxRecDepth 20000 in
theorem c_X1_shape {n g W H : Nat} {G : ms_H} (hW : W ≤ 14) (hH : H ≤ 14) {fl w h : Int32} {nr : Nat → Int32} (hG : gr_at G g fl w h nr) : ms_M m_X1_shape [.ref g, .int (nI W), .int (nI H)] n G 0 0 (sh_P g n W H G) := by
  refine ms_M.of (by decide) (Nat.le_of_ble_eq_true rfl) ?_
  show ms_W false m_X1_shape _ 0 [(0, .ref g), (1, .int (nI W)), (2, .int (nI H))] [] n G 0 0
  have hF : ms_fr g 2 G G := ms_fr.rf
  refine ms_run (pc' := 2) (lv' := [(0, .ref g), (1, .int (nI W)), (2, .int (nI H))]) (st' := [.int (nI W), .ref g]) _ (ms_deC dX1_shape_0 (ms_deC dX1_shape_1 ms_deN)) rfl rfl ?_
  refine ms_putf dX1_shape_2 fp_X1_15 hG.1 (Nat.le_of_ble_eq_true rfl) rfl rfl ?_
  obtain ⟨G_1, eG_1⟩ : ∃ K9 : ms_H, K9 = ms_up G g (.inr (1, [.int fl, .int (nI W), .int h, .ref (g + 1)])) := ⟨_, rfl⟩
  refine ms_W.heq eG_1 ?_
  have hG_2 : gr_at G_1 g fl (nI W) h nr := by rw [eG_1]; exact gr_at.s_ob hG fl (nI W) h
  have hF_3 : ms_fr g 2 G G_1 := by rw [eG_1]; exact ms_fr.up hF (by omega)
  refine ms_run (pc' := 7) (lv' := [(0, .ref g), (1, .int (nI W)), (2, .int (nI H))]) (st' := [.int (nI H), .ref g]) _ (ms_deC dX1_shape_5 (ms_deC dX1_shape_6 ms_deN)) rfl rfl ?_
  refine ms_putf dX1_shape_7 fp_X1_19 hG_2.1 (Nat.le_of_ble_eq_true rfl) rfl rfl ?_
  obtain ⟨G_4, eG_4⟩ : ∃ K9 : ms_H, K9 = ms_up G_1 g (.inr (1, [.int fl, .int (nI W), .int (nI H), .ref (g + 1)])) := ⟨_, rfl⟩
  refine ms_W.heq eG_4 ?_
  have hG_5 : gr_at G_4 g fl (nI W) (nI H) nr := by rw [eG_4]; exact gr_at.s_ob hG_2 fl (nI W) (nI H)
  have hF_6 : ms_fr g 2 G G_4 := by rw [eG_4]; exact ms_fr.up hF_3 (by omega)
  refine ms_run (pc' := 14) (lv' := [(0, .ref g), (1, .int (nI W)), (2, .int (nI H))]) (st' := [.int ((nI W) * (nI H)), .ref g]) _ (ms_deC dX1_shape_10 (ms_deC dX1_shape_11 (ms_deC dX1_shape_12 (ms_deC dX1_shape_13 ms_deN)))) rfl rfl ?_
  refine ms_putf dX1_shape_14 fp_X1_22 hG_5.1 (Nat.le_of_ble_eq_true rfl) rfl rfl ?_
  obtain ⟨G_7, eG_7⟩ : ∃ K9 : ms_H, K9 = ms_up G_4 g (.inr (1, [.int ((nI W) * (nI H)), .int (nI W), .int (nI H), .ref (g + 1)])) := ⟨_, rfl⟩
  refine ms_W.heq eG_7 ?_
  have hG_8 : gr_at G_7 g ((nI W) * (nI H)) (nI W) (nI H) nr := by rw [eG_7]; exact gr_at.s_ob hG_5 ((nI W) * (nI H)) (nI W) (nI H)
  have hF_9 : ms_fr g 2 G G_7 := by rw [eG_7]; exact ms_fr.up hF_6 (by omega)
  refine ms_run (pc' := 19) (lv' := [(3, .int 0), (0, .ref g), (1, .int (nI W)), (2, .int (nI H))]) (st' := []) _ (ms_deC dX1_shape_17 (ms_deC dX1_shape_18 ms_deN)) rfl rfl ?_
  refine ms_W.sub (lv2 := [(0, _), (1, _), (2, _), (3, _)]) ?_ [1, 2, 3, 0] rfl
  exact l1_X1_shape hW hH H 0 (by omega) _ nr (by rw [← pk_mul]; exact hG_8) (fun f hf => absurd hf (by omega)) hF_9

/-! StarlingSquare: the calls (1) -/
def th_set (a b : Int32) : Option String := if a < 0 ∨ 9 < a ∨ b < 1 ∨ 20 < b then some IAE else none
def th_reset (a b : Int32) : Option String := if a < 2 ∨ 14 < a ∨ b < 2 ∨ 14 < b then some IAE else none
def th_far (W H : Nat) (gl a b : Int32) : Option String := if ¬ gl_is gl ∨ gr_num (nI W) (nI H) a b = -1 then some IOB else none
def th_goal (gl : Int32) : Option String := if ¬ gl_is gl then some IOB else none
def th_tick (T : Int32) : Option String := if T < 1 ∨ 20 < T then some IAE else none
def th_ofw (cnt : Nat) (k : Int32) (b : Prop) [Decidable b] : Option String := if ¬ pIs (nI cnt) k then some IOB else if b then some IAE else none
def th_onw (cnt : Nat) (u : Nat → Nat → Int32) (k : Int32) (b : Prop) [Decidable b] : Option String := if ¬ pIs (nI cnt) k ∨ u k.toNatClampNeg 3 = -1 then some IOB else if b then some IAE else none
theorem pIs_nI {cnt : Nat} {k : Int32} (hc : cnt ≤ 24) (h : pIs (nI cnt) k) : ∃ i, i < cnt ∧ k = nI i := ⟨k.toNatClampNeg, pIs_cnt hc h, by obtain ⟨j, hj, rfl⟩ := nI_of (Int32.not_lt.mpr h.1); rw [nI_clamp hj]⟩
theorem gl_nI {gl : Int32} (h : gl_is gl) : ∃ i, i < 4 ∧ gl = nI i := by
  obtain ⟨j, hj, rfl⟩ := nI_of (Int32.not_lt.mpr h.1)
  exact ⟨j, (nI_ltI hj (by omega)).mp (show nI j < nI 4 from h.2), rfl⟩
theorem gr_num_has {W H : Nat} (hW : W ≤ 14) (hH : H ≤ 14) {a b : Int32} (h : ¬ gr_num (nI W) (nI H) a b = -1) : ∃ x y, x < W ∧ y < H ∧ a = nI x ∧ b = nI y ∧ gr_num (nI W) (nI H) a b = nI (y * W + x) := by
  have hi : gr_ins (nI W) (nI H) a b := Decidable.byContradiction (fun z => h (if_neg z))
  obtain ⟨x, hx, rfl⟩ := nI_of (Int32.not_lt.mpr hi.1)
  obtain ⟨y, hy, rfl⟩ := nI_of (Int32.not_lt.mpr hi.2.2.1)
  have h1 := (nI_ltI hx (by omega)).mp hi.2.1
  have h2 := (nI_ltI hy (by omega)).mp hi.2.2.2
  exact ⟨x, y, h1, h2, rfl, rfl, gr_numI hW hH h1 h2⟩
set_option maxHeartbeats 4000000 in
set_option maxRecDepth 20000 in
theorem c_X5_set {n x g q c j q2 c2 W H : Nat} {G : ms_H} {nr wl mk ds : Nat → Int32} {cnt : Nat} {dr pa : Int32} {X : cX} (ho : ox x g q c j q2 c2) (hS : xs_at G x g q c j q2 c2 W H nr wl mk ds cnt dr pa X) (a b : Int32) : ms_X m_X5_set [.ref x, .int a, .int b] n G 1 6 (xq_P n G (th_set a b) (.int dr) (fun G1 => xs_at G1 x g q c j q2 c2 W H nr wl mk ds cnt a b X ∧ ms_fr x (c2 + 29 - x) G G1)) := by
  refine ms_X.of (by decide) (Nat.le_of_ble_eq_true rfl) ?_
  show ms_W true m_X5_set _ 0 [(0, .ref x), (1, .int a), (2, .int b)] [] n G 1 6
  obtain ⟨hX, hG, ⟨qu, hQ⟩, ⟨hd, cm, wk, hC, hx, hd1, hd2_, hd3, ha⟩, ⟨cn, wi, jo, sz, quj, hJ⟩, ⟨wl2, mk2, ds2, qu2, hQt⟩, ⟨hd2, on2, ht2, cm2, wk2, hCt⟩⟩ := hS
  obtain ⟨o1, o2, o3, o4, o5, o6⟩ := ho
  have hF : ms_fr x (c2 + 29 - x) G G := ms_fr.rf
  refine ms_run (pc' := 1) (lv' := [(0, .ref x), (1, .int a), (2, .int b)]) (st' := [.int a]) _ (ms_deC dX5_set_0 ms_deN) rfl rfl ?_
  refine ms_if_lt (tgt := 21) dX5_set_1 (by decide) (fun h_1 => ?_) (fun h_1 => ?_)
  · skip
    refine ms_throw dX5_set_21 dX5_set_24 dX5_set_25 dX5_set_27 dX5_set_30 th_X5_51_130_55 ⟨Nat.le_of_ble_eq_true rfl, Nat.le_of_ble_eq_true rfl⟩ (Nat.le_of_ble_eq_true rfl) (by omega) (by omega) (fun n1 hn1 => ?_)
    exact xq_P.thr hn1 (by unfold th_set; grind)
  · skip
    refine ms_run (pc' := 7) (lv' := [(0, .ref x), (1, .int a), (2, .int b)]) (st' := [.int 9, .int a]) _ (ms_deC dX5_set_4 (ms_deC dX5_set_5 ms_deN)) rfl rfl ?_
    refine ms_icmp_gt (tgt := 21) dX5_set_7 (by decide) (fun h_7 => ?_) (fun h_7 => ?_)
    · skip
      refine ms_throw dX5_set_21 dX5_set_24 dX5_set_25 dX5_set_27 dX5_set_30 th_X5_51_130_55 ⟨Nat.le_of_ble_eq_true rfl, Nat.le_of_ble_eq_true rfl⟩ (Nat.le_of_ble_eq_true rfl) (by omega) (by omega) (fun n1 hn1 => ?_)
      exact xq_P.thr hn1 (by unfold th_set; grind)
    · skip
      refine ms_run (pc' := 12) (lv' := [(0, .ref x), (1, .int a), (2, .int b)]) (st' := [.int 1, .int b]) _ (ms_deC dX5_set_10 (ms_deC dX5_set_11 ms_deN)) rfl rfl ?_
      refine ms_icmp_lt (tgt := 21) dX5_set_12 (by decide) (fun h_12 => ?_) (fun h_12 => ?_)
      · skip
        refine ms_throw dX5_set_21 dX5_set_24 dX5_set_25 dX5_set_27 dX5_set_30 th_X5_51_130_55 ⟨Nat.le_of_ble_eq_true rfl, Nat.le_of_ble_eq_true rfl⟩ (Nat.le_of_ble_eq_true rfl) (by omega) (by omega) (fun n1 hn1 => ?_)
        exact xq_P.thr hn1 (by unfold th_set; grind)
      · skip
        refine ms_run (pc' := 18) (lv' := [(0, .ref x), (1, .int a), (2, .int b)]) (st' := [.int 20, .int b]) _ (ms_deC dX5_set_15 (ms_deC dX5_set_16 ms_deN)) rfl rfl ?_
        refine ms_icmp_le (tgt := 31) dX5_set_18 (by decide) (fun h_18 => ?_) (fun h_18 => ?_)
        · skip
          refine ms_run (pc' := 32) (lv' := [(0, .ref x), (1, .int a), (2, .int b)]) (st' := [.ref x]) _ (ms_deC dX5_set_31 ms_deN) rfl rfl ?_
          refine ms_getf dX5_set_32 fg_X5_30 hX rfl ?_
          refine ms_getf dX5_set_35 fg_X5_132 hC.1 rfl ?_
          refine ms_run (pc' := 40) (lv' := [(3, .int (hd 2)), (0, .ref x), (1, .int a), (2, .int b)]) (st' := [.ref x]) _ (ms_deC dX5_set_38 (ms_deC dX5_set_39 ms_deN)) rfl rfl ?_
          refine ms_getf dX5_set_40 fg_X5_30 hX rfl ?_
          refine ms_run (pc' := 44) (lv' := [(3, .int (hd 2)), (0, .ref x), (1, .int a), (2, .int b)]) (st' := [.int a, .ref c]) _ (ms_deC dX5_set_43 ms_deN) rfl rfl ?_
          refine ms_putf dX5_set_44 fp_X5_132 hC.1 (Nat.le_of_ble_eq_true rfl) rfl rfl ?_
          obtain ⟨G_1, eG_1⟩ : ∃ K9 : ms_H, K9 = ms_up G c (.inr (0, [.int (hd 0), .int (hd 1), .int a, .int (hd 3), .ref g, .ref q, .ref (c + 1), .ref (c + 2), .ref (c + 3), .ref (c + 4)])) := ⟨_, rfl⟩
          refine ms_W.heq eG_1 ?_
          have hG_2 : gr_at G_1 g (nI (W * H)) (nI W) (nI H) nr := by rw [eG_1]; exact gr_at.up hG (by omega)
          have hQ_3 : sq_at G_1 g q wl mk ds qu := by rw [eG_1]; exact sq_at.up hQ (by omega)
          have hC_4 : cr_at G_1 g q c (h4 (hd 0) (hd 1) a (hd 3)) X.2.2.1 X.2.1 cm wk := by rw [eG_1]; exact cr_at.s_hd hC (hd 0) (hd 1) a (hd 3)
          have hJ_5 : jm_at G_1 j cn wi jo sz quj := by rw [eG_1]; exact jm_at.up hJ (by omega)
          have hQt_6 : sq_at G_1 g q2 wl2 mk2 ds2 qu2 := by rw [eG_1]; exact sq_at.up hQt (by omega)
          have hCt_7 : cr_at G_1 g q2 c2 hd2 on2 ht2 cm2 wk2 := by rw [eG_1]; exact cr_at.up hCt (by omega)
          have hF_8 : ms_fr x (c2 + 29 - x) G G_1 := by rw [eG_1]; exact ms_fr.up hF (by omega)
          have hf_9 := (congrFun eG_1 x).trans ((ms_up_n G _ (by omega)).trans hX)
          have hf_10 := (congrFun eG_1 q).trans ((ms_up_n G _ (by omega)).trans hQ.1)
          have hf_11 := (congrFun eG_1 q2).trans ((ms_up_n G _ (by omega)).trans hQt.1)
          refine ms_run (pc' := 48) (lv' := [(3, .int (hd 2)), (0, .ref x), (1, .int a), (2, .int b)]) (st' := [.ref x]) _ (ms_deC dX5_set_47 ms_deN) rfl rfl ?_
          refine ms_getf dX5_set_48 fg_X5_30 hf_9 rfl ?_
          refine ms_run (pc' := 52) (lv' := [(3, .int (hd 2)), (0, .ref x), (1, .int a), (2, .int b)]) (st' := [.int b, .ref c]) _ (ms_deC dX5_set_51 ms_deN) rfl rfl ?_
          refine ms_putf dX5_set_52 fp_X5_135 hC_4.1 (Nat.le_of_ble_eq_true rfl) rfl rfl ?_
          obtain ⟨G_12, eG_12⟩ : ∃ K9 : ms_H, K9 = ms_up G_1 c (.inr (0, [.int (hd 0), .int (hd 1), .int a, .int b, .ref g, .ref q, .ref (c + 1), .ref (c + 2), .ref (c + 3), .ref (c + 4)])) := ⟨_, rfl⟩
          refine ms_W.heq eG_12 ?_
          have hG_13 : gr_at G_12 g (nI (W * H)) (nI W) (nI H) nr := by rw [eG_12]; exact gr_at.up hG_2 (by omega)
          have hQ_14 : sq_at G_12 g q wl mk ds qu := by rw [eG_12]; exact sq_at.up hQ_3 (by omega)
          have hC_15 : cr_at G_12 g q c (h4 (hd 0) (hd 1) a b) X.2.2.1 X.2.1 cm wk := by rw [eG_12]; exact cr_at.s_hd hC_4 (hd 0) (hd 1) a b
          have hJ_16 : jm_at G_12 j cn wi jo sz quj := by rw [eG_12]; exact jm_at.up hJ_5 (by omega)
          have hQt_17 : sq_at G_12 g q2 wl2 mk2 ds2 qu2 := by rw [eG_12]; exact sq_at.up hQt_6 (by omega)
          have hCt_18 : cr_at G_12 g q2 c2 hd2 on2 ht2 cm2 wk2 := by rw [eG_12]; exact cr_at.up hCt_7 (by omega)
          have hF_19 : ms_fr x (c2 + 29 - x) G G_12 := by rw [eG_12]; exact ms_fr.up hF_8 (by omega)
          have hf_20 := (congrFun eG_12 x).trans ((ms_up_n G_1 _ (by omega)).trans hf_9)
          have hf_21 := (congrFun eG_12 q).trans ((ms_up_n G_1 _ (by omega)).trans hQ_3.1)
          have hf_22 := (congrFun eG_12 q2).trans ((ms_up_n G_1 _ (by omega)).trans hQt_6.1)
          refine ms_run (pc' := 56) (lv' := [(3, .int (hd 2)), (0, .ref x), (1, .int a), (2, .int b)]) (st' := [.int (hd 2)]) _ (ms_deC dX5_set_55 ms_deN) rfl rfl ?_
          refine ms_reti (st := []) (ty := .int) dX5_set_56 rfl rfl ?_
          exact xq_P.ret (by unfold th_set; grind) (by rw [hd2_]) ⟨⟨hf_20, hG_13, ⟨_, hQ_14⟩, ⟨h4 (hd 0) (hd 1) a b, cm, wk, hC_15, hx, hd1, rfl, rfl, ha⟩, ⟨_, _, _, _, _, hJ_16⟩, ⟨_, _, _, _, hQt_17⟩, ⟨_, _, _, _, _, hCt_18⟩⟩, hF_19⟩
        · skip
          refine ms_throw dX5_set_21 dX5_set_24 dX5_set_25 dX5_set_27 dX5_set_30 th_X5_51_130_55 ⟨Nat.le_of_ble_eq_true rfl, Nat.le_of_ble_eq_true rfl⟩ (Nat.le_of_ble_eq_true rfl) (by omega) (by omega) (fun n1 hn1 => ?_)
          exact xq_P.thr hn1 (by unfold th_set; grind)
set_option maxHeartbeats 4000000 in
set_option maxRecDepth 20000 in
theorem c_X5_far {n x g q c j q2 c2 W H : Nat} {G : ms_H} {nr wl mk ds : Nat → Int32} {cnt : Nat} {dr pa : Int32} {X : cX} (ho : ox x g q c j q2 c2) (hS : xs_at G x g q c j q2 c2 W H nr wl mk ds cnt dr pa X) (hW : W ≤ 14) (hH : H ≤ 14) (gl a b : Int32) : ms_X m_X5_far [.ref x, .int gl, .int a, .int b] n G 1 6 (xq_P n G (th_far W H gl a b) (.int (sq_ds (nI (W * H)) ds gl (gr_num (nI W) (nI H) a b))) (fun G1 => xs_at G1 x g q c j q2 c2 W H nr wl mk ds cnt dr pa X ∧ ms_fr x (c2 + 29 - x) G G1)) := by
  refine ms_X.of (by decide) (Nat.le_of_ble_eq_true rfl) ?_
  show ms_W true m_X5_far _ 0 [(0, .ref x), (1, .int gl), (2, .int a), (3, .int b)] [] n G 1 6
  obtain ⟨hX, hG, ⟨qu, hQ⟩, ⟨hd, cm, wk, hC, hx, hd1, hd2_, hd3, ha⟩, ⟨cn, wi, jo, sz, quj, hJ⟩, ⟨wl2, mk2, ds2, qu2, hQt⟩, ⟨hd2, on2, ht2, cm2, wk2, hCt⟩⟩ := hS
  obtain ⟨o1, o2, o3, o4, o5, o6⟩ := ho
  have hF : ms_fr x (c2 + 29 - x) G G := ms_fr.rf
  refine ms_run (pc' := 1) (lv' := [(0, .ref x), (1, .int gl), (2, .int a), (3, .int b)]) (st' := [.ref x]) _ (ms_deC dX5_far_0 ms_deN) rfl rfl ?_
  refine ms_getf dX5_far_1 fg_X5_10 hX rfl ?_
  refine ms_run (pc' := 6) (lv' := [(0, .ref x), (1, .int gl), (2, .int a), (3, .int b)]) (st' := [.int b, .int a, .ref g]) _ (ms_deC dX5_far_4 (ms_deC dX5_far_5 ms_deN)) rfl rfl ?_
  refine ms_callVp (As := [.int a, .int b]) dX5_far_6 (c_X1_number hG a b) cv_X5_62 hG.1 rfl ⟨Nat.le_of_ble_eq_true rfl, Nat.le_of_ble_eq_true rfl⟩ rfl (Nat.le_of_ble_eq_true rfl) ?_
  refine ms_run (pc' := 12) (lv' := [(4, .int (gr_num (nI W) (nI H) a b)), (0, .ref x), (1, .int gl), (2, .int a), (3, .int b)]) (st' := [.int gl]) _ (ms_deC dX5_far_9 (ms_deC dX5_far_11 ms_deN)) rfl rfl ?_
  refine ms_callSp (As := [.int gl]) dX5_far_12 (c_X5_isGoal gl) cs_X5_99 rfl ⟨Nat.le_of_ble_eq_true rfl, Nat.le_of_ble_eq_true rfl⟩ rfl (Nat.le_of_ble_eq_true rfl) ?_
  by_cases hgl : gl_is gl
  · rw [show ms_b (gl_is gl) = 1 from if_pos hgl]
    refine ms_if_eq (tgt := 24) dX5_far_15 (by decide) (fun h9 => absurd h9 (by decide)) (fun _ => ?_)
    refine ms_run (pc' := 21) (lv' := [(4, .int (gr_num (nI W) (nI H) a b)), (0, .ref x), (1, .int gl), (2, .int a), (3, .int b)]) (st' := [.int (-1), .int (gr_num (nI W) (nI H) a b)]) _ (ms_deC dX5_far_18 (ms_deC dX5_far_20 ms_deN)) rfl rfl ?_
    refine ms_icmp_ne (tgt := 34) dX5_far_21 (by decide) (fun h_21 => ?_) (fun h_21 => ?_)
    · skip
      refine ms_run (pc' := 35) (lv' := [(4, .int (gr_num (nI W) (nI H) a b)), (0, .ref x), (1, .int gl), (2, .int a), (3, .int b)]) (st' := [.ref x]) _ (ms_deC dX5_far_34 ms_deN) rfl rfl ?_
      refine ms_getf dX5_far_35 fg_X5_21 hX rfl ?_
      refine ms_run (pc' := 41) (lv' := [(4, .int (gr_num (nI W) (nI H) a b)), (0, .ref x), (1, .int gl), (2, .int a), (3, .int b)]) (st' := [.int (gr_num (nI W) (nI H) a b), .int gl, .ref q]) _ (ms_deC dX5_far_38 (ms_deC dX5_far_39 ms_deN)) rfl rfl ?_
      refine ms_callVp (As := [.int gl, .int (gr_num (nI W) (nI H) a b)]) dX5_far_41 (c_X3_distance hG hQ gl (gr_num (nI W) (nI H) a b)) cv_X5_143 hQ.1 rfl ⟨Nat.le_of_ble_eq_true rfl, Nat.le_of_ble_eq_true rfl⟩ rfl (Nat.le_of_ble_eq_true rfl) ?_
      refine ms_reti (st := []) (ty := .int) dX5_far_44 rfl rfl ?_
      exact xq_P.ret (by unfold th_far; rw [if_neg (by rintro (z | z); exact z hgl; exact h_21 z)]) (rfl) ⟨⟨hX, hG, ⟨_, hQ⟩, ⟨hd, cm, wk, hC, hx, hd1, hd2_, hd3, ha⟩, ⟨_, _, _, _, _, hJ⟩, ⟨_, _, _, _, hQt⟩, ⟨_, _, _, _, _, hCt⟩⟩, hF⟩
    · skip
      refine ms_throw dX5_far_24 dX5_far_27 dX5_far_28 dX5_far_30 dX5_far_33 th_X5_66_103_70 ⟨Nat.le_of_ble_eq_true rfl, Nat.le_of_ble_eq_true rfl⟩ (Nat.le_of_ble_eq_true rfl) (by omega) (by omega) (fun n1 hn1 => ?_)
      exact xq_P.thr hn1 (by unfold th_far; rw [if_pos (by first | exact Or.inl hgl | exact Or.inr (by assumption))])
  · rw [show ms_b (gl_is gl) = 0 from if_neg hgl]
    refine ms_if_eq (tgt := 24) dX5_far_15 (by decide) (fun _ => ?_) (fun h9 => absurd h9 (by decide))
    refine ms_throw dX5_far_24 dX5_far_27 dX5_far_28 dX5_far_30 dX5_far_33 th_X5_66_103_70 ⟨Nat.le_of_ble_eq_true rfl, Nat.le_of_ble_eq_true rfl⟩ (Nat.le_of_ble_eq_true rfl) (by omega) (by omega) (fun n1 hn1 => ?_)
    exact xq_P.thr hn1 (by unfold th_far; rw [if_pos (by first | exact Or.inl hgl | exact Or.inr (by assumption))])
set_option maxHeartbeats 4000000 in
set_option maxRecDepth 20000 in
theorem c_X5_farthest {n x g q c j q2 c2 W H : Nat} {G : ms_H} {nr wl mk ds : Nat → Int32} {cnt : Nat} {dr pa : Int32} {X : cX} (ho : ox x g q c j q2 c2) (hS : xs_at G x g q c j q2 c2 W H nr wl mk ds cnt dr pa X) (hW : W ≤ 14) (hH : H ≤ 14) (gl : Int32) : ms_X m_X5_farthest [.ref x, .int gl] n G 1 6 (xq_P n G (th_goal gl) (.int (mx (fun j => ds (gl.toNatClampNeg * 196 + j)) (W * H))) (fun G1 => xs_at G1 x g q c j q2 c2 W H nr wl mk ds cnt dr pa X ∧ ms_fr x (c2 + 29 - x) G G1)) := by
  refine ms_X.of (by decide) (Nat.le_of_ble_eq_true rfl) ?_
  show ms_W true m_X5_farthest _ 0 [(0, .ref x), (1, .int gl)] [] n G 1 6
  obtain ⟨hX, hG, ⟨qu, hQ⟩, ⟨hd, cm, wk, hC, hx, hd1, hd2_, hd3, ha⟩, ⟨cn, wi, jo, sz, quj, hJ⟩, ⟨wl2, mk2, ds2, qu2, hQt⟩, ⟨hd2, on2, ht2, cm2, wk2, hCt⟩⟩ := hS
  obtain ⟨o1, o2, o3, o4, o5, o6⟩ := ho
  have hF : ms_fr x (c2 + 29 - x) G G := ms_fr.rf
  refine ms_run (pc' := 1) (lv' := [(0, .ref x), (1, .int gl)]) (st' := [.int gl]) _ (ms_deC dX5_farthest_0 ms_deN) rfl rfl ?_
  refine ms_callSp (As := [.int gl]) dX5_farthest_1 (c_X5_isGoal gl) cs_X5_99 rfl ⟨Nat.le_of_ble_eq_true rfl, Nat.le_of_ble_eq_true rfl⟩ rfl (Nat.le_of_ble_eq_true rfl) ?_
  by_cases hgl : gl_is gl
  · rw [show ms_b (gl_is gl) = 1 from if_pos hgl]
    obtain ⟨gi, hgi, hge⟩ := gl_nI hgl
    subst hge
    rw [nI_clamp (by omega)]
    refine ms_if_ne (tgt := 17) dX5_farthest_4 (by decide) (fun _ => ?_) (fun h9 => absurd h9 (by decide))
    refine ms_run (pc' := 18) (lv' := [(0, .ref x), (1, .int (nI gi))]) (st' := [.ref x]) _ (ms_deC dX5_farthest_17 ms_deN) rfl rfl ?_
    refine ms_getf dX5_farthest_18 fg_X5_21 hX rfl ?_
    refine ms_run (pc' := 22) (lv' := [(0, .ref x), (1, .int (nI gi))]) (st' := [.int (nI gi), .ref q]) _ (ms_deC dX5_farthest_21 ms_deN) rfl rfl ?_
    refine ms_callVp (As := [.int (nI gi)]) dX5_farthest_22 (c_X3_greatestDistance hG hQ rfl (fd_196 hW hH) hgi) cv_X5_148 hQ.1 rfl ⟨Nat.le_of_ble_eq_true rfl, Nat.le_of_ble_eq_true rfl⟩ rfl (Nat.le_of_ble_eq_true rfl) ?_
    refine ms_reti (st := []) (ty := .int) dX5_farthest_25 rfl rfl ?_
    exact xq_P.ret (if_neg (not_not_intro hgl)) (rfl) ⟨⟨hX, hG, ⟨_, hQ⟩, ⟨hd, cm, wk, hC, hx, hd1, hd2_, hd3, ha⟩, ⟨_, _, _, _, _, hJ⟩, ⟨_, _, _, _, hQt⟩, ⟨_, _, _, _, _, hCt⟩⟩, hF⟩
  · rw [show ms_b (gl_is gl) = 0 from if_neg hgl]
    refine ms_if_ne (tgt := 17) dX5_farthest_4 (by decide) (fun h9 => absurd h9 (by decide)) (fun _ => ?_)
    refine ms_throw dX5_farthest_7 dX5_farthest_10 dX5_farthest_11 dX5_farthest_13 dX5_farthest_16 th_X5_66_146_70 ⟨Nat.le_of_ble_eq_true rfl, Nat.le_of_ble_eq_true rfl⟩ (Nat.le_of_ble_eq_true rfl) (by omega) (by omega) (fun n1 hn1 => ?_)
    exact xq_P.thr hn1 (if_pos hgl)
set_option maxHeartbeats 4000000 in
set_option maxRecDepth 20000 in
theorem c_X5_clock {n x g q c j q2 c2 W H : Nat} {G : ms_H} {nr wl mk ds : Nat → Int32} {cnt : Nat} {dr pa : Int32} {X : cX} (ho : ox x g q c j q2 c2) (hS : xs_at G x g q c j q2 c2 W H nr wl mk ds cnt dr pa X) : ms_M m_X5_clock [.ref x] n G 0 0 (xv_P n (some (.int X.2.2.2)) (fun G1 => xs_at G1 x g q c j q2 c2 W H nr wl mk ds cnt dr pa X ∧ ms_fr x (c2 + 29 - x) G G1)) := by
  refine ms_M.of (by decide) (Nat.le_of_ble_eq_true rfl) ?_
  show ms_W false m_X5_clock _ 0 [(0, .ref x)] [] n G 0 0
  obtain ⟨hX, hG, ⟨qu, hQ⟩, ⟨hd, cm, wk, hC, hx, hd1, hd2_, hd3, ha⟩, ⟨cn, wi, jo, sz, quj, hJ⟩, ⟨wl2, mk2, ds2, qu2, hQt⟩, ⟨hd2, on2, ht2, cm2, wk2, hCt⟩⟩ := hS
  obtain ⟨o1, o2, o3, o4, o5, o6⟩ := ho
  have hF : ms_fr x (c2 + 29 - x) G G := ms_fr.rf
  refine ms_run (pc' := 1) (lv' := [(0, .ref x)]) (st' := [.ref x]) _ (ms_deC dX5_clock_0 ms_deN) rfl rfl ?_
  refine ms_getf dX5_clock_1 fg_X5_30 hX rfl ?_
  refine ms_getf dX5_clock_4 fg_X5_196 hC.1 rfl ?_
  refine ms_reti (st := []) (ty := .int) dX5_clock_7 rfl rfl ?_
  exact ⟨by rw [hd1], rfl, ⟨⟨hX, hG, ⟨_, hQ⟩, ⟨hd, cm, wk, hC, hx, hd1, hd2_, hd3, ha⟩, ⟨_, _, _, _, _, hJ⟩, ⟨_, _, _, _, hQt⟩, ⟨_, _, _, _, _, hCt⟩⟩, hF⟩⟩
set_option maxHeartbeats 4000000 in
set_option maxRecDepth 20000 in
theorem c_X5_tick {n x g q c j q2 c2 W H : Nat} {G : ms_H} {nr wl mk ds : Nat → Int32} {cnt : Nat} {dr pa : Int32} {X : cX} (ho : ox x g q c j q2 c2) (hS : xs_at G x g q c j q2 c2 W H nr wl mk ds cnt dr pa X) (hc : cnt ≤ 24) (hv : hvX (nI (W * H)) cnt X.1) (tt : Int32) : ms_X m_X5_tick [.ref x, .int tt] n G 1 6 (xq_P n G (th_tick tt) (.int (nI (ct (pOut (stXn (nI (W * H)) nr mk ds cnt dr X tt.toNatClampNeg).1) cnt) - nI (ct (pOut X.1) cnt))) (fun G1 => xs_at G1 x g q c j q2 c2 W H nr wl mk ds cnt dr pa (stXn (nI (W * H)) nr mk ds cnt dr X tt.toNatClampNeg) ∧ ms_fr x (c2 + 29 - x) G G1)) := by
  refine ms_X.of (by decide) (Nat.le_of_ble_eq_true rfl) ?_
  show ms_W true m_X5_tick _ 0 [(0, .ref x), (1, .int tt)] [] n G 1 6
  obtain ⟨hX, hG, ⟨qu, hQ⟩, ⟨hd, cm, wk, hC, hx, hd1, hd2_, hd3, ha⟩, ⟨cn, wi, jo, sz, quj, hJ⟩, ⟨wl2, mk2, ds2, qu2, hQt⟩, ⟨hd2, on2, ht2, cm2, wk2, hCt⟩⟩ := hS
  obtain ⟨o1, o2, o3, o4, o5, o6⟩ := ho
  have hF : ms_fr x (c2 + 29 - x) G G := ms_fr.rf
  refine ms_run (pc' := 2) (lv' := [(0, .ref x), (1, .int tt)]) (st' := [.int 1, .int tt]) _ (ms_deC dX5_tick_0 (ms_deC dX5_tick_1 ms_deN)) rfl rfl ?_
  refine ms_icmp_lt (tgt := 11) dX5_tick_2 (by decide) (fun h_2 => ?_) (fun h_2 => ?_)
  · skip
    refine ms_throw dX5_tick_11 dX5_tick_14 dX5_tick_15 dX5_tick_17 dX5_tick_20 th_X5_51_188_55 ⟨Nat.le_of_ble_eq_true rfl, Nat.le_of_ble_eq_true rfl⟩ (Nat.le_of_ble_eq_true rfl) (by omega) (by omega) (fun n1 hn1 => ?_)
    exact xq_P.thr hn1 (by unfold th_tick; grind)
  · skip
    refine ms_run (pc' := 8) (lv' := [(0, .ref x), (1, .int tt)]) (st' := [.int 20, .int tt]) _ (ms_deC dX5_tick_5 (ms_deC dX5_tick_6 ms_deN)) rfl rfl ?_
    refine ms_icmp_le (tgt := 21) dX5_tick_8 (by decide) (fun h_8 => ?_) (fun h_8 => ?_)
    · skip
      refine ms_run (pc' := 22) (lv' := [(0, .ref x), (1, .int tt)]) (st' := [.ref x]) _ (ms_deC dX5_tick_21 ms_deN) rfl rfl ?_
      refine ms_getf dX5_tick_22 fg_X5_30 hX rfl ?_
      refine ms_callVp (As := []) dX5_tick_25 (c_X0_countOut hC hx hc) cv_X5_190 hC.1 rfl ⟨Nat.le_of_ble_eq_true rfl, Nat.le_of_ble_eq_true rfl⟩ rfl (Nat.le_of_ble_eq_true rfl) ?_
      rw [pOut_c ha]
      refine ms_run (pc' := 30) (lv' := [(2, .int (nI (ct (pOut X.1) cnt))), (0, .ref x), (1, .int tt)]) (st' := [.ref x]) _ (ms_deC dX5_tick_28 (ms_deC dX5_tick_29 ms_deN)) rfl rfl ?_
      refine ms_getf dX5_tick_30 fg_X5_30 hX rfl ?_
      refine ms_run (pc' := 34) (lv' := [(2, .int (nI (ct (pOut X.1) cnt))), (0, .ref x), (1, .int tt)]) (st' := [.int tt, .ref c]) _ (ms_deC dX5_tick_33 ms_deN) rfl rfl ?_
      obtain ⟨T, hT, hTe⟩ := nI_of2 (M := 20) (n := 20) rfl (by rw [Int32.not_lt]; exact Int32.le_trans (by decide) (Int32.not_lt.mp h_2)) (by first | exact h_8 | exact Int32.not_lt.mp h_8)
      subst hTe
      rw [nI_clamp (by omega)]
      refine ms_callV0 (As := [.int (nI T)]) dX5_tick_34 (c_X0_outAfter (by omega) (by omega) hc hv (by omega) hG hQ ⟨hd, cm, wk, hC, hx, hd1, hd2_, hd3, ha⟩) cv_X5_193 hC.1 rfl ⟨Nat.le_of_ble_eq_true rfl, Nat.le_of_ble_eq_true rfl⟩ rfl (Nat.le_of_ble_eq_true rfl) (fun v9 n9 K_oa hp9 => ?_)
      obtain ⟨hv9, rfl, hW9, hF_oa⟩ := hp9
      cases hv9
      have hG_1 : gr_at K_oa g (nI (W * H)) (nI W) (nI H) nr := gr_at.fr hG hF_oa (by omega)
      have hQ_2 : sq_at K_oa g q wl mk ds qu := sq_at.fr hQ hF_oa (by omega)
      have hJ_3 : jm_at K_oa j cn wi jo sz quj := jm_at.fr hJ hF_oa (by omega)
      have hQt_4 : sq_at K_oa g q2 wl2 mk2 ds2 qu2 := sq_at.fr hQt hF_oa (by omega)
      have hCt_5 : cr_at K_oa g q2 c2 hd2 on2 ht2 cm2 wk2 := cr_at.fr hCt hF_oa (by omega)
      have hF_6 : ms_fr x (c2 + 29 - x) G K_oa := ms_fr.trans hF (ms_fr.mono hF_oa (by omega) (by omega))
      have hf_7 := (hF_oa x (by omega)).trans hX
      refine ms_run (pc' := 39) (lv' := [(2, .int (nI (ct (pOut X.1) cnt))), (0, .ref x), (1, .int (nI T))]) (st' := [.int ((nI (ct (pOut (stXn (nI (W * H)) nr mk ds cnt dr X T).1) cnt)) - (nI (ct (pOut X.1) cnt)))]) _ (ms_deC dX5_tick_37 (ms_deC dX5_tick_38 ms_deN)) rfl rfl ?_
      refine ms_reti (st := []) (ty := .int) dX5_tick_39 rfl rfl ?_
      exact xq_P.ret (by unfold th_tick; grind) (rfl) ⟨⟨hf_7, hG_1, ⟨_, hQ_2⟩, hW9, ⟨_, _, _, _, _, hJ_3⟩, ⟨_, _, _, _, hQt_4⟩, ⟨_, _, _, _, _, hCt_5⟩⟩, hF_6⟩
    · skip
      refine ms_throw dX5_tick_11 dX5_tick_14 dX5_tick_15 dX5_tick_17 dX5_tick_20 th_X5_51_188_55 ⟨Nat.le_of_ble_eq_true rfl, Nat.le_of_ble_eq_true rfl⟩ (Nat.le_of_ble_eq_true rfl) (by omega) (by omega) (fun n1 hn1 => ?_)
      exact xq_P.thr hn1 (by unfold th_tick; grind)
theorem cr_fig_c {fl : Int32} {ds u v : Nat → Int32} (ha : ∀ j, j < 8 → u j = v j) (k : Nat) (hk : k < 9) : cr_fig fl ds u k = cr_fig fl ds v k := by
  unfold cr_fig
  rw [ha 3 (by omega), ha 0 (by omega), ha 7 (by omega)]
  by_cases h : k < 7
  · rw [if_pos h, if_pos h, ha k (by omega)]
  · rw [if_neg h, if_neg h]
set_option maxHeartbeats 4000000 in
set_option maxRecDepth 20000 in
theorem c_X5_ofWalker {n x g q c j q2 c2 W H : Nat} {G : ms_H} {nr wl mk ds : Nat → Int32} {cnt : Nat} {dr pa : Int32} {X : cX} (ho : ox x g q c j q2 c2) (hS : xs_at G x g q c j q2 c2 W H nr wl mk ds cnt dr pa X) (hc : cnt ≤ 24) (kk wh : Int32) : ms_X m_X5_ofWalker [.ref x, .int kk, .int wh] n G 1 6 (xq_P n G (th_ofw cnt kk (wh < 0 ∨ 8 < wh)) (.int (cr_fig (nI (W * H)) ds (X.1 kk.toNatClampNeg) wh.toNatClampNeg)) (fun G1 => xs_at G1 x g q c j q2 c2 W H nr wl mk ds cnt dr pa X ∧ ms_fr x (c2 + 29 - x) G G1)) := by
  refine ms_X.of (by decide) (Nat.le_of_ble_eq_true rfl) ?_
  show ms_W true m_X5_ofWalker _ 0 [(0, .ref x), (1, .int kk), (2, .int wh)] [] n G 1 6
  obtain ⟨hX, hG, ⟨qu, hQ⟩, ⟨hd, cm, wk, hC, hx, hd1, hd2_, hd3, ha⟩, ⟨cn, wi, jo, sz, quj, hJ⟩, ⟨wl2, mk2, ds2, qu2, hQt⟩, ⟨hd2, on2, ht2, cm2, wk2, hCt⟩⟩ := hS
  obtain ⟨o1, o2, o3, o4, o5, o6⟩ := ho
  have hF : ms_fr x (c2 + 29 - x) G G := ms_fr.rf
  refine ms_run (pc' := 1) (lv' := [(0, .ref x), (1, .int kk), (2, .int wh)]) (st' := [.ref x]) _ (ms_deC dX5_ofWalker_0 ms_deN) rfl rfl ?_
  refine ms_getf dX5_ofWalker_1 fg_X5_30 hX rfl ?_
  refine ms_run (pc' := 5) (lv' := [(0, .ref x), (1, .int kk), (2, .int wh)]) (st' := [.int kk, .ref c]) _ (ms_deC dX5_ofWalker_4 ms_deN) rfl rfl ?_
  refine ms_callVp (As := [.int kk]) dX5_ofWalker_5 (c_X0_get hC kk) cv_X5_109 hC.1 rfl ⟨Nat.le_of_ble_eq_true rfl, Nat.le_of_ble_eq_true rfl⟩ rfl (Nat.le_of_ble_eq_true rfl) ?_
  rw [hx]
  by_cases hpi : pIs (nI cnt) kk
  · rw [show cr_get c (nI cnt) kk = .ref (c + 5 + kk.toNatClampNeg) from if_pos hpi]
    obtain ⟨i, hi, hki⟩ := pIs_nI hc hpi
    subst hki
    rw [nI_clamp (by omega)]
    refine ms_run (pc' := 10) (lv' := [(3, .ref (c + 5 + i)), (0, .ref x), (1, .int (nI i)), (2, .int wh)]) (st' := [.ref (c + 5 + i)]) _ (ms_deC dX5_ofWalker_8 (ms_deC dX5_ofWalker_9 ms_deN)) rfl rfl ?_
    refine ms_ifnonnull (tgt := 23) dX5_ofWalker_10 (by decide) ?_
    refine ms_run (pc' := 24) (lv' := [(3, .ref (c + 5 + i)), (0, .ref x), (1, .int (nI i)), (2, .int wh)]) (st' := [.int wh]) _ (ms_deC dX5_ofWalker_23 ms_deN) rfl rfl ?_
    refine ms_if_lt (tgt := 33) dX5_ofWalker_24 (by decide) (fun h_24 => ?_) (fun h_24 => ?_)
    · skip
      refine ms_throw dX5_ofWalker_33 dX5_ofWalker_36 dX5_ofWalker_37 dX5_ofWalker_39 dX5_ofWalker_42 th_X5_51_199_55 ⟨Nat.le_of_ble_eq_true rfl, Nat.le_of_ble_eq_true rfl⟩ (Nat.le_of_ble_eq_true rfl) (by omega) (by omega) (fun n1 hn1 => ?_)
      exact xq_P.thr hn1 (by unfold th_ofw; rw [if_neg (not_not_intro hpi), if_pos (by first | exact Or.inl (by assumption) | exact Or.inr (by assumption) | exact Or.inr (Int32.not_le.mp (by assumption)))])
    · skip
      refine ms_run (pc' := 30) (lv' := [(3, .ref (c + 5 + i)), (0, .ref x), (1, .int (nI i)), (2, .int wh)]) (st' := [.int 8, .int wh]) _ (ms_deC dX5_ofWalker_27 (ms_deC dX5_ofWalker_28 ms_deN)) rfl rfl ?_
      refine ms_icmp_le (tgt := 43) dX5_ofWalker_30 (by decide) (fun h_30 => ?_) (fun h_30 => ?_)
      · skip
        refine ms_run (pc' := 44) (lv' := [(3, .ref (c + 5 + i)), (0, .ref x), (1, .int (nI i)), (2, .int wh)]) (st' := [.ref x]) _ (ms_deC dX5_ofWalker_43 ms_deN) rfl rfl ?_
        refine ms_getf dX5_ofWalker_44 fg_X5_30 hX rfl ?_
        refine ms_run (pc' := 49) (lv' := [(3, .ref (c + 5 + i)), (0, .ref x), (1, .int (nI i)), (2, .int wh)]) (st' := [.int wh, .ref (c + 5 + i), .ref c]) _ (ms_deC dX5_ofWalker_47 (ms_deC dX5_ofWalker_48 ms_deN)) rfl rfl ?_
        obtain ⟨k9, hk9, hke⟩ := nI_of2 (M := 8) (n := 8) rfl h_24 (by first | exact h_30 | exact Int32.not_lt.mp h_30)
        subst hke
        rw [nI_clamp (by omega)]
        refine ms_callVp (As := [.ref (c + 5 + i), .int (nI k9)]) dX5_ofWalker_49 (c_X0_walkerFigure hG hQ hC (hC.2.2.2.2.2 i (Nat.lt_of_lt_of_le hi hc)) k9 (by omega)) cv_X5_210 hC.1 rfl ⟨Nat.le_of_ble_eq_true rfl, Nat.le_of_ble_eq_true rfl⟩ rfl (Nat.le_of_ble_eq_true rfl) ?_
        rw [cr_fig_c (ha i hi) k9 (by omega)]
        refine ms_reti (st := []) (ty := .int) dX5_ofWalker_52 rfl rfl ?_
        exact xq_P.ret (by unfold th_ofw; rw [if_neg (not_not_intro hpi), if_neg (by rintro (z | z); exact h_24 z; exact (Int32.not_lt.mpr (by first | exact h_30 | exact Int32.not_lt.mp h_30)) z)]) (rfl) ⟨⟨hX, hG, ⟨_, hQ⟩, ⟨hd, cm, wk, hC, hx, hd1, hd2_, hd3, ha⟩, ⟨_, _, _, _, _, hJ⟩, ⟨_, _, _, _, hQt⟩, ⟨_, _, _, _, _, hCt⟩⟩, hF⟩
      · skip
        refine ms_throw dX5_ofWalker_33 dX5_ofWalker_36 dX5_ofWalker_37 dX5_ofWalker_39 dX5_ofWalker_42 th_X5_51_199_55 ⟨Nat.le_of_ble_eq_true rfl, Nat.le_of_ble_eq_true rfl⟩ (Nat.le_of_ble_eq_true rfl) (by omega) (by omega) (fun n1 hn1 => ?_)
        exact xq_P.thr hn1 (by unfold th_ofw; rw [if_neg (not_not_intro hpi), if_pos (by first | exact Or.inl (by assumption) | exact Or.inr (by assumption) | exact Or.inr (Int32.not_le.mp (by assumption)))])
  · rw [show cr_get c (nI cnt) kk = .null from if_neg hpi]
    refine ms_run (pc' := 10) (lv' := [(3, .null), (0, .ref x), (1, .int kk), (2, .int wh)]) (st' := [.null]) _ (ms_deC dX5_ofWalker_8 (ms_deC dX5_ofWalker_9 ms_deN)) rfl rfl ?_
    refine ms_ifnonnullN dX5_ofWalker_10 ?_
    refine ms_throw dX5_ofWalker_13 dX5_ofWalker_16 dX5_ofWalker_17 dX5_ofWalker_19 dX5_ofWalker_22 th_X5_66_208_70 ⟨Nat.le_of_ble_eq_true rfl, Nat.le_of_ble_eq_true rfl⟩ (Nat.le_of_ble_eq_true rfl) (by omega) (by omega) (fun n1 hn1 => ?_)
    exact xq_P.thr hn1 (if_pos hpi)
set_option maxHeartbeats 4000000 in
set_option maxRecDepth 20000 in
theorem c_X5_cost {n x g q c j q2 c2 W H : Nat} {G : ms_H} {nr wl mk ds : Nat → Int32} {cnt : Nat} {dr pa : Int32} {X : cX} (ho : ox x g q c j q2 c2) (hS : xs_at G x g q c j q2 c2 W H nr wl mk ds cnt dr pa X) (hc : cnt ≤ 24) (kk sd : Int32) : ms_X m_X5_cost [.ref x, .int kk, .int sd] n G 1 6 (xq_P n G (th_onw cnt X.1 kk (sd < 0 ∨ 4 < sd)) (.int (cr_cost (nI (W * H)) nr ds X.2.2.1 (hdX cnt dr) X.1 (X.1 kk.toNatClampNeg) sd)) (fun G1 => xs_at G1 x g q c j q2 c2 W H nr wl mk ds cnt dr pa X ∧ ms_fr x (c2 + 29 - x) G G1)) := by
  refine ms_X.of (by decide) (Nat.le_of_ble_eq_true rfl) ?_
  show ms_W true m_X5_cost _ 0 [(0, .ref x), (1, .int kk), (2, .int sd)] [] n G 1 6
  obtain ⟨hX, hG, ⟨qu, hQ⟩, ⟨hd, cm, wk, hC, hx, hd1, hd2_, hd3, ha⟩, ⟨cn, wi, jo, sz, quj, hJ⟩, ⟨wl2, mk2, ds2, qu2, hQt⟩, ⟨hd2, on2, ht2, cm2, wk2, hCt⟩⟩ := hS
  obtain ⟨o1, o2, o3, o4, o5, o6⟩ := ho
  have hF : ms_fr x (c2 + 29 - x) G G := ms_fr.rf
  refine ms_run (pc' := 1) (lv' := [(0, .ref x), (1, .int kk), (2, .int sd)]) (st' := [.ref x]) _ (ms_deC dX5_cost_0 ms_deN) rfl rfl ?_
  refine ms_getf dX5_cost_1 fg_X5_30 hX rfl ?_
  refine ms_run (pc' := 5) (lv' := [(0, .ref x), (1, .int kk), (2, .int sd)]) (st' := [.int kk, .ref c]) _ (ms_deC dX5_cost_4 ms_deN) rfl rfl ?_
  refine ms_callVp (As := [.int kk]) dX5_cost_5 (c_X0_get hC kk) cv_X5_109 hC.1 rfl ⟨Nat.le_of_ble_eq_true rfl, Nat.le_of_ble_eq_true rfl⟩ rfl (Nat.le_of_ble_eq_true rfl) ?_
  rw [hx]
  by_cases hpi : pIs (nI cnt) kk
  · rw [show cr_get c (nI cnt) kk = .ref (c + 5 + kk.toNatClampNeg) from if_pos hpi]
    obtain ⟨i, hi, hki⟩ := pIs_nI hc hpi
    subst hki
    rw [nI_clamp (by omega)]
    refine ms_run (pc' := 10) (lv' := [(3, .ref (c + 5 + i)), (0, .ref x), (1, .int (nI i)), (2, .int sd)]) (st' := [.ref (c + 5 + i)]) _ (ms_deC dX5_cost_8 (ms_deC dX5_cost_9 ms_deN)) rfl rfl ?_
    refine ms_ifnull dX5_cost_10 ?_
    refine ms_run (pc' := 14) (lv' := [(3, .ref (c + 5 + i)), (0, .ref x), (1, .int (nI i)), (2, .int sd)]) (st' := [.ref (c + 5 + i)]) _ (ms_deC dX5_cost_13 ms_deN) rfl rfl ?_
    refine ms_callVp (As := []) dX5_cost_14 (c_X4_isOut (hC.2.2.2.2.2 i (Nat.lt_of_lt_of_le hi hc))) cv_X5_176 (hC.2.2.2.2.2 i (Nat.lt_of_lt_of_le hi hc)) rfl ⟨Nat.le_of_ble_eq_true rfl, Nat.le_of_ble_eq_true rfl⟩ rfl (Nat.le_of_ble_eq_true rfl) ?_
    simp only [ha i hi 3 (by omega)]
    by_cases hout : X.1 i 3 = -1
    · rw [show ms_b (X.1 i 3 = -1) = 1 from if_pos hout]
      refine ms_if_eq (tgt := 30) dX5_cost_17 (by decide) (fun h9 => absurd h9 (by decide)) (fun _ => ?_)
      refine ms_throw dX5_cost_20 dX5_cost_23 dX5_cost_24 dX5_cost_26 dX5_cost_29 th_X5_66_214_70 ⟨Nat.le_of_ble_eq_true rfl, Nat.le_of_ble_eq_true rfl⟩ (Nat.le_of_ble_eq_true rfl) (by omega) (by omega) (fun n1 hn1 => ?_)
      exact xq_P.thr hn1 (if_pos (by first | exact Or.inl hpi | exact Or.inr (by rw [nI_clamp (by omega)]; exact hout)))
    · rw [show ms_b (X.1 i 3 = -1) = 0 from if_neg hout]
      refine ms_if_eq (tgt := 30) dX5_cost_17 (by decide) (fun _ => ?_) (fun h9 => absurd h9 (by decide))
      refine ms_run (pc' := 31) (lv' := [(3, .ref (c + 5 + i)), (0, .ref x), (1, .int (nI i)), (2, .int sd)]) (st' := [.int sd]) _ (ms_deC dX5_cost_30 ms_deN) rfl rfl ?_
      refine ms_if_lt (tgt := 39) dX5_cost_31 (by decide) (fun h_31 => ?_) (fun h_31 => ?_)
      · skip
        refine ms_throw dX5_cost_39 dX5_cost_42 dX5_cost_43 dX5_cost_45 dX5_cost_48 th_X5_51_216_55 ⟨Nat.le_of_ble_eq_true rfl, Nat.le_of_ble_eq_true rfl⟩ (Nat.le_of_ble_eq_true rfl) (by omega) (by omega) (fun n1 hn1 => ?_)
        exact xq_P.thr hn1 (by unfold th_onw; rw [if_neg (by rintro (z | z); exact z hpi; rw [nI_clamp (by omega)] at z; exact hout z), if_pos (by first | exact Or.inl (by assumption) | exact Or.inr (by assumption) | exact Or.inr (Int32.not_le.mp (by assumption)))])
      · skip
        refine ms_run (pc' := 36) (lv' := [(3, .ref (c + 5 + i)), (0, .ref x), (1, .int (nI i)), (2, .int sd)]) (st' := [.int 4, .int sd]) _ (ms_deC dX5_cost_34 (ms_deC dX5_cost_35 ms_deN)) rfl rfl ?_
        refine ms_icmp_le (tgt := 49) dX5_cost_36 (by decide) (fun h_36 => ?_) (fun h_36 => ?_)
        · skip
          refine ms_run (pc' := 50) (lv' := [(3, .ref (c + 5 + i)), (0, .ref x), (1, .int (nI i)), (2, .int sd)]) (st' := [.ref x]) _ (ms_deC dX5_cost_49 ms_deN) rfl rfl ?_
          refine ms_getf dX5_cost_50 fg_X5_30 hX rfl ?_
          refine ms_run (pc' := 55) (lv' := [(3, .ref (c + 5 + i)), (0, .ref x), (1, .int (nI i)), (2, .int sd)]) (st' := [.int sd, .ref (c + 5 + i), .ref c]) _ (ms_deC dX5_cost_53 (ms_deC dX5_cost_54 ms_deN)) rfl rfl ?_
          refine ms_callVp (As := [.ref (c + 5 + i), .int sd]) dX5_cost_55 (c_X0_costOf hG hQ hC (hC.2.2.2.2.2 i (Nat.lt_of_lt_of_le hi hc)) sd) cv_X5_218 hC.1 rfl ⟨Nat.le_of_ble_eq_true rfl, Nat.le_of_ble_eq_true rfl⟩ rfl (Nat.le_of_ble_eq_true rfl) ?_
          rw [cr_cost_c (hd' := hdX cnt dr) hc hx rfl hd2_ ha (ha i hi)]
          refine ms_reti (st := []) (ty := .int) dX5_cost_58 rfl rfl ?_
          exact xq_P.ret (by unfold th_onw; rw [if_neg (by rintro (z | z); exact z hpi; rw [nI_clamp (by omega)] at z; exact hout z), if_neg (by rintro (z | z); exact h_31 z; exact (Int32.not_lt.mpr (by first | exact h_36 | exact Int32.not_lt.mp h_36)) z)]) (rfl) ⟨⟨hX, hG, ⟨_, hQ⟩, ⟨hd, cm, wk, hC, hx, hd1, hd2_, hd3, ha⟩, ⟨_, _, _, _, _, hJ⟩, ⟨_, _, _, _, hQt⟩, ⟨_, _, _, _, _, hCt⟩⟩, hF⟩
        · skip
          refine ms_throw dX5_cost_39 dX5_cost_42 dX5_cost_43 dX5_cost_45 dX5_cost_48 th_X5_51_216_55 ⟨Nat.le_of_ble_eq_true rfl, Nat.le_of_ble_eq_true rfl⟩ (Nat.le_of_ble_eq_true rfl) (by omega) (by omega) (fun n1 hn1 => ?_)
          exact xq_P.thr hn1 (by unfold th_onw; rw [if_neg (by rintro (z | z); exact z hpi; rw [nI_clamp (by omega)] at z; exact hout z), if_pos (by first | exact Or.inl (by assumption) | exact Or.inr (by assumption) | exact Or.inr (Int32.not_le.mp (by assumption)))])
  · rw [show cr_get c (nI cnt) kk = .null from if_neg hpi]
    refine ms_run (pc' := 10) (lv' := [(3, .null), (0, .ref x), (1, .int kk), (2, .int sd)]) (st' := [.null]) _ (ms_deC dX5_cost_8 (ms_deC dX5_cost_9 ms_deN)) rfl rfl ?_
    refine ms_ifnullN (tgt := 20) dX5_cost_10 (by decide) ?_
    refine ms_throw dX5_cost_20 dX5_cost_23 dX5_cost_24 dX5_cost_26 dX5_cost_29 th_X5_66_214_70 ⟨Nat.le_of_ble_eq_true rfl, Nat.le_of_ble_eq_true rfl⟩ (Nat.le_of_ble_eq_true rfl) (by omega) (by omega) (fun n1 hn1 => ?_)
    exact xq_P.thr hn1 (if_pos (by first | exact Or.inl hpi | exact Or.inr (by rw [nI_clamp (by omega)]; exact hout)))
def th_wan (cnt : Nat) (u : Nat → Nat → Int32) (k : Int32) : Option String := if ¬ pIs (nI cnt) k ∨ u k.toNatClampNeg 3 = -1 then some IOB else none
set_option maxHeartbeats 4000000 in
set_option maxRecDepth 20000 in
theorem c_X5_wants {n x g q c j q2 c2 W H : Nat} {G : ms_H} {nr wl mk ds : Nat → Int32} {cnt : Nat} {dr pa : Int32} {X : cX} (ho : ox x g q c j q2 c2) (hS : xs_at G x g q c j q2 c2 W H nr wl mk ds cnt dr pa X) (hc : cnt ≤ 24) (kk : Int32) : ms_X m_X5_wants [.ref x, .int kk] n G 1 6 (xq_P n G (th_wan cnt X.1 kk) (.int (bsX (nI (W * H)) nr ds cnt dr X.2.2.1 X.1 kk.toNatClampNeg)) (fun G1 => xs_at G1 x g q c j q2 c2 W H nr wl mk ds cnt dr pa X ∧ ms_fr x (c2 + 29 - x) G G1)) := by
  refine ms_X.of (by decide) (Nat.le_of_ble_eq_true rfl) ?_
  show ms_W true m_X5_wants _ 0 [(0, .ref x), (1, .int kk)] [] n G 1 6
  obtain ⟨hX, hG, ⟨qu, hQ⟩, ⟨hd, cm, wk, hC, hx, hd1, hd2_, hd3, ha⟩, ⟨cn, wi, jo, sz, quj, hJ⟩, ⟨wl2, mk2, ds2, qu2, hQt⟩, ⟨hd2, on2, ht2, cm2, wk2, hCt⟩⟩ := hS
  obtain ⟨o1, o2, o3, o4, o5, o6⟩ := ho
  have hF : ms_fr x (c2 + 29 - x) G G := ms_fr.rf
  refine ms_run (pc' := 1) (lv' := [(0, .ref x), (1, .int kk)]) (st' := [.ref x]) _ (ms_deC dX5_wants_0 ms_deN) rfl rfl ?_
  refine ms_getf dX5_wants_1 fg_X5_30 hX rfl ?_
  refine ms_run (pc' := 5) (lv' := [(0, .ref x), (1, .int kk)]) (st' := [.int kk, .ref c]) _ (ms_deC dX5_wants_4 ms_deN) rfl rfl ?_
  refine ms_callVp (As := [.int kk]) dX5_wants_5 (c_X0_get hC kk) cv_X5_109 hC.1 rfl ⟨Nat.le_of_ble_eq_true rfl, Nat.le_of_ble_eq_true rfl⟩ rfl (Nat.le_of_ble_eq_true rfl) ?_
  rw [hx]
  by_cases hpi : pIs (nI cnt) kk
  · rw [show cr_get c (nI cnt) kk = .ref (c + 5 + kk.toNatClampNeg) from if_pos hpi]
    obtain ⟨i, hi, hki⟩ := pIs_nI hc hpi
    subst hki
    rw [nI_clamp (by omega)]
    refine ms_run (pc' := 10) (lv' := [(2, .ref (c + 5 + i)), (0, .ref x), (1, .int (nI i))]) (st' := [.ref (c + 5 + i)]) _ (ms_deC dX5_wants_8 (ms_deC dX5_wants_9 ms_deN)) rfl rfl ?_
    refine ms_ifnull dX5_wants_10 ?_
    refine ms_run (pc' := 14) (lv' := [(2, .ref (c + 5 + i)), (0, .ref x), (1, .int (nI i))]) (st' := [.ref (c + 5 + i)]) _ (ms_deC dX5_wants_13 ms_deN) rfl rfl ?_
    refine ms_callVp (As := []) dX5_wants_14 (c_X4_isOut (hC.2.2.2.2.2 i (Nat.lt_of_lt_of_le hi hc))) cv_X5_176 (hC.2.2.2.2.2 i (Nat.lt_of_lt_of_le hi hc)) rfl ⟨Nat.le_of_ble_eq_true rfl, Nat.le_of_ble_eq_true rfl⟩ rfl (Nat.le_of_ble_eq_true rfl) ?_
    simp only [ha i hi 3 (by omega)]
    by_cases hout : X.1 i 3 = -1
    · rw [show ms_b (X.1 i 3 = -1) = 1 from if_pos hout]
      refine ms_if_eq (tgt := 30) dX5_wants_17 (by decide) (fun h9 => absurd h9 (by decide)) (fun _ => ?_)
      refine ms_throw dX5_wants_20 dX5_wants_23 dX5_wants_24 dX5_wants_26 dX5_wants_29 th_X5_66_214_70 ⟨Nat.le_of_ble_eq_true rfl, Nat.le_of_ble_eq_true rfl⟩ (Nat.le_of_ble_eq_true rfl) (by omega) (by omega) (fun n1 hn1 => ?_)
      exact xq_P.thr hn1 (if_pos (by first | exact Or.inl hpi | exact Or.inr (by rw [nI_clamp (by omega)]; exact hout)))
    · rw [show ms_b (X.1 i 3 = -1) = 0 from if_neg hout]
      refine ms_if_eq (tgt := 30) dX5_wants_17 (by decide) (fun _ => ?_) (fun h9 => absurd h9 (by decide))
      refine ms_run (pc' := 31) (lv' := [(2, .ref (c + 5 + i)), (0, .ref x), (1, .int (nI i))]) (st' := [.ref x]) _ (ms_deC dX5_wants_30 ms_deN) rfl rfl ?_
      refine ms_getf dX5_wants_31 fg_X5_30 hX rfl ?_
      refine ms_run (pc' := 35) (lv' := [(2, .ref (c + 5 + i)), (0, .ref x), (1, .int (nI i))]) (st' := [.ref (c + 5 + i), .ref c]) _ (ms_deC dX5_wants_34 ms_deN) rfl rfl ?_
      refine ms_callVp (As := [.ref (c + 5 + i)]) dX5_wants_35 (c_X0_bestSide hG hQ hC (hC.2.2.2.2.2 i (Nat.lt_of_lt_of_le hi hc))) cv_X5_221 hC.1 rfl ⟨Nat.le_of_ble_eq_true rfl, Nat.le_of_ble_eq_true rfl⟩ rfl (Nat.le_of_ble_eq_true rfl) ?_
      rw [show (cr_bs (fun j => cr_cost (nI (W * H)) nr ds X.2.2.1 hd wk (wk i) (nI j)) 5).1 = bsX (nI (W * H)) nr ds cnt dr X.2.2.1 X.1 i from by unfold bsX; congr 2; funext j; exact cr_cost_c hc hx rfl hd2_ ha (ha i hi)]
      refine ms_reti (st := []) (ty := .int) dX5_wants_38 rfl rfl ?_
      exact xq_P.ret (if_neg (by rintro (z | z); exact z hpi; rw [nI_clamp (by omega)] at z; exact hout z)) (rfl) ⟨⟨hX, hG, ⟨_, hQ⟩, ⟨hd, cm, wk, hC, hx, hd1, hd2_, hd3, ha⟩, ⟨_, _, _, _, _, hJ⟩, ⟨_, _, _, _, hQt⟩, ⟨_, _, _, _, _, hCt⟩⟩, hF⟩
  · rw [show cr_get c (nI cnt) kk = .null from if_neg hpi]
    refine ms_run (pc' := 10) (lv' := [(2, .null), (0, .ref x), (1, .int kk)]) (st' := [.null]) _ (ms_deC dX5_wants_8 (ms_deC dX5_wants_9 ms_deN)) rfl rfl ?_
    refine ms_ifnullN (tgt := 20) dX5_wants_10 (by decide) ?_
    refine ms_throw dX5_wants_20 dX5_wants_23 dX5_wants_24 dX5_wants_26 dX5_wants_29 th_X5_66_214_70 ⟨Nat.le_of_ble_eq_true rfl, Nat.le_of_ble_eq_true rfl⟩ (Nat.le_of_ble_eq_true rfl) (by omega) (by omega) (fun n1 hn1 => ?_)
    exact xq_P.thr hn1 (if_pos (by first | exact Or.inl hpi | exact Or.inr (by rw [nI_clamp (by omega)]; exact hout)))
def wyX (fl : Int32) (nr ds u : Nat → Int32) (k : Nat) : Int32 := if sq_ds fl ds (u 0) (u 3) < nI k then -1 else sq_way fl nr ds (u 0) (u 3) k
set_option maxHeartbeats 4000000 in
set_option maxRecDepth 20000 in
theorem c_X5_way {n x g q c j q2 c2 W H : Nat} {G : ms_H} {nr wl mk ds : Nat → Int32} {cnt : Nat} {dr pa : Int32} {X : cX} (ho : ox x g q c j q2 c2) (hS : xs_at G x g q c j q2 c2 W H nr wl mk ds cnt dr pa X) (hc : cnt ≤ 24) (kk st9 : Int32) : ms_X m_X5_way [.ref x, .int kk, .int st9] n G 1 6 (xq_P n G (th_onw cnt X.1 kk (st9 < 0)) (.int (wyX (nI (W * H)) nr ds (X.1 kk.toNatClampNeg) st9.toNatClampNeg)) (fun G1 => xs_at G1 x g q c j q2 c2 W H nr wl mk ds cnt dr pa X ∧ ms_fr x (c2 + 29 - x) G G1)) := by
  refine ms_X.of (by decide) (Nat.le_of_ble_eq_true rfl) ?_
  show ms_W true m_X5_way _ 0 [(0, .ref x), (1, .int kk), (2, .int st9)] [] n G 1 6
  obtain ⟨hX, hG, ⟨qu, hQ⟩, ⟨hd, cm, wk, hC, hx, hd1, hd2_, hd3, ha⟩, ⟨cn, wi, jo, sz, quj, hJ⟩, ⟨wl2, mk2, ds2, qu2, hQt⟩, ⟨hd2, on2, ht2, cm2, wk2, hCt⟩⟩ := hS
  obtain ⟨o1, o2, o3, o4, o5, o6⟩ := ho
  have hF : ms_fr x (c2 + 29 - x) G G := ms_fr.rf
  refine ms_run (pc' := 1) (lv' := [(0, .ref x), (1, .int kk), (2, .int st9)]) (st' := [.ref x]) _ (ms_deC dX5_way_0 ms_deN) rfl rfl ?_
  refine ms_getf dX5_way_1 fg_X5_30 hX rfl ?_
  refine ms_run (pc' := 5) (lv' := [(0, .ref x), (1, .int kk), (2, .int st9)]) (st' := [.int kk, .ref c]) _ (ms_deC dX5_way_4 ms_deN) rfl rfl ?_
  refine ms_callVp (As := [.int kk]) dX5_way_5 (c_X0_get hC kk) cv_X5_109 hC.1 rfl ⟨Nat.le_of_ble_eq_true rfl, Nat.le_of_ble_eq_true rfl⟩ rfl (Nat.le_of_ble_eq_true rfl) ?_
  rw [hx]
  by_cases hpi : pIs (nI cnt) kk
  · rw [show cr_get c (nI cnt) kk = .ref (c + 5 + kk.toNatClampNeg) from if_pos hpi]
    obtain ⟨i, hi, hki⟩ := pIs_nI hc hpi
    subst hki
    rw [nI_clamp (by omega)]
    refine ms_run (pc' := 10) (lv' := [(3, .ref (c + 5 + i)), (0, .ref x), (1, .int (nI i)), (2, .int st9)]) (st' := [.ref (c + 5 + i)]) _ (ms_deC dX5_way_8 (ms_deC dX5_way_9 ms_deN)) rfl rfl ?_
    refine ms_ifnull dX5_way_10 ?_
    refine ms_run (pc' := 14) (lv' := [(3, .ref (c + 5 + i)), (0, .ref x), (1, .int (nI i)), (2, .int st9)]) (st' := [.ref (c + 5 + i)]) _ (ms_deC dX5_way_13 ms_deN) rfl rfl ?_
    refine ms_callVp (As := []) dX5_way_14 (c_X4_isOut (hC.2.2.2.2.2 i (Nat.lt_of_lt_of_le hi hc))) cv_X5_176 (hC.2.2.2.2.2 i (Nat.lt_of_lt_of_le hi hc)) rfl ⟨Nat.le_of_ble_eq_true rfl, Nat.le_of_ble_eq_true rfl⟩ rfl (Nat.le_of_ble_eq_true rfl) ?_
    simp only [ha i hi 3 (by omega)]
    by_cases hout : X.1 i 3 = -1
    · rw [show ms_b (X.1 i 3 = -1) = 1 from if_pos hout]
      refine ms_if_eq (tgt := 30) dX5_way_17 (by decide) (fun h9 => absurd h9 (by decide)) (fun _ => ?_)
      refine ms_throw dX5_way_20 dX5_way_23 dX5_way_24 dX5_way_26 dX5_way_29 th_X5_66_214_70 ⟨Nat.le_of_ble_eq_true rfl, Nat.le_of_ble_eq_true rfl⟩ (Nat.le_of_ble_eq_true rfl) (by omega) (by omega) (fun n1 hn1 => ?_)
      exact xq_P.thr hn1 (if_pos (by first | exact Or.inl hpi | exact Or.inr (by rw [nI_clamp (by omega)]; exact hout)))
    · rw [show ms_b (X.1 i 3 = -1) = 0 from if_neg hout]
      refine ms_if_eq (tgt := 30) dX5_way_17 (by decide) (fun _ => ?_) (fun h9 => absurd h9 (by decide))
      refine ms_run (pc' := 31) (lv' := [(3, .ref (c + 5 + i)), (0, .ref x), (1, .int (nI i)), (2, .int st9)]) (st' := [.int st9]) _ (ms_deC dX5_way_30 ms_deN) rfl rfl ?_
      refine ms_if_ge (tgt := 44) dX5_way_31 (by decide) (fun h_31 => ?_) (fun h_31 => ?_)
      · skip
        refine ms_run (pc' := 45) (lv' := [(3, .ref (c + 5 + i)), (0, .ref x), (1, .int (nI i)), (2, .int st9)]) (st' := [.ref x]) _ (ms_deC dX5_way_44 ms_deN) rfl rfl ?_
        refine ms_getf dX5_way_45 fg_X5_21 hX rfl ?_
        refine ms_run (pc' := 49) (lv' := [(3, .ref (c + 5 + i)), (0, .ref x), (1, .int (nI i)), (2, .int st9)]) (st' := [.ref (c + 5 + i), .ref q]) _ (ms_deC dX5_way_48 ms_deN) rfl rfl ?_
        refine ms_getf (v := .int (wk i 0)) dX5_way_49 fg_X5_113 (hC.2.2.2.2.2 i (Nat.lt_of_lt_of_le hi hc)) rfl ?_
        refine ms_run (pc' := 53) (lv' := [(3, .ref (c + 5 + i)), (0, .ref x), (1, .int (nI i)), (2, .int st9)]) (st' := [.ref (c + 5 + i), .int (wk i 0), .ref q]) _ (ms_deC dX5_way_52 ms_deN) rfl rfl ?_
        refine ms_getf (v := .int (wk i 3)) dX5_way_53 fg_X5_180 (hC.2.2.2.2.2 i (Nat.lt_of_lt_of_le hi hc)) rfl ?_
        refine ms_run (pc' := 57) (lv' := [(3, .ref (c + 5 + i)), (0, .ref x), (1, .int (nI i)), (2, .int st9)]) (st' := [.int st9, .int (wk i 3), .int (wk i 0), .ref q]) _ (ms_deC dX5_way_56 ms_deN) rfl rfl ?_
        obtain ⟨m9, hm9, hme⟩ := nI_of (by first | exact h_31 | exact Int32.not_lt.mpr h_31)
        subst hme
        rw [nI_clamp hm9]
        refine ms_callVp (As := [.int (wk i 0), .int (wk i 3), .int (nI m9)]) dX5_way_57 (c_X3_fieldOnWay hG hQ (wk i 0) (wk i 3) hm9) cv_X5_227 hQ.1 rfl ⟨Nat.le_of_ble_eq_true rfl, Nat.le_of_ble_eq_true rfl⟩ rfl (Nat.le_of_ble_eq_true rfl) ?_
        rw [ha i hi 0 (by omega), ha i hi 3 (by omega)]
        refine ms_reti (st := []) (ty := .int) dX5_way_60 rfl rfl ?_
        exact xq_P.ret (by unfold th_onw; rw [if_neg (by rintro (z | z); exact z hpi; rw [nI_clamp (by omega)] at z; exact hout z), if_neg (by first | exact h_31 | exact Int32.not_lt.mpr h_31 | exact nI_pos hm9)]) (rfl) ⟨⟨hX, hG, ⟨_, hQ⟩, ⟨hd, cm, wk, hC, hx, hd1, hd2_, hd3, ha⟩, ⟨_, _, _, _, _, hJ⟩, ⟨_, _, _, _, hQt⟩, ⟨_, _, _, _, _, hCt⟩⟩, hF⟩
      · skip
        refine ms_throw dX5_way_34 dX5_way_37 dX5_way_38 dX5_way_40 dX5_way_43 th_X5_51_225_55 ⟨Nat.le_of_ble_eq_true rfl, Nat.le_of_ble_eq_true rfl⟩ (Nat.le_of_ble_eq_true rfl) (by omega) (by omega) (fun n1 hn1 => ?_)
        exact xq_P.thr hn1 (by unfold th_onw; rw [if_neg (by rintro (z | z); exact z hpi; rw [nI_clamp (by omega)] at z; exact hout z), if_pos (by first | exact h_31 | exact Int32.not_le.mp h_31)])
  · rw [show cr_get c (nI cnt) kk = .null from if_neg hpi]
    refine ms_run (pc' := 10) (lv' := [(3, .null), (0, .ref x), (1, .int kk), (2, .int st9)]) (st' := [.null]) _ (ms_deC dX5_way_8 (ms_deC dX5_way_9 ms_deN)) rfl rfl ?_
    refine ms_ifnullN (tgt := 20) dX5_way_10 (by decide) ?_
    refine ms_throw dX5_way_20 dX5_way_23 dX5_way_24 dX5_way_26 dX5_way_29 th_X5_66_214_70 ⟨Nat.le_of_ble_eq_true rfl, Nat.le_of_ble_eq_true rfl⟩ (Nat.le_of_ble_eq_true rfl) (by omega) (by omega) (fun n1 hn1 => ?_)
    exact xq_P.thr hn1 (if_pos (by first | exact Or.inl hpi | exact Or.inr (by rw [nI_clamp (by omega)]; exact hout)))
set_option maxHeartbeats 4000000 in
set_option maxRecDepth 20000 in
theorem c_X5_reset {n x g q c j q2 c2 W H : Nat} {G : ms_H} {nr wl mk ds : Nat → Int32} {cnt : Nat} {dr pa : Int32} {X : cX} (ho : ox x g q c j q2 c2) (hS : xs_at G x g q c j q2 c2 W H nr wl mk ds cnt dr pa X) (aw bh : Int32) : ms_X m_X5_reset [.ref x, .int aw, .int bh] n G 1 6 (xq_P n G (th_reset aw bh) (.int (nI (aw.toNatClampNeg * bh.toNatClampNeg))) (fun G1 => ∃ nr9, lk_ok aw.toNatClampNeg bh.toNatClampNeg (aw.toNatClampNeg * bh.toNatClampNeg) nr9 ∧ xs_at G1 x g q c j q2 c2 aw.toNatClampNeg bh.toNatClampNeg nr9 (fun _ => 0) (fun _ => 0) (fun _ => -1) 0 dr pa ((fun _ _ => 0), (fun _ => 0), (fun _ => -1), 0) ∧ ms_fr x (c2 + 29 - x) G G1)) := by
  refine ms_X.of (by decide) (Nat.le_of_ble_eq_true rfl) ?_
  show ms_W true m_X5_reset _ 0 [(0, .ref x), (1, .int aw), (2, .int bh)] [] n G 1 6
  obtain ⟨hX, hG, ⟨qu, hQ⟩, ⟨hd, cm, wk, hC, hx, hd1, hd2_, hd3, ha⟩, ⟨cn, wi, jo, sz, quj, hJ⟩, ⟨wl2, mk2, ds2, qu2, hQt⟩, ⟨hd2, on2, ht2, cm2, wk2, hCt⟩⟩ := hS
  obtain ⟨o1, o2, o3, o4, o5, o6⟩ := ho
  have hF : ms_fr x (c2 + 29 - x) G G := ms_fr.rf
  refine ms_run (pc' := 2) (lv' := [(0, .ref x), (1, .int aw), (2, .int bh)]) (st' := [.int 2, .int aw]) _ (ms_deC dX5_reset_0 (ms_deC dX5_reset_1 ms_deN)) rfl rfl ?_
  refine ms_icmp_lt (tgt := 22) dX5_reset_2 (by decide) (fun h_2 => ?_) (fun h_2 => ?_)
  · skip
    refine ms_throw dX5_reset_22 dX5_reset_25 dX5_reset_26 dX5_reset_28 dX5_reset_31 th_X5_51_53_55 ⟨Nat.le_of_ble_eq_true rfl, Nat.le_of_ble_eq_true rfl⟩ (Nat.le_of_ble_eq_true rfl) (by omega) (by omega) (fun n1 hn1 => ?_)
    exact xq_P.thr hn1 (by unfold th_reset; grind)
  · skip
    refine ms_run (pc' := 8) (lv' := [(0, .ref x), (1, .int aw), (2, .int bh)]) (st' := [.int 14, .int aw]) _ (ms_deC dX5_reset_5 (ms_deC dX5_reset_6 ms_deN)) rfl rfl ?_
    refine ms_icmp_gt (tgt := 22) dX5_reset_8 (by decide) (fun h_8 => ?_) (fun h_8 => ?_)
    · skip
      refine ms_throw dX5_reset_22 dX5_reset_25 dX5_reset_26 dX5_reset_28 dX5_reset_31 th_X5_51_53_55 ⟨Nat.le_of_ble_eq_true rfl, Nat.le_of_ble_eq_true rfl⟩ (Nat.le_of_ble_eq_true rfl) (by omega) (by omega) (fun n1 hn1 => ?_)
      exact xq_P.thr hn1 (by unfold th_reset; grind)
    · skip
      refine ms_run (pc' := 13) (lv' := [(0, .ref x), (1, .int aw), (2, .int bh)]) (st' := [.int 2, .int bh]) _ (ms_deC dX5_reset_11 (ms_deC dX5_reset_12 ms_deN)) rfl rfl ?_
      refine ms_icmp_lt (tgt := 22) dX5_reset_13 (by decide) (fun h_13 => ?_) (fun h_13 => ?_)
      · skip
        refine ms_throw dX5_reset_22 dX5_reset_25 dX5_reset_26 dX5_reset_28 dX5_reset_31 th_X5_51_53_55 ⟨Nat.le_of_ble_eq_true rfl, Nat.le_of_ble_eq_true rfl⟩ (Nat.le_of_ble_eq_true rfl) (by omega) (by omega) (fun n1 hn1 => ?_)
        exact xq_P.thr hn1 (by unfold th_reset; grind)
      · skip
        refine ms_run (pc' := 19) (lv' := [(0, .ref x), (1, .int aw), (2, .int bh)]) (st' := [.int 14, .int bh]) _ (ms_deC dX5_reset_16 (ms_deC dX5_reset_17 ms_deN)) rfl rfl ?_
        refine ms_icmp_le (tgt := 32) dX5_reset_19 (by decide) (fun h_19 => ?_) (fun h_19 => ?_)
        · skip
          refine ms_run (pc' := 35) (lv' := [(0, .ref x), (1, .int aw), (2, .int bh)]) (st' := [.int bh, .int aw, .ref x]) _ (ms_deC dX5_reset_32 (ms_deC dX5_reset_33 (ms_deC dX5_reset_34 ms_deN))) rfl rfl ?_
          obtain ⟨W2, hW2, hWe⟩ := nI_of2 (M := 14) (n := 14) rfl (by rw [Int32.not_lt]; exact Int32.le_trans (by decide) (Int32.not_lt.mp h_2)) (by first | exact h_8 | exact Int32.not_lt.mp h_8)
          subst hWe
          obtain ⟨H2, hH2, hHe⟩ := nI_of2 (M := 14) (n := 14) rfl (by rw [Int32.not_lt]; exact Int32.le_trans (by decide) (Int32.not_lt.mp h_13)) (by first | exact h_19 | exact Int32.not_lt.mp h_19)
          subst hHe
          rw [nI_clamp (by omega), nI_clamp (by omega)]
          refine ms_callV0 (As := [.int (nI W2), .int (nI H2)]) dX5_reset_35 (c_X5_makeNew ⟨o1, o2, o3, o4, o5, o6⟩ hX hG hQ hC hW2 hH2) cv_X5_47 hX rfl ⟨Nat.le_of_ble_eq_true rfl, Nat.le_of_ble_eq_true rfl⟩ rfl (Nat.le_of_ble_eq_true rfl) (fun v9 n9 K_mn hp9 => ?_)
          obtain ⟨hv9, rfl, ⟨nr9, hG9, hL9⟩, ⟨qu9, hQ9⟩, ⟨cm9, hC9⟩, hF_mn⟩ := hp9
          cases hv9
          have hJ_1 : jm_at K_mn j cn wi jo sz quj := jm_at.fr hJ hF_mn (by omega)
          have hQt_2 : sq_at K_mn g q2 wl2 mk2 ds2 qu2 := sq_at.fr hQt hF_mn (by omega)
          have hCt_3 : cr_at K_mn g q2 c2 hd2 on2 ht2 cm2 wk2 := cr_at.fr hCt hF_mn (by omega)
          have hF_4 : ms_fr x (c2 + 29 - x) G K_mn := ms_fr.trans hF (ms_fr.mono hF_mn (by omega) (by omega))
          have hf_5 := (hF_mn x (by omega)).trans hX
          refine ms_run (pc' := 39) (lv' := [(0, .ref x), (1, .int (nI W2)), (2, .int (nI H2))]) (st' := [.ref x]) _ (ms_deC dX5_reset_38 ms_deN) rfl rfl ?_
          refine ms_getf dX5_reset_39 fg_X5_10 hf_5 rfl ?_
          refine ms_getf dX5_reset_42 fg_X5_58 hG9.1 rfl ?_
          refine ms_reti (st := []) (ty := .int) dX5_reset_45 rfl rfl ?_
          exact xq_P.ret (by unfold th_reset; grind) rfl ⟨nr9, hL9, ⟨hf_5, hG9, ⟨_, hQ9⟩, ⟨h4 0 0 (hd 2) (hd 3), cm9, wk, hC9, rfl, rfl, hd2_, hd3, fun k hk => absurd hk (Nat.not_lt_zero k)⟩, ⟨_, _, _, _, _, hJ_1⟩, ⟨_, _, _, _, hQt_2⟩, ⟨_, _, _, _, _, hCt_3⟩⟩, hF_4⟩
        · skip
          refine ms_throw dX5_reset_22 dX5_reset_25 dX5_reset_26 dX5_reset_28 dX5_reset_31 th_X5_51_53_55 ⟨Nat.le_of_ble_eq_true rfl, Nat.le_of_ble_eq_true rfl⟩ (Nat.le_of_ble_eq_true rfl) (by omega) (by omega) (fun n1 hn1 => ?_)
          exact xq_P.thr hn1 (by unfold th_reset; grind)

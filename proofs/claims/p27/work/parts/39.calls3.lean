/-! StarlingSquare: the calls (3): field, many, jam, meanSteps, walker, turnTo, mark -/
def ffX (fl : Int32) (nr wl : Nat → Int32) (X : cX) (f : Int32) (k : Nat) : Int32 := if k = 0 then (if sq_fr fl wl f then 0 else 1) else if k = 1 then cr_on X.2.2.1 f else if k = 2 then cr_ht X.2.1 f else cRound nr X.2.2.1 f
def th_fld (W H : Nat) (a b wh : Int32) : Option String := if gr_num (nI W) (nI H) a b = -1 then some IOB else if wh < 0 ∨ 3 < wh then some IAE else none
set_option maxHeartbeats 2000000 in
set_option maxRecDepth 20000 in
theorem c_X5_fieldFigure_0 {n x g q c j q2 c2 W H : Nat} {G : ms_H} {nr wl mk ds qu hd cm : Nat → Int32} {wk : Nat → Nat → Int32} {X : cX} (hX : G x = some (.inr (5, [.ref g, .ref q, .ref c, .ref j, .ref q2, .ref c2]))) (hG : gr_at G g (nI (W * H)) (nI W) (nI H) nr) (hQ : sq_at G g q wl mk ds qu) (hC : cr_at G g q c hd X.2.2.1 X.2.1 cm wk) (f : Int32) : ms_M m_X5_fieldFigure [.ref x, .int f, .int 0] n G 0 0 (ms_p1 (some (.int (ffX (nI (W * H)) nr wl X f 0))) n G) := by
  refine ms_M.of (by decide) (Nat.le_of_ble_eq_true rfl) ?_
  show ms_W false m_X5_fieldFigure _ 0 [(0, .ref x), (1, .int f), (2, .int 0)] [] n G 0 0
  refine ms_run (pc' := 1) (lv' := [(0, .ref x), (1, .int f), (2, .int 0)]) (st' := [.int 0]) _ (ms_deC dX5_fieldFigure_0 ms_deN) rfl rfl ?_
  refine ms_tabIn (off := 27) (tgt := 28) dX5_fieldFigure_1 (by decide) (by decide) (by decide) (by decide) ?_
  refine ms_run (pc' := 29) (lv' := [(0, .ref x), (1, .int f), (2, .int 0)]) (st' := [.ref x]) _ (ms_deC dX5_fieldFigure_28 ms_deN) rfl rfl ?_
  refine ms_getf dX5_fieldFigure_29 fg_X5_21 hX rfl ?_
  refine ms_run (pc' := 33) (lv' := [(0, .ref x), (1, .int f), (2, .int 0)]) (st' := [.int f, .ref q]) _ (ms_deC dX5_fieldFigure_32 ms_deN) rfl rfl ?_
  refine ms_callVp (As := [.int f]) dX5_fieldFigure_33 (c_X3_isFree hG hQ f) cv_X5_156 hQ.1 rfl ⟨Nat.le_of_ble_eq_true rfl, Nat.le_of_ble_eq_true rfl⟩ rfl (Nat.le_of_ble_eq_true rfl) ?_
  by_cases hfr : sq_fr (nI (W * H)) wl f
  · rw [show ms_b (sq_fr (nI (W * H)) wl f) = 1 from if_pos hfr]
    refine ms_if_eq (tgt := 43) dX5_fieldFigure_36 (by decide) (fun h9 => absurd h9 (by decide)) (fun _ => ?_)
    refine ms_run (pc' := 40) (lv' := [(0, .ref x), (1, .int f), (2, .int 0)]) (st' := [.int 0]) _ (ms_deC dX5_fieldFigure_39 ms_deN) rfl rfl ?_
    refine ms_goto (tgt := 44) dX5_fieldFigure_40 (by decide) ?_
    refine ms_reti (st := []) (ty := .int) dX5_fieldFigure_44 rfl rfl ?_
    exact ms_p1.mk (ms_int_eq ((if_pos hfr).symm)) rfl
  · rw [show ms_b (sq_fr (nI (W * H)) wl f) = 0 from if_neg hfr]
    refine ms_if_eq (tgt := 43) dX5_fieldFigure_36 (by decide) (fun _ => ?_) (fun h9 => absurd h9 (by decide))
    refine ms_run (pc' := 44) (lv' := [(0, .ref x), (1, .int f), (2, .int 0)]) (st' := [.int 1]) _ (ms_deC dX5_fieldFigure_43 ms_deN) rfl rfl ?_
    refine ms_reti (st := []) (ty := .int) dX5_fieldFigure_44 rfl rfl ?_
    exact ms_p1.mk (ms_int_eq ((if_neg hfr).symm)) rfl
set_option maxHeartbeats 2000000 in
set_option maxRecDepth 20000 in
theorem c_X5_fieldFigure_1 {n x g q c j q2 c2 W H : Nat} {G : ms_H} {nr wl mk ds qu hd cm : Nat → Int32} {wk : Nat → Nat → Int32} {X : cX} (hX : G x = some (.inr (5, [.ref g, .ref q, .ref c, .ref j, .ref q2, .ref c2]))) (hG : gr_at G g (nI (W * H)) (nI W) (nI H) nr) (hQ : sq_at G g q wl mk ds qu) (hC : cr_at G g q c hd X.2.2.1 X.2.1 cm wk) (f : Int32) : ms_M m_X5_fieldFigure [.ref x, .int f, .int 1] n G 0 0 (ms_p1 (some (.int (ffX (nI (W * H)) nr wl X f 1))) n G) := by
  refine ms_M.of (by decide) (Nat.le_of_ble_eq_true rfl) ?_
  show ms_W false m_X5_fieldFigure _ 0 [(0, .ref x), (1, .int f), (2, .int 1)] [] n G 0 0
  refine ms_run (pc' := 1) (lv' := [(0, .ref x), (1, .int f), (2, .int 1)]) (st' := [.int 1]) _ (ms_deC dX5_fieldFigure_0 ms_deN) rfl rfl ?_
  refine ms_tabIn (off := 44) (tgt := 45) dX5_fieldFigure_1 (by decide) (by decide) (by decide) (by decide) ?_
  refine ms_run (pc' := 46) (lv' := [(0, .ref x), (1, .int f), (2, .int 1)]) (st' := [.ref x]) _ (ms_deC dX5_fieldFigure_45 ms_deN) rfl rfl ?_
  refine ms_getf dX5_fieldFigure_46 fg_X5_30 hX rfl ?_
  refine ms_run (pc' := 50) (lv' := [(0, .ref x), (1, .int f), (2, .int 1)]) (st' := [.int f, .ref c]) _ (ms_deC dX5_fieldFigure_49 ms_deN) rfl rfl ?_
  refine ms_callVp (As := [.int f]) dX5_fieldFigure_50 (c_X0_numberOn hC f) cv_X5_105 hC.1 rfl ⟨Nat.le_of_ble_eq_true rfl, Nat.le_of_ble_eq_true rfl⟩ rfl (Nat.le_of_ble_eq_true rfl) ?_
  refine ms_reti (st := []) (ty := .int) dX5_fieldFigure_53 rfl rfl ?_
  exact ms_p1.mk (ms_int_eq (rfl)) rfl
set_option maxHeartbeats 2000000 in
set_option maxRecDepth 20000 in
theorem c_X5_fieldFigure_2 {n x g q c j q2 c2 W H : Nat} {G : ms_H} {nr wl mk ds qu hd cm : Nat → Int32} {wk : Nat → Nat → Int32} {X : cX} (hX : G x = some (.inr (5, [.ref g, .ref q, .ref c, .ref j, .ref q2, .ref c2]))) (hG : gr_at G g (nI (W * H)) (nI W) (nI H) nr) (hQ : sq_at G g q wl mk ds qu) (hC : cr_at G g q c hd X.2.2.1 X.2.1 cm wk) (f : Int32) : ms_M m_X5_fieldFigure [.ref x, .int f, .int 2] n G 0 0 (ms_p1 (some (.int (ffX (nI (W * H)) nr wl X f 2))) n G) := by
  refine ms_M.of (by decide) (Nat.le_of_ble_eq_true rfl) ?_
  show ms_W false m_X5_fieldFigure _ 0 [(0, .ref x), (1, .int f), (2, .int 2)] [] n G 0 0
  refine ms_run (pc' := 1) (lv' := [(0, .ref x), (1, .int f), (2, .int 2)]) (st' := [.int 2]) _ (ms_deC dX5_fieldFigure_0 ms_deN) rfl rfl ?_
  refine ms_tabIn (off := 53) (tgt := 54) dX5_fieldFigure_1 (by decide) (by decide) (by decide) (by decide) ?_
  refine ms_run (pc' := 55) (lv' := [(0, .ref x), (1, .int f), (2, .int 2)]) (st' := [.ref x]) _ (ms_deC dX5_fieldFigure_54 ms_deN) rfl rfl ?_
  refine ms_getf dX5_fieldFigure_55 fg_X5_30 hX rfl ?_
  refine ms_run (pc' := 59) (lv' := [(0, .ref x), (1, .int f), (2, .int 2)]) (st' := [.int f, .ref c]) _ (ms_deC dX5_fieldFigure_58 ms_deN) rfl rfl ?_
  refine ms_callVp (As := [.int f]) dX5_fieldFigure_59 (c_X0_heatOf hC f) cv_X5_282 hC.1 rfl ⟨Nat.le_of_ble_eq_true rfl, Nat.le_of_ble_eq_true rfl⟩ rfl (Nat.le_of_ble_eq_true rfl) ?_
  refine ms_reti (st := []) (ty := .int) dX5_fieldFigure_62 rfl rfl ?_
  exact ms_p1.mk (ms_int_eq (rfl)) rfl
set_option maxHeartbeats 2000000 in
set_option maxRecDepth 20000 in
theorem c_X5_fieldFigure_3 {n x g q c j q2 c2 W H : Nat} {G : ms_H} {nr wl mk ds qu hd cm : Nat → Int32} {wk : Nat → Nat → Int32} {X : cX} (hX : G x = some (.inr (5, [.ref g, .ref q, .ref c, .ref j, .ref q2, .ref c2]))) (hG : gr_at G g (nI (W * H)) (nI W) (nI H) nr) (hQ : sq_at G g q wl mk ds qu) (hC : cr_at G g q c hd X.2.2.1 X.2.1 cm wk) (f : Int32) : ms_M m_X5_fieldFigure [.ref x, .int f, .int 3] n G 0 0 (ms_p1 (some (.int (ffX (nI (W * H)) nr wl X f 3))) n G) := by
  refine ms_M.of (by decide) (Nat.le_of_ble_eq_true rfl) ?_
  show ms_W false m_X5_fieldFigure _ 0 [(0, .ref x), (1, .int f), (2, .int 3)] [] n G 0 0
  refine ms_run (pc' := 1) (lv' := [(0, .ref x), (1, .int f), (2, .int 3)]) (st' := [.int 3]) _ (ms_deC dX5_fieldFigure_0 ms_deN) rfl rfl ?_
  refine ms_tabOut (tgt := 63) dX5_fieldFigure_1 (by decide) (by decide) ?_
  refine ms_run (pc' := 64) (lv' := [(0, .ref x), (1, .int f), (2, .int 3)]) (st' := [.ref x]) _ (ms_deC dX5_fieldFigure_63 ms_deN) rfl rfl ?_
  refine ms_getf dX5_fieldFigure_64 fg_X5_30 hX rfl ?_
  refine ms_run (pc' := 68) (lv' := [(0, .ref x), (1, .int f), (2, .int 3)]) (st' := [.int f, .ref c]) _ (ms_deC dX5_fieldFigure_67 ms_deN) rfl rfl ?_
  refine ms_callVp (As := [.int f]) dX5_fieldFigure_68 (c_X0_countRound hG hC f) cv_X5_285 hC.1 rfl ⟨Nat.le_of_ble_eq_true rfl, Nat.le_of_ble_eq_true rfl⟩ rfl (Nat.le_of_ble_eq_true rfl) ?_
  refine ms_reti (st := []) (ty := .int) dX5_fieldFigure_71 rfl rfl ?_
  exact ms_p1.mk (ms_int_eq (rfl)) rfl
theorem c_X5_fieldFigure {n x g q c j q2 c2 W H : Nat} {G : ms_H} {nr wl mk ds qu hd cm : Nat → Int32} {wk : Nat → Nat → Int32} {X : cX} (hX : G x = some (.inr (5, [.ref g, .ref q, .ref c, .ref j, .ref q2, .ref c2]))) (hG : gr_at G g (nI (W * H)) (nI W) (nI H) nr) (hQ : sq_at G g q wl mk ds qu) (hC : cr_at G g q c hd X.2.2.1 X.2.1 cm wk) (f : Int32) : ∀ k, k < 4 → ms_M m_X5_fieldFigure [.ref x, .int f, .int (nI k)] n G 0 0 (ms_p1 (some (.int (ffX (nI (W * H)) nr wl X f k))) n G)
  | 0, _ => c_X5_fieldFigure_0 hX hG hQ hC f
  | 1, _ => c_X5_fieldFigure_1 hX hG hQ hC f
  | 2, _ => c_X5_fieldFigure_2 hX hG hQ hC f
  | 3, _ => c_X5_fieldFigure_3 hX hG hQ hC f
  | k + 4, h => absurd h (by omega)
set_option maxHeartbeats 4000000 in
set_option maxRecDepth 20000 in
theorem c_X5_field {n x g q c j q2 c2 W H : Nat} {G : ms_H} {nr wl mk ds : Nat → Int32} {cnt : Nat} {dr pa : Int32} {X : cX} (ho : ox x g q c j q2 c2) (hS : xs_at G x g q c j q2 c2 W H nr wl mk ds cnt dr pa X) (aa bb wh : Int32) : ms_X m_X5_field [.ref x, .int aa, .int bb, .int wh] n G 1 6 (xq_P n G (th_fld W H aa bb wh) (.int (ffX (nI (W * H)) nr wl X (gr_num (nI W) (nI H) aa bb) wh.toNatClampNeg)) (fun G1 => xs_at G1 x g q c j q2 c2 W H nr wl mk ds cnt dr pa X ∧ ms_fr x (c2 + 29 - x) G G1)) := by
  refine ms_X.of (by decide) (Nat.le_of_ble_eq_true rfl) ?_
  show ms_W true m_X5_field _ 0 [(0, .ref x), (1, .int aa), (2, .int bb), (3, .int wh)] [] n G 1 6
  obtain ⟨hX, hG, ⟨qu, hQ⟩, ⟨hd, cm, wk, hC, hx, hd1, hd2_, hd3, ha⟩, ⟨cn, wi, jo, sz, quj, hJ⟩, ⟨wl2, mk2, ds2, qu2, hQt⟩, ⟨hd2, on2, ht2, cm2, wk2, hCt⟩⟩ := hS
  obtain ⟨o1, o2, o3, o4, o5, o6⟩ := ho
  have hF : ms_fr x (c2 + 29 - x) G G := ms_fr.rf
  refine ms_run (pc' := 1) (lv' := [(0, .ref x), (1, .int aa), (2, .int bb), (3, .int wh)]) (st' := [.ref x]) _ (ms_deC dX5_field_0 ms_deN) rfl rfl ?_
  refine ms_getf dX5_field_1 fg_X5_10 hX rfl ?_
  refine ms_run (pc' := 6) (lv' := [(0, .ref x), (1, .int aa), (2, .int bb), (3, .int wh)]) (st' := [.int bb, .int aa, .ref g]) _ (ms_deC dX5_field_4 (ms_deC dX5_field_5 ms_deN)) rfl rfl ?_
  refine ms_callVp (As := [.int aa, .int bb]) dX5_field_6 (c_X1_number hG aa bb) cv_X5_62 hG.1 rfl ⟨Nat.le_of_ble_eq_true rfl, Nat.le_of_ble_eq_true rfl⟩ rfl (Nat.le_of_ble_eq_true rfl) ?_
  refine ms_run (pc' := 14) (lv' := [(4, .int (gr_num (nI W) (nI H) aa bb)), (0, .ref x), (1, .int aa), (2, .int bb), (3, .int wh)]) (st' := [.int (-1), .int (gr_num (nI W) (nI H) aa bb)]) _ (ms_deC dX5_field_9 (ms_deC dX5_field_11 (ms_deC dX5_field_13 ms_deN))) rfl rfl ?_
  refine ms_icmp_ne (tgt := 27) dX5_field_14 (by decide) (fun h_14 => ?_) (fun h_14 => ?_)
  · skip
    refine ms_run (pc' := 28) (lv' := [(4, .int (gr_num (nI W) (nI H) aa bb)), (0, .ref x), (1, .int aa), (2, .int bb), (3, .int wh)]) (st' := [.int wh]) _ (ms_deC dX5_field_27 ms_deN) rfl rfl ?_
    refine ms_if_lt (tgt := 36) dX5_field_28 (by decide) (fun h_28 => ?_) (fun h_28 => ?_)
    · skip
      refine ms_throw dX5_field_36 dX5_field_39 dX5_field_40 dX5_field_42 dX5_field_45 th_X5_51_138_55 ⟨Nat.le_of_ble_eq_true rfl, Nat.le_of_ble_eq_true rfl⟩ (Nat.le_of_ble_eq_true rfl) (by omega) (by omega) (fun n1 hn1 => ?_)
      exact xq_P.thr hn1 (by unfold th_fld; rw [if_neg h_14, if_pos (by first | exact Or.inl (by assumption) | exact Or.inr (by assumption) | exact Or.inr (Int32.not_le.mp (by assumption)))])
    · skip
      refine ms_run (pc' := 33) (lv' := [(4, .int (gr_num (nI W) (nI H) aa bb)), (0, .ref x), (1, .int aa), (2, .int bb), (3, .int wh)]) (st' := [.int 3, .int wh]) _ (ms_deC dX5_field_31 (ms_deC dX5_field_32 ms_deN)) rfl rfl ?_
      refine ms_icmp_le (tgt := 46) dX5_field_33 (by decide) (fun h_33 => ?_) (fun h_33 => ?_)
      · skip
        refine ms_run (pc' := 50) (lv' := [(4, .int (gr_num (nI W) (nI H) aa bb)), (0, .ref x), (1, .int aa), (2, .int bb), (3, .int wh)]) (st' := [.int wh, .int (gr_num (nI W) (nI H) aa bb), .ref x]) _ (ms_deC dX5_field_46 (ms_deC dX5_field_47 (ms_deC dX5_field_49 ms_deN))) rfl rfl ?_
        obtain ⟨k9, hk9, hke⟩ := nI_of2 (M := 3) (n := 3) rfl h_28 (by first | exact h_33 | exact Int32.not_lt.mp h_33)
        subst hke
        rw [nI_clamp (by omega)]
        refine ms_callVp (As := [.int (gr_num (nI W) (nI H) aa bb), .int (nI k9)]) dX5_field_50 (c_X5_fieldFigure hX hG hQ hC (gr_num (nI W) (nI H) aa bb) k9 (by omega)) cv_X5_140 hX rfl ⟨Nat.le_of_ble_eq_true rfl, Nat.le_of_ble_eq_true rfl⟩ rfl (Nat.le_of_ble_eq_true rfl) ?_
        refine ms_reti (st := []) (ty := .int) dX5_field_53 rfl rfl ?_
        exact xq_P.ret (by unfold th_fld; rw [if_neg h_14, if_neg (by rintro (z | z); exact h_28 z; exact (Int32.not_lt.mpr (by first | exact h_33 | exact Int32.not_lt.mp h_33)) z)]) (rfl) ⟨⟨hX, hG, ⟨_, hQ⟩, ⟨hd, cm, wk, hC, hx, hd1, hd2_, hd3, ha⟩, ⟨_, _, _, _, _, hJ⟩, ⟨_, _, _, _, hQt⟩, ⟨_, _, _, _, _, hCt⟩⟩, hF⟩
      · skip
        refine ms_throw dX5_field_36 dX5_field_39 dX5_field_40 dX5_field_42 dX5_field_45 th_X5_51_138_55 ⟨Nat.le_of_ble_eq_true rfl, Nat.le_of_ble_eq_true rfl⟩ (Nat.le_of_ble_eq_true rfl) (by omega) (by omega) (fun n1 hn1 => ?_)
        exact xq_P.thr hn1 (by unfold th_fld; rw [if_neg h_14, if_pos (by first | exact Or.inl (by assumption) | exact Or.inr (by assumption) | exact Or.inr (Int32.not_le.mp (by assumption)))])
  · skip
    refine ms_throw dX5_field_17 dX5_field_20 dX5_field_21 dX5_field_23 dX5_field_26 th_X5_66_68_70 ⟨Nat.le_of_ble_eq_true rfl, Nat.le_of_ble_eq_true rfl⟩ (Nat.le_of_ble_eq_true rfl) (by omega) (by omega) (fun n1 hn1 => ?_)
    exact xq_P.thr hn1 (if_pos (by first | exact h_14 | exact Decidable.not_not.mp h_14))
/-- what many() answers; F: the jams; nf fields -/
def cfX (nf : Nat) (ds : Nat → Int32) (cnt : Nat) (X : cX) (F : fdS) (k : Nat) : Int32 := if k = 0 then nI cnt else if k = 1 then nI (ct (pOut X.1) cnt) else if k = 2 then nI (ct (pLost (nI nf) ds X.1) cnt) else if k = 3 then F.2.2.2 else if k = 4 then nI F.2.2.1 else if k = 5 then mx0 F.2.1 F.2.2.1 else if k = 6 then sm (vStep 0 X.1) cnt else if k = 7 then X.2.1 (hx X.2.1 (nf - 1)) else nI (hx X.2.1 (nf - 1))
theorem sm_congr {p q : Nat → Int32} : ∀ {n : Nat}, (∀ i, i < n → p i = q i) → sm p n = sm q n
  | 0, _ => rfl
  | n + 1, h => by
    show sm p n + p n = sm q n + q n
    rw [sm_congr (n := n) (fun i hi => h i (by omega)), h n (by omega)]
theorem vStep_c {cnt : Nat} {wk u : Nat → Nat → Int32} {o : Int32} (ha : ∀ k, k < cnt → ∀ j, j < 8 → wk k j = u k j) : sm (vStep o wk) cnt = sm (vStep o u) cnt := sm_congr (fun i hi => by unfold vStep; rw [ha i hi 3 (by omega), ha i hi 6 (by omega)])
theorem pLost_c {cnt : Nat} {fl : Int32} {ds : Nat → Int32} {wk u : Nat → Nat → Int32} (ha : ∀ k, k < cnt → ∀ j, j < 8 → wk k j = u k j) : ct (pLost fl ds wk) cnt = ct (pLost fl ds u) cnt := ct_congr (fun i hi => by unfold pLost; rw [ha i hi 3 (by omega), ha i hi 0 (by omega)])
set_option maxHeartbeats 2000000 in
set_option maxRecDepth 20000 in
theorem c_X5_crowdFigure_0 {n x g q c j q2 c2 W H : Nat} {G : ms_H} {nr wl mk ds qu hd cm quj : Nat → Int32} {wk : Nat → Nat → Int32} {cnt : Nat} {X : cX} {F : fdS} (hX : G x = some (.inr (5, [.ref g, .ref q, .ref c, .ref j, .ref q2, .ref c2]))) (hG : gr_at G g (nI (W * H)) (nI W) (nI H) nr) (hQ : sq_at G g q wl mk ds qu) (hC : cr_at G g q c hd X.2.2.1 X.2.1 cm wk) (hx9 : hd 0 = nI cnt) (ha : ∀ k, k < cnt → ∀ j, j < 8 → wk k j = X.1 k j) (hJ : jm_at G j (nI F.2.2.1) F.2.2.2 F.1 F.2.1 quj) (hc : cnt ≤ 24) (hF24 : F.2.2.1 ≤ 24) (hW : W ≤ 14) (hH : H ≤ 14) (hp : 0 < W * H) : ms_M m_X5_crowdFigure [.ref x, .int 0] n G 0 0 (ms_p1 (some (.int (cfX (W * H) ds cnt X F 0))) n G) := by
  refine ms_M.of (by decide) (Nat.le_of_ble_eq_true rfl) ?_
  show ms_W false m_X5_crowdFigure _ 0 [(0, .ref x), (1, .int 0)] [] n G 0 0
  refine ms_run (pc' := 1) (lv' := [(0, .ref x), (1, .int 0)]) (st' := [.int 0]) _ (ms_deC dX5_crowdFigure_0 ms_deN) rfl rfl ?_
  refine ms_tabIn (off := 47) (tgt := 48) dX5_crowdFigure_1 (by decide) (by decide) (by decide) (by decide) ?_
  refine ms_run (pc' := 49) (lv' := [(0, .ref x), (1, .int 0)]) (st' := [.ref x]) _ (ms_deC dX5_crowdFigure_48 ms_deN) rfl rfl ?_
  refine ms_getf dX5_crowdFigure_49 fg_X5_30 hX rfl ?_
  refine ms_getf dX5_crowdFigure_52 fg_X5_163 hC.1 rfl ?_
  refine ms_reti (st := []) (ty := .int) dX5_crowdFigure_55 rfl rfl ?_
  exact ms_p1.mk (by first | rfl | (rw [hx9]; rfl)) rfl
set_option maxHeartbeats 2000000 in
set_option maxRecDepth 20000 in
theorem c_X5_crowdFigure_1 {n x g q c j q2 c2 W H : Nat} {G : ms_H} {nr wl mk ds qu hd cm quj : Nat → Int32} {wk : Nat → Nat → Int32} {cnt : Nat} {X : cX} {F : fdS} (hX : G x = some (.inr (5, [.ref g, .ref q, .ref c, .ref j, .ref q2, .ref c2]))) (hG : gr_at G g (nI (W * H)) (nI W) (nI H) nr) (hQ : sq_at G g q wl mk ds qu) (hC : cr_at G g q c hd X.2.2.1 X.2.1 cm wk) (hx9 : hd 0 = nI cnt) (ha : ∀ k, k < cnt → ∀ j, j < 8 → wk k j = X.1 k j) (hJ : jm_at G j (nI F.2.2.1) F.2.2.2 F.1 F.2.1 quj) (hc : cnt ≤ 24) (hF24 : F.2.2.1 ≤ 24) (hW : W ≤ 14) (hH : H ≤ 14) (hp : 0 < W * H) : ms_M m_X5_crowdFigure [.ref x, .int 1] n G 0 0 (ms_p1 (some (.int (cfX (W * H) ds cnt X F 1))) n G) := by
  refine ms_M.of (by decide) (Nat.le_of_ble_eq_true rfl) ?_
  show ms_W false m_X5_crowdFigure _ 0 [(0, .ref x), (1, .int 1)] [] n G 0 0
  refine ms_run (pc' := 1) (lv' := [(0, .ref x), (1, .int 1)]) (st' := [.int 1]) _ (ms_deC dX5_crowdFigure_0 ms_deN) rfl rfl ?_
  refine ms_tabIn (off := 55) (tgt := 56) dX5_crowdFigure_1 (by decide) (by decide) (by decide) (by decide) ?_
  refine ms_run (pc' := 57) (lv' := [(0, .ref x), (1, .int 1)]) (st' := [.ref x]) _ (ms_deC dX5_crowdFigure_56 ms_deN) rfl rfl ?_
  refine ms_getf dX5_crowdFigure_57 fg_X5_30 hX rfl ?_
  refine ms_callVp (As := []) dX5_crowdFigure_60 (c_X0_countOut hC hx9 hc) cv_X5_190 hC.1 rfl ⟨Nat.le_of_ble_eq_true rfl, Nat.le_of_ble_eq_true rfl⟩ rfl (Nat.le_of_ble_eq_true rfl) ?_
  rw [pOut_c ha]
  refine ms_reti (st := []) (ty := .int) dX5_crowdFigure_63 rfl rfl ?_
  exact ms_p1.mk (by first | rfl | (rw [hx9]; rfl)) rfl
set_option maxHeartbeats 2000000 in
set_option maxRecDepth 20000 in
theorem c_X5_crowdFigure_2 {n x g q c j q2 c2 W H : Nat} {G : ms_H} {nr wl mk ds qu hd cm quj : Nat → Int32} {wk : Nat → Nat → Int32} {cnt : Nat} {X : cX} {F : fdS} (hX : G x = some (.inr (5, [.ref g, .ref q, .ref c, .ref j, .ref q2, .ref c2]))) (hG : gr_at G g (nI (W * H)) (nI W) (nI H) nr) (hQ : sq_at G g q wl mk ds qu) (hC : cr_at G g q c hd X.2.2.1 X.2.1 cm wk) (hx9 : hd 0 = nI cnt) (ha : ∀ k, k < cnt → ∀ j, j < 8 → wk k j = X.1 k j) (hJ : jm_at G j (nI F.2.2.1) F.2.2.2 F.1 F.2.1 quj) (hc : cnt ≤ 24) (hF24 : F.2.2.1 ≤ 24) (hW : W ≤ 14) (hH : H ≤ 14) (hp : 0 < W * H) : ms_M m_X5_crowdFigure [.ref x, .int 2] n G 0 0 (ms_p1 (some (.int (cfX (W * H) ds cnt X F 2))) n G) := by
  refine ms_M.of (by decide) (Nat.le_of_ble_eq_true rfl) ?_
  show ms_W false m_X5_crowdFigure _ 0 [(0, .ref x), (1, .int 2)] [] n G 0 0
  refine ms_run (pc' := 1) (lv' := [(0, .ref x), (1, .int 2)]) (st' := [.int 2]) _ (ms_deC dX5_crowdFigure_0 ms_deN) rfl rfl ?_
  refine ms_tabIn (off := 63) (tgt := 64) dX5_crowdFigure_1 (by decide) (by decide) (by decide) (by decide) ?_
  refine ms_run (pc' := 65) (lv' := [(0, .ref x), (1, .int 2)]) (st' := [.ref x]) _ (ms_deC dX5_crowdFigure_64 ms_deN) rfl rfl ?_
  refine ms_getf dX5_crowdFigure_65 fg_X5_30 hX rfl ?_
  refine ms_callVp (As := []) dX5_crowdFigure_68 (c_X0_countLost hG hQ hC hx9 hc) cv_X5_288 hC.1 rfl ⟨Nat.le_of_ble_eq_true rfl, Nat.le_of_ble_eq_true rfl⟩ rfl (Nat.le_of_ble_eq_true rfl) ?_
  rw [pLost_c ha]
  refine ms_reti (st := []) (ty := .int) dX5_crowdFigure_71 rfl rfl ?_
  exact ms_p1.mk (by first | rfl | (rw [hx9]; rfl)) rfl
set_option maxHeartbeats 2000000 in
set_option maxRecDepth 20000 in
theorem c_X5_crowdFigure_3 {n x g q c j q2 c2 W H : Nat} {G : ms_H} {nr wl mk ds qu hd cm quj : Nat → Int32} {wk : Nat → Nat → Int32} {cnt : Nat} {X : cX} {F : fdS} (hX : G x = some (.inr (5, [.ref g, .ref q, .ref c, .ref j, .ref q2, .ref c2]))) (hG : gr_at G g (nI (W * H)) (nI W) (nI H) nr) (hQ : sq_at G g q wl mk ds qu) (hC : cr_at G g q c hd X.2.2.1 X.2.1 cm wk) (hx9 : hd 0 = nI cnt) (ha : ∀ k, k < cnt → ∀ j, j < 8 → wk k j = X.1 k j) (hJ : jm_at G j (nI F.2.2.1) F.2.2.2 F.1 F.2.1 quj) (hc : cnt ≤ 24) (hF24 : F.2.2.1 ≤ 24) (hW : W ≤ 14) (hH : H ≤ 14) (hp : 0 < W * H) : ms_M m_X5_crowdFigure [.ref x, .int 3] n G 0 0 (ms_p1 (some (.int (cfX (W * H) ds cnt X F 3))) n G) := by
  refine ms_M.of (by decide) (Nat.le_of_ble_eq_true rfl) ?_
  show ms_W false m_X5_crowdFigure _ 0 [(0, .ref x), (1, .int 3)] [] n G 0 0
  refine ms_run (pc' := 1) (lv' := [(0, .ref x), (1, .int 3)]) (st' := [.int 3]) _ (ms_deC dX5_crowdFigure_0 ms_deN) rfl rfl ?_
  refine ms_tabIn (off := 71) (tgt := 72) dX5_crowdFigure_1 (by decide) (by decide) (by decide) (by decide) ?_
  refine ms_run (pc' := 73) (lv' := [(0, .ref x), (1, .int 3)]) (st' := [.ref x]) _ (ms_deC dX5_crowdFigure_72 ms_deN) rfl rfl ?_
  refine ms_getf dX5_crowdFigure_73 fg_X5_37 hX rfl ?_
  refine ms_getf dX5_crowdFigure_76 fg_X5_291 hJ.1 rfl ?_
  refine ms_reti (st := []) (ty := .int) dX5_crowdFigure_79 rfl rfl ?_
  exact ms_p1.mk (by first | rfl | (rw [hx9]; rfl)) rfl
set_option maxHeartbeats 2000000 in
set_option maxRecDepth 20000 in
theorem c_X5_crowdFigure_4 {n x g q c j q2 c2 W H : Nat} {G : ms_H} {nr wl mk ds qu hd cm quj : Nat → Int32} {wk : Nat → Nat → Int32} {cnt : Nat} {X : cX} {F : fdS} (hX : G x = some (.inr (5, [.ref g, .ref q, .ref c, .ref j, .ref q2, .ref c2]))) (hG : gr_at G g (nI (W * H)) (nI W) (nI H) nr) (hQ : sq_at G g q wl mk ds qu) (hC : cr_at G g q c hd X.2.2.1 X.2.1 cm wk) (hx9 : hd 0 = nI cnt) (ha : ∀ k, k < cnt → ∀ j, j < 8 → wk k j = X.1 k j) (hJ : jm_at G j (nI F.2.2.1) F.2.2.2 F.1 F.2.1 quj) (hc : cnt ≤ 24) (hF24 : F.2.2.1 ≤ 24) (hW : W ≤ 14) (hH : H ≤ 14) (hp : 0 < W * H) : ms_M m_X5_crowdFigure [.ref x, .int 4] n G 0 0 (ms_p1 (some (.int (cfX (W * H) ds cnt X F 4))) n G) := by
  refine ms_M.of (by decide) (Nat.le_of_ble_eq_true rfl) ?_
  show ms_W false m_X5_crowdFigure _ 0 [(0, .ref x), (1, .int 4)] [] n G 0 0
  refine ms_run (pc' := 1) (lv' := [(0, .ref x), (1, .int 4)]) (st' := [.int 4]) _ (ms_deC dX5_crowdFigure_0 ms_deN) rfl rfl ?_
  refine ms_tabIn (off := 79) (tgt := 80) dX5_crowdFigure_1 (by decide) (by decide) (by decide) (by decide) ?_
  refine ms_run (pc' := 81) (lv' := [(0, .ref x), (1, .int 4)]) (st' := [.ref x]) _ (ms_deC dX5_crowdFigure_80 ms_deN) rfl rfl ?_
  refine ms_getf dX5_crowdFigure_81 fg_X5_37 hX rfl ?_
  refine ms_getf dX5_crowdFigure_84 fg_X5_294 hJ.1 rfl ?_
  refine ms_reti (st := []) (ty := .int) dX5_crowdFigure_87 rfl rfl ?_
  exact ms_p1.mk (by first | rfl | (rw [hx9]; rfl)) rfl
set_option maxHeartbeats 2000000 in
set_option maxRecDepth 20000 in
theorem c_X5_crowdFigure_5 {n x g q c j q2 c2 W H : Nat} {G : ms_H} {nr wl mk ds qu hd cm quj : Nat → Int32} {wk : Nat → Nat → Int32} {cnt : Nat} {X : cX} {F : fdS} (hX : G x = some (.inr (5, [.ref g, .ref q, .ref c, .ref j, .ref q2, .ref c2]))) (hG : gr_at G g (nI (W * H)) (nI W) (nI H) nr) (hQ : sq_at G g q wl mk ds qu) (hC : cr_at G g q c hd X.2.2.1 X.2.1 cm wk) (hx9 : hd 0 = nI cnt) (ha : ∀ k, k < cnt → ∀ j, j < 8 → wk k j = X.1 k j) (hJ : jm_at G j (nI F.2.2.1) F.2.2.2 F.1 F.2.1 quj) (hc : cnt ≤ 24) (hF24 : F.2.2.1 ≤ 24) (hW : W ≤ 14) (hH : H ≤ 14) (hp : 0 < W * H) : ms_M m_X5_crowdFigure [.ref x, .int 5] n G 0 0 (ms_p1 (some (.int (cfX (W * H) ds cnt X F 5))) n G) := by
  refine ms_M.of (by decide) (Nat.le_of_ble_eq_true rfl) ?_
  show ms_W false m_X5_crowdFigure _ 0 [(0, .ref x), (1, .int 5)] [] n G 0 0
  refine ms_run (pc' := 1) (lv' := [(0, .ref x), (1, .int 5)]) (st' := [.int 5]) _ (ms_deC dX5_crowdFigure_0 ms_deN) rfl rfl ?_
  refine ms_tabIn (off := 87) (tgt := 88) dX5_crowdFigure_1 (by decide) (by decide) (by decide) (by decide) ?_
  refine ms_run (pc' := 89) (lv' := [(0, .ref x), (1, .int 5)]) (st' := [.ref x]) _ (ms_deC dX5_crowdFigure_88 ms_deN) rfl rfl ?_
  refine ms_getf dX5_crowdFigure_89 fg_X5_37 hX rfl ?_
  refine ms_callVp (As := []) dX5_crowdFigure_92 (c_X2_greatest hJ hF24) cv_X5_295 hJ.1 rfl ⟨Nat.le_of_ble_eq_true rfl, Nat.le_of_ble_eq_true rfl⟩ rfl (Nat.le_of_ble_eq_true rfl) ?_
  refine ms_reti (st := []) (ty := .int) dX5_crowdFigure_95 rfl rfl ?_
  exact ms_p1.mk (by first | rfl | (rw [hx9]; rfl)) rfl
set_option maxHeartbeats 2000000 in
set_option maxRecDepth 20000 in
theorem c_X5_crowdFigure_6 {n x g q c j q2 c2 W H : Nat} {G : ms_H} {nr wl mk ds qu hd cm quj : Nat → Int32} {wk : Nat → Nat → Int32} {cnt : Nat} {X : cX} {F : fdS} (hX : G x = some (.inr (5, [.ref g, .ref q, .ref c, .ref j, .ref q2, .ref c2]))) (hG : gr_at G g (nI (W * H)) (nI W) (nI H) nr) (hQ : sq_at G g q wl mk ds qu) (hC : cr_at G g q c hd X.2.2.1 X.2.1 cm wk) (hx9 : hd 0 = nI cnt) (ha : ∀ k, k < cnt → ∀ j, j < 8 → wk k j = X.1 k j) (hJ : jm_at G j (nI F.2.2.1) F.2.2.2 F.1 F.2.1 quj) (hc : cnt ≤ 24) (hF24 : F.2.2.1 ≤ 24) (hW : W ≤ 14) (hH : H ≤ 14) (hp : 0 < W * H) : ms_M m_X5_crowdFigure [.ref x, .int 6] n G 0 0 (ms_p1 (some (.int (cfX (W * H) ds cnt X F 6))) n G) := by
  refine ms_M.of (by decide) (Nat.le_of_ble_eq_true rfl) ?_
  show ms_W false m_X5_crowdFigure _ 0 [(0, .ref x), (1, .int 6)] [] n G 0 0
  refine ms_run (pc' := 1) (lv' := [(0, .ref x), (1, .int 6)]) (st' := [.int 6]) _ (ms_deC dX5_crowdFigure_0 ms_deN) rfl rfl ?_
  refine ms_tabIn (off := 95) (tgt := 96) dX5_crowdFigure_1 (by decide) (by decide) (by decide) (by decide) ?_
  refine ms_run (pc' := 97) (lv' := [(0, .ref x), (1, .int 6)]) (st' := [.ref x]) _ (ms_deC dX5_crowdFigure_96 ms_deN) rfl rfl ?_
  refine ms_getf dX5_crowdFigure_97 fg_X5_30 hX rfl ?_
  refine ms_run (pc' := 101) (lv' := [(0, .ref x), (1, .int 6)]) (st' := [.int 0, .ref c]) _ (ms_deC dX5_crowdFigure_100 ms_deN) rfl rfl ?_
  refine ms_callVp (As := [.int 0]) dX5_crowdFigure_101 (c_X0_countSteps hC hx9 hc 0) cv_X5_234 hC.1 rfl ⟨Nat.le_of_ble_eq_true rfl, Nat.le_of_ble_eq_true rfl⟩ rfl (Nat.le_of_ble_eq_true rfl) ?_
  rw [vStep_c ha]
  refine ms_reti (st := []) (ty := .int) dX5_crowdFigure_104 rfl rfl ?_
  exact ms_p1.mk (by first | rfl | (rw [hx9]; rfl)) rfl
set_option maxHeartbeats 2000000 in
set_option maxRecDepth 20000 in
theorem c_X5_crowdFigure_7 {n x g q c j q2 c2 W H : Nat} {G : ms_H} {nr wl mk ds qu hd cm quj : Nat → Int32} {wk : Nat → Nat → Int32} {cnt : Nat} {X : cX} {F : fdS} (hX : G x = some (.inr (5, [.ref g, .ref q, .ref c, .ref j, .ref q2, .ref c2]))) (hG : gr_at G g (nI (W * H)) (nI W) (nI H) nr) (hQ : sq_at G g q wl mk ds qu) (hC : cr_at G g q c hd X.2.2.1 X.2.1 cm wk) (hx9 : hd 0 = nI cnt) (ha : ∀ k, k < cnt → ∀ j, j < 8 → wk k j = X.1 k j) (hJ : jm_at G j (nI F.2.2.1) F.2.2.2 F.1 F.2.1 quj) (hc : cnt ≤ 24) (hF24 : F.2.2.1 ≤ 24) (hW : W ≤ 14) (hH : H ≤ 14) (hp : 0 < W * H) : ms_M m_X5_crowdFigure [.ref x, .int 7] n G 0 0 (ms_p1 (some (.int (cfX (W * H) ds cnt X F 7))) n G) := by
  refine ms_M.of (by decide) (Nat.le_of_ble_eq_true rfl) ?_
  show ms_W false m_X5_crowdFigure _ 0 [(0, .ref x), (1, .int 7)] [] n G 0 0
  refine ms_run (pc' := 1) (lv' := [(0, .ref x), (1, .int 7)]) (st' := [.int 7]) _ (ms_deC dX5_crowdFigure_0 ms_deN) rfl rfl ?_
  refine ms_tabIn (off := 104) (tgt := 105) dX5_crowdFigure_1 (by decide) (by decide) (by decide) (by decide) ?_
  refine ms_run (pc' := 106) (lv' := [(0, .ref x), (1, .int 7)]) (st' := [.ref x]) _ (ms_deC dX5_crowdFigure_105 ms_deN) rfl rfl ?_
  refine ms_getf dX5_crowdFigure_106 fg_X5_30 hX rfl ?_
  refine ms_run (pc' := 110) (lv' := [(0, .ref x), (1, .int 7)]) (st' := [.ref x, .ref c]) _ (ms_deC dX5_crowdFigure_109 ms_deN) rfl rfl ?_
  refine ms_getf dX5_crowdFigure_110 fg_X5_30 hX rfl ?_
  refine ms_callVp (As := []) dX5_crowdFigure_113 (c_X0_hottest (nf := W * H - 1) hG hC (by rw [show W * H - 1 + 1 = W * H by omega]) (by have := fd_196 hW hH; omega)) cv_X5_298 hC.1 rfl ⟨Nat.le_of_ble_eq_true rfl, Nat.le_of_ble_eq_true rfl⟩ rfl (Nat.le_of_ble_eq_true rfl) ?_
  refine ms_callVp (As := [.int (nI (hx X.2.1 (W * H - 1)))]) dX5_crowdFigure_116 (c_X0_heatOf hC (nI (hx X.2.1 (W * H - 1)))) cv_X5_282 hC.1 rfl ⟨Nat.le_of_ble_eq_true rfl, Nat.le_of_ble_eq_true rfl⟩ rfl (Nat.le_of_ble_eq_true rfl) ?_
  rw [cr_htI X.2.1 (by have := hx_le X.2.1 (W * H - 1); have := fd_196 hW hH; omega)]
  refine ms_reti (st := []) (ty := .int) dX5_crowdFigure_119 rfl rfl ?_
  exact ms_p1.mk (by first | rfl | (rw [hx9]; rfl)) rfl
set_option maxHeartbeats 2000000 in
set_option maxRecDepth 20000 in
theorem c_X5_crowdFigure_8 {n x g q c j q2 c2 W H : Nat} {G : ms_H} {nr wl mk ds qu hd cm quj : Nat → Int32} {wk : Nat → Nat → Int32} {cnt : Nat} {X : cX} {F : fdS} (hX : G x = some (.inr (5, [.ref g, .ref q, .ref c, .ref j, .ref q2, .ref c2]))) (hG : gr_at G g (nI (W * H)) (nI W) (nI H) nr) (hQ : sq_at G g q wl mk ds qu) (hC : cr_at G g q c hd X.2.2.1 X.2.1 cm wk) (hx9 : hd 0 = nI cnt) (ha : ∀ k, k < cnt → ∀ j, j < 8 → wk k j = X.1 k j) (hJ : jm_at G j (nI F.2.2.1) F.2.2.2 F.1 F.2.1 quj) (hc : cnt ≤ 24) (hF24 : F.2.2.1 ≤ 24) (hW : W ≤ 14) (hH : H ≤ 14) (hp : 0 < W * H) : ms_M m_X5_crowdFigure [.ref x, .int 8] n G 0 0 (ms_p1 (some (.int (cfX (W * H) ds cnt X F 8))) n G) := by
  refine ms_M.of (by decide) (Nat.le_of_ble_eq_true rfl) ?_
  show ms_W false m_X5_crowdFigure _ 0 [(0, .ref x), (1, .int 8)] [] n G 0 0
  refine ms_run (pc' := 1) (lv' := [(0, .ref x), (1, .int 8)]) (st' := [.int 8]) _ (ms_deC dX5_crowdFigure_0 ms_deN) rfl rfl ?_
  refine ms_tabOut (tgt := 120) dX5_crowdFigure_1 (by decide) (by decide) ?_
  refine ms_run (pc' := 121) (lv' := [(0, .ref x), (1, .int 8)]) (st' := [.ref x]) _ (ms_deC dX5_crowdFigure_120 ms_deN) rfl rfl ?_
  refine ms_getf dX5_crowdFigure_121 fg_X5_30 hX rfl ?_
  refine ms_callVp (As := []) dX5_crowdFigure_124 (c_X0_hottest (nf := W * H - 1) hG hC (by rw [show W * H - 1 + 1 = W * H by omega]) (by have := fd_196 hW hH; omega)) cv_X5_298 hC.1 rfl ⟨Nat.le_of_ble_eq_true rfl, Nat.le_of_ble_eq_true rfl⟩ rfl (Nat.le_of_ble_eq_true rfl) ?_
  refine ms_reti (st := []) (ty := .int) dX5_crowdFigure_127 rfl rfl ?_
  exact ms_p1.mk (by first | rfl | (rw [hx9]; rfl)) rfl
theorem c_X5_crowdFigure {n x g q c j q2 c2 W H : Nat} {G : ms_H} {nr wl mk ds qu hd cm quj : Nat → Int32} {wk : Nat → Nat → Int32} {cnt : Nat} {X : cX} {F : fdS} (hX : G x = some (.inr (5, [.ref g, .ref q, .ref c, .ref j, .ref q2, .ref c2]))) (hG : gr_at G g (nI (W * H)) (nI W) (nI H) nr) (hQ : sq_at G g q wl mk ds qu) (hC : cr_at G g q c hd X.2.2.1 X.2.1 cm wk) (hx9 : hd 0 = nI cnt) (ha : ∀ k, k < cnt → ∀ j, j < 8 → wk k j = X.1 k j) (hJ : jm_at G j (nI F.2.2.1) F.2.2.2 F.1 F.2.1 quj) (hc : cnt ≤ 24) (hF24 : F.2.2.1 ≤ 24) (hW : W ≤ 14) (hH : H ≤ 14) (hp : 0 < W * H) : ∀ k, k < 9 → ms_M m_X5_crowdFigure [.ref x, .int (nI k)] n G 0 0 (ms_p1 (some (.int (cfX (W * H) ds cnt X F k))) n G)
  | 0, _ => c_X5_crowdFigure_0 hX hG hQ hC hx9 ha hJ hc hF24 hW hH hp
  | 1, _ => c_X5_crowdFigure_1 hX hG hQ hC hx9 ha hJ hc hF24 hW hH hp
  | 2, _ => c_X5_crowdFigure_2 hX hG hQ hC hx9 ha hJ hc hF24 hW hH hp
  | 3, _ => c_X5_crowdFigure_3 hX hG hQ hC hx9 ha hJ hc hF24 hW hH hp
  | 4, _ => c_X5_crowdFigure_4 hX hG hQ hC hx9 ha hJ hc hF24 hW hH hp
  | 5, _ => c_X5_crowdFigure_5 hX hG hQ hC hx9 ha hJ hc hF24 hW hH hp
  | 6, _ => c_X5_crowdFigure_6 hX hG hQ hC hx9 ha hJ hc hF24 hW hH hp
  | 7, _ => c_X5_crowdFigure_7 hX hG hQ hC hx9 ha hJ hc hF24 hW hH hp
  | 8, _ => c_X5_crowdFigure_8 hX hG hQ hC hx9 ha hJ hc hF24 hW hH hp
  | k + 9, h => absurd h (by omega)
def jxX (pa : Int32) (cnt : Nat) (nr : Nat → Int32) (X : cX) : fdS := fdX (jbR cnt pa X.1) (nbR cnt nr X.2.2.1 X.1) cnt
def th_what (wh : Int32) : Option String := if wh < 0 ∨ 8 < wh then some IAE else none
def th_wk (cnt : Nat) (k : Int32) : Option String := if ¬ pIs (nI cnt) k then some IOB else none
set_option maxHeartbeats 4000000 in
set_option maxRecDepth 20000 in
theorem c_X5_many {n x g q c j q2 c2 W H : Nat} {G : ms_H} {nr wl mk ds : Nat → Int32} {cnt : Nat} {dr pa : Int32} {X : cX} (ho : ox x g q c j q2 c2) (hS : xs_at G x g q c j q2 c2 W H nr wl mk ds cnt dr pa X) (hc : cnt ≤ 24) (hW : W ≤ 14) (hH : H ≤ 14) (hp : 0 < W * H) (wh : Int32) : ms_X m_X5_many [.ref x, .int wh] n G 1 6 (xq_P n G (th_what wh) (.int (cfX (W * H) ds cnt X (jxX pa cnt nr X) wh.toNatClampNeg)) (fun G1 => xs_at G1 x g q c j q2 c2 W H nr wl mk ds cnt dr pa X ∧ ms_fr x (c2 + 29 - x) G G1)) := by
  refine ms_X.of (by decide) (Nat.le_of_ble_eq_true rfl) ?_
  show ms_W true m_X5_many _ 0 [(0, .ref x), (1, .int wh)] [] n G 1 6
  obtain ⟨hX, hG, ⟨qu, hQ⟩, ⟨hd, cm, wk, hC, hx, hd1, hd2_, hd3, ha⟩, ⟨cn, wi, jo, sz, quj, hJ⟩, ⟨wl2, mk2, ds2, qu2, hQt⟩, ⟨hd2, on2, ht2, cm2, wk2, hCt⟩⟩ := hS
  obtain ⟨o1, o2, o3, o4, o5, o6⟩ := ho
  have hF : ms_fr x (c2 + 29 - x) G G := ms_fr.rf
  refine ms_run (pc' := 1) (lv' := [(0, .ref x), (1, .int wh)]) (st' := [.int wh]) _ (ms_deC dX5_many_0 ms_deN) rfl rfl ?_
  refine ms_if_lt (tgt := 10) dX5_many_1 (by decide) (fun h_1 => ?_) (fun h_1 => ?_)
  · skip
    refine ms_throw dX5_many_10 dX5_many_13 dX5_many_14 dX5_many_16 dX5_many_19 th_X5_51_199_55 ⟨Nat.le_of_ble_eq_true rfl, Nat.le_of_ble_eq_true rfl⟩ (Nat.le_of_ble_eq_true rfl) (by omega) (by omega) (fun n1 hn1 => ?_)
    exact xq_P.thr hn1 (if_pos (by first | exact Or.inl (by assumption) | exact Or.inr (by assumption) | exact Or.inr (Int32.not_le.mp (by assumption))))
  · skip
    refine ms_run (pc' := 7) (lv' := [(0, .ref x), (1, .int wh)]) (st' := [.int 8, .int wh]) _ (ms_deC dX5_many_4 (ms_deC dX5_many_5 ms_deN)) rfl rfl ?_
    refine ms_icmp_le (tgt := 20) dX5_many_7 (by decide) (fun h_7 => ?_) (fun h_7 => ?_)
    · skip
      refine ms_run (pc' := 21) (lv' := [(0, .ref x), (1, .int wh)]) (st' := [.ref x]) _ (ms_deC dX5_many_20 ms_deN) rfl rfl ?_
      refine ms_getf dX5_many_21 fg_X5_37 hX rfl ?_
      refine ms_run (pc' := 25) (lv' := [(0, .ref x), (1, .int wh)]) (st' := [.ref x, .ref j]) _ (ms_deC dX5_many_24 ms_deN) rfl rfl ?_
      refine ms_getf dX5_many_25 fg_X5_30 hX rfl ?_
      refine ms_callV0 (As := [.ref c]) dX5_many_28 (c_X2_find hx hc (by omega) (by omega) hG hC hJ) cv_X5_201 hJ.1 rfl ⟨Nat.le_of_ble_eq_true rfl, Nat.le_of_ble_eq_true rfl⟩ rfl (Nat.le_of_ble_eq_true rfl) (fun v9 n9 K_fi hp9 => ?_)
      obtain ⟨hv9, rfl, ⟨qj9, hJ9⟩, hF_fi⟩ := hp9
      cases hv9
      rw [hd3, jbR_c ha, nbR_c ha] at hJ9
      have hG_1 : gr_at K_fi g (nI (W * H)) (nI W) (nI H) nr := gr_at.fr hG hF_fi (by omega)
      have hQ_2 : sq_at K_fi g q wl mk ds qu := sq_at.fr hQ hF_fi (by omega)
      have hC_3 : cr_at K_fi g q c hd X.2.2.1 X.2.1 cm wk := cr_at.fr hC hF_fi (by omega)
      have hQt_4 : sq_at K_fi g q2 wl2 mk2 ds2 qu2 := sq_at.fr hQt hF_fi (by omega)
      have hCt_5 : cr_at K_fi g q2 c2 hd2 on2 ht2 cm2 wk2 := cr_at.fr hCt hF_fi (by omega)
      have hF_6 : ms_fr x (c2 + 29 - x) G K_fi := ms_fr.trans hF (ms_fr.mono hF_fi (by omega) (by omega))
      have hf_7 := (hF_fi x (by omega)).trans hX
      have hF24 : (jxX pa cnt nr X).2.2.1 ≤ 24 := Nat.le_trans (fdX_n cnt) hc
      refine ms_run (pc' := 33) (lv' := [(0, .ref x), (1, .int wh)]) (st' := [.int wh, .ref x]) _ (ms_deC dX5_many_31 (ms_deC dX5_many_32 ms_deN)) rfl rfl ?_
      obtain ⟨k9, hk9, hke⟩ := nI_of2 (M := 8) (n := 8) rfl h_1 (by first | exact h_7 | exact Int32.not_lt.mp h_7)
      subst hke
      rw [nI_clamp (by omega)]
      refine ms_callVp (As := [.int (nI k9)]) dX5_many_33 (c_X5_crowdFigure (F := (jxX pa cnt nr X)) hf_7 hG_1 hQ_2 hC_3 hx ha hJ9 hc hF24 hW hH hp k9 (by omega)) cv_X5_205 hf_7 rfl ⟨Nat.le_of_ble_eq_true rfl, Nat.le_of_ble_eq_true rfl⟩ rfl (Nat.le_of_ble_eq_true rfl) ?_
      refine ms_reti (st := []) (ty := .int) dX5_many_36 rfl rfl ?_
      exact xq_P.ret (if_neg (by rintro (z | z); exact h_1 z; exact (Int32.not_lt.mpr (by first | exact h_7 | exact Int32.not_lt.mp h_7)) z)) rfl ⟨⟨hf_7, hG_1, ⟨_, hQ_2⟩, ⟨hd, cm, wk, hC_3, hx, hd1, hd2_, hd3, ha⟩, ⟨_, _, _, _, _, hJ9⟩, ⟨_, _, _, _, hQt_4⟩, ⟨_, _, _, _, _, hCt_5⟩⟩, hF_6⟩
    · skip
      refine ms_throw dX5_many_10 dX5_many_13 dX5_many_14 dX5_many_16 dX5_many_19 th_X5_51_199_55 ⟨Nat.le_of_ble_eq_true rfl, Nat.le_of_ble_eq_true rfl⟩ (Nat.le_of_ble_eq_true rfl) (by omega) (by omega) (fun n1 hn1 => ?_)
      exact xq_P.thr hn1 (if_pos (by first | exact Or.inl (by assumption) | exact Or.inr (by assumption) | exact Or.inr (Int32.not_le.mp (by assumption))))
set_option maxHeartbeats 4000000 in
set_option maxRecDepth 20000 in
theorem c_X5_jam {n x g q c j q2 c2 W H : Nat} {G : ms_H} {nr wl mk ds : Nat → Int32} {cnt : Nat} {dr pa : Int32} {X : cX} (ho : ox x g q c j q2 c2) (hS : xs_at G x g q c j q2 c2 W H nr wl mk ds cnt dr pa X) (hc : cnt ≤ 24) (kk : Int32) : ms_X m_X5_jam [.ref x, .int kk] n G 1 6 (xq_P n G (th_wk cnt kk) (.int (jm_sz (jxX pa cnt nr X).1 (jxX pa cnt nr X).2.1 (nI kk.toNatClampNeg))) (fun G1 => xs_at G1 x g q c j q2 c2 W H nr wl mk ds cnt dr pa X ∧ ms_fr x (c2 + 29 - x) G G1)) := by
  refine ms_X.of (by decide) (Nat.le_of_ble_eq_true rfl) ?_
  show ms_W true m_X5_jam _ 0 [(0, .ref x), (1, .int kk)] [] n G 1 6
  obtain ⟨hX, hG, ⟨qu, hQ⟩, ⟨hd, cm, wk, hC, hx, hd1, hd2_, hd3, ha⟩, ⟨cn, wi, jo, sz, quj, hJ⟩, ⟨wl2, mk2, ds2, qu2, hQt⟩, ⟨hd2, on2, ht2, cm2, wk2, hCt⟩⟩ := hS
  obtain ⟨o1, o2, o3, o4, o5, o6⟩ := ho
  have hF : ms_fr x (c2 + 29 - x) G G := ms_fr.rf
  refine ms_run (pc' := 1) (lv' := [(0, .ref x), (1, .int kk)]) (st' := [.ref x]) _ (ms_deC dX5_jam_0 ms_deN) rfl rfl ?_
  refine ms_getf dX5_jam_1 fg_X5_30 hX rfl ?_
  refine ms_run (pc' := 5) (lv' := [(0, .ref x), (1, .int kk)]) (st' := [.int kk, .ref c]) _ (ms_deC dX5_jam_4 ms_deN) rfl rfl ?_
  refine ms_callVp (As := [.int kk]) dX5_jam_5 (c_X0_get hC kk) cv_X5_109 hC.1 rfl ⟨Nat.le_of_ble_eq_true rfl, Nat.le_of_ble_eq_true rfl⟩ rfl (Nat.le_of_ble_eq_true rfl) ?_
  rw [hx]
  by_cases hpi : pIs (nI cnt) kk
  · rw [show cr_get c (nI cnt) kk = .ref (c + 5 + kk.toNatClampNeg) from if_pos hpi]
    obtain ⟨i, hi, hki⟩ := pIs_nI hc hpi
    subst hki
    rw [nI_clamp (by omega)]
    refine ms_ifnonnull (tgt := 21) dX5_jam_8 (by decide) ?_
    refine ms_run (pc' := 22) (lv' := [(0, .ref x), (1, .int (nI i))]) (st' := [.ref x]) _ (ms_deC dX5_jam_21 ms_deN) rfl rfl ?_
    refine ms_getf dX5_jam_22 fg_X5_37 hX rfl ?_
    refine ms_run (pc' := 26) (lv' := [(0, .ref x), (1, .int (nI i))]) (st' := [.ref x, .ref j]) _ (ms_deC dX5_jam_25 ms_deN) rfl rfl ?_
    refine ms_getf dX5_jam_26 fg_X5_30 hX rfl ?_
    refine ms_callV0 (As := [.ref c]) dX5_jam_29 (c_X2_find hx hc (by omega) (by omega) hG hC hJ) cv_X5_201 hJ.1 rfl ⟨Nat.le_of_ble_eq_true rfl, Nat.le_of_ble_eq_true rfl⟩ rfl (Nat.le_of_ble_eq_true rfl) (fun v9 n9 K_fi hp9 => ?_)
    obtain ⟨hv9, rfl, ⟨qj9, hJ9⟩, hF_fi⟩ := hp9
    cases hv9
    rw [hd3, jbR_c ha, nbR_c ha] at hJ9
    have hG_1 : gr_at K_fi g (nI (W * H)) (nI W) (nI H) nr := gr_at.fr hG hF_fi (by omega)
    have hQ_2 : sq_at K_fi g q wl mk ds qu := sq_at.fr hQ hF_fi (by omega)
    have hC_3 : cr_at K_fi g q c hd X.2.2.1 X.2.1 cm wk := cr_at.fr hC hF_fi (by omega)
    have hQt_4 : sq_at K_fi g q2 wl2 mk2 ds2 qu2 := sq_at.fr hQt hF_fi (by omega)
    have hCt_5 : cr_at K_fi g q2 c2 hd2 on2 ht2 cm2 wk2 := cr_at.fr hCt hF_fi (by omega)
    have hF_6 : ms_fr x (c2 + 29 - x) G K_fi := ms_fr.trans hF (ms_fr.mono hF_fi (by omega) (by omega))
    have hf_7 := (hF_fi x (by omega)).trans hX
    have hF24 : (jxX pa cnt nr X).2.2.1 ≤ 24 := Nat.le_trans (fdX_n cnt) hc
    refine ms_run (pc' := 33) (lv' := [(0, .ref x), (1, .int (nI i))]) (st' := [.ref x]) _ (ms_deC dX5_jam_32 ms_deN) rfl rfl ?_
    refine ms_getf dX5_jam_33 fg_X5_37 hf_7 rfl ?_
    refine ms_run (pc' := 37) (lv' := [(0, .ref x), (1, .int (nI i))]) (st' := [.int (nI i), .ref j]) _ (ms_deC dX5_jam_36 ms_deN) rfl rfl ?_
    refine ms_callVp (As := [.int (nI i)]) dX5_jam_37 (c_X2_sizeAround hJ9 (nI i)) cv_X5_231 hJ9.1 rfl ⟨Nat.le_of_ble_eq_true rfl, Nat.le_of_ble_eq_true rfl⟩ rfl (Nat.le_of_ble_eq_true rfl) ?_
    refine ms_reti (st := []) (ty := .int) dX5_jam_40 rfl rfl ?_
    exact xq_P.ret (if_neg (not_not_intro hpi)) rfl ⟨⟨hf_7, hG_1, ⟨_, hQ_2⟩, ⟨hd, cm, wk, hC_3, hx, hd1, hd2_, hd3, ha⟩, ⟨_, _, _, _, _, hJ9⟩, ⟨_, _, _, _, hQt_4⟩, ⟨_, _, _, _, _, hCt_5⟩⟩, hF_6⟩
  · rw [show cr_get c (nI cnt) kk = .null from if_neg hpi]
    refine ms_ifnonnullN dX5_jam_8 ?_
    refine ms_throw dX5_jam_11 dX5_jam_14 dX5_jam_15 dX5_jam_17 dX5_jam_20 th_X5_66_208_70 ⟨Nat.le_of_ble_eq_true rfl, Nat.le_of_ble_eq_true rfl⟩ (Nat.le_of_ble_eq_true rfl) (by omega) (by omega) (fun n1 hn1 => ?_)
    exact xq_P.thr hn1 (if_pos hpi)
def th_wlk (W H : Nat) (wl mk : Nat → Int32) (cnt : Nat) (on : Nat → Int32) (gl pc mo a b : Int32) : Option String := if ¬ gl_is gl ∨ gr_num (nI W) (nI H) a b = -1 then some IOB else if pc < 1 ∨ 3 < pc ∨ ¬ (0 ≤ mo ∧ mo ≤ 9) then some IAE else if 24 ≤ cnt ∨ ¬ sq_fr (nI (W * H)) wl (gr_num (nI W) (nI H) a b) ∨ sq_mk (nI (W * H)) mk gl (gr_num (nI W) (nI H) a b) ∨ ¬ cr_on on (gr_num (nI W) (nI H) a b) = -1 then some ISE else none
/-- a walker more -/
def adX (cnt : Nat) (X : cX) (gl pc mo f : Int32) : cX := (va_up X.1 cnt (wk_come (X.1 cnt) gl pc mo f), X.2.1, upd X.2.2.1 f.toNatClampNeg (nI cnt), X.2.2.2)
theorem wk_come_c {u v : Nat → Int32} {a b e f : Int32} {j : Nat} (hj : j < 8) : wk_come u a b e f j = wk_come v a b e f j := by
  unfold wk_come
  rw [if_pos hj, if_pos hj]
set_option maxHeartbeats 4000000 in
set_option maxRecDepth 20000 in
theorem c_X5_walker {n x g q c j q2 c2 W H : Nat} {G : ms_H} {nr wl mk ds : Nat → Int32} {cnt : Nat} {dr pa : Int32} {X : cX} (ho : ox x g q c j q2 c2) (hS : xs_at G x g q c j q2 c2 W H nr wl mk ds cnt dr pa X) (gl pc mo aa bb : Int32) (hc : cnt ≤ 24) : ms_X m_X5_walker [.ref x, .int gl, .int pc, .int mo, .int aa, .int bb] n G 1 6 (xq_P n G (th_wlk W H wl mk cnt X.2.2.1 gl pc mo aa bb) (.int (nI cnt)) (fun G1 => xs_at G1 x g q c j q2 c2 W H nr wl mk ds (cnt + 1) dr pa (adX cnt X gl pc mo (gr_num (nI W) (nI H) aa bb)) ∧ ms_fr x (c2 + 29 - x) G G1)) := by
  refine ms_X.of (by decide) (Nat.le_of_ble_eq_true rfl) ?_
  show ms_W true m_X5_walker _ 0 [(0, .ref x), (1, .int gl), (2, .int pc), (3, .int mo), (4, .int aa), (5, .int bb)] [] n G 1 6
  obtain ⟨hX, hG, ⟨qu, hQ⟩, ⟨hd, cm, wk, hC, hx, hd1, hd2_, hd3, ha⟩, ⟨cn, wi, jo, sz, quj, hJ⟩, ⟨wl2, mk2, ds2, qu2, hQt⟩, ⟨hd2, on2, ht2, cm2, wk2, hCt⟩⟩ := hS
  obtain ⟨o1, o2, o3, o4, o5, o6⟩ := ho
  have hF : ms_fr x (c2 + 29 - x) G G := ms_fr.rf
  refine ms_run (pc' := 1) (lv' := [(0, .ref x), (1, .int gl), (2, .int pc), (3, .int mo), (4, .int aa), (5, .int bb)]) (st' := [.ref x]) _ (ms_deC dX5_walker_0 ms_deN) rfl rfl ?_
  refine ms_getf dX5_walker_1 fg_X5_10 hX rfl ?_
  refine ms_run (pc' := 8) (lv' := [(0, .ref x), (1, .int gl), (2, .int pc), (3, .int mo), (4, .int aa), (5, .int bb)]) (st' := [.int bb, .int aa, .ref g]) _ (ms_deC dX5_walker_4 (ms_deC dX5_walker_6 ms_deN)) rfl rfl ?_
  refine ms_callVp (As := [.int aa, .int bb]) dX5_walker_8 (c_X1_number hG aa bb) cv_X5_62 hG.1 rfl ⟨Nat.le_of_ble_eq_true rfl, Nat.le_of_ble_eq_true rfl⟩ rfl (Nat.le_of_ble_eq_true rfl) ?_
  refine ms_run (pc' := 14) (lv' := [(6, .int (gr_num (nI W) (nI H) aa bb)), (0, .ref x), (1, .int gl), (2, .int pc), (3, .int mo), (4, .int aa), (5, .int bb)]) (st' := [.int gl]) _ (ms_deC dX5_walker_11 (ms_deC dX5_walker_13 ms_deN)) rfl rfl ?_
  refine ms_callSp (As := [.int gl]) dX5_walker_14 (c_X5_isGoal gl) cs_X5_99 rfl ⟨Nat.le_of_ble_eq_true rfl, Nat.le_of_ble_eq_true rfl⟩ rfl (Nat.le_of_ble_eq_true rfl) ?_
  by_cases hgl : gl_is gl
  · rw [show ms_b (gl_is gl) = 1 from if_pos hgl]
    refine ms_if_eq (tgt := 26) dX5_walker_17 (by decide) (fun h9 => absurd h9 (by decide)) (fun _ => ?_)
    refine ms_run (pc' := 23) (lv' := [(6, .int (gr_num (nI W) (nI H) aa bb)), (0, .ref x), (1, .int gl), (2, .int pc), (3, .int mo), (4, .int aa), (5, .int bb)]) (st' := [.int (-1), .int (gr_num (nI W) (nI H) aa bb)]) _ (ms_deC dX5_walker_20 (ms_deC dX5_walker_22 ms_deN)) rfl rfl ?_
    refine ms_icmp_ne (tgt := 36) dX5_walker_23 (by decide) (fun h_23 => ?_) (fun h_23 => ?_)
    · skip
      refine ms_run (pc' := 38) (lv' := [(6, .int (gr_num (nI W) (nI H) aa bb)), (0, .ref x), (1, .int gl), (2, .int pc), (3, .int mo), (4, .int aa), (5, .int bb)]) (st' := [.int 1, .int pc]) _ (ms_deC dX5_walker_36 (ms_deC dX5_walker_37 ms_deN)) rfl rfl ?_
      refine ms_icmp_lt (tgt := 53) dX5_walker_38 (by decide) (fun h_38 => ?_) (fun h_38 => ?_)
      · skip
        refine ms_throw dX5_walker_53 dX5_walker_56 dX5_walker_57 dX5_walker_59 dX5_walker_62 th_X5_51_154_55 ⟨Nat.le_of_ble_eq_true rfl, Nat.le_of_ble_eq_true rfl⟩ (Nat.le_of_ble_eq_true rfl) (by omega) (by omega) (fun n1 hn1 => ?_)
        exact xq_P.thr hn1 (by unfold th_wlk; rw [if_neg (by rintro (z | z); exact z hgl; exact h_23 z), if_pos (by first | exact Or.inl (by assumption) | exact Or.inr (Or.inl (by first | assumption | exact Int32.not_le.mp (by assumption))) | exact Or.inr (Or.inr hmo))])
      · skip
        refine ms_run (pc' := 43) (lv' := [(6, .int (gr_num (nI W) (nI H) aa bb)), (0, .ref x), (1, .int gl), (2, .int pc), (3, .int mo), (4, .int aa), (5, .int bb)]) (st' := [.int 3, .int pc]) _ (ms_deC dX5_walker_41 (ms_deC dX5_walker_42 ms_deN)) rfl rfl ?_
        refine ms_icmp_gt (tgt := 53) dX5_walker_43 (by decide) (fun h_43 => ?_) (fun h_43 => ?_)
        · skip
          refine ms_throw dX5_walker_53 dX5_walker_56 dX5_walker_57 dX5_walker_59 dX5_walker_62 th_X5_51_154_55 ⟨Nat.le_of_ble_eq_true rfl, Nat.le_of_ble_eq_true rfl⟩ (Nat.le_of_ble_eq_true rfl) (by omega) (by omega) (fun n1 hn1 => ?_)
          exact xq_P.thr hn1 (by unfold th_wlk; rw [if_neg (by rintro (z | z); exact z hgl; exact h_23 z), if_pos (by first | exact Or.inl (by assumption) | exact Or.inr (Or.inl (by first | assumption | exact Int32.not_le.mp (by assumption))) | exact Or.inr (Or.inr hmo))])
        · skip
          refine ms_run (pc' := 47) (lv' := [(6, .int (gr_num (nI W) (nI H) aa bb)), (0, .ref x), (1, .int gl), (2, .int pc), (3, .int mo), (4, .int aa), (5, .int bb)]) (st' := [.int mo]) _ (ms_deC dX5_walker_46 ms_deN) rfl rfl ?_
          refine ms_callSp (As := [.int mo]) dX5_walker_47 (c_X5_isMood mo) cs_X5_151 rfl ⟨Nat.le_of_ble_eq_true rfl, Nat.le_of_ble_eq_true rfl⟩ rfl (Nat.le_of_ble_eq_true rfl) ?_
          by_cases hmo : 0 ≤ mo ∧ mo ≤ 9
          · rw [show ms_b (0 ≤ mo ∧ mo ≤ 9) = 1 from if_pos hmo]
            refine ms_if_ne (tgt := 63) dX5_walker_50 (by decide) (fun _ => ?_) (fun h9 => absurd h9 (by decide))
            refine ms_run (pc' := 64) (lv' := [(6, .int (gr_num (nI W) (nI H) aa bb)), (0, .ref x), (1, .int gl), (2, .int pc), (3, .int mo), (4, .int aa), (5, .int bb)]) (st' := [.ref x]) _ (ms_deC dX5_walker_63 ms_deN) rfl rfl ?_
            refine ms_getf dX5_walker_64 fg_X5_21 hX rfl ?_
            refine ms_run (pc' := 69) (lv' := [(6, .int (gr_num (nI W) (nI H) aa bb)), (0, .ref x), (1, .int gl), (2, .int pc), (3, .int mo), (4, .int aa), (5, .int bb)]) (st' := [.int (gr_num (nI W) (nI H) aa bb), .ref q]) _ (ms_deC dX5_walker_67 ms_deN) rfl rfl ?_
            refine ms_callVp (As := [.int (gr_num (nI W) (nI H) aa bb)]) dX5_walker_69 (c_X3_isFree hG hQ (gr_num (nI W) (nI H) aa bb)) cv_X5_156 hQ.1 rfl ⟨Nat.le_of_ble_eq_true rfl, Nat.le_of_ble_eq_true rfl⟩ rfl (Nat.le_of_ble_eq_true rfl) ?_
            by_cases hfr : sq_fr (nI (W * H)) wl (gr_num (nI W) (nI H) aa bb)
            · rw [show ms_b (sq_fr (nI (W * H)) wl (gr_num (nI W) (nI H) aa bb)) = 1 from if_pos hfr]
              refine ms_if_eq (tgt := 105) dX5_walker_72 (by decide) (fun h9 => absurd h9 (by decide)) (fun _ => ?_)
              refine ms_run (pc' := 76) (lv' := [(6, .int (gr_num (nI W) (nI H) aa bb)), (0, .ref x), (1, .int gl), (2, .int pc), (3, .int mo), (4, .int aa), (5, .int bb)]) (st' := [.ref x]) _ (ms_deC dX5_walker_75 ms_deN) rfl rfl ?_
              refine ms_getf dX5_walker_76 fg_X5_21 hX rfl ?_
              refine ms_run (pc' := 82) (lv' := [(6, .int (gr_num (nI W) (nI H) aa bb)), (0, .ref x), (1, .int gl), (2, .int pc), (3, .int mo), (4, .int aa), (5, .int bb)]) (st' := [.int (gr_num (nI W) (nI H) aa bb), .int gl, .ref q]) _ (ms_deC dX5_walker_79 (ms_deC dX5_walker_80 ms_deN)) rfl rfl ?_
              refine ms_callVp (As := [.int gl, .int (gr_num (nI W) (nI H) aa bb)]) dX5_walker_82 (c_X3_isMarked hG hQ gl (gr_num (nI W) (nI H) aa bb)) cv_X5_159 hQ.1 rfl ⟨Nat.le_of_ble_eq_true rfl, Nat.le_of_ble_eq_true rfl⟩ rfl (Nat.le_of_ble_eq_true rfl) ?_
              by_cases hmk : sq_mk (nI (W * H)) mk gl (gr_num (nI W) (nI H) aa bb)
              · rw [show ms_b (sq_mk (nI (W * H)) mk gl (gr_num (nI W) (nI H) aa bb)) = 1 from if_pos hmk]
                refine ms_if_ne (tgt := 105) dX5_walker_85 (by decide) (fun _ => ?_) (fun h9 => absurd h9 (by decide))
                refine ms_run (pc' := 109) (lv' := [(7, .int 0), (6, .int (gr_num (nI W) (nI H) aa bb)), (0, .ref x), (1, .int gl), (2, .int pc), (3, .int mo), (4, .int aa), (5, .int bb)]) (st' := [.ref x]) _ (ms_deC dX5_walker_105 (ms_deC dX5_walker_106 (ms_deC dX5_walker_108 ms_deN))) rfl rfl ?_
                refine ms_getf dX5_walker_109 fg_X5_30 hX rfl ?_
                refine ms_getf dX5_walker_112 fg_X5_163 hC.1 rfl ?_
                refine ms_run (pc' := 117) (lv' := [(7, .int 0), (6, .int (gr_num (nI W) (nI H) aa bb)), (0, .ref x), (1, .int gl), (2, .int pc), (3, .int mo), (4, .int aa), (5, .int bb)]) (st' := [.int 24, .int (hd 0)]) _ (ms_deC dX5_walker_115 ms_deN) rfl rfl ?_
                refine ms_icmp_ge (tgt := 125) dX5_walker_117 (by decide) (fun h_117 => ?_) (fun h_117 => ?_)
                · skip
                  refine ms_throw dX5_walker_125 dX5_walker_128 dX5_walker_129 dX5_walker_131 dX5_walker_134 th_X5_83_166_87 ⟨Nat.le_of_ble_eq_true rfl, Nat.le_of_ble_eq_true rfl⟩ (Nat.le_of_ble_eq_true rfl) (by omega) (by omega) (fun n1 hn1 => ?_)
                  have hz9 : 24 ≤ cnt ∨ ¬ sq_fr (nI (W * H)) wl (gr_num (nI W) (nI H) aa bb) ∨ sq_mk (nI (W * H)) mk gl (gr_num (nI W) (nI H) aa bb) ∨ ¬ cr_on X.2.2.1 (gr_num (nI W) (nI H) aa bb) = -1 := by first | exact Or.inl (Nat.not_lt.mp (fun z => nI_ge z (by omega) (show nI 24 ≤ nI cnt from by rw [← hx]; assumption))) | exact Or.inr (Or.inl hfr) | exact Or.inr (Or.inr (Or.inl hmk)) | exact Or.inr (Or.inr (Or.inr (by assumption)))
                  exact xq_P.thr hn1 (by unfold th_wlk; rw [if_neg (by rintro (z | z); exact z hgl; exact h_23 z), if_neg (by rintro (z | z | z); exact h_38 z; exact (Int32.not_lt.mpr (by first | exact h_43 | exact Int32.not_lt.mp h_43)) z; exact z hmo), if_pos hz9])
                · skip
                  refine ms_run (pc' := 122) (lv' := [(7, .int 0), (6, .int (gr_num (nI W) (nI H) aa bb)), (0, .ref x), (1, .int gl), (2, .int pc), (3, .int mo), (4, .int aa), (5, .int bb)]) (st' := [.int 0]) _ (ms_deC dX5_walker_120 ms_deN) rfl rfl ?_
                  refine ms_if_ne (tgt := 135) dX5_walker_122 (by decide) (fun h9 => absurd h9 (by decide)) (fun _ => ?_)
                  refine ms_throw dX5_walker_125 dX5_walker_128 dX5_walker_129 dX5_walker_131 dX5_walker_134 th_X5_83_166_87 ⟨Nat.le_of_ble_eq_true rfl, Nat.le_of_ble_eq_true rfl⟩ (Nat.le_of_ble_eq_true rfl) (by omega) (by omega) (fun n1 hn1 => ?_)
                  have hz9 : 24 ≤ cnt ∨ ¬ sq_fr (nI (W * H)) wl (gr_num (nI W) (nI H) aa bb) ∨ sq_mk (nI (W * H)) mk gl (gr_num (nI W) (nI H) aa bb) ∨ ¬ cr_on X.2.2.1 (gr_num (nI W) (nI H) aa bb) = -1 := by first | exact Or.inl (Nat.not_lt.mp (fun z => nI_ge z (by omega) (show nI 24 ≤ nI cnt from by rw [← hx]; assumption))) | exact Or.inr (Or.inl hfr) | exact Or.inr (Or.inr (Or.inl hmk)) | exact Or.inr (Or.inr (Or.inr (by assumption)))
                  exact xq_P.thr hn1 (by unfold th_wlk; rw [if_neg (by rintro (z | z); exact z hgl; exact h_23 z), if_neg (by rintro (z | z | z); exact h_38 z; exact (Int32.not_lt.mpr (by first | exact h_43 | exact Int32.not_lt.mp h_43)) z; exact z hmo), if_pos hz9])
              · rw [show ms_b (sq_mk (nI (W * H)) mk gl (gr_num (nI W) (nI H) aa bb)) = 0 from if_neg hmk]
                refine ms_if_ne (tgt := 105) dX5_walker_85 (by decide) (fun h9 => absurd h9 (by decide)) (fun _ => ?_)
                refine ms_run (pc' := 89) (lv' := [(6, .int (gr_num (nI W) (nI H) aa bb)), (0, .ref x), (1, .int gl), (2, .int pc), (3, .int mo), (4, .int aa), (5, .int bb)]) (st' := [.ref x]) _ (ms_deC dX5_walker_88 ms_deN) rfl rfl ?_
                refine ms_getf dX5_walker_89 fg_X5_30 hX rfl ?_
                refine ms_run (pc' := 94) (lv' := [(6, .int (gr_num (nI W) (nI H) aa bb)), (0, .ref x), (1, .int gl), (2, .int pc), (3, .int mo), (4, .int aa), (5, .int bb)]) (st' := [.int (gr_num (nI W) (nI H) aa bb), .ref c]) _ (ms_deC dX5_walker_92 ms_deN) rfl rfl ?_
                refine ms_callVp (As := [.int (gr_num (nI W) (nI H) aa bb)]) dX5_walker_94 (c_X0_numberOn hC (gr_num (nI W) (nI H) aa bb)) cv_X5_105 hC.1 rfl ⟨Nat.le_of_ble_eq_true rfl, Nat.le_of_ble_eq_true rfl⟩ rfl (Nat.le_of_ble_eq_true rfl) ?_
                refine ms_run (pc' := 98) (lv' := [(6, .int (gr_num (nI W) (nI H) aa bb)), (0, .ref x), (1, .int gl), (2, .int pc), (3, .int mo), (4, .int aa), (5, .int bb)]) (st' := [.int (-1), .int (cr_on X.2.2.1 (gr_num (nI W) (nI H) aa bb))]) _ (ms_deC dX5_walker_97 ms_deN) rfl rfl ?_
                refine ms_icmp_ne (tgt := 105) dX5_walker_98 (by decide) (fun h_98 => ?_) (fun h_98 => ?_)
                · skip
                  refine ms_run (pc' := 109) (lv' := [(7, .int 0), (6, .int (gr_num (nI W) (nI H) aa bb)), (0, .ref x), (1, .int gl), (2, .int pc), (3, .int mo), (4, .int aa), (5, .int bb)]) (st' := [.ref x]) _ (ms_deC dX5_walker_105 (ms_deC dX5_walker_106 (ms_deC dX5_walker_108 ms_deN))) rfl rfl ?_
                  refine ms_getf dX5_walker_109 fg_X5_30 hX rfl ?_
                  refine ms_getf dX5_walker_112 fg_X5_163 hC.1 rfl ?_
                  refine ms_run (pc' := 117) (lv' := [(7, .int 0), (6, .int (gr_num (nI W) (nI H) aa bb)), (0, .ref x), (1, .int gl), (2, .int pc), (3, .int mo), (4, .int aa), (5, .int bb)]) (st' := [.int 24, .int (hd 0)]) _ (ms_deC dX5_walker_115 ms_deN) rfl rfl ?_
                  refine ms_icmp_ge (tgt := 125) dX5_walker_117 (by decide) (fun h_117 => ?_) (fun h_117 => ?_)
                  · skip
                    refine ms_throw dX5_walker_125 dX5_walker_128 dX5_walker_129 dX5_walker_131 dX5_walker_134 th_X5_83_166_87 ⟨Nat.le_of_ble_eq_true rfl, Nat.le_of_ble_eq_true rfl⟩ (Nat.le_of_ble_eq_true rfl) (by omega) (by omega) (fun n1 hn1 => ?_)
                    have hz9 : 24 ≤ cnt ∨ ¬ sq_fr (nI (W * H)) wl (gr_num (nI W) (nI H) aa bb) ∨ sq_mk (nI (W * H)) mk gl (gr_num (nI W) (nI H) aa bb) ∨ ¬ cr_on X.2.2.1 (gr_num (nI W) (nI H) aa bb) = -1 := by first | exact Or.inl (Nat.not_lt.mp (fun z => nI_ge z (by omega) (show nI 24 ≤ nI cnt from by rw [← hx]; assumption))) | exact Or.inr (Or.inl hfr) | exact Or.inr (Or.inr (Or.inl hmk)) | exact Or.inr (Or.inr (Or.inr (by assumption)))
                    exact xq_P.thr hn1 (by unfold th_wlk; rw [if_neg (by rintro (z | z); exact z hgl; exact h_23 z), if_neg (by rintro (z | z | z); exact h_38 z; exact (Int32.not_lt.mpr (by first | exact h_43 | exact Int32.not_lt.mp h_43)) z; exact z hmo), if_pos hz9])
                  · skip
                    refine ms_run (pc' := 122) (lv' := [(7, .int 0), (6, .int (gr_num (nI W) (nI H) aa bb)), (0, .ref x), (1, .int gl), (2, .int pc), (3, .int mo), (4, .int aa), (5, .int bb)]) (st' := [.int 0]) _ (ms_deC dX5_walker_120 ms_deN) rfl rfl ?_
                    refine ms_if_ne (tgt := 135) dX5_walker_122 (by decide) (fun h9 => absurd h9 (by decide)) (fun _ => ?_)
                    refine ms_throw dX5_walker_125 dX5_walker_128 dX5_walker_129 dX5_walker_131 dX5_walker_134 th_X5_83_166_87 ⟨Nat.le_of_ble_eq_true rfl, Nat.le_of_ble_eq_true rfl⟩ (Nat.le_of_ble_eq_true rfl) (by omega) (by omega) (fun n1 hn1 => ?_)
                    have hz9 : 24 ≤ cnt ∨ ¬ sq_fr (nI (W * H)) wl (gr_num (nI W) (nI H) aa bb) ∨ sq_mk (nI (W * H)) mk gl (gr_num (nI W) (nI H) aa bb) ∨ ¬ cr_on X.2.2.1 (gr_num (nI W) (nI H) aa bb) = -1 := by first | exact Or.inl (Nat.not_lt.mp (fun z => nI_ge z (by omega) (show nI 24 ≤ nI cnt from by rw [← hx]; assumption))) | exact Or.inr (Or.inl hfr) | exact Or.inr (Or.inr (Or.inl hmk)) | exact Or.inr (Or.inr (Or.inr (by assumption)))
                    exact xq_P.thr hn1 (by unfold th_wlk; rw [if_neg (by rintro (z | z); exact z hgl; exact h_23 z), if_neg (by rintro (z | z | z); exact h_38 z; exact (Int32.not_lt.mpr (by first | exact h_43 | exact Int32.not_lt.mp h_43)) z; exact z hmo), if_pos hz9])
                · skip
                  refine ms_run (pc' := 102) (lv' := [(6, .int (gr_num (nI W) (nI H) aa bb)), (0, .ref x), (1, .int gl), (2, .int pc), (3, .int mo), (4, .int aa), (5, .int bb)]) (st' := [.int 1]) _ (ms_deC dX5_walker_101 ms_deN) rfl rfl ?_
                  refine ms_goto (tgt := 106) dX5_walker_102 (by decide) ?_
                  refine ms_run (pc' := 109) (lv' := [(7, .int 1), (6, .int (gr_num (nI W) (nI H) aa bb)), (0, .ref x), (1, .int gl), (2, .int pc), (3, .int mo), (4, .int aa), (5, .int bb)]) (st' := [.ref x]) _ (ms_deC dX5_walker_106 (ms_deC dX5_walker_108 ms_deN)) rfl rfl ?_
                  refine ms_getf dX5_walker_109 fg_X5_30 hX rfl ?_
                  refine ms_getf dX5_walker_112 fg_X5_163 hC.1 rfl ?_
                  refine ms_run (pc' := 117) (lv' := [(7, .int 1), (6, .int (gr_num (nI W) (nI H) aa bb)), (0, .ref x), (1, .int gl), (2, .int pc), (3, .int mo), (4, .int aa), (5, .int bb)]) (st' := [.int 24, .int (hd 0)]) _ (ms_deC dX5_walker_115 ms_deN) rfl rfl ?_
                  refine ms_icmp_ge (tgt := 125) dX5_walker_117 (by decide) (fun h_117 => ?_) (fun h_117 => ?_)
                  · skip
                    refine ms_throw dX5_walker_125 dX5_walker_128 dX5_walker_129 dX5_walker_131 dX5_walker_134 th_X5_83_166_87 ⟨Nat.le_of_ble_eq_true rfl, Nat.le_of_ble_eq_true rfl⟩ (Nat.le_of_ble_eq_true rfl) (by omega) (by omega) (fun n1 hn1 => ?_)
                    have hz9 : 24 ≤ cnt ∨ ¬ sq_fr (nI (W * H)) wl (gr_num (nI W) (nI H) aa bb) ∨ sq_mk (nI (W * H)) mk gl (gr_num (nI W) (nI H) aa bb) ∨ ¬ cr_on X.2.2.1 (gr_num (nI W) (nI H) aa bb) = -1 := by first | exact Or.inl (Nat.not_lt.mp (fun z => nI_ge z (by omega) (show nI 24 ≤ nI cnt from by rw [← hx]; assumption))) | exact Or.inr (Or.inl hfr) | exact Or.inr (Or.inr (Or.inl hmk)) | exact Or.inr (Or.inr (Or.inr (by assumption)))
                    exact xq_P.thr hn1 (by unfold th_wlk; rw [if_neg (by rintro (z | z); exact z hgl; exact h_23 z), if_neg (by rintro (z | z | z); exact h_38 z; exact (Int32.not_lt.mpr (by first | exact h_43 | exact Int32.not_lt.mp h_43)) z; exact z hmo), if_pos hz9])
                  · skip
                    refine ms_run (pc' := 122) (lv' := [(7, .int 1), (6, .int (gr_num (nI W) (nI H) aa bb)), (0, .ref x), (1, .int gl), (2, .int pc), (3, .int mo), (4, .int aa), (5, .int bb)]) (st' := [.int 1]) _ (ms_deC dX5_walker_120 ms_deN) rfl rfl ?_
                    refine ms_if_ne (tgt := 135) dX5_walker_122 (by decide) (fun _ => ?_) (fun h9 => absurd h9 (by decide))
                    refine ms_run (pc' := 136) (lv' := [(7, .int 1), (6, .int (gr_num (nI W) (nI H) aa bb)), (0, .ref x), (1, .int gl), (2, .int pc), (3, .int mo), (4, .int aa), (5, .int bb)]) (st' := [.ref x]) _ (ms_deC dX5_walker_135 ms_deN) rfl rfl ?_
                    refine ms_getf dX5_walker_136 fg_X5_30 hX rfl ?_
                    refine ms_run (pc' := 144) (lv' := [(7, .int 1), (6, .int (gr_num (nI W) (nI H) aa bb)), (0, .ref x), (1, .int gl), (2, .int pc), (3, .int mo), (4, .int aa), (5, .int bb)]) (st' := [.int (gr_num (nI W) (nI H) aa bb), .int mo, .int pc, .int gl, .ref c]) _ (ms_deC dX5_walker_139 (ms_deC dX5_walker_140 (ms_deC dX5_walker_141 (ms_deC dX5_walker_142 ms_deN)))) rfl rfl ?_
                    have hlt24 : cnt < 24 := Nat.not_le.mp (fun z => h_117 (show nI 24 ≤ hd 0 from by rw [hx]; exact nI_le z (by omega)))
                    refine ms_callV0 (As := [.int gl, .int pc, .int mo, .int (gr_num (nI W) (nI H) aa bb)]) dX5_walker_144 (c_X0_add hG hC (by omega) (by omega) hx hlt24 gl pc mo (gr_num (nI W) (nI H) aa bb) hfr.1) cv_X5_168 hC.1 rfl ⟨Nat.le_of_ble_eq_true rfl, Nat.le_of_ble_eq_true rfl⟩ rfl (Nat.le_of_ble_eq_true rfl) (fun v9 n9 K_ad hp9 => ?_)
                    obtain ⟨hv9, rfl, ⟨cm9, hC9⟩, hF_ad⟩ := hp9
                    cases hv9
                    have hG_1 : gr_at K_ad g (nI (W * H)) (nI W) (nI H) nr := gr_at.fr hG hF_ad (by omega)
                    have hQ_2 : sq_at K_ad g q wl mk ds qu := sq_at.fr hQ hF_ad (by omega)
                    have hJ_3 : jm_at K_ad j cn wi jo sz quj := jm_at.fr hJ hF_ad (by omega)
                    have hQt_4 : sq_at K_ad g q2 wl2 mk2 ds2 qu2 := sq_at.fr hQt hF_ad (by omega)
                    have hCt_5 : cr_at K_ad g q2 c2 hd2 on2 ht2 cm2 wk2 := cr_at.fr hCt hF_ad (by omega)
                    have hF_6 : ms_fr x (c2 + 29 - x) G K_ad := ms_fr.trans hF (ms_fr.mono hF_ad (by omega) (by omega))
                    have hf_7 := (hF_ad x (by omega)).trans hX
                    refine ms_reti (st := []) (ty := .int) dX5_walker_147 rfl rfl ?_
                    have hcw : cw_at K_ad g q c (cnt + 1) dr pa (adX cnt X gl pc mo (gr_num (nI W) (nI H) aa bb)) := ⟨h4 (nI cnt + 1) (hd 1) (hd 2) (hd 3), cm9, _, hC9, nI_1 cnt, hd1, hd2_, hd3, fun k hk j hj => by
                      show va_up wk cnt _ k j = va_up X.1 cnt _ k j
                      unfold va_up
                      by_cases e : k = cnt
                      · rw [if_pos e, if_pos e]; exact wk_come_c hj
                      · rw [if_neg e, if_neg e]; exact ha k (by omega) j hj⟩
                    exact xq_P.ret (by unfold th_wlk; rw [if_neg (by rintro (z | z); exact z hgl; exact h_23 z), if_neg (by rintro (z | z | z); exact h_38 z; exact (Int32.not_lt.mpr (by first | exact h_43 | exact Int32.not_lt.mp h_43)) z; exact z hmo), if_neg (by rintro (z | z | z | z); omega; exact z hfr; exact hmk z; exact z (by first | assumption | exact Decidable.not_not.mp (by assumption)))]) rfl ⟨⟨hf_7, hG_1, ⟨_, hQ_2⟩, hcw, ⟨_, _, _, _, _, hJ_3⟩, ⟨_, _, _, _, hQt_4⟩, ⟨_, _, _, _, _, hCt_5⟩⟩, hF_6⟩
            · rw [show ms_b (sq_fr (nI (W * H)) wl (gr_num (nI W) (nI H) aa bb)) = 0 from if_neg hfr]
              refine ms_if_eq (tgt := 105) dX5_walker_72 (by decide) (fun _ => ?_) (fun h9 => absurd h9 (by decide))
              refine ms_run (pc' := 109) (lv' := [(7, .int 0), (6, .int (gr_num (nI W) (nI H) aa bb)), (0, .ref x), (1, .int gl), (2, .int pc), (3, .int mo), (4, .int aa), (5, .int bb)]) (st' := [.ref x]) _ (ms_deC dX5_walker_105 (ms_deC dX5_walker_106 (ms_deC dX5_walker_108 ms_deN))) rfl rfl ?_
              refine ms_getf dX5_walker_109 fg_X5_30 hX rfl ?_
              refine ms_getf dX5_walker_112 fg_X5_163 hC.1 rfl ?_
              refine ms_run (pc' := 117) (lv' := [(7, .int 0), (6, .int (gr_num (nI W) (nI H) aa bb)), (0, .ref x), (1, .int gl), (2, .int pc), (3, .int mo), (4, .int aa), (5, .int bb)]) (st' := [.int 24, .int (hd 0)]) _ (ms_deC dX5_walker_115 ms_deN) rfl rfl ?_
              refine ms_icmp_ge (tgt := 125) dX5_walker_117 (by decide) (fun h_117 => ?_) (fun h_117 => ?_)
              · skip
                refine ms_throw dX5_walker_125 dX5_walker_128 dX5_walker_129 dX5_walker_131 dX5_walker_134 th_X5_83_166_87 ⟨Nat.le_of_ble_eq_true rfl, Nat.le_of_ble_eq_true rfl⟩ (Nat.le_of_ble_eq_true rfl) (by omega) (by omega) (fun n1 hn1 => ?_)
                have hz9 : 24 ≤ cnt ∨ ¬ sq_fr (nI (W * H)) wl (gr_num (nI W) (nI H) aa bb) ∨ sq_mk (nI (W * H)) mk gl (gr_num (nI W) (nI H) aa bb) ∨ ¬ cr_on X.2.2.1 (gr_num (nI W) (nI H) aa bb) = -1 := by first | exact Or.inl (Nat.not_lt.mp (fun z => nI_ge z (by omega) (show nI 24 ≤ nI cnt from by rw [← hx]; assumption))) | exact Or.inr (Or.inl hfr) | exact Or.inr (Or.inr (Or.inl hmk)) | exact Or.inr (Or.inr (Or.inr (by assumption)))
                exact xq_P.thr hn1 (by unfold th_wlk; rw [if_neg (by rintro (z | z); exact z hgl; exact h_23 z), if_neg (by rintro (z | z | z); exact h_38 z; exact (Int32.not_lt.mpr (by first | exact h_43 | exact Int32.not_lt.mp h_43)) z; exact z hmo), if_pos hz9])
              · skip
                refine ms_run (pc' := 122) (lv' := [(7, .int 0), (6, .int (gr_num (nI W) (nI H) aa bb)), (0, .ref x), (1, .int gl), (2, .int pc), (3, .int mo), (4, .int aa), (5, .int bb)]) (st' := [.int 0]) _ (ms_deC dX5_walker_120 ms_deN) rfl rfl ?_
                refine ms_if_ne (tgt := 135) dX5_walker_122 (by decide) (fun h9 => absurd h9 (by decide)) (fun _ => ?_)
                refine ms_throw dX5_walker_125 dX5_walker_128 dX5_walker_129 dX5_walker_131 dX5_walker_134 th_X5_83_166_87 ⟨Nat.le_of_ble_eq_true rfl, Nat.le_of_ble_eq_true rfl⟩ (Nat.le_of_ble_eq_true rfl) (by omega) (by omega) (fun n1 hn1 => ?_)
                have hz9 : 24 ≤ cnt ∨ ¬ sq_fr (nI (W * H)) wl (gr_num (nI W) (nI H) aa bb) ∨ sq_mk (nI (W * H)) mk gl (gr_num (nI W) (nI H) aa bb) ∨ ¬ cr_on X.2.2.1 (gr_num (nI W) (nI H) aa bb) = -1 := by first | exact Or.inl (Nat.not_lt.mp (fun z => nI_ge z (by omega) (show nI 24 ≤ nI cnt from by rw [← hx]; assumption))) | exact Or.inr (Or.inl hfr) | exact Or.inr (Or.inr (Or.inl hmk)) | exact Or.inr (Or.inr (Or.inr (by assumption)))
                exact xq_P.thr hn1 (by unfold th_wlk; rw [if_neg (by rintro (z | z); exact z hgl; exact h_23 z), if_neg (by rintro (z | z | z); exact h_38 z; exact (Int32.not_lt.mpr (by first | exact h_43 | exact Int32.not_lt.mp h_43)) z; exact z hmo), if_pos hz9])
          · rw [show ms_b (0 ≤ mo ∧ mo ≤ 9) = 0 from if_neg hmo]
            refine ms_if_ne (tgt := 63) dX5_walker_50 (by decide) (fun h9 => absurd h9 (by decide)) (fun _ => ?_)
            refine ms_throw dX5_walker_53 dX5_walker_56 dX5_walker_57 dX5_walker_59 dX5_walker_62 th_X5_51_154_55 ⟨Nat.le_of_ble_eq_true rfl, Nat.le_of_ble_eq_true rfl⟩ (Nat.le_of_ble_eq_true rfl) (by omega) (by omega) (fun n1 hn1 => ?_)
            exact xq_P.thr hn1 (by unfold th_wlk; rw [if_neg (by rintro (z | z); exact z hgl; exact h_23 z), if_pos (by first | exact Or.inl (by assumption) | exact Or.inr (Or.inl (by first | assumption | exact Int32.not_le.mp (by assumption))) | exact Or.inr (Or.inr hmo))])
    · skip
      refine ms_throw dX5_walker_26 dX5_walker_29 dX5_walker_30 dX5_walker_32 dX5_walker_35 th_X5_66_103_70 ⟨Nat.le_of_ble_eq_true rfl, Nat.le_of_ble_eq_true rfl⟩ (Nat.le_of_ble_eq_true rfl) (by omega) (by omega) (fun n1 hn1 => ?_)
      exact xq_P.thr hn1 (if_pos (by first | exact Or.inl hgl | exact Or.inr (by first | assumption | exact Decidable.not_not.mp (by assumption))))
  · rw [show ms_b (gl_is gl) = 0 from if_neg hgl]
    refine ms_if_eq (tgt := 26) dX5_walker_17 (by decide) (fun _ => ?_) (fun h9 => absurd h9 (by decide))
    refine ms_throw dX5_walker_26 dX5_walker_29 dX5_walker_30 dX5_walker_32 dX5_walker_35 th_X5_66_103_70 ⟨Nat.le_of_ble_eq_true rfl, Nat.le_of_ble_eq_true rfl⟩ (Nat.le_of_ble_eq_true rfl) (by omega) (by omega) (fun n1 hn1 => ?_)
    exact xq_P.thr hn1 (if_pos (by first | exact Or.inl hgl | exact Or.inr (by first | assumption | exact Decidable.not_not.mp (by assumption))))
def th_trn (W H : Nat) (mk : Nat → Int32) (cnt : Nat) (u : Nat → Nat → Int32) (k gl mo : Int32) : Option String := if ¬ pIs (nI cnt) k ∨ ¬ gl_is gl then some IOB else if ¬ (0 ≤ mo ∧ mo ≤ 9) then some IAE else if u k.toNatClampNeg 3 = -1 ∨ sq_mk (nI (W * H)) mk gl (u k.toNatClampNeg 3) then some ISE else none
def trX (X : cX) (k : Nat) (gl mo : Int32) : cX := (va_up X.1 k (upd (upd (X.1 k) 0 gl) 2 mo), X.2.1, X.2.2.1, X.2.2.2)
set_option maxHeartbeats 4000000 in
set_option maxRecDepth 20000 in
theorem c_X5_turnTo {n x g q c j q2 c2 W H : Nat} {G : ms_H} {nr wl mk ds : Nat → Int32} {cnt : Nat} {dr pa : Int32} {X : cX} (ho : ox x g q c j q2 c2) (hS : xs_at G x g q c j q2 c2 W H nr wl mk ds cnt dr pa X) (hc : cnt ≤ 24) (kk gl mo : Int32) : ms_X m_X5_turnTo [.ref x, .int kk, .int gl, .int mo] n G 1 6 (xq_P n G (th_trn W H mk cnt X.1 kk gl mo) (.int (X.1 kk.toNatClampNeg 0)) (fun G1 => xs_at G1 x g q c j q2 c2 W H nr wl mk ds cnt dr pa (trX X kk.toNatClampNeg gl mo) ∧ ms_fr x (c2 + 29 - x) G G1)) := by
  refine ms_X.of (by decide) (Nat.le_of_ble_eq_true rfl) ?_
  show ms_W true m_X5_turnTo _ 0 [(0, .ref x), (1, .int kk), (2, .int gl), (3, .int mo)] [] n G 1 6
  obtain ⟨hX, hG, ⟨qu, hQ⟩, ⟨hd, cm, wk, hC, hx, hd1, hd2_, hd3, ha⟩, ⟨cn, wi, jo, sz, quj, hJ⟩, ⟨wl2, mk2, ds2, qu2, hQt⟩, ⟨hd2, on2, ht2, cm2, wk2, hCt⟩⟩ := hS
  obtain ⟨o1, o2, o3, o4, o5, o6⟩ := ho
  have hF : ms_fr x (c2 + 29 - x) G G := ms_fr.rf
  refine ms_run (pc' := 1) (lv' := [(0, .ref x), (1, .int kk), (2, .int gl), (3, .int mo)]) (st' := [.ref x]) _ (ms_deC dX5_turnTo_0 ms_deN) rfl rfl ?_
  refine ms_getf dX5_turnTo_1 fg_X5_30 hX rfl ?_
  refine ms_run (pc' := 5) (lv' := [(0, .ref x), (1, .int kk), (2, .int gl), (3, .int mo)]) (st' := [.int kk, .ref c]) _ (ms_deC dX5_turnTo_4 ms_deN) rfl rfl ?_
  refine ms_callVp (As := [.int kk]) dX5_turnTo_5 (c_X0_get hC kk) cv_X5_109 hC.1 rfl ⟨Nat.le_of_ble_eq_true rfl, Nat.le_of_ble_eq_true rfl⟩ rfl (Nat.le_of_ble_eq_true rfl) ?_
  rw [hx]
  by_cases hpi : pIs (nI cnt) kk
  · rw [show cr_get c (nI cnt) kk = .ref (c + 5 + kk.toNatClampNeg) from if_pos hpi]
    obtain ⟨i, hi, hki⟩ := pIs_nI hc hpi
    subst hki
    rw [nI_clamp (by omega)]
    refine ms_run (pc' := 12) (lv' := [(4, .ref (c + 5 + i)), (0, .ref x), (1, .int (nI i)), (2, .int gl), (3, .int mo)]) (st' := [.ref (c + 5 + i)]) _ (ms_deC dX5_turnTo_8 (ms_deC dX5_turnTo_10 ms_deN)) rfl rfl ?_
    refine ms_ifnull dX5_turnTo_12 ?_
    refine ms_run (pc' := 16) (lv' := [(4, .ref (c + 5 + i)), (0, .ref x), (1, .int (nI i)), (2, .int gl), (3, .int mo)]) (st' := [.int gl]) _ (ms_deC dX5_turnTo_15 ms_deN) rfl rfl ?_
    refine ms_callSp (As := [.int gl]) dX5_turnTo_16 (c_X5_isGoal gl) cs_X5_99 rfl ⟨Nat.le_of_ble_eq_true rfl, Nat.le_of_ble_eq_true rfl⟩ rfl (Nat.le_of_ble_eq_true rfl) ?_
    by_cases hgl : gl_is gl
    · rw [show ms_b (gl_is gl) = 1 from if_pos hgl]
      refine ms_if_ne (tgt := 32) dX5_turnTo_19 (by decide) (fun _ => ?_) (fun h9 => absurd h9 (by decide))
      refine ms_run (pc' := 33) (lv' := [(4, .ref (c + 5 + i)), (0, .ref x), (1, .int (nI i)), (2, .int gl), (3, .int mo)]) (st' := [.int mo]) _ (ms_deC dX5_turnTo_32 ms_deN) rfl rfl ?_
      refine ms_callSp (As := [.int mo]) dX5_turnTo_33 (c_X5_isMood mo) cs_X5_151 rfl ⟨Nat.le_of_ble_eq_true rfl, Nat.le_of_ble_eq_true rfl⟩ rfl (Nat.le_of_ble_eq_true rfl) ?_
      by_cases hmo : 0 ≤ mo ∧ mo ≤ 9
      · rw [show ms_b (0 ≤ mo ∧ mo ≤ 9) = 1 from if_pos hmo]
        refine ms_if_ne (tgt := 49) dX5_turnTo_36 (by decide) (fun _ => ?_) (fun h9 => absurd h9 (by decide))
        refine ms_run (pc' := 51) (lv' := [(4, .ref (c + 5 + i)), (0, .ref x), (1, .int (nI i)), (2, .int gl), (3, .int mo)]) (st' := [.ref (c + 5 + i)]) _ (ms_deC dX5_turnTo_49 ms_deN) rfl rfl ?_
        refine ms_callVp (As := []) dX5_turnTo_51 (c_X4_isOut (hC.2.2.2.2.2 i (Nat.lt_of_lt_of_le hi hc))) cv_X5_176 (hC.2.2.2.2.2 i (Nat.lt_of_lt_of_le hi hc)) rfl ⟨Nat.le_of_ble_eq_true rfl, Nat.le_of_ble_eq_true rfl⟩ rfl (Nat.le_of_ble_eq_true rfl) ?_
        simp only [ha i hi 3 (by omega)]
        by_cases hout : X.1 i 3 = -1
        · rw [show ms_b (X.1 i 3 = -1) = 1 from if_pos hout]
          refine ms_if_ne (tgt := 73) dX5_turnTo_54 (by decide) (fun _ => ?_) (fun h9 => absurd h9 (by decide))
          refine ms_throw dX5_turnTo_73 dX5_turnTo_76 dX5_turnTo_77 dX5_turnTo_79 dX5_turnTo_82 th_X5_83_183_87 ⟨Nat.le_of_ble_eq_true rfl, Nat.le_of_ble_eq_true rfl⟩ (Nat.le_of_ble_eq_true rfl) (by omega) (by omega) (fun n1 hn1 => ?_)
          exact xq_P.thr hn1 (by unfold th_trn; rw [if_neg (by rintro (z | z); exact z hpi; exact z hgl), if_neg (not_not_intro hmo), nI_clamp (by omega), if_pos (by first | exact Or.inl hout | exact Or.inr hmk)])
        · rw [show ms_b (X.1 i 3 = -1) = 0 from if_neg hout]
          refine ms_if_ne (tgt := 73) dX5_turnTo_54 (by decide) (fun h9 => absurd h9 (by decide)) (fun _ => ?_)
          refine ms_run (pc' := 58) (lv' := [(4, .ref (c + 5 + i)), (0, .ref x), (1, .int (nI i)), (2, .int gl), (3, .int mo)]) (st' := [.ref x]) _ (ms_deC dX5_turnTo_57 ms_deN) rfl rfl ?_
          refine ms_getf dX5_turnTo_58 fg_X5_21 hX rfl ?_
          refine ms_run (pc' := 64) (lv' := [(4, .ref (c + 5 + i)), (0, .ref x), (1, .int (nI i)), (2, .int gl), (3, .int mo)]) (st' := [.ref (c + 5 + i), .int gl, .ref q]) _ (ms_deC dX5_turnTo_61 (ms_deC dX5_turnTo_62 ms_deN)) rfl rfl ?_
          refine ms_getf (v := .int (wk i 3)) dX5_turnTo_64 fg_X5_180 (hC.2.2.2.2.2 i (Nat.lt_of_lt_of_le hi hc)) rfl ?_
          refine ms_callVp (As := [.int gl, .int (wk i 3)]) dX5_turnTo_67 (c_X3_isMarked hG hQ gl (wk i 3)) cv_X5_159 hQ.1 rfl ⟨Nat.le_of_ble_eq_true rfl, Nat.le_of_ble_eq_true rfl⟩ rfl (Nat.le_of_ble_eq_true rfl) ?_
          simp only [ha i hi 3 (by omega)]
          by_cases hmk : sq_mk (nI (W * H)) mk gl (X.1 i 3)
          · rw [show ms_b (sq_mk (nI (W * H)) mk gl (X.1 i 3)) = 1 from if_pos hmk]
            refine ms_if_eq (tgt := 83) dX5_turnTo_70 (by decide) (fun h9 => absurd h9 (by decide)) (fun _ => ?_)
            refine ms_throw dX5_turnTo_73 dX5_turnTo_76 dX5_turnTo_77 dX5_turnTo_79 dX5_turnTo_82 th_X5_83_183_87 ⟨Nat.le_of_ble_eq_true rfl, Nat.le_of_ble_eq_true rfl⟩ (Nat.le_of_ble_eq_true rfl) (by omega) (by omega) (fun n1 hn1 => ?_)
            exact xq_P.thr hn1 (by unfold th_trn; rw [if_neg (by rintro (z | z); exact z hpi; exact z hgl), if_neg (not_not_intro hmo), nI_clamp (by omega), if_pos (by first | exact Or.inl hout | exact Or.inr hmk)])
          · rw [show ms_b (sq_mk (nI (W * H)) mk gl (X.1 i 3)) = 0 from if_neg hmk]
            refine ms_if_eq (tgt := 83) dX5_turnTo_70 (by decide) (fun _ => ?_) (fun h9 => absurd h9 (by decide))
            refine ms_run (pc' := 85) (lv' := [(4, .ref (c + 5 + i)), (0, .ref x), (1, .int (nI i)), (2, .int gl), (3, .int mo)]) (st' := [.ref (c + 5 + i)]) _ (ms_deC dX5_turnTo_83 ms_deN) rfl rfl ?_
            refine ms_getf (v := .int (wk i 0)) dX5_turnTo_85 fg_X5_113 (hC.2.2.2.2.2 i (Nat.lt_of_lt_of_le hi hc)) rfl ?_
            refine ms_run (pc' := 93) (lv' := [(5, .int (wk i 0)), (4, .ref (c + 5 + i)), (0, .ref x), (1, .int (nI i)), (2, .int gl), (3, .int mo)]) (st' := [.int gl, .ref (c + 5 + i)]) _ (ms_deC dX5_turnTo_88 (ms_deC dX5_turnTo_90 (ms_deC dX5_turnTo_92 ms_deN))) rfl rfl ?_
            refine ms_putf dX5_turnTo_93 fp_X5_113 (hC.2.2.2.2.2 i (Nat.lt_of_lt_of_le hi hc)) (Nat.le_of_ble_eq_true rfl) rfl rfl ?_
            obtain ⟨G_1, eG_1⟩ : ∃ K9 : ms_H, K9 = ms_up G (c + 5 + i) (.inr (4, cr_w (upd (wk i) 0 gl))) := ⟨_, rfl⟩
            refine ms_W.heq eG_1 ?_
            have hG_2 : gr_at G_1 g (nI (W * H)) (nI W) (nI H) nr := by rw [eG_1]; exact gr_at.up hG (by omega)
            have hQ_3 : sq_at G_1 g q wl mk ds qu := by rw [eG_1]; exact sq_at.up hQ (by omega)
            have hC_4 : cr_at G_1 g q c hd X.2.2.1 X.2.1 cm (va_up wk i (upd (wk i) 0 gl)) := by rw [eG_1]; exact cr_at.s_wk hC ((Nat.lt_of_lt_of_le hi hc)) (upd (wk i) 0 gl)
            have hJ_5 : jm_at G_1 j cn wi jo sz quj := by rw [eG_1]; exact jm_at.up hJ (by omega)
            have hQt_6 : sq_at G_1 g q2 wl2 mk2 ds2 qu2 := by rw [eG_1]; exact sq_at.up hQt (by omega)
            have hCt_7 : cr_at G_1 g q2 c2 hd2 on2 ht2 cm2 wk2 := by rw [eG_1]; exact cr_at.up hCt (by omega)
            have hF_8 : ms_fr x (c2 + 29 - x) G G_1 := by rw [eG_1]; exact ms_fr.up hF (by omega)
            have hf_9 := (congrFun eG_1 x).trans ((ms_up_n G _ (by omega)).trans hX)
            have hf_10 := (congrFun eG_1 q).trans ((ms_up_n G _ (by omega)).trans hQ.1)
            have hf_11 := (congrFun eG_1 q2).trans ((ms_up_n G _ (by omega)).trans hQt.1)
            have hf_12 : G_1 (c + 5 + i) = some (.inr (4, cr_w (upd (wk i) 0 gl))) := by rw [eG_1]; exact ms_up_s _ _ _
            refine ms_run (pc' := 99) (lv' := [(5, .int (wk i 0)), (4, .ref (c + 5 + i)), (0, .ref x), (1, .int (nI i)), (2, .int gl), (3, .int mo)]) (st' := [.int mo, .ref (c + 5 + i)]) _ (ms_deC dX5_turnTo_96 (ms_deC dX5_turnTo_98 ms_deN)) rfl rfl ?_
            refine ms_putf dX5_turnTo_99 fp_X5_185 hf_12 (Nat.le_of_ble_eq_true rfl) rfl rfl ?_
            obtain ⟨G_13, eG_13⟩ : ∃ K9 : ms_H, K9 = ms_up G_1 (c + 5 + i) (.inr (4, cr_w (upd (upd (wk i) 0 gl) 2 mo))) := ⟨_, rfl⟩
            refine ms_W.heq eG_13 ?_
            have hG_14 : gr_at G_13 g (nI (W * H)) (nI W) (nI H) nr := by rw [eG_13]; exact gr_at.up hG_2 (by omega)
            have hQ_15 : sq_at G_13 g q wl mk ds qu := by rw [eG_13]; exact sq_at.up hQ_3 (by omega)
            have hC_16 : cr_at G_13 g q c hd X.2.2.1 X.2.1 cm (va_up (va_up wk i (upd (wk i) 0 gl)) i (upd (upd (wk i) 0 gl) 2 mo)) := by rw [eG_13]; exact cr_at.s_wk hC_4 ((Nat.lt_of_lt_of_le hi hc)) (upd (upd (wk i) 0 gl) 2 mo)
            have hJ_17 : jm_at G_13 j cn wi jo sz quj := by rw [eG_13]; exact jm_at.up hJ_5 (by omega)
            have hQt_18 : sq_at G_13 g q2 wl2 mk2 ds2 qu2 := by rw [eG_13]; exact sq_at.up hQt_6 (by omega)
            have hCt_19 : cr_at G_13 g q2 c2 hd2 on2 ht2 cm2 wk2 := by rw [eG_13]; exact cr_at.up hCt_7 (by omega)
            have hF_20 : ms_fr x (c2 + 29 - x) G G_13 := by rw [eG_13]; exact ms_fr.up hF_8 (by omega)
            have hf_21 := (congrFun eG_13 x).trans ((ms_up_n G_1 _ (by omega)).trans hf_9)
            have hf_22 := (congrFun eG_13 q).trans ((ms_up_n G_1 _ (by omega)).trans hQ_3.1)
            have hf_23 := (congrFun eG_13 q2).trans ((ms_up_n G_1 _ (by omega)).trans hQt_6.1)
            have hf_24 : G_13 (c + 5 + i) = some (.inr (4, cr_w (upd (upd (wk i) 0 gl) 2 mo))) := by rw [eG_13]; exact ms_up_s _ _ _
            refine ms_run (pc' := 104) (lv' := [(5, .int (wk i 0)), (4, .ref (c + 5 + i)), (0, .ref x), (1, .int (nI i)), (2, .int gl), (3, .int mo)]) (st' := [.int (wk i 0)]) _ (ms_deC dX5_turnTo_102 ms_deN) rfl rfl ?_
            refine ms_reti (st := []) (ty := .int) dX5_turnTo_104 rfl rfl ?_
            have hcw : cw_at G_13 g q c cnt dr pa (trX X i gl mo) := ⟨hd, cm, _, hC_16, hx, hd1, hd2_, hd3, fun k hk j hj => by
              rw [show (trX X i gl mo).1 = va_up X.1 i (upd (upd (X.1 i) 0 gl) 2 mo) from rfl, bx_uu]
              unfold va_up
              by_cases e : k = i
              · subst e; rw [if_pos rfl, if_pos rfl]; unfold upd; by_cases e2 : j = 2; rw [if_pos e2, if_pos e2]; rw [if_neg e2, if_neg e2]; by_cases e0 : j = 0; rw [if_pos e0, if_pos e0]; rw [if_neg e0, if_neg e0]; exact ha k hk j hj
              · rw [if_neg e, if_neg e]; exact ha k hk j hj⟩
            exact xq_P.ret (by unfold th_trn; rw [if_neg (by rintro (z | z); exact z hpi; exact z hgl), if_neg (not_not_intro hmo), nI_clamp (by omega), if_neg (by rintro (z | z); exact hout z; exact hmk z)]) (by rw [ha i hi 0 (by omega)]) ⟨⟨hf_21, hG_14, ⟨_, hQ_15⟩, hcw, ⟨_, _, _, _, _, hJ_17⟩, ⟨_, _, _, _, hQt_18⟩, ⟨_, _, _, _, _, hCt_19⟩⟩, hF_20⟩
      · rw [show ms_b (0 ≤ mo ∧ mo ≤ 9) = 0 from if_neg hmo]
        refine ms_if_ne (tgt := 49) dX5_turnTo_36 (by decide) (fun h9 => absurd h9 (by decide)) (fun _ => ?_)
        refine ms_throw dX5_turnTo_39 dX5_turnTo_42 dX5_turnTo_43 dX5_turnTo_45 dX5_turnTo_48 th_X5_51_174_55 ⟨Nat.le_of_ble_eq_true rfl, Nat.le_of_ble_eq_true rfl⟩ (Nat.le_of_ble_eq_true rfl) (by omega) (by omega) (fun n1 hn1 => ?_)
        exact xq_P.thr hn1 (by unfold th_trn; rw [if_neg (by rintro (z | z); exact z hpi; exact z hgl), if_pos hmo])
    · rw [show ms_b (gl_is gl) = 0 from if_neg hgl]
      refine ms_if_ne (tgt := 32) dX5_turnTo_19 (by decide) (fun h9 => absurd h9 (by decide)) (fun _ => ?_)
      refine ms_throw dX5_turnTo_22 dX5_turnTo_25 dX5_turnTo_26 dX5_turnTo_28 dX5_turnTo_31 th_X5_66_172_70 ⟨Nat.le_of_ble_eq_true rfl, Nat.le_of_ble_eq_true rfl⟩ (Nat.le_of_ble_eq_true rfl) (by omega) (by omega) (fun n1 hn1 => ?_)
      exact xq_P.thr hn1 (if_pos (by first | exact Or.inl hpi | exact Or.inr hgl))
  · rw [show cr_get c (nI cnt) kk = .null from if_neg hpi]
    refine ms_run (pc' := 12) (lv' := [(4, .null), (0, .ref x), (1, .int kk), (2, .int gl), (3, .int mo)]) (st' := [.null]) _ (ms_deC dX5_turnTo_8 (ms_deC dX5_turnTo_10 ms_deN)) rfl rfl ?_
    refine ms_ifnullN (tgt := 22) dX5_turnTo_12 (by decide) ?_
    refine ms_throw dX5_turnTo_22 dX5_turnTo_25 dX5_turnTo_26 dX5_turnTo_28 dX5_turnTo_31 th_X5_66_172_70 ⟨Nat.le_of_ble_eq_true rfl, Nat.le_of_ble_eq_true rfl⟩ (Nat.le_of_ble_eq_true rfl) (by omega) (by omega) (fun n1 hn1 => ?_)
    exact xq_P.thr hn1 (if_pos (by first | exact Or.inl hpi | exact Or.inr hgl))

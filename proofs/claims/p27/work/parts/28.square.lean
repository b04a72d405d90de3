/-! Square: what writes -/
def sq_P (g q n : Nat) (G : ms_H) (wl mk ds : Nat → Int32) : ms_P := fun r n1 G1 => r = .inl none ∧ n1 = n ∧ (∃ qu, sq_at G1 g q wl mk ds qu) ∧ ms_fr q 5 G G1
abbrev nbX (nr : Nat → Int32) (f s : Nat) : Int32 := gr_next nr (nI f) (nI s)
abbrev frX (nf : Nat) (wl : Nat → Int32) (k : Nat) : Bool := decide (k < nf ∧ wl k = 0)
abbrev stX (nf : Nat) (wl mk : Nat → Int32) (gi k : Nat) : Bool := decide (k < nf ∧ wl k = 0 ∧ ¬ mk k &&& (1 <<< (nI gi &&& 31)) = 0)
/-- the row of a goal among the distances, the first nf of it: the rest stays as it was -/
def rq (nf : Nat) (ds : Nat → Int32) (gi : Nat) (d : Nat → Int32) : Nat → Int32 := fun j => if gi * 196 ≤ j ∧ j < gi * 196 + nf then d (j - gi * 196) else ds j
theorem rq_get {nf : Nat} {ds d : Nat → Int32} {gi f : Nat} (h : f < nf) : rq nf ds gi d (gi * 196 + f) = d f := by
  unfold rq
  rw [if_pos (by omega)]
  congr 1
  omega
theorem rq_set {nf : Nat} {ds d : Nat → Int32} {gi f : Nat} {v : Int32} (h : f < nf) : upd (rq nf ds gi d) (gi * 196 + f) v = rq nf ds gi (upd d f v) := by
  funext j
  unfold upd rq
  by_cases e : j = gi * 196 + f
  · subst e
    rw [if_pos rfl, if_pos (by omega)]
    exact (if_pos (by omega)).symm
  · rw [if_neg e]
    by_cases h2 : gi * 196 ≤ j ∧ j < gi * 196 + nf
    · rw [if_pos h2, if_pos h2]
      exact (if_neg (by omega)).symm
    · rw [if_neg h2, if_neg h2]
theorem rq_id {nf : Nat} {ds : Nat → Int32} {gi : Nat} : rq nf ds gi (fun f => ds (gi * 196 + f)) = ds := by
  funext j
  unfold rq
  split
  · next h => exact congrArg ds (by omega)
  · rfl
theorem rq_congr {nf : Nat} {ds d d' : Nat → Int32} {gi : Nat} (h : ∀ f, f < nf → d f = d' f) : rq nf ds gi d = rq nf ds gi d' := by
  funext j
  unfold rq
  split
  · exact h _ (by omega)
  · rfl
theorem rp_in {gi j : Nat} (hg : gi < 4) (hj : j < 196) : vp_in (nI gi * 196 + nI j) 784 := by
  rw [show (196 : Int32) = nI 196 from rfl, pk_mul, nI_add]
  exact vp_in_nI (by omega) (by omega)
theorem rp_ix {gi j : Nat} (hg : gi < 4) (hj : j < 196) : (nI gi * 196 + nI j).toNatClampNeg = gi * 196 + j := by
  rw [show (196 : Int32) = nI 196 from rfl, pk_mul, nI_add, nI_clamp (by omega)]
def sp_P (g q n gi f : Nat) (G : ms_H) (nr wl mk ds : Nat → Int32) (nf : Nat) (S : bf_S) : ms_P := fun r n1 G1 => r = .inl (some (.int (nI (bfS (nbX nr) (frX nf wl) f S 4).2.length))) ∧ n1 = n ∧ (∃ qu, sq_at G1 g q wl mk (rq nf ds gi (bfS (nbX nr) (frX nf wl) f S 4).1) qu ∧ bf_q (bfS (nbX nr) (frX nf wl) f S 4).2 qu) ∧ ms_fr q 5 G G1
theorem bf1_t {nb : Nat → Nat → Int32} {fr : Nat → Bool} {f s j : Nat} {d : Nat → Int32} {L : List Nat} (h : nb f s = nI j) (hj : j < 196) (h1 : fr j = true) (h2 : d j = -1) : bf1 nb fr f s (d, L) = (upd d j (d f + 1), L ++ [j]) := by
  unfold bf1
  rw [h, nI_clamp (by omega), if_pos ⟨nI_pos' (by omega), h1, h2⟩]
theorem bf1_n {nb : Nat → Nat → Int32} {fr : Nat → Bool} {f s j : Nat} {d : Nat → Int32} {L : List Nat} (h : nb f s = nI j) (hj : j < 196) (h2 : ¬ d j = -1) : bf1 nb fr f s (d, L) = (d, L) := by
  unfold bf1
  rw [h, nI_clamp (by omega), if_neg (fun z => h2 z.2.2)]
theorem bf1_x {nr wl : Nat → Int32} {fl : Int32} {nf f s : Nat} {d : Nat → Int32} {L : List Nat} (hf : fl = nI nf) (h9 : nf ≤ 196) (h : ¬ sq_fr fl wl (gr_next nr (nI f) (nI s))) : bf1 (nbX nr) (frX nf wl) f s (d, L) = (d, L) := by
  unfold bf1
  exact if_neg (fun z => h ((sq_frI hf h9).mpr ⟨z.1, z.2.1⟩))
theorem frX_lt {nf : Nat} {wl : Nat → Int32} : ∀ k, frX nf wl k = true → k < nf := fun k h => (of_decide_eq_true h).1
theorem sq_frJ {fl x : Int32} {nf : Nat} {wl : Nat → Int32} (hf : fl = nI nf) (h9 : nf ≤ 196) (h : sq_fr fl wl x) : ∃ j, j < nf ∧ x = nI j ∧ wl j = 0 := by
  obtain ⟨h1, h2⟩ := (sq_frI hf h9).mp h
  obtain ⟨j, hj, rfl⟩ := nI_of (Int32.not_lt.mpr h1)
  rw [nI_clamp hj, decide_eq_true_iff] at h2
  exact ⟨j, h2.1, rfl, h2.2⟩
set_option maxHeartbeats 1000000 in
set_option maxRecDepth 20000 in
theorem c_X3_build {n g q : Nat} {G : ms_H} {fl w h : Int32} {nr : Nat → Int32} (hG : gr_at G g fl w h nr){wl mk ds qu : Nat → Int32} (hQ : sq_at G g q wl mk ds qu) (hs : g + 1 < q) (f b : Int32) : ms_M m_X3_build [.ref q, .int f, .int b] n G 0 0 (sq_P g q n G (if gr_has fl f then upd wl f.toNatClampNeg (if b = 0 then 0 else 1) else wl) mk ds) := by
  refine ms_M.of (by decide) (Nat.le_of_ble_eq_true rfl) ?_
  show ms_W false m_X3_build _ 0 [(0, .ref q), (1, .int f), (2, .int b)] [] n G 0 0
  have hF : ms_fr q 5 G G := ms_fr.rf
  refine ms_run (pc' := 1) (lv' := [(0, .ref q), (1, .int f), (2, .int b)]) (st' := [.ref q]) _ (ms_deC dX3_build_0 ms_deN) rfl rfl ?_
  refine ms_getf dX3_build_1 fg_X3_24 hQ.1 rfl ?_
  refine ms_run (pc' := 5) (lv' := [(0, .ref q), (1, .int f), (2, .int b)]) (st' := [.int f, .ref g]) _ (ms_deC dX3_build_4 ms_deN) rfl rfl ?_
  refine ms_callVp (As := [.int f]) dX3_build_5 (c_X1_has hG f) cv_X3_34 hG.1 rfl ⟨Nat.le_of_ble_eq_true rfl, Nat.le_of_ble_eq_true rfl⟩ rfl (Nat.le_of_ble_eq_true rfl) ?_
  by_cases hc_5 : gr_has fl f
  · rw [show ms_b (gr_has fl f) = 1 from if_pos hc_5]
    refine ms_if_eq (tgt := 26) dX3_build_8 (by decide) (fun h9 => absurd h9 (by decide)) (fun _ => ?_)
    refine ms_run (pc' := 12) (lv' := [(0, .ref q), (1, .int f), (2, .int b)]) (st' := [.ref q]) _ (ms_deC dX3_build_11 ms_deN) rfl rfl ?_
    refine ms_getf dX3_build_12 fg_X3_9 hQ.1 rfl ?_
    refine ms_run (pc' := 17) (lv' := [(0, .ref q), (1, .int f), (2, .int b)]) (st' := [.int b, .int f, .ref (q + 1)]) _ (ms_deC dX3_build_15 (ms_deC dX3_build_16 ms_deN)) rfl rfl ?_
    refine ms_if_eq (tgt := 24) dX3_build_17 (by decide) (fun h_17 => ?_) (fun h_17 => ?_)
    · skip
      refine ms_run (pc' := 25) (lv' := [(0, .ref q), (1, .int f), (2, .int b)]) (st' := [.int 0, .int f, .ref (q + 1)]) _ (ms_deC dX3_build_24 ms_deN) rfl rfl ?_
      refine ms_iastore dX3_build_25 hQ.2.1 (gr_hin (by assumption)) ?_
      obtain ⟨G_1, eG_1⟩ : ∃ K9 : ms_H, K9 = ms_up G (q + 1) (.inl (0, 196, .inl (upd wl f.toNatClampNeg 0))) := ⟨_, rfl⟩
      refine ms_W.heq eG_1 ?_
      have hG_2 : gr_at G_1 g fl w h nr := by rw [eG_1]; exact gr_at.up hG (by omega)
      have hQ_3 : sq_at G_1 g q (upd wl f.toNatClampNeg 0) mk ds qu := by rw [eG_1]; exact sq_at.s_wl hQ (upd wl f.toNatClampNeg 0)
      have hF_4 : ms_fr q 5 G G_1 := by rw [eG_1]; exact ms_fr.up hF (by omega)
      have hf_5 := (congrFun eG_1 q).trans ((ms_up_n G _ (by omega)).trans hQ.1)
      refine ms_retv (st := []) dX3_build_26 rfl ?_
      exact ⟨rfl, rfl, ⟨_, by rw [if_pos (by assumption)]; first | (rw [if_neg (by assumption)]; exact hQ_3) | (rw [if_pos (by assumption)]; exact hQ_3)⟩, hF_4⟩
    · skip
      refine ms_run (pc' := 21) (lv' := [(0, .ref q), (1, .int f), (2, .int b)]) (st' := [.int 1, .int f, .ref (q + 1)]) _ (ms_deC dX3_build_20 ms_deN) rfl rfl ?_
      refine ms_goto (tgt := 25) dX3_build_21 (by decide) ?_
      refine ms_iastore dX3_build_25 hQ.2.1 (gr_hin (by assumption)) ?_
      obtain ⟨G_6, eG_6⟩ : ∃ K9 : ms_H, K9 = ms_up G (q + 1) (.inl (0, 196, .inl (upd wl f.toNatClampNeg 1))) := ⟨_, rfl⟩
      refine ms_W.heq eG_6 ?_
      have hG_7 : gr_at G_6 g fl w h nr := by rw [eG_6]; exact gr_at.up hG (by omega)
      have hQ_8 : sq_at G_6 g q (upd wl f.toNatClampNeg 1) mk ds qu := by rw [eG_6]; exact sq_at.s_wl hQ (upd wl f.toNatClampNeg 1)
      have hF_9 : ms_fr q 5 G G_6 := by rw [eG_6]; exact ms_fr.up hF (by omega)
      have hf_10 := (congrFun eG_6 q).trans ((ms_up_n G _ (by omega)).trans hQ.1)
      refine ms_retv (st := []) dX3_build_26 rfl ?_
      exact ⟨rfl, rfl, ⟨_, by rw [if_pos (by assumption)]; first | (rw [if_neg (by assumption)]; exact hQ_8) | (rw [if_pos (by assumption)]; exact hQ_8)⟩, hF_9⟩
  · rw [show ms_b (gr_has fl f) = 0 from if_neg hc_5]
    refine ms_if_eq (tgt := 26) dX3_build_8 (by decide) (fun _ => ?_) (fun h9 => absurd h9 (by decide))
    refine ms_retv (st := []) dX3_build_26 rfl ?_
    exact ⟨rfl, rfl, ⟨_, by rw [if_neg (by assumption)]; exact hQ⟩, ms_fr.rf⟩
set_option maxHeartbeats 1000000 in
set_option maxRecDepth 20000 in
theorem c_X3_turnMark {n g q : Nat} {G : ms_H} {fl w h : Int32} {nr : Nat → Int32} (hG : gr_at G g fl w h nr){wl mk ds qu : Nat → Int32} (hQ : sq_at G g q wl mk ds qu) (hs : g + 1 < q) (i f : Int32) : ms_M m_X3_turnMark [.ref q, .int i, .int f] n G 0 0 (sq_P g q n G wl (if gl_is i ∧ gr_has fl f then upd mk f.toNatClampNeg (mk f.toNatClampNeg ^^^ (1 <<< (i &&& 31))) else mk) ds) := by
  refine ms_M.of (by decide) (Nat.le_of_ble_eq_true rfl) ?_
  show ms_W false m_X3_turnMark _ 0 [(0, .ref q), (1, .int i), (2, .int f)] [] n G 0 0
  have hF : ms_fr q 5 G G := ms_fr.rf
  refine ms_run (pc' := 1) (lv' := [(0, .ref q), (1, .int i), (2, .int f)]) (st' := [.int i]) _ (ms_deC dX3_turnMark_0 ms_deN) rfl rfl ?_
  refine ms_callSNp (As := [.int i]) dX3_turnMark_1 (c_X5_isGoal i) csn_X3_40 rfl ⟨Nat.le_of_ble_eq_true rfl, Nat.le_of_ble_eq_true rfl⟩ rfl (Nat.le_of_ble_eq_true rfl) ?_
  by_cases hc_1 : gl_is i
  · rw [show ms_b (gl_is i) = 1 from if_pos hc_1]
    refine ms_if_eq (tgt := 30) dX3_turnMark_4 (by decide) (fun h9 => absurd h9 (by decide)) (fun _ => ?_)
    refine ms_run (pc' := 8) (lv' := [(0, .ref q), (1, .int i), (2, .int f)]) (st' := [.ref q]) _ (ms_deC dX3_turnMark_7 ms_deN) rfl rfl ?_
    refine ms_getf dX3_turnMark_8 fg_X3_24 hQ.1 rfl ?_
    refine ms_run (pc' := 12) (lv' := [(0, .ref q), (1, .int i), (2, .int f)]) (st' := [.int f, .ref g]) _ (ms_deC dX3_turnMark_11 ms_deN) rfl rfl ?_
    refine ms_callVp (As := [.int f]) dX3_turnMark_12 (c_X1_has hG f) cv_X3_34 hG.1 rfl ⟨Nat.le_of_ble_eq_true rfl, Nat.le_of_ble_eq_true rfl⟩ rfl (Nat.le_of_ble_eq_true rfl) ?_
    by_cases hc_12 : gr_has fl f
    · rw [show ms_b (gr_has fl f) = 1 from if_pos hc_12]
      refine ms_if_eq (tgt := 30) dX3_turnMark_15 (by decide) (fun h9 => absurd h9 (by decide)) (fun _ => ?_)
      refine ms_run (pc' := 19) (lv' := [(0, .ref q), (1, .int i), (2, .int f)]) (st' := [.ref q]) _ (ms_deC dX3_turnMark_18 ms_deN) rfl rfl ?_
      refine ms_getf dX3_turnMark_19 fg_X3_15 hQ.1 rfl ?_
      refine ms_run (pc' := 24) (lv' := [(0, .ref q), (1, .int i), (2, .int f)]) (st' := [.int f, .ref (q + 2), .int f, .ref (q + 2)]) _ (ms_deC dX3_turnMark_22 (ms_deC dX3_turnMark_23 ms_deN)) rfl rfl ?_
      refine ms_iaload dX3_turnMark_24 hQ.2.2.1 (gr_hin (by assumption)) ?_
      refine ms_run (pc' := 29) (lv' := [(0, .ref q), (1, .int i), (2, .int f)]) (st' := [.int ((mk f.toNatClampNeg) ^^^ (1 <<< (i &&& 31))), .int f, .ref (q + 2)]) _ (ms_deC dX3_turnMark_25 (ms_deC dX3_turnMark_26 (ms_deC dX3_turnMark_27 (ms_deC dX3_turnMark_28 ms_deN)))) rfl rfl ?_
      refine ms_iastore dX3_turnMark_29 hQ.2.2.1 (gr_hin (by assumption)) ?_
      obtain ⟨G_1, eG_1⟩ : ∃ K9 : ms_H, K9 = ms_up G (q + 2) (.inl (0, 196, .inl (upd mk f.toNatClampNeg ((mk f.toNatClampNeg) ^^^ (1 <<< (i &&& 31)))))) := ⟨_, rfl⟩
      refine ms_W.heq eG_1 ?_
      have hG_2 : gr_at G_1 g fl w h nr := by rw [eG_1]; exact gr_at.up hG (by omega)
      have hQ_3 : sq_at G_1 g q wl (upd mk f.toNatClampNeg ((mk f.toNatClampNeg) ^^^ (1 <<< (i &&& 31)))) ds qu := by rw [eG_1]; exact sq_at.s_mk hQ (upd mk f.toNatClampNeg ((mk f.toNatClampNeg) ^^^ (1 <<< (i &&& 31))))
      have hF_4 : ms_fr q 5 G G_1 := by rw [eG_1]; exact ms_fr.up hF (by omega)
      have hf_5 := (congrFun eG_1 q).trans ((ms_up_n G _ (by omega)).trans hQ.1)
      refine ms_retv (st := []) dX3_turnMark_30 rfl ?_
      exact ⟨rfl, rfl, ⟨_, by rw [if_pos ⟨by assumption, by assumption⟩]; exact hQ_3⟩, hF_4⟩
    · rw [show ms_b (gr_has fl f) = 0 from if_neg hc_12]
      refine ms_if_eq (tgt := 30) dX3_turnMark_15 (by decide) (fun _ => ?_) (fun h9 => absurd h9 (by decide))
      refine ms_retv (st := []) dX3_turnMark_30 rfl ?_
      exact ⟨rfl, rfl, ⟨_, by rw [if_neg (by rintro ⟨h8, h7⟩; first | exact absurd h8 (by assumption) | exact absurd h7 (by assumption))]; exact hQ⟩, ms_fr.rf⟩
  · rw [show ms_b (gl_is i) = 0 from if_neg hc_1]
    refine ms_if_eq (tgt := 30) dX3_turnMark_4 (by decide) (fun _ => ?_) (fun h9 => absurd h9 (by decide))
    refine ms_retv (st := []) dX3_turnMark_30 rfl ?_
    exact ⟨rfl, rfl, ⟨_, by rw [if_neg (by rintro ⟨h8, h7⟩; first | exact absurd h8 (by assumption) | exact absurd h7 (by assumption))]; exact hQ⟩, ms_fr.rf⟩
def kd_P (g q n : Nat) (G : ms_H) (wl mk ds qu : Nat → Int32) : ms_P := fun r n1 G1 => r = .inl none ∧ n1 = n ∧ sq_at G1 g q wl mk ds qu ∧ ms_fr q 5 G G1
def en_P (g q n e : Nat) (G : ms_H) (wl mk ds qu : Nat → Int32) : ms_P := fun r n1 G1 => r = .inl (some (.int (nI (e + 1)))) ∧ n1 = n ∧ sq_at G1 g q wl mk ds qu ∧ ms_fr q 5 G G1
set_option maxHeartbeats 1000000 in
set_option maxRecDepth 20000 in
theorem c_X3_keepDistance {n g q : Nat} {G : ms_H} {fl w h : Int32} {nr wl mk ds qu : Nat → Int32} (hs : g + 1 < q) {nf gi f : Nat} (hf : fl = nI nf) (h9 : nf ≤ 196) (hg : gi < 4) (hf0 : f < nf) (hG : gr_at G g fl w h nr) (hQ : sq_at G g q wl mk ds qu) (v : Int32) : ms_M m_X3_keepDistance [.ref q, .int (nI gi), .int (nI f), .int v] n G 0 0 (kd_P g q n G wl mk (upd ds (gi * 196 + f) v) qu) := by
  refine ms_M.of (by decide) (Nat.le_of_ble_eq_true rfl) ?_
  show ms_W false m_X3_keepDistance _ 0 [(0, .ref q), (1, .int (nI gi)), (2, .int (nI f)), (3, .int v)] [] n G 0 0
  have hF : ms_fr q 5 G G := ms_fr.rf
  refine ms_run (pc' := 1) (lv' := [(0, .ref q), (1, .int (nI gi)), (2, .int (nI f)), (3, .int v)]) (st' := [.int (nI gi)]) _ (ms_deC dX3_keepDistance_0 ms_deN) rfl rfl ?_
  refine ms_callSNp (As := [.int (nI gi)]) dX3_keepDistance_1 (c_X5_isGoal (nI gi)) csn_X3_40 rfl ⟨Nat.le_of_ble_eq_true rfl, Nat.le_of_ble_eq_true rfl⟩ rfl (Nat.le_of_ble_eq_true rfl) ?_
  by_cases hgl : gl_is (nI gi)
  · rw [show ms_b (gl_is (nI gi)) = 1 from if_pos hgl]
    refine ms_if_eq (tgt := 31) dX3_keepDistance_4 (by decide) (fun h9 => absurd h9 (by decide)) (fun _ => ?_)
    refine ms_run (pc' := 8) (lv' := [(0, .ref q), (1, .int (nI gi)), (2, .int (nI f)), (3, .int v)]) (st' := [.ref q]) _ (ms_deC dX3_keepDistance_7 ms_deN) rfl rfl ?_
    refine ms_getf dX3_keepDistance_8 fg_X3_24 hQ.1 rfl ?_
    refine ms_run (pc' := 12) (lv' := [(0, .ref q), (1, .int (nI gi)), (2, .int (nI f)), (3, .int v)]) (st' := [.int (nI f), .ref g]) _ (ms_deC dX3_keepDistance_11 ms_deN) rfl rfl ?_
    refine ms_callVp (As := [.int (nI f)]) dX3_keepDistance_12 (c_X1_has hG (nI f)) cv_X3_34 hG.1 rfl ⟨Nat.le_of_ble_eq_true rfl, Nat.le_of_ble_eq_true rfl⟩ rfl (Nat.le_of_ble_eq_true rfl) ?_
    by_cases hgh : gr_has fl (nI f)
    · rw [show ms_b (gr_has fl (nI f)) = 1 from if_pos hgh]
      refine ms_if_eq (tgt := 31) dX3_keepDistance_15 (by decide) (fun h9 => absurd h9 (by decide)) (fun _ => ?_)
      refine ms_run (pc' := 19) (lv' := [(0, .ref q), (1, .int (nI gi)), (2, .int (nI f)), (3, .int v)]) (st' := [.ref q]) _ (ms_deC dX3_keepDistance_18 ms_deN) rfl rfl ?_
      refine ms_getf dX3_keepDistance_19 fg_X3_18 hQ.1 rfl ?_
      refine ms_run (pc' := 30) (lv' := [(0, .ref q), (1, .int (nI gi)), (2, .int (nI f)), (3, .int v)]) (st' := [.int v, .int (((nI gi) * 196) + (nI f)), .ref (q + 3)]) _ (ms_deC dX3_keepDistance_22 (ms_deC dX3_keepDistance_23 (ms_deC dX3_keepDistance_26 (ms_deC dX3_keepDistance_27 (ms_deC dX3_keepDistance_28 (ms_deC dX3_keepDistance_29 ms_deN)))))) rfl rfl ?_
      refine ms_iastore dX3_keepDistance_30 hQ.2.2.2.1 (rp_in hg (by omega)) ?_
      rw [rp_ix hg (by omega)]
      obtain ⟨G_1, eG_1⟩ : ∃ K9 : ms_H, K9 = ms_up G (q + 3) (.inl (0, 784, .inl (upd ds (gi * 196 + f) v))) := ⟨_, rfl⟩
      refine ms_W.heq eG_1 ?_
      have hG_2 : gr_at G_1 g fl w h nr := by rw [eG_1]; exact gr_at.up hG (by omega)
      have hQ_3 : sq_at G_1 g q wl mk (upd ds (gi * 196 + f) v) qu := by rw [eG_1]; exact sq_at.s_ds hQ (upd ds (gi * 196 + f) v)
      have hF_4 : ms_fr q 5 G G_1 := by rw [eG_1]; exact ms_fr.up hF (by omega)
      have hf_5 := (congrFun eG_1 q).trans ((ms_up_n G _ (by omega)).trans hQ.1)
      refine ms_retv (st := []) dX3_keepDistance_31 rfl ?_
      exact ⟨rfl, rfl, hQ_3, hF_4⟩
    · rw [show ms_b (gr_has fl (nI f)) = 0 from if_neg hgh]
      exact absurd (gr_hasI hf hf0 h9) hgh
  · rw [show ms_b (gl_is (nI gi)) = 0 from if_neg hgl]
    exact absurd (gl_isI hg) hgl
set_option maxHeartbeats 1000000 in
set_option maxRecDepth 20000 in
theorem c_X3_enqueue {n g q : Nat} {G : ms_H} {wl mk ds qu : Nat → Int32} (hs : g + 1 < q) {e : Nat} (he : e < 196) (hQ : sq_at G g q wl mk ds qu) (f : Nat) : ms_M m_X3_enqueue [.ref q, .int (nI f), .int (nI e)] n G 0 0 (en_P g q n e G wl mk ds (upd qu e (nI f))) := by
  refine ms_M.of (by decide) (Nat.le_of_ble_eq_true rfl) ?_
  show ms_W false m_X3_enqueue _ 0 [(0, .ref q), (1, .int (nI f)), (2, .int (nI e))] [] n G 0 0
  have hF : ms_fr q 5 G G := ms_fr.rf
  refine ms_run (pc' := 1) (lv' := [(0, .ref q), (1, .int (nI f)), (2, .int (nI e))]) (st' := [.int (nI e)]) _ (ms_deC dX3_enqueue_0 ms_deN) rfl rfl ?_
  refine ms_if_lt (tgt := 11) dX3_enqueue_1 (by decide) (fun h_1 => ?_) (fun h_1 => ?_)
  · skip
    exact absurd (nI_pos' (by omega)) (Int32.not_le.mpr h_1)
  · skip
    refine ms_run (pc' := 8) (lv' := [(0, .ref q), (1, .int (nI f)), (2, .int (nI e))]) (st' := [.int 196, .int (nI e)]) _ (ms_deC dX3_enqueue_4 (ms_deC dX3_enqueue_5 ms_deN)) rfl rfl ?_
    refine ms_icmp_lt (tgt := 13) dX3_enqueue_8 (by decide) (fun h_8 => ?_) (fun h_8 => ?_)
    · skip
      refine ms_run (pc' := 14) (lv' := [(0, .ref q), (1, .int (nI f)), (2, .int (nI e))]) (st' := [.ref q]) _ (ms_deC dX3_enqueue_13 ms_deN) rfl rfl ?_
      refine ms_getf dX3_enqueue_14 fg_X3_21 hQ.1 rfl ?_
      refine ms_run (pc' := 19) (lv' := [(0, .ref q), (1, .int (nI f)), (2, .int (nI e))]) (st' := [.int (nI f), .int (nI e), .ref (q + 4)]) _ (ms_deC dX3_enqueue_17 (ms_deC dX3_enqueue_18 ms_deN)) rfl rfl ?_
      refine ms_iastore dX3_enqueue_19 hQ.2.2.2.2 (vp_in_nI (by omega) (by omega)) ?_
      rw [nI_clamp (by omega)]
      obtain ⟨G_1, eG_1⟩ : ∃ K9 : ms_H, K9 = ms_up G (q + 4) (.inl (0, 196, .inl (upd qu e (nI f)))) := ⟨_, rfl⟩
      refine ms_W.heq eG_1 ?_
      have hQ_2 : sq_at G_1 g q wl mk ds (upd qu e (nI f)) := by rw [eG_1]; exact sq_at.s_qu hQ (upd qu e (nI f))
      have hF_3 : ms_fr q 5 G G_1 := by rw [eG_1]; exact ms_fr.up hF (by omega)
      have hf_4 := (congrFun eG_1 q).trans ((ms_up_n G _ (by omega)).trans hQ.1)
      refine ms_run (pc' := 23) (lv' := [(0, .ref q), (1, .int (nI f)), (2, .int (nI e))]) (st' := [.int ((nI e) + 1)]) _ (ms_deC dX3_enqueue_20 (ms_deC dX3_enqueue_21 (ms_deC dX3_enqueue_22 ms_deN))) rfl rfl ?_
      refine ms_reti (st := []) (ty := .int) dX3_enqueue_23 rfl rfl ?_
      exact ⟨by rw [nI_1], rfl, hQ_2, hF_3⟩
    · skip
      exact absurd (show nI e < nI 196 from nI_lt (by omega) (by omega)) h_8
set_option maxHeartbeats 1000000 in
set_option maxRecDepth 20000 in
theorem l_X3_spread {n g q : Nat} {G : ms_H} {fl w h : Int32} {nr wl mk ds : Nat → Int32} {nf gi f : Nat} {S : bf_S} (hs : g + 1 < q) (hf : fl = nI nf) (h9 : nf ≤ 196) (hg : gi < 4) (hf0 : f < nf) (hJ0 : bfJ nf S) (hd0 : ¬ S.1 f = -1) : ∀ (r k : Nat), k + r = 4 → ∀ (K : ms_H) (qu : Nat → Int32), gr_at K g fl w h nr → sq_at K g q wl mk (rq nf ds gi (bfS (nbX nr) (frX nf wl) f S k).1) qu → bf_q (bfS (nbX nr) (frX nf wl) f S k).2 qu → ms_fr q 5 G K → ms_W false m_X3_spread (sp_P g q n gi f G nr wl mk ds nf S) 6 [(0, .ref q), (1, .int (nI gi)), (2, .int (nI f)), (4, .int (nI (bfS (nbX nr) (frX nf wl) f S k).2.length)), (5, .int (nI k))] [] n K 0 0 := by
  intro r
  induction r with
  | zero =>
    intro k hk K qu hG hQ hU hF
    have hkN : k = 4 := by omega
    have hJ := (bfS_J (nb := nbX nr) hJ0 h9 (frX_lt (wl := wl)) hd0 k).1
    generalize hS : bfS (nbX nr) (frX nf wl) f S k = Sk at hQ hU hJ ⊢
    obtain ⟨d, L⟩ := Sk
    have hL := hJ.len
    dsimp only at hQ hU hL ⊢
    refine ms_run (pc' := 9) (lv' := [(0, .ref q), (1, .int (nI gi)), (2, .int (nI f)), (4, .int (nI L.length)), (5, .int (nI k))]) (st' := [.int 4, .int (nI k)]) _ (ms_deC dX3_spread_6 (ms_deC dX3_spread_8 ms_deN)) rfl rfl ?_
    refine ms_icmp_ge (tgt := 75) dX3_spread_9 (by decide) (fun h_9 => ?_) (fun h_9 => ?_)
    · skip
      refine ms_run (pc' := 77) (lv' := [(0, .ref q), (1, .int (nI gi)), (2, .int (nI f)), (4, .int (nI L.length)), (5, .int (nI k))]) (st' := [.int (nI L.length)]) _ (ms_deC dX3_spread_75 ms_deN) rfl rfl ?_
      refine ms_reti (st := []) (ty := .int) dX3_spread_77 rfl rfl ?_
      refine ⟨?_, rfl, ⟨qu, ?_, ?_⟩, hF⟩
      · rw [← hkN, hS]
      · rw [← hkN, hS]; exact hQ
      · rw [← hkN, hS]; exact hU
    · skip
      exact absurd (by show nI 4 ≤ nI k; exact nI_le (b := k) (by omega) (by omega)) h_9
  | succ r ih =>
    intro k hk K qu hG hQ hU hF
    have hlt : k < 4 := by omega
    have hJ := (bfS_J (nb := nbX nr) hJ0 h9 (frX_lt (wl := wl)) hd0 k).1
    generalize hS : bfS (nbX nr) (frX nf wl) f S k = Sk at hQ hU hJ ⊢
    obtain ⟨d, L⟩ := Sk
    have hL := hJ.len
    dsimp only at hQ hU hL ⊢
    have hroom : ∀ j, j < nf → d j = -1 → L.length < nf := fun j h1 h2 => hJ.room h1 h2
    refine ms_run (pc' := 9) (lv' := [(0, .ref q), (1, .int (nI gi)), (2, .int (nI f)), (4, .int (nI L.length)), (5, .int (nI k))]) (st' := [.int 4, .int (nI k)]) _ (ms_deC dX3_spread_6 (ms_deC dX3_spread_8 ms_deN)) rfl rfl ?_
    refine ms_icmp_ge (tgt := 75) dX3_spread_9 (by decide) (fun h_9 => ?_) (fun h_9 => ?_)
    · skip
      exact absurd h_9 (by show ¬ nI 4 ≤ nI k; exact nI_ge (b := 4) (by omega) (by omega))
    · skip
      refine ms_run (pc' := 13) (lv' := [(0, .ref q), (1, .int (nI gi)), (2, .int (nI f)), (4, .int (nI L.length)), (5, .int (nI k))]) (st' := [.ref q]) _ (ms_deC dX3_spread_12 ms_deN) rfl rfl ?_
      refine ms_getf dX3_spread_13 fg_X3_24 hQ.1 rfl ?_
      refine ms_run (pc' := 19) (lv' := [(0, .ref q), (1, .int (nI gi)), (2, .int (nI f)), (4, .int (nI L.length)), (5, .int (nI k))]) (st' := [.int (nI k), .int (nI f), .ref g]) _ (ms_deC dX3_spread_16 (ms_deC dX3_spread_17 ms_deN)) rfl rfl ?_
      refine ms_callVp (As := [.int (nI f), .int (nI k)]) dX3_spread_19 (c_X1_next hG (nI f) (nI k)) cv_X3_78 hG.1 rfl ⟨Nat.le_of_ble_eq_true rfl, Nat.le_of_ble_eq_true rfl⟩ rfl (Nat.le_of_ble_eq_true rfl) ?_
      refine ms_run (pc' := 27) (lv' := [(6, .int (gr_next nr (nI f) (nI k))), (0, .ref q), (1, .int (nI gi)), (2, .int (nI f)), (4, .int (nI L.length)), (5, .int (nI k))]) (st' := [.int (gr_next nr (nI f) (nI k)), .ref q]) _ (ms_deC dX3_spread_22 (ms_deC dX3_spread_24 (ms_deC dX3_spread_25 ms_deN))) rfl rfl ?_
      refine ms_callVp (As := [.int (gr_next nr (nI f) (nI k))]) dX3_spread_27 (c_X3_isFree hG hQ (gr_next nr (nI f) (nI k))) cv_X3_47 hQ.1 rfl ⟨Nat.le_of_ble_eq_true rfl, Nat.le_of_ble_eq_true rfl⟩ rfl (Nat.le_of_ble_eq_true rfl) ?_
      by_cases hfree : sq_fr fl wl (gr_next nr (nI f) (nI k))
      · rw [show ms_b (sq_fr fl wl (gr_next nr (nI f) (nI k))) = 1 from if_pos hfree]
        obtain ⟨j, hj, hjn, hjw⟩ := sq_frJ hf h9 hfree
        rw [hjn]
        refine ms_if_eq (tgt := 69) dX3_spread_30 (by decide) (fun h9 => absurd h9 (by decide)) (fun _ => ?_)
        refine ms_run (pc' := 37) (lv' := [(6, .int (nI j)), (0, .ref q), (1, .int (nI gi)), (2, .int (nI f)), (4, .int (nI L.length)), (5, .int (nI k))]) (st' := [.int (nI j), .int (nI gi), .ref q]) _ (ms_deC dX3_spread_33 (ms_deC dX3_spread_34 (ms_deC dX3_spread_35 ms_deN))) rfl rfl ?_
        refine ms_callVp (As := [.int (nI gi), .int (nI j)]) dX3_spread_37 (c_X3_distance hG hQ (nI gi) (nI j)) cv_X3_54 hQ.1 rfl ⟨Nat.le_of_ble_eq_true rfl, Nat.le_of_ble_eq_true rfl⟩ rfl (Nat.le_of_ble_eq_true rfl) ?_
        rw [show sq_ds fl (rq nf ds gi d) (nI gi) (nI j) = d j from (sq_dsI _ hf h9 hj hg).trans (rq_get hj)]
        refine ms_run (pc' := 41) (lv' := [(6, .int (nI j)), (0, .ref q), (1, .int (nI gi)), (2, .int (nI f)), (4, .int (nI L.length)), (5, .int (nI k))]) (st' := [.int (-1), .int (d j)]) _ (ms_deC dX3_spread_40 ms_deN) rfl rfl ?_
        refine ms_icmp_ne (tgt := 69) dX3_spread_41 (by decide) (fun h_41 => ?_) (fun h_41 => ?_)
        · skip
          refine ms_run (pc' := 72) (lv' := [(5, .int ((nI k) + 1)), (6, .int (nI j)), (0, .ref q), (1, .int (nI gi)), (2, .int (nI f)), (4, .int (nI L.length))]) (st' := []) _ (ms_deC dX3_spread_69 ms_deN) rfl rfl ?_
          refine ms_goto (tgt := 6) dX3_spread_72 (by decide) ?_
          have h7 := ih (k + 1) (by omega) K qu hG (by show sq_at _ _ _ _ _ (rq nf ds gi (bf1 _ _ _ _ (bfS (nbX nr) (frX nf wl) f S k)).1) _; (first | rw [hS, bf1_x hf h9 hfree] | rw [hS, bf1_n hjn (by omega) h_41]); exact hQ) (by show bf_q (bf1 _ _ _ _ (bfS (nbX nr) (frX nf wl) f S k)).2 _; (first | rw [hS, bf1_x hf h9 hfree] | rw [hS, bf1_n hjn (by omega) h_41]); exact hU) hF
          rw [show (bfS (nbX nr) (frX nf wl) f S (k + 1)).2.length = L.length from by show (bf1 _ _ _ _ (bfS (nbX nr) (frX nf wl) f S k)).2.length = _; (first | rw [hS, bf1_x hf h9 hfree] | rw [hS, bf1_n hjn (by omega) h_41])] at h7
          rw [nI_1 k]
          refine ms_W.sub (lv2 := [(0, _), (1, _), (2, _), (4, _), (5, _)]) ?_ [2, 3, 4, 5, 0] rfl
          exact h7
        · skip
          have hr9 := hroom j hj h_41
          refine ms_run (pc' := 51) (lv' := [(6, .int (nI j)), (0, .ref q), (1, .int (nI gi)), (2, .int (nI f)), (4, .int (nI L.length)), (5, .int (nI k))]) (st' := [.int (nI f), .int (nI gi), .ref q, .int (nI j), .int (nI gi), .ref q]) _ (ms_deC dX3_spread_44 (ms_deC dX3_spread_45 (ms_deC dX3_spread_46 (ms_deC dX3_spread_48 (ms_deC dX3_spread_49 (ms_deC dX3_spread_50 ms_deN)))))) rfl rfl ?_
          refine ms_callVp (As := [.int (nI gi), .int (nI f)]) dX3_spread_51 (c_X3_distance hG hQ (nI gi) (nI f)) cv_X3_54 hQ.1 rfl ⟨Nat.le_of_ble_eq_true rfl, Nat.le_of_ble_eq_true rfl⟩ rfl (Nat.le_of_ble_eq_true rfl) ?_
          rw [show sq_ds fl (rq nf ds gi d) (nI gi) (nI f) = d f from (sq_dsI _ hf h9 hf0 hg).trans (rq_get hf0)]
          refine ms_run (pc' := 56) (lv' := [(6, .int (nI j)), (0, .ref q), (1, .int (nI gi)), (2, .int (nI f)), (4, .int (nI L.length)), (5, .int (nI k))]) (st' := [.int ((d f) + 1), .int (nI j), .int (nI gi), .ref q]) _ (ms_deC dX3_spread_54 (ms_deC dX3_spread_55 ms_deN)) rfl rfl ?_
          refine ms_callV0 (As := [.int (nI gi), .int (nI j), .int ((d f) + 1)]) dX3_spread_56 (c_X3_keepDistance hs hf h9 hg hj hG hQ ((d f) + 1)) cv_X3_67 hQ.1 rfl ⟨Nat.le_of_ble_eq_true rfl, Nat.le_of_ble_eq_true rfl⟩ rfl (Nat.le_of_ble_eq_true rfl) (fun v9 n9 K_kd hp9 => ?_)
          obtain ⟨hv9, rfl, hQkd, hFkd⟩ := hp9
          cases hv9
          rw [rq_set hj] at hQkd
          have hG_1 : gr_at K_kd g fl w h nr := gr_at.fr hG hFkd (by omega)
          have hF_2 : ms_fr q 5 G K_kd := ms_fr.trans hF (ms_fr.mono hFkd (by omega) (by omega))
          refine ms_run (pc' := 64) (lv' := [(6, .int (nI j)), (0, .ref q), (1, .int (nI gi)), (2, .int (nI f)), (4, .int (nI L.length)), (5, .int (nI k))]) (st' := [.int (nI L.length), .int (nI j), .ref q]) _ (ms_deC dX3_spread_59 (ms_deC dX3_spread_60 (ms_deC dX3_spread_62 ms_deN))) rfl rfl ?_
          refine ms_callV0 (As := [.int (nI j), .int (nI L.length)]) dX3_spread_64 (c_X3_enqueue hs (e := L.length) (by omega) hQkd j) cv_X3_71 hQkd.1 rfl ⟨Nat.le_of_ble_eq_true rfl, Nat.le_of_ble_eq_true rfl⟩ rfl (Nat.le_of_ble_eq_true rfl) (fun v9 n9 K_en hp9 => ?_)
          obtain ⟨hv9, rfl, hQen, hFen⟩ := hp9
          cases hv9
          have hG_3 : gr_at K_en g fl w h nr := gr_at.fr hG_1 hFen (by omega)
          have hF_4 : ms_fr q 5 G K_en := ms_fr.trans hF_2 (ms_fr.mono hFen (by omega) (by omega))
          refine ms_run (pc' := 72) (lv' := [(5, .int ((nI k) + 1)), (4, .int (nI (L.length + 1))), (6, .int (nI j)), (0, .ref q), (1, .int (nI gi)), (2, .int (nI f))]) (st' := []) _ (ms_deC dX3_spread_67 (ms_deC dX3_spread_69 ms_deN)) rfl rfl ?_
          refine ms_goto (tgt := 6) dX3_spread_72 (by decide) ?_
          have h7 := ih (k + 1) (by omega) K_en (upd qu L.length (nI j)) hG_3 (by show sq_at _ _ _ _ _ (rq nf ds gi (bf1 _ _ _ _ (bfS (nbX nr) (frX nf wl) f S k)).1) _; rw [hS, bf1_t hjn (by omega) (decide_eq_true ⟨hj, hjw⟩) h_41]; exact hQen) (by show bf_q (bf1 _ _ _ _ (bfS (nbX nr) (frX nf wl) f S k)).2 _; rw [hS, bf1_t hjn (by omega) (decide_eq_true ⟨hj, hjw⟩) h_41]; exact hU.add) hF_4
          rw [show (bfS (nbX nr) (frX nf wl) f S (k + 1)).2.length = L.length + 1 from by show (bf1 _ _ _ _ (bfS (nbX nr) (frX nf wl) f S k)).2.length = _; rw [hS, bf1_t hjn (by omega) (decide_eq_true ⟨hj, hjw⟩) h_41]; simp] at h7
          rw [nI_1 k]
          refine ms_W.sub (lv2 := [(0, _), (1, _), (2, _), (4, _), (5, _)]) ?_ [3, 4, 5, 1, 0] rfl
          exact h7
      · rw [show ms_b (sq_fr fl wl (gr_next nr (nI f) (nI k))) = 0 from if_neg hfree]
        refine ms_if_eq (tgt := 69) dX3_spread_30 (by decide) (fun _ => ?_) (fun h9 => absurd h9 (by decide))
        refine ms_run (pc' := 72) (lv' := [(5, .int ((nI k) + 1)), (6, .int (gr_next nr (nI f) (nI k))), (0, .ref q), (1, .int (nI gi)), (2, .int (nI f)), (4, .int (nI L.length))]) (st' := []) _ (ms_deC dX3_spread_69 ms_deN) rfl rfl ?_
        refine ms_goto (tgt := 6) dX3_spread_72 (by decide) ?_
        have h7 := ih (k + 1) (by omega) K qu hG (by show sq_at _ _ _ _ _ (rq nf ds gi (bf1 _ _ _ _ (bfS (nbX nr) (frX nf wl) f S k)).1) _; (first | rw [hS, bf1_x hf h9 hfree] | rw [hS, bf1_n hjn (by omega) h_41]); exact hQ) (by show bf_q (bf1 _ _ _ _ (bfS (nbX nr) (frX nf wl) f S k)).2 _; (first | rw [hS, bf1_x hf h9 hfree] | rw [hS, bf1_n hjn (by omega) h_41]); exact hU) hF
        rw [show (bfS (nbX nr) (frX nf wl) f S (k + 1)).2.length = L.length from by show (bf1 _ _ _ _ (bfS (nbX nr) (frX nf wl) f S k)).2.length = _; (first | rw [hS, bf1_x hf h9 hfree] | rw [hS, bf1_n hjn (by omega) h_41])] at h7
        rw [nI_1 k]
        refine ms_W.sub (lv2 := [(0, _), (1, _), (2, _), (4, _), (5, _)]) ?_ [2, 3, 4, 5, 0] rfl
        exact h7
set_option maxHeartbeats 1000000 in
set_option maxRecDepth 20000 in
theorem c_X3_spread {n g q : Nat} {G : ms_H} {fl w h : Int32} {nr wl mk ds : Nat → Int32} {nf gi f : Nat} {S : bf_S} (hs : g + 1 < q) (hf : fl = nI nf) (h9 : nf ≤ 196) (hg : gi < 4) (hf0 : f < nf) (hJ0 : bfJ nf S) (hd0 : ¬ S.1 f = -1) (hG : gr_at G g fl w h nr) {qu : Nat → Int32} (hQ : sq_at G g q wl mk (rq nf ds gi S.1) qu) (hU : bf_q S.2 qu) : ms_M m_X3_spread [.ref q, .int (nI gi), .int (nI f), .int (nI S.2.length)] n G 0 0 (sp_P g q n gi f G nr wl mk ds nf S) := by
  refine ms_M.of (by decide) (Nat.le_of_ble_eq_true rfl) ?_
  show ms_W false m_X3_spread _ 0 [(0, .ref q), (1, .int (nI gi)), (2, .int (nI f)), (3, .int (nI S.2.length))] [] n G 0 0
  refine ms_run (pc' := 6) (lv' := [(5, .int 0), (4, .int (nI S.2.length)), (0, .ref q), (1, .int (nI gi)), (2, .int (nI f)), (3, .int (nI S.2.length))]) (st' := []) _ (ms_deC dX3_spread_0 (ms_deC dX3_spread_1 (ms_deC dX3_spread_3 (ms_deC dX3_spread_4 ms_deN)))) rfl rfl ?_
  refine ms_W.sub (lv2 := [(0, _), (1, _), (2, _), (4, _), (5, _)]) ?_ [2, 3, 4, 1, 0] rfl
  exact l_X3_spread hs hf h9 hg hf0 hJ0 hd0 4 0 rfl G qu hG hQ hU ms_fr.rf

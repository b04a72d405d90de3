/-! Flock: wants -/
/-- the first of the least -/
def fwN (c : Nat → Int32) : Nat → Nat
  | 0 => 0
  | k + 1 => if c (k + 1) < c (fwN c k) then k + 1 else fwN c k
def fwX (c : Nat → Int32) : Int32 := if c (fwN c 4) = 10000 then 4 else nI (fwN c 4)
theorem fwN_I {c : Nat → Int32} : ∀ k, fwN c k ≤ k ∧ (∀ j, j < fwN c k → c (fwN c k) < c j) ∧ ∀ j, j ≤ k → c (fwN c k) ≤ c j
  | 0 => ⟨Nat.le_refl 0, fun j hj => absurd hj (Nat.not_lt_zero j), fun j hj => by rw [Nat.le_zero.mp hj]; exact Int32.le_refl _⟩
  | k + 1 => by
    obtain ⟨h1, h2, h3⟩ := fwN_I (c := c) k
    have e : fwN c (k + 1) = if c (k + 1) < c (fwN c k) then k + 1 else fwN c k := rfl
    rw [e]
    by_cases h : c (k + 1) < c (fwN c k)
    · rw [if_pos h]
      refine ⟨Nat.le_refl _, fun j hj => Int32.lt_of_lt_of_le h (h3 j (by omega)), fun j hj => ?_⟩
      rcases Nat.lt_or_eq_of_le hj with h4 | h4
      · exact Int32.le_of_lt (Int32.lt_of_lt_of_le h (h3 j (by omega)))
      · rw [h4]; exact Int32.le_refl _
    · rw [if_neg h]
      refine ⟨by omega, h2, fun j hj => ?_⟩
      rcases Nat.lt_or_eq_of_le hj with h4 | h4
      · exact h3 j (by omega)
      · rw [h4]; exact Int32.not_lt.mp h
theorem fw_eq {c : Nat → Int32} (h : ∀ j, j ≤ 4 → c j ≤ 10000) : fwX c = (cr_bs c 5).1 := by
  obtain ⟨k, hk, e⟩ := cr_bsP h
  obtain ⟨h1, h2, h3⟩ := fwN_I (c := c) 4
  rw [e]
  unfold fwX
  by_cases h4 : c (fwN c 4) = 10000
  · rw [if_pos h4]
    have hp : bsP c 4 := ⟨Nat.le_refl 4, fun j hj => Or.inr ⟨rfl, Int32.le_antisymm (h j (by omega)) (by rw [← h4]; exact h3 j (by omega))⟩, fun j h5 h6 => absurd h5 (by omega), fun z => absurd z (by omega)⟩
    rw [← bsP.one hp hk]
    rfl
  · rw [if_neg h4]
    have hp : bsP c (fwN c 4) := ⟨h1, fun j hj => Or.inl (h2 j hj), fun j h5 h6 => h3 j h6, fun _ => Int32.lt_of_le_of_ne (h _ h1) h4⟩
    rw [bsP.one hp hk]
theorem fwN_congr {c d : Nat → Int32} : ∀ k, (∀ j, j ≤ k → c j = d j) → fwN c k = fwN d k
  | 0, _ => rfl
  | k + 1, h => by
    have ih := fwN_congr k (fun j hj => h j (by omega))
    have h1 := (fwN_I (c := d) k).1
    show (if c (k + 1) < c (fwN c k) then k + 1 else fwN c k) = if d (k + 1) < d (fwN d k) then k + 1 else fwN d k
    rw [ih, h (k + 1) (Nat.le_refl _), h (fwN d k) (by omega)]
theorem fwX_congr {c d : Nat → Int32} (h : ∀ j, j ≤ 4 → c j = d j) : fwX c = fwX d := by
  have e3 := fwN_congr 4 h
  have h1 := (fwN_I (c := d) 4).1
  unfold fwX
  rw [e3]
  generalize fwN d 4 = q at *
  rw [h q h1]
theorem fwX_t {c : Nat → Int32} {k : Nat} (hk : k = 4) (h : c (fwN c k) = 10000) : 4 = fwX c := by
  subst hk
  exact (if_pos h).symm
theorem fwX_f {c : Nat → Int32} {k : Nat} (hk : k = 4) (h : ¬ c (fwN c k) = 10000) : nI (fwN c k) = fwX c := by
  subst hk
  exact (if_neg h).symm
/-- what each side costs who is at own -/
def mcA (W cnt : Nat) (nr on : Nat → Int32) (dr : Int32) (u : Nat → Nat → Int32) (D : Nat → Int32) (i own : Nat) (s : Nat) : Int32 := if s = 4 then mcS W cnt u D i own else mcM W cnt nr on dr u D i own s
theorem c_X6_cost {n o x sb fa wa W H cnt : Nat} {G : ms_H} {dw cl dr pa : Int32} {wr : Nat → Nat} {fv u : Nat → Nat → Int32} (hM : fk_at G o x sb dw W H cl dr pa fa wa cnt wr fv u) (hW : W ≤ 14) (hH : H ≤ 14) (hc : cnt ≤ 24) {on : Nat → Int32} (hon : onV (W * H) cnt u on) (hv : hvX (nI (W * H)) cnt u) {D : Nat → Int32} {fr : Nat} (hD : far_at G fr W H D) (hDw : ∀ f, f < W * H → ¬ D f = -1 → fv f 0 = 0) (hDv : ∀ f, D f = -1 ∨ ∃ v, v ≤ 196 ∧ D f = nI v) {i own : Nat} (hi : i < cnt) (hpo : u i 3 = nI own) (hon9 : own < W * H) {nr : Nat → Int32} (hL : lk_ok W H (W * H) nr) {s : Nat} (hs : s ≤ 4) : ms_M m_X6_cost [.ref o, .int (nI i), .int (nI s), .ref fr] n G 0 0 (ms_p1 (some (.int (mcA W cnt nr on dr u D i own s))) n G) := by
  unfold mcA
  by_cases e : s = 4
  · subst e
    rw [if_pos rfl]
    exact c_X6_costS hM hW hH hc hon hv hD hDw hDv hi hpo hon9
  · rw [if_neg e]
    exact c_X6_costM hM hW hH hc hon hv hD hDw hDv hi hpo hon9 hL (by omega)
set_option maxHeartbeats 1000000 in
set_option maxRecDepth 20000 in
theorem l_X6_wants {n o x sb fa wa W H cnt : Nat} {G : ms_H} {dw cl dr pa : Int32} {wr : Nat → Nat} {fv u : Nat → Nat → Int32} (hM : fk_at G o x sb dw W H cl dr pa fa wa cnt wr fv u) (hW : W ≤ 14) (hH : H ≤ 14) (hc : cnt ≤ 24) {on : Nat → Int32} (hon : onV (W * H) cnt u on) (hv : hvX (nI (W * H)) cnt u) {D : Nat → Int32} {fr : Nat} (hD : far_at G fr W H D) (hDw : ∀ f, f < W * H → ¬ D f = -1 → fv f 0 = 0) (hDv : ∀ f, D f = -1 ∨ ∃ v, v ≤ 196 ∧ D f = nI v) {i own : Nat} (hi : i < cnt) (hpo : u i 3 = nI own) (hon9 : own < W * H) {nr : Nat → Int32} (hL : lk_ok W H (W * H) nr) : ∀ (r k : Nat), k + r = 4 →  ms_W false m_X6_wants (ms_p1 (some (.int (fwX (mcA W cnt nr on dr u D i own)))) n G) 5 [(0, .ref o), (1, .int (nI i)), (2, .ref fr), (3, .int (nI (fwN (mcA W cnt nr on dr u D i own) k))), (4, .int (nI (k + 1)))] [] n G 0 0 := by
  intro r
  induction r with
  | zero =>
    intro k hk 
    have hkN : k = 4 := by omega
    refine ms_run (pc' := 8) (lv' := [(0, .ref o), (1, .int (nI i)), (2, .ref fr), (3, .int (nI (fwN (mcA W cnt nr on dr u D i own) k))), (4, .int (nI (k + 1)))]) (st' := [.int 5, .int (nI (k + 1))]) _ (ms_deC dX6_wants_5 (ms_deC dX6_wants_7 ms_deN)) rfl rfl ?_
    refine ms_icmp_ge (tgt := 42) dX6_wants_8 (by decide) (fun h_8 => ?_) (fun h_8 => ?_)
    · skip
      refine ms_run (pc' := 46) (lv' := [(0, .ref o), (1, .int (nI i)), (2, .ref fr), (3, .int (nI (fwN (mcA W cnt nr on dr u D i own) k))), (4, .int (nI (k + 1)))]) (st' := [.ref fr, .int (nI (fwN (mcA W cnt nr on dr u D i own) k)), .int (nI i), .ref o]) _ (ms_deC dX6_wants_42 (ms_deC dX6_wants_43 (ms_deC dX6_wants_44 (ms_deC dX6_wants_45 ms_deN)))) rfl rfl ?_
      refine ms_callVp (As := [.int (nI i), .int (nI (fwN (mcA W cnt nr on dr u D i own) k)), .ref fr]) dX6_wants_46 (c_X6_cost hM hW hH hc hon hv hD hDw hDv hi hpo hon9 hL (s := (fwN (mcA W cnt nr on dr u D i own) k)) (by first | omega | (have := (fwN_I (c := (mcA W cnt nr on dr u D i own)) k).1; omega) | (have := (fwN_I (c := (mcA W cnt nr on dr u D i own)) 4).1; omega))) cv_X6_125 hM.1 rfl ⟨Nat.le_of_ble_eq_true rfl, Nat.le_of_ble_eq_true rfl⟩ rfl (Nat.le_of_ble_eq_true rfl) ?_
      refine ms_run (pc' := 52) (lv' := [(0, .ref o), (1, .int (nI i)), (2, .ref fr), (3, .int (nI (fwN (mcA W cnt nr on dr u D i own) k))), (4, .int (nI (k + 1)))]) (st' := [.int 10000, .int ((mcA W cnt nr on dr u D i own) (fwN (mcA W cnt nr on dr u D i own) k))]) _ (ms_deC dX6_wants_49 ms_deN) rfl rfl ?_
      refine ms_icmp_ne (tgt := 59) dX6_wants_52 (by decide) (fun h_52 => ?_) (fun h_52 => ?_)
      · skip
        refine ms_run (pc' := 60) (lv' := [(0, .ref o), (1, .int (nI i)), (2, .ref fr), (3, .int (nI (fwN (mcA W cnt nr on dr u D i own) k))), (4, .int (nI (k + 1)))]) (st' := [.int (nI (fwN (mcA W cnt nr on dr u D i own) k))]) _ (ms_deC dX6_wants_59 ms_deN) rfl rfl ?_
        refine ms_reti (st := []) (ty := .int) dX6_wants_60 rfl rfl ?_
        exact ms_p1.mk (ms_int_eq (fwX_f (c := (mcA W cnt nr on dr u D i own)) hkN h_52)) rfl
      · skip
        refine ms_run (pc' := 56) (lv' := [(0, .ref o), (1, .int (nI i)), (2, .ref fr), (3, .int (nI (fwN (mcA W cnt nr on dr u D i own) k))), (4, .int (nI (k + 1)))]) (st' := [.int 4]) _ (ms_deC dX6_wants_55 ms_deN) rfl rfl ?_
        refine ms_goto (tgt := 60) dX6_wants_56 (by decide) ?_
        refine ms_reti (st := []) (ty := .int) dX6_wants_60 rfl rfl ?_
        exact ms_p1.mk (ms_int_eq (fwX_t (c := (mcA W cnt nr on dr u D i own)) hkN h_52)) rfl
    · skip
      exact absurd (show nI 5 ≤ nI (k + 1) from nI_le (by omega) (by omega)) h_8
  | succ r ih =>
    intro k hk 
    have hlt : k < 4 := by omega
    refine ms_run (pc' := 8) (lv' := [(0, .ref o), (1, .int (nI i)), (2, .ref fr), (3, .int (nI (fwN (mcA W cnt nr on dr u D i own) k))), (4, .int (nI (k + 1)))]) (st' := [.int 5, .int (nI (k + 1))]) _ (ms_deC dX6_wants_5 (ms_deC dX6_wants_7 ms_deN)) rfl rfl ?_
    refine ms_icmp_ge (tgt := 42) dX6_wants_8 (by decide) (fun h_8 => ?_) (fun h_8 => ?_)
    · skip
      exact absurd h_8 (show ¬ nI 5 ≤ nI (k + 1) from nI_ge (by omega) (by omega))
    · skip
      refine ms_run (pc' := 16) (lv' := [(0, .ref o), (1, .int (nI i)), (2, .ref fr), (3, .int (nI (fwN (mcA W cnt nr on dr u D i own) k))), (4, .int (nI (k + 1)))]) (st' := [.ref fr, .int (nI (k + 1)), .int (nI i), .ref o]) _ (ms_deC dX6_wants_11 (ms_deC dX6_wants_12 (ms_deC dX6_wants_13 (ms_deC dX6_wants_15 ms_deN)))) rfl rfl ?_
      refine ms_callVp (As := [.int (nI i), .int (nI (k + 1)), .ref fr]) dX6_wants_16 (c_X6_cost hM hW hH hc hon hv hD hDw hDv hi hpo hon9 hL (s := (k + 1)) (by first | omega | (have := (fwN_I (c := (mcA W cnt nr on dr u D i own)) k).1; omega) | (have := (fwN_I (c := (mcA W cnt nr on dr u D i own)) 4).1; omega))) cv_X6_125 hM.1 rfl ⟨Nat.le_of_ble_eq_true rfl, Nat.le_of_ble_eq_true rfl⟩ rfl (Nat.le_of_ble_eq_true rfl) ?_
      refine ms_run (pc' := 23) (lv' := [(0, .ref o), (1, .int (nI i)), (2, .ref fr), (3, .int (nI (fwN (mcA W cnt nr on dr u D i own) k))), (4, .int (nI (k + 1)))]) (st' := [.ref fr, .int (nI (fwN (mcA W cnt nr on dr u D i own) k)), .int (nI i), .ref o, .int ((mcA W cnt nr on dr u D i own) (k + 1))]) _ (ms_deC dX6_wants_19 (ms_deC dX6_wants_20 (ms_deC dX6_wants_21 (ms_deC dX6_wants_22 ms_deN)))) rfl rfl ?_
      refine ms_callVp (As := [.int (nI i), .int (nI (fwN (mcA W cnt nr on dr u D i own) k)), .ref fr]) dX6_wants_23 (c_X6_cost hM hW hH hc hon hv hD hDw hDv hi hpo hon9 hL (s := (fwN (mcA W cnt nr on dr u D i own) k)) (by first | omega | (have := (fwN_I (c := (mcA W cnt nr on dr u D i own)) k).1; omega) | (have := (fwN_I (c := (mcA W cnt nr on dr u D i own)) 4).1; omega))) cv_X6_125 hM.1 rfl ⟨Nat.le_of_ble_eq_true rfl, Nat.le_of_ble_eq_true rfl⟩ rfl (Nat.le_of_ble_eq_true rfl) ?_
      refine ms_icmp_ge (tgt := 34) dX6_wants_26 (by decide) (fun h_26 => ?_) (fun h_26 => ?_)
      · skip
        refine ms_run (pc' := 39) (lv' := [(4, .int ((nI (k + 1)) + 1)), (3, .int (nI (fwN (mcA W cnt nr on dr u D i own) k))), (0, .ref o), (1, .int (nI i)), (2, .ref fr)]) (st' := []) _ (ms_deC dX6_wants_34 (ms_deC dX6_wants_35 (ms_deC dX6_wants_36 ms_deN))) rfl rfl ?_
        refine ms_goto (tgt := 5) dX6_wants_39 (by decide) ?_
        rw [nI_1 (k + 1)]
        rw [show nI (fwN (mcA W cnt nr on dr u D i own) k) = nI (fwN (mcA W cnt nr on dr u D i own) (k + 1)) from congrArg nI (if_neg (Int32.not_lt.mpr h_26)).symm]
        refine ms_W.sub (lv2 := [(0, _), (1, _), (2, _), (3, _), (4, _)]) ?_ [2, 3, 4, 1, 0] rfl
        exact ih (k + 1) (by omega)
      · skip
        refine ms_run (pc' := 31) (lv' := [(0, .ref o), (1, .int (nI i)), (2, .ref fr), (3, .int (nI (fwN (mcA W cnt nr on dr u D i own) k))), (4, .int (nI (k + 1)))]) (st' := [.int (nI (k + 1))]) _ (ms_deC dX6_wants_29 ms_deN) rfl rfl ?_
        refine ms_goto (tgt := 35) dX6_wants_31 (by decide) ?_
        refine ms_run (pc' := 39) (lv' := [(4, .int ((nI (k + 1)) + 1)), (3, .int (nI (k + 1))), (0, .ref o), (1, .int (nI i)), (2, .ref fr)]) (st' := []) _ (ms_deC dX6_wants_35 (ms_deC dX6_wants_36 ms_deN)) rfl rfl ?_
        refine ms_goto (tgt := 5) dX6_wants_39 (by decide) ?_
        rw [nI_1 (k + 1)]
        rw [show nI (k + 1) = nI (fwN (mcA W cnt nr on dr u D i own) (k + 1)) from congrArg nI (if_pos (Int32.not_le.mp h_26)).symm]
        refine ms_W.sub (lv2 := [(0, _), (1, _), (2, _), (3, _), (4, _)]) ?_ [2, 3, 4, 1, 0] rfl
        exact ih (k + 1) (by omega)
set_option maxHeartbeats 1000000 in
set_option maxRecDepth 20000 in
theorem c_X6_wants {n o x sb fa wa W H cnt : Nat} {G : ms_H} {dw cl dr pa : Int32} {wr : Nat → Nat} {fv u : Nat → Nat → Int32} (hM : fk_at G o x sb dw W H cl dr pa fa wa cnt wr fv u) (hW : W ≤ 14) (hH : H ≤ 14) (hc : cnt ≤ 24) {on : Nat → Int32} (hon : onV (W * H) cnt u on) (hv : hvX (nI (W * H)) cnt u) {D : Nat → Int32} {fr : Nat} (hD : far_at G fr W H D) (hDw : ∀ f, f < W * H → ¬ D f = -1 → fv f 0 = 0) (hDv : ∀ f, D f = -1 ∨ ∃ v, v ≤ 196 ∧ D f = nI v) {i own : Nat} (hi : i < cnt) (hpo : u i 3 = nI own) (hon9 : own < W * H) {nr : Nat → Int32} (hL : lk_ok W H (W * H) nr) : ms_M m_X6_wants [.ref o, .int (nI i), .ref fr] n G 0 0 (ms_p1 (some (.int (fwX (mcA W cnt nr on dr u D i own)))) n G) := by
  refine ms_M.of (by decide) (Nat.le_of_ble_eq_true rfl) ?_
  show ms_W false m_X6_wants _ 0 [(0, .ref o), (1, .int (nI i)), (2, .ref fr)] [] n G 0 0
  refine ms_run (pc' := 5) (lv' := [(4, .int 1), (3, .int 0), (0, .ref o), (1, .int (nI i)), (2, .ref fr)]) (st' := []) _ (ms_deC dX6_wants_0 (ms_deC dX6_wants_1 (ms_deC dX6_wants_2 (ms_deC dX6_wants_3 ms_deN)))) rfl rfl ?_
  refine ms_W.sub (lv2 := [(0, _), (1, _), (2, _), (3, _), (4, _)]) ?_ [2, 3, 4, 1, 0] rfl
  exact l_X6_wants hM hW hH hc hon hv hD hDw hDv hi hpo hon9 hL 4 0 rfl
theorem mcA_le {W cnt i own s : Nat} {nr on : Nat → Int32} {dr : Int32} {u : Nat → Nat → Int32} {D : Nat → Int32} (hc : cnt ≤ 24) (hDv : ∀ f, D f = -1 ∨ ∃ v, v ≤ 196 ∧ D f = nI v) (h2 : 0 ≤ u i 2 ∧ u i 2 ≤ 9) (hd : 0 ≤ dr ∧ dr ≤ 9) : mcA W cnt nr on dr u D i own s ≤ 10000 := by
  unfold mcA
  split
  · exact mcS_le hc (hDv own) h2
  · exact mcM_le hc hDv h2 hd
/-- what Flock wants is what the class wants -/
theorem fw_bs {W H cnt i own g : Nat} {nr on ds D : Nat → Int32} {dr : Int32} {u : Nat → Nat → Int32} (hL : lk_ok W H (W * H) nr) (hc : cnt ≤ 24) (hW : W ≤ 14) (hH : H ≤ 14) (hon : onV (W * H) cnt u on) (hv : hvX (nI (W * H)) cnt u) (hi : i < cnt) (hpo : u i 3 = nI own) (ho : own < W * H) (hg : g < 4) (hgo : u i 0 = nI g) (hds : ∀ f, f < W * H → ds (g * 196 + f) = D f) (hDv : ∀ f, D f = -1 ∨ ∃ v, v ≤ 196 ∧ D f = nI v) (h2 : 0 ≤ u i 2 ∧ u i 2 ≤ 9) (hd : 0 ≤ dr ∧ dr ≤ 9) : fwX (mcA W cnt nr on dr u D i own) = bsX (nI (W * H)) nr ds cnt dr on u i := by
  have e : ∀ j, j ≤ 4 → cr_cost (nI (W * H)) nr ds on (hdX cnt dr) u (u i) (nI j) = mcA W cnt nr on dr u D i own j := fun j hj => by
    unfold mcA
    by_cases h4 : j = 4
    · subst h4
      rw [if_pos rfl]
      exact cost_S hL hc hW hH hon hv hi hpo ho hg hgo hds
    · rw [if_neg h4]
      exact cost_M hL hc hW hH hon hv hi hpo ho hg hgo hds hdX_0 hdX_2 (by omega)
  have e2 : bsX (nI (W * H)) nr ds cnt dr on u i = fwX (fun j => cr_cost (nI (W * H)) nr ds on (hdX cnt dr) u (u i) (nI j)) := by
    unfold bsX
    exact (fw_eq (fun j hj => by rw [e j hj]; exact mcA_le hc hDv h2 hd)).symm
  rw [e2]
  exact fwX_congr (fun j hj => (e j hj).symm)

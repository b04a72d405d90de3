/-! the model: beside, areRound, walkerOn, round -/
theorem nbX_lk {W H f s : Nat} {nr : Nat → Int32} (hL : lk_ok W H (W * H) nr) (hf : f < W * H) (h9 : W * H ≤ 196) (hs : s < 8) : nbX nr f s = lk_v W H (f % W) (f / W) s := by
  show gr_next nr (nI f) (nI s) = _
  unfold gr_next
  rw [if_pos ⟨nI_pos' (by omega), show nI f < nI 196 from nI_lt (by omega) (by omega), nI_pos' (by omega), show nI s < nI 8 from nI_lt hs (by omega)⟩, nI_8j, nI_clamp (by omega)]
  exact hL f hf s hs
abbrev arR (W f o : Nat) : Prop := ¬ f = o ∧ (f % W < o % W + 2 ∧ o % W < f % W + 2) ∧ (f / W < o / W + 2 ∧ o / W < f / W + 2)
theorem ab_2 {a b : Nat} (ha : a < 1000) (hb : b < 1000) : 2 ≤ (if 0 ≤ nI a - nI b then nI a - nI b else 0 - (nI a - nI b)) ↔ ¬ (a < b + 2 ∧ b < a + 2) := by
  have h1 : (nI a - nI b).toInt = (a : Int) - b := by rw [nb_sub (by rw [nI_toI (by omega), nI_toI (by omega)]; omega) (by rw [nI_toI (by omega), nI_toI (by omega)]; omega), nI_toI (by omega), nI_toI (by omega)]
  have h0 : (0 : Int32).toInt = 0 := rfl
  have h2 : (2 : Int32).toInt = 2 := rfl
  by_cases h : 0 ≤ nI a - nI b
  · rw [if_pos h, nb_le, h1, h2]; rw [nb_le, h1, h0] at h; omega
  · rw [if_neg h, nb_le, nb_sub (by rw [h1, h0]; omega) (by rw [h1, h0]; omega), h1, h0, h2]; rw [nb_le, h1, h0] at h; omega
def onV (n cnt : Nat) (u : Nat → Nat → Int32) (on : Nat → Int32) : Prop := ∀ f, f < n → (on f = -1 ∧ ∀ k, k < cnt → ¬ u k 3 = nI f) ∨ ∃ k, k < cnt ∧ on f = nI k ∧ u k 3 = nI f ∧ ∀ j, j < cnt → u j 3 = nI f → j = k
theorem onV.hit {n cnt f k : Nat} {u : Nat → Nat → Int32} {on : Nat → Int32} (h : onV n cnt u on) (hf : f < n) (hk : k < cnt) (e : u k 3 = nI f) : on f = nI k := by
  rcases h f hf with ⟨-, h1⟩ | ⟨j, -, h2, -, h4⟩
  · exact absurd e (h1 k hk)
  · rw [h2, h4 k hk e]
theorem onV.miss {n cnt f : Nat} {u : Nat → Nat → Int32} {on : Nat → Int32} (h : onV n cnt u on) (hf : f < n) (e : ∀ k, k < cnt → ¬ u k 3 = nI f) : on f = -1 := by
  rcases h f hf with ⟨h0, -⟩ | ⟨j, h1, h2, h3, -⟩
  · exact h0
  · exact absurd h3 (e j h1)
def pRo (W : Nat) (u : Nat → Nat → Int32) (f : Nat) (b : Int32) (k : Nat) : Bool := decide (¬ nI k = b ∧ ¬ u k 3 = -1 ∧ arR W f (u k 3).toNatClampNeg)
theorem has_nat {fl f : Int32} (h : gr_has fl f) : ∃ o, o < 196 ∧ f = nI o := by
  obtain ⟨j, hj, rfl⟩ := nI_of (Int32.not_lt.mpr h.1)
  exact ⟨j, (nI_ltI hj (by omega)).mp (show nI j < nI 196 from h.2.2), rfl⟩
theorem c_X6_beside {n m aw am ai ah W H cnt : Nat} {G : ms_H} {th cl dr pa : Int32} {wl mm ht : Nat → Int32} {u : Nat → Nat → Int32} (hM : md_at G m aw am ai ah W H th cl dr pa cnt wl mm ht u) (hW : W ≤ 14) (hH : H ≤ 14) (hc : cnt ≤ 24) (hW0 : 0 < W) {nr : Nat → Int32} (hL : lk_ok W H (W * H) nr) {f s : Nat} (hf : f < W * H) (hs : s < 4) : ms_M m_X6_beside [.ref m, .int (nI f), .int (nI s)] n G 0 0 (ms_p1 (some (.int (nbX nr f s))) n G) := by
  have h9 := fd_196 hW hH
  rw [nbX_lk hL hf h9 (by omega)]
  have h0 : f < 1000 := by omega
  match s, hs with
  | 0, _ => exact c_X6_beside0 hM hW hH hc hW0 h0
  | 1, _ => exact c_X6_beside1 hM hW hH hc hW0 h0
  | 2, _ => exact c_X6_beside2 hM hW hH hc hW0 h0
  | 3, _ => exact c_X6_beside3 hM hW hH hc hW0 h0
set_option maxHeartbeats 2000000 in
set_option maxRecDepth 20000 in
theorem c_X6_areRound {n m aw am ai ah W H cnt : Nat} {G : ms_H} {th cl dr pa : Int32} {wl mm ht : Nat → Int32} {u : Nat → Nat → Int32} (hM : md_at G m aw am ai ah W H th cl dr pa cnt wl mm ht u) (hW : W ≤ 14) (hH : H ≤ 14) (hc : cnt ≤ 24) (hW0 : 0 < W) {f o : Nat} (hf : f < 1000) (ho : o < 1000) : ms_M m_X6_areRound [.ref m, .int (nI f), .int (nI o)] n G 0 0 (ms_p1 (some (.int (ms_b (arR W f o)))) n G) := by
  refine ms_M.of (by decide) (Nat.le_of_ble_eq_true rfl) ?_
  show ms_W false m_X6_areRound _ 0 [(0, .ref m), (1, .int (nI f)), (2, .int (nI o))] [] n G 0 0
  obtain ⟨hm, hw_, hk_, ⟨it, hi_, hit⟩, hh_⟩ := hM
  have t1 := Nat.mod_le f W
  have t2 := Nat.mod_le o W
  have t3 := Nat.div_le_self f W
  have t4 := Nat.div_le_self o W
  have e1 := nI_eq (a := f) (b := o) (by omega) (by omega)
  have e2 := ab_2 (a := f % W) (b := o % W) (by omega) (by omega)
  have e3 := ab_2 (a := f / W) (b := o / W) (by omega) (by omega)
  refine ms_run (pc' := 2) (lv' := [(0, .ref m), (1, .int (nI f)), (2, .int (nI o))]) (st' := [.int (nI o), .int (nI f)]) _ (ms_deC dX6_areRound_0 (ms_deC dX6_areRound_1 ms_deN)) rfl rfl ?_
  refine ms_icmp_eq (tgt := 49) dX6_areRound_2 (by decide) (fun h_2 => ?_) (fun h_2 => ?_)
  · skip
    refine ms_run (pc' := 50) (lv' := [(0, .ref m), (1, .int (nI f)), (2, .int (nI o))]) (st' := [.int 0]) _ (ms_deC dX6_areRound_49 ms_deN) rfl rfl ?_
    refine ms_reti (st := []) (ty := .boolean) dX6_areRound_50 rfl rfl ?_
    exact ms_p1.mk (ms_int_eq (by grind)) rfl
  · skip
    refine ms_run (pc' := 7) (lv' := [(0, .ref m), (1, .int (nI f)), (2, .int (nI o))]) (st' := [.ref m, .int (nI f)]) _ (ms_deC dX6_areRound_5 (ms_deC dX6_areRound_6 ms_deN)) rfl rfl ?_
    refine ms_getf dX6_areRound_7 fg_X6_20 hm rfl ?_
    refine ms_irem dX6_areRound_10 (nI_ne0 hW0 (by omega)) ?_
    rw [nI_rem (a := f) (b := W) (by omega) (by omega)]
    refine ms_run (pc' := 13) (lv' := [(0, .ref m), (1, .int (nI f)), (2, .int (nI o))]) (st' := [.ref m, .int (nI o), .int (nI (f % W))]) _ (ms_deC dX6_areRound_11 (ms_deC dX6_areRound_12 ms_deN)) rfl rfl ?_
    refine ms_getf dX6_areRound_13 fg_X6_20 hm rfl ?_
    refine ms_irem dX6_areRound_16 (nI_ne0 hW0 (by omega)) ?_
    rw [nI_rem (a := o) (b := W) (by omega) (by omega)]
    refine ms_run (pc' := 18) (lv' := [(0, .ref m), (1, .int (nI f)), (2, .int (nI o))]) (st' := [.int ((nI (f % W)) - (nI (o % W)))]) _ (ms_deC dX6_areRound_17 ms_deN) rfl rfl ?_
    refine ms_abs dX6_areRound_18 mm_X6_61 ⟨Nat.le_of_ble_eq_true rfl, Nat.le_of_ble_eq_true rfl⟩ (Nat.le_of_ble_eq_true rfl) ?_
    refine ms_run (pc' := 22) (lv' := [(0, .ref m), (1, .int (nI f)), (2, .int (nI o))]) (st' := [.int 2, .int (if 0 ≤ (nI (f % W)) - (nI (o % W)) then (nI (f % W)) - (nI (o % W)) else 0 - ((nI (f % W)) - (nI (o % W))))]) _ (ms_deC dX6_areRound_21 ms_deN) rfl rfl ?_
    refine ms_icmp_ge (tgt := 49) dX6_areRound_22 (by decide) (fun h_22 => ?_) (fun h_22 => ?_)
    · skip
      refine ms_run (pc' := 50) (lv' := [(0, .ref m), (1, .int (nI f)), (2, .int (nI o))]) (st' := [.int 0]) _ (ms_deC dX6_areRound_49 ms_deN) rfl rfl ?_
      refine ms_reti (st := []) (ty := .boolean) dX6_areRound_50 rfl rfl ?_
      exact ms_p1.mk (ms_int_eq (by grind)) rfl
    · skip
      refine ms_run (pc' := 27) (lv' := [(0, .ref m), (1, .int (nI f)), (2, .int (nI o))]) (st' := [.ref m, .int (nI f)]) _ (ms_deC dX6_areRound_25 (ms_deC dX6_areRound_26 ms_deN)) rfl rfl ?_
      refine ms_getf dX6_areRound_27 fg_X6_20 hm rfl ?_
      refine ms_idiv dX6_areRound_30 (nI_ne0 hW0 (by omega)) ?_
      rw [nI_div (a := f) (b := W) (by omega) (by omega)]
      refine ms_run (pc' := 33) (lv' := [(0, .ref m), (1, .int (nI f)), (2, .int (nI o))]) (st' := [.ref m, .int (nI o), .int (nI (f / W))]) _ (ms_deC dX6_areRound_31 (ms_deC dX6_areRound_32 ms_deN)) rfl rfl ?_
      refine ms_getf dX6_areRound_33 fg_X6_20 hm rfl ?_
      refine ms_idiv dX6_areRound_36 (nI_ne0 hW0 (by omega)) ?_
      rw [nI_div (a := o) (b := W) (by omega) (by omega)]
      refine ms_run (pc' := 38) (lv' := [(0, .ref m), (1, .int (nI f)), (2, .int (nI o))]) (st' := [.int ((nI (f / W)) - (nI (o / W)))]) _ (ms_deC dX6_areRound_37 ms_deN) rfl rfl ?_
      refine ms_abs dX6_areRound_38 mm_X6_61 ⟨Nat.le_of_ble_eq_true rfl, Nat.le_of_ble_eq_true rfl⟩ (Nat.le_of_ble_eq_true rfl) ?_
      refine ms_run (pc' := 42) (lv' := [(0, .ref m), (1, .int (nI f)), (2, .int (nI o))]) (st' := [.int 2, .int (if 0 ≤ (nI (f / W)) - (nI (o / W)) then (nI (f / W)) - (nI (o / W)) else 0 - ((nI (f / W)) - (nI (o / W))))]) _ (ms_deC dX6_areRound_41 ms_deN) rfl rfl ?_
      refine ms_icmp_ge (tgt := 49) dX6_areRound_42 (by decide) (fun h_42 => ?_) (fun h_42 => ?_)
      · skip
        refine ms_run (pc' := 50) (lv' := [(0, .ref m), (1, .int (nI f)), (2, .int (nI o))]) (st' := [.int 0]) _ (ms_deC dX6_areRound_49 ms_deN) rfl rfl ?_
        refine ms_reti (st := []) (ty := .boolean) dX6_areRound_50 rfl rfl ?_
        exact ms_p1.mk (ms_int_eq (by grind)) rfl
      · skip
        refine ms_run (pc' := 46) (lv' := [(0, .ref m), (1, .int (nI f)), (2, .int (nI o))]) (st' := [.int 1]) _ (ms_deC dX6_areRound_45 ms_deN) rfl rfl ?_
        refine ms_goto (tgt := 50) dX6_areRound_46 (by decide) ?_
        refine ms_reti (st := []) (ty := .boolean) dX6_areRound_50 rfl rfl ?_
        exact ms_p1.mk (ms_int_eq (by grind)) rfl
set_option maxHeartbeats 4000000 in
set_option maxRecDepth 20000 in
theorem l_X6_walkerOn {n m aw am ai ah W H cnt : Nat} {G : ms_H} {th cl dr pa : Int32} {wl mm ht : Nat → Int32} {u : Nat → Nat → Int32} (hM : md_at G m aw am ai ah W H th cl dr pa cnt wl mm ht u) (hW : W ≤ 14) (hH : H ≤ 14) (hc : cnt ≤ 24) {on : Nat → Int32} (hon : onV (W * H) cnt u on) {f : Nat} (hf : f < W * H) : ∀ (r k : Nat), k + r = cnt → (∀ j, j < k → ¬ u j 3 = nI f) → ms_W false m_X6_walkerOn (ms_p1 (some (.int (on f))) n G) 2 [(0, .ref m), (1, .int (nI f)), (2, .int (nI k))] [] n G 0 0 := by
  obtain ⟨hm, hw_, hk_, ⟨it, hi_, hit⟩, hh_⟩ := hM
  intro r
  induction r with
  | zero =>
    intro k hk hno
    have hkN : k = cnt := by omega
    refine ms_run (pc' := 4) (lv' := [(0, .ref m), (1, .int (nI f)), (2, .int (nI k))]) (st' := [.ref m, .int (nI k)]) _ (ms_deC dX6_walkerOn_2 (ms_deC dX6_walkerOn_3 ms_deN)) rfl rfl ?_
    refine ms_getf dX6_walkerOn_4 fg_X6_36 hm rfl ?_
    refine ms_icmp_ge (tgt := 33) dX6_walkerOn_7 (by decide) (fun h_7 => ?_) (fun h_7 => ?_)
    · skip
      refine ms_run (pc' := 34) (lv' := [(0, .ref m), (1, .int (nI f)), (2, .int (nI k))]) (st' := [.int (-1)]) _ (ms_deC dX6_walkerOn_33 ms_deN) rfl rfl ?_
      refine ms_reti (st := []) (ty := .int) dX6_walkerOn_34 rfl rfl ?_
      exact ms_p1.mk (ms_int_eq (hon.miss hf (fun j hj => hno j (by omega))).symm) rfl
    · skip
      exact absurd (by exact nI_le (b := k) (by omega) (by omega)) h_7
  | succ r ih =>
    intro k hk hno
    have hlt : k < cnt := by omega
    refine ms_run (pc' := 4) (lv' := [(0, .ref m), (1, .int (nI f)), (2, .int (nI k))]) (st' := [.ref m, .int (nI k)]) _ (ms_deC dX6_walkerOn_2 (ms_deC dX6_walkerOn_3 ms_deN)) rfl rfl ?_
    refine ms_getf dX6_walkerOn_4 fg_X6_36 hm rfl ?_
    refine ms_icmp_ge (tgt := 33) dX6_walkerOn_7 (by decide) (fun h_7 => ?_) (fun h_7 => ?_)
    · skip
      exact absurd h_7 (by exact nI_ge (b := cnt) (by omega) (by omega))
    · skip
      refine ms_run (pc' := 11) (lv' := [(0, .ref m), (1, .int (nI f)), (2, .int (nI k))]) (st' := [.ref m]) _ (ms_deC dX6_walkerOn_10 ms_deN) rfl rfl ?_
      refine ms_getf dX6_walkerOn_11 fg_X6_39 hm rfl ?_
      refine ms_run (pc' := 20) (lv' := [(0, .ref m), (1, .int (nI f)), (2, .int (nI k))]) (st' := [.int (((nI k) * 8) + 3), .ref ai]) _ (ms_deC dX6_walkerOn_14 (ms_deC dX6_walkerOn_15 (ms_deC dX6_walkerOn_17 (ms_deC dX6_walkerOn_18 (ms_deC dX6_walkerOn_19 ms_deN))))) rfl rfl ?_
      refine ms_iaload dX6_walkerOn_20 hi_ (md_in (k := k) (j := 3) (Nat.lt_of_lt_of_le hlt hc) (by omega)) ?_
      rw [show it (((nI k) * 8) + 3).toNatClampNeg = u k 3 from md_it (k := k) (j := 3) hit hlt hc (by omega)]
      refine ms_run (pc' := 22) (lv' := [(0, .ref m), (1, .int (nI f)), (2, .int (nI k))]) (st' := [.int (nI f), .int (u k 3)]) _ (ms_deC dX6_walkerOn_21 ms_deN) rfl rfl ?_
      refine ms_icmp_ne (tgt := 27) dX6_walkerOn_22 (by decide) (fun h_22 => ?_) (fun h_22 => ?_)
      · skip
        refine ms_run (pc' := 30) (lv' := [(2, .int ((nI k) + 1)), (0, .ref m), (1, .int (nI f))]) (st' := []) _ (ms_deC dX6_walkerOn_27 ms_deN) rfl rfl ?_
        refine ms_goto (tgt := 2) dX6_walkerOn_30 (by decide) ?_
        rw [nI_1 k]
        refine ms_W.sub (lv2 := [(0, _), (1, _), (2, _)]) ?_ [1, 2, 0] rfl
        exact ih (k + 1) (by omega) (fun j hj => by rcases Nat.lt_succ_iff_lt_or_eq.mp hj with h8 | h8; exact hno j h8; rw [h8]; exact h_22)
      · skip
        refine ms_run (pc' := 26) (lv' := [(0, .ref m), (1, .int (nI f)), (2, .int (nI k))]) (st' := [.int (nI k)]) _ (ms_deC dX6_walkerOn_25 ms_deN) rfl rfl ?_
        refine ms_reti (st := []) (ty := .int) dX6_walkerOn_26 rfl rfl ?_
        exact ms_p1.mk (ms_int_eq (hon.hit hf hlt (by first | exact h_22 | exact Decidable.not_not.mp h_22)).symm) rfl
set_option maxHeartbeats 2000000 in
set_option maxRecDepth 20000 in
theorem c_X6_walkerOn {n m aw am ai ah W H cnt : Nat} {G : ms_H} {th cl dr pa : Int32} {wl mm ht : Nat → Int32} {u : Nat → Nat → Int32} (hM : md_at G m aw am ai ah W H th cl dr pa cnt wl mm ht u) (hW : W ≤ 14) (hH : H ≤ 14) (hc : cnt ≤ 24) {on : Nat → Int32} (hon : onV (W * H) cnt u on) {f : Nat} (hf : f < W * H) : ms_M m_X6_walkerOn [.ref m, .int (nI f)] n G 0 0 (ms_p1 (some (.int (on f))) n G) := by
  refine ms_M.of (by decide) (Nat.le_of_ble_eq_true rfl) ?_
  show ms_W false m_X6_walkerOn _ 0 [(0, .ref m), (1, .int (nI f))] [] n G 0 0
  obtain ⟨hm, hw_, hk_, ⟨it, hi_, hit⟩, hh_⟩ := hM
  refine ms_run (pc' := 2) (lv' := [(2, .int 0), (0, .ref m), (1, .int (nI f))]) (st' := []) _ (ms_deC dX6_walkerOn_0 (ms_deC dX6_walkerOn_1 ms_deN)) rfl rfl ?_
  refine ms_W.sub (lv2 := [(0, _), (1, _), (2, _)]) ?_ [1, 2, 0] rfl
  exact l_X6_walkerOn ⟨hm, hw_, hk_, ⟨it, hi_, hit⟩, hh_⟩ hW hH hc hon hf cnt 0 (by omega) (fun j hj => absurd hj (Nat.not_lt_zero j))
set_option maxHeartbeats 4000000 in
set_option maxRecDepth 20000 in
theorem l_X6_round {n m aw am ai ah W H cnt : Nat} {G : ms_H} {th cl dr pa : Int32} {wl mm ht : Nat → Int32} {u : Nat → Nat → Int32} (hM : md_at G m aw am ai ah W H th cl dr pa cnt wl mm ht u) (hW : W ≤ 14) (hH : H ≤ 14) (hc : cnt ≤ 24) (hW0 : 0 < W) (hv : hvX (nI (W * H)) cnt u) {f : Nat} (hf : f < W * H) (b : Int32) : ∀ (r k : Nat), k + r = cnt →  ms_W false m_X6_round (ms_p1 (some (.int (nI (ct (pRo W u f b) cnt)))) n G) 5 [(0, .ref m), (1, .int (nI f)), (2, .int b), (3, .int (nI (ct (pRo W u f b) k))), (4, .int (nI k))] [] n G 0 0 := by
  obtain ⟨hm, hw_, hk_, ⟨it, hi_, hit⟩, hh_⟩ := hM
  have h196 := fd_196 hW hH
  intro r
  induction r with
  | zero =>
    intro k hk 
    have hkN : k = cnt := by omega
    refine ms_run (pc' := 8) (lv' := [(0, .ref m), (1, .int (nI f)), (2, .int b), (3, .int (nI (ct (pRo W u f b) k))), (4, .int (nI k))]) (st' := [.ref m, .int (nI k)]) _ (ms_deC dX6_round_5 (ms_deC dX6_round_7 ms_deN)) rfl rfl ?_
    refine ms_getf dX6_round_8 fg_X6_36 hm rfl ?_
    refine ms_icmp_ge (tgt := 70) dX6_round_11 (by decide) (fun h_11 => ?_) (fun h_11 => ?_)
    · skip
      refine ms_run (pc' := 71) (lv' := [(0, .ref m), (1, .int (nI f)), (2, .int b), (3, .int (nI (ct (pRo W u f b) k))), (4, .int (nI k))]) (st' := [.int (nI (ct (pRo W u f b) k))]) _ (ms_deC dX6_round_70 ms_deN) rfl rfl ?_
      refine ms_reti (st := []) (ty := .int) dX6_round_71 rfl rfl ?_
      exact ms_p1.mk (by rw [hkN]) rfl
    · skip
      exact absurd (by exact nI_le (b := k) (by omega) (by omega)) h_11
  | succ r ih =>
    intro k hk 
    have hlt : k < cnt := by omega
    refine ms_run (pc' := 8) (lv' := [(0, .ref m), (1, .int (nI f)), (2, .int b), (3, .int (nI (ct (pRo W u f b) k))), (4, .int (nI k))]) (st' := [.ref m, .int (nI k)]) _ (ms_deC dX6_round_5 (ms_deC dX6_round_7 ms_deN)) rfl rfl ?_
    refine ms_getf dX6_round_8 fg_X6_36 hm rfl ?_
    refine ms_icmp_ge (tgt := 70) dX6_round_11 (by decide) (fun h_11 => ?_) (fun h_11 => ?_)
    · skip
      exact absurd h_11 (by exact nI_ge (b := cnt) (by omega) (by omega))
    · skip
      refine ms_run (pc' := 18) (lv' := [(0, .ref m), (1, .int (nI f)), (2, .int b), (3, .int (nI (ct (pRo W u f b) k))), (4, .int (nI k))]) (st' := [.int b, .int (nI k), .int (nI (ct (pRo W u f b) k))]) _ (ms_deC dX6_round_14 (ms_deC dX6_round_15 (ms_deC dX6_round_17 ms_deN))) rfl rfl ?_
      refine ms_icmp_eq (tgt := 61) dX6_round_18 (by decide) (fun h_18 => ?_) (fun h_18 => ?_)
      · skip
        refine ms_run (pc' := 67) (lv' := [(4, .int ((nI k) + 1)), (3, .int ((nI (ct (pRo W u f b) k)) + 0)), (0, .ref m), (1, .int (nI f)), (2, .int b)]) (st' := []) _ (ms_deC dX6_round_61 (ms_deC dX6_round_62 (ms_deC dX6_round_63 (ms_deC dX6_round_64 ms_deN)))) rfl rfl ?_
        refine ms_goto (tgt := 5) dX6_round_67 (by decide) ?_
        have hp : pRo W u f b k = false := decide_eq_false (fun z9 => by first | exact z9.1 h_18 | exact z9.2.1 h_34 | exact har (by have := z9.2.2; rw [hoe, nI_clamp (by omega)] at this; exact this))
        rw [Int32.add_zero, ct_f hp]
        rw [nI_1 k]
        refine ms_W.sub (lv2 := [(0, _), (1, _), (2, _), (3, _), (4, _)]) ?_ [2, 3, 4, 1, 0] rfl
        exact ih (k + 1) (by omega)
      · skip
        refine ms_run (pc' := 22) (lv' := [(0, .ref m), (1, .int (nI f)), (2, .int b), (3, .int (nI (ct (pRo W u f b) k))), (4, .int (nI k))]) (st' := [.ref m, .int (nI (ct (pRo W u f b) k))]) _ (ms_deC dX6_round_21 ms_deN) rfl rfl ?_
        refine ms_getf dX6_round_22 fg_X6_39 hm rfl ?_
        refine ms_run (pc' := 32) (lv' := [(0, .ref m), (1, .int (nI f)), (2, .int b), (3, .int (nI (ct (pRo W u f b) k))), (4, .int (nI k))]) (st' := [.int (((nI k) * 8) + 3), .ref ai, .int (nI (ct (pRo W u f b) k))]) _ (ms_deC dX6_round_25 (ms_deC dX6_round_27 (ms_deC dX6_round_29 (ms_deC dX6_round_30 (ms_deC dX6_round_31 ms_deN))))) rfl rfl ?_
        refine ms_iaload dX6_round_32 hi_ (md_in (k := k) (j := 3) (Nat.lt_of_lt_of_le hlt hc) (by omega)) ?_
        rw [show it (((nI k) * 8) + 3).toNatClampNeg = u k 3 from md_it (k := k) (j := 3) hit hlt hc (by omega)]
        refine ms_run (pc' := 34) (lv' := [(0, .ref m), (1, .int (nI f)), (2, .int b), (3, .int (nI (ct (pRo W u f b) k))), (4, .int (nI k))]) (st' := [.int (-1), .int (u k 3), .int (nI (ct (pRo W u f b) k))]) _ (ms_deC dX6_round_33 ms_deN) rfl rfl ?_
        refine ms_icmp_eq (tgt := 61) dX6_round_34 (by decide) (fun h_34 => ?_) (fun h_34 => ?_)
        · skip
          refine ms_run (pc' := 67) (lv' := [(4, .int ((nI k) + 1)), (3, .int ((nI (ct (pRo W u f b) k)) + 0)), (0, .ref m), (1, .int (nI f)), (2, .int b)]) (st' := []) _ (ms_deC dX6_round_61 (ms_deC dX6_round_62 (ms_deC dX6_round_63 (ms_deC dX6_round_64 ms_deN)))) rfl rfl ?_
          refine ms_goto (tgt := 5) dX6_round_67 (by decide) ?_
          have hp : pRo W u f b k = false := decide_eq_false (fun z9 => by first | exact z9.1 h_18 | exact z9.2.1 h_34 | exact har (by have := z9.2.2; rw [hoe, nI_clamp (by omega)] at this; exact this))
          rw [Int32.add_zero, ct_f hp]
          rw [nI_1 k]
          refine ms_W.sub (lv2 := [(0, _), (1, _), (2, _), (3, _), (4, _)]) ?_ [2, 3, 4, 1, 0] rfl
          exact ih (k + 1) (by omega)
        · skip
          refine ms_run (pc' := 40) (lv' := [(0, .ref m), (1, .int (nI f)), (2, .int b), (3, .int (nI (ct (pRo W u f b) k))), (4, .int (nI k))]) (st' := [.ref m, .int (nI f), .ref m, .int (nI (ct (pRo W u f b) k))]) _ (ms_deC dX6_round_37 (ms_deC dX6_round_38 (ms_deC dX6_round_39 ms_deN))) rfl rfl ?_
          refine ms_getf dX6_round_40 fg_X6_39 hm rfl ?_
          refine ms_run (pc' := 50) (lv' := [(0, .ref m), (1, .int (nI f)), (2, .int b), (3, .int (nI (ct (pRo W u f b) k))), (4, .int (nI k))]) (st' := [.int (((nI k) * 8) + 3), .ref ai, .int (nI f), .ref m, .int (nI (ct (pRo W u f b) k))]) _ (ms_deC dX6_round_43 (ms_deC dX6_round_45 (ms_deC dX6_round_47 (ms_deC dX6_round_48 (ms_deC dX6_round_49 ms_deN))))) rfl rfl ?_
          refine ms_iaload dX6_round_50 hi_ (md_in (k := k) (j := 3) (Nat.lt_of_lt_of_le hlt hc) (by omega)) ?_
          rw [show it (((nI k) * 8) + 3).toNatClampNeg = u k 3 from md_it (k := k) (j := 3) hit hlt hc (by omega)]
          obtain ⟨o, ho, hoe⟩ := has_nat ((hv k hlt).resolve_left h_34)
          rw [hoe]
          refine ms_callVp (As := [.int (nI f), .int (nI o)]) dX6_round_51 (c_X6_areRound ⟨hm, hw_, hk_, ⟨it, hi_, hit⟩, hh_⟩ hW hH hc hW0 (f := f) (o := o) (by omega) (by omega)) cv_X6_67 hm rfl ⟨Nat.le_of_ble_eq_true rfl, Nat.le_of_ble_eq_true rfl⟩ rfl (Nat.le_of_ble_eq_true rfl) ?_
          by_cases har : arR W f o
          · rw [show ms_b (arR W f o) = 1 from if_pos har]
            refine ms_if_eq (tgt := 61) dX6_round_54 (by decide) (fun h9 => absurd h9 (by decide)) (fun _ => ?_)
            refine ms_run (pc' := 58) (lv' := [(0, .ref m), (1, .int (nI f)), (2, .int b), (3, .int (nI (ct (pRo W u f b) k))), (4, .int (nI k))]) (st' := [.int 1, .int (nI (ct (pRo W u f b) k))]) _ (ms_deC dX6_round_57 ms_deN) rfl rfl ?_
            refine ms_goto (tgt := 62) dX6_round_58 (by decide) ?_
            refine ms_run (pc' := 67) (lv' := [(4, .int ((nI k) + 1)), (3, .int ((nI (ct (pRo W u f b) k)) + 1)), (0, .ref m), (1, .int (nI f)), (2, .int b)]) (st' := []) _ (ms_deC dX6_round_62 (ms_deC dX6_round_63 (ms_deC dX6_round_64 ms_deN))) rfl rfl ?_
            refine ms_goto (tgt := 5) dX6_round_67 (by decide) ?_
            have hp : pRo W u f b k = true := decide_eq_true ⟨h_18, h_34, by rw [hoe, nI_clamp (by omega)]; exact har⟩
            rw [ct_t hp]
            rw [nI_1 k]
            refine ms_W.sub (lv2 := [(0, _), (1, _), (2, _), (3, _), (4, _)]) ?_ [2, 3, 4, 1, 0] rfl
            exact ih (k + 1) (by omega)
          · rw [show ms_b (arR W f o) = 0 from if_neg har]
            refine ms_if_eq (tgt := 61) dX6_round_54 (by decide) (fun _ => ?_) (fun h9 => absurd h9 (by decide))
            refine ms_run (pc' := 67) (lv' := [(4, .int ((nI k) + 1)), (3, .int ((nI (ct (pRo W u f b) k)) + 0)), (0, .ref m), (1, .int (nI f)), (2, .int b)]) (st' := []) _ (ms_deC dX6_round_61 (ms_deC dX6_round_62 (ms_deC dX6_round_63 (ms_deC dX6_round_64 ms_deN)))) rfl rfl ?_
            refine ms_goto (tgt := 5) dX6_round_67 (by decide) ?_
            have hp : pRo W u f b k = false := decide_eq_false (fun z9 => by first | exact z9.1 h_18 | exact z9.2.1 h_34 | exact har (by have := z9.2.2; rw [hoe, nI_clamp (by omega)] at this; exact this))
            rw [Int32.add_zero, ct_f hp]
            rw [nI_1 k]
            refine ms_W.sub (lv2 := [(0, _), (1, _), (2, _), (3, _), (4, _)]) ?_ [2, 3, 4, 1, 0] rfl
            exact ih (k + 1) (by omega)
set_option maxHeartbeats 2000000 in
set_option maxRecDepth 20000 in
theorem c_X6_round {n m aw am ai ah W H cnt : Nat} {G : ms_H} {th cl dr pa : Int32} {wl mm ht : Nat → Int32} {u : Nat → Nat → Int32} (hM : md_at G m aw am ai ah W H th cl dr pa cnt wl mm ht u) (hW : W ≤ 14) (hH : H ≤ 14) (hc : cnt ≤ 24) (hW0 : 0 < W) (hv : hvX (nI (W * H)) cnt u) {f : Nat} (hf : f < W * H) (b : Int32) : ms_M m_X6_round [.ref m, .int (nI f), .int b] n G 0 0 (ms_p1 (some (.int (nI (ct (pRo W u f b) cnt)))) n G) := by
  refine ms_M.of (by decide) (Nat.le_of_ble_eq_true rfl) ?_
  show ms_W false m_X6_round _ 0 [(0, .ref m), (1, .int (nI f)), (2, .int b)] [] n G 0 0
  obtain ⟨hm, hw_, hk_, ⟨it, hi_, hit⟩, hh_⟩ := hM
  refine ms_run (pc' := 5) (lv' := [(4, .int 0), (3, .int 0), (0, .ref m), (1, .int (nI f)), (2, .int b)]) (st' := []) _ (ms_deC dX6_round_0 (ms_deC dX6_round_1 (ms_deC dX6_round_2 (ms_deC dX6_round_3 ms_deN)))) rfl rfl ?_
  refine ms_W.sub (lv2 := [(0, _), (1, _), (2, _), (3, _), (4, _)]) ?_ [2, 3, 4, 1, 0] rfl
  exact l_X6_round ⟨hm, hw_, hk_, ⟨it, hi_, hit⟩, hh_⟩ hW hH hc hW0 hv hf b cnt 0 (by omega)

/-! Crowd: ticks ahead -/
def stXn (fl : Int32) (nr mk ds : Nat → Int32) (cnt : Nat) (dr : Int32) (X : cX) : Nat → cX
  | 0 => X
  | k + 1 => stX1 fl nr mk ds cnt dr (stXn fl nr mk ds cnt dr X k)
/-- each walker is on a field, or out -/
def hvX (fl : Int32) (cnt : Nat) (u : Nat → Nat → Int32) : Prop := ∀ k, k < cnt → u k 3 = -1 ∨ gr_has fl (u k 3)
theorem hvX.step {fl : Int32} {nr mk ds : Nat → Int32} {cnt : Nat} {dr : Int32} {X : cX} (h : hvX fl cnt X.1) : hvX fl cnt (stX1 fl nr mk ds cnt dr X).1 := by
  intro k hk
  show nuX fl mk cnt X.1 _ _ (tgX fl nr ds cnt dr X) _ k 3 = -1 ∨ gr_has fl (nuX fl mk cnt X.1 _ _ (tgX fl nr ds cnt dr X) _ k 3)
  unfold nuX gwW
  split
  · split
    · next hg =>
      unfold goW
      split
      · exact Or.inl rfl
      · exact Or.inr hg.1
    · exact h k hk
  · exact h k hk
theorem hvX.n {fl : Int32} {nr mk ds : Nat → Int32} {cnt : Nat} {dr : Int32} {X : cX} (h : hvX fl cnt X.1) : ∀ k, hvX fl cnt (stXn fl nr mk ds cnt dr X k).1
  | 0 => h
  | k + 1 => (hvX.n h k).step
theorem stXn_p {fl : Int32} {nr mk ds : Nat → Int32} {cnt : Nat} {dr : Int32} {X : cX} {k : Nat} (h : 0 < k) : stX1 fl nr mk ds cnt dr (stXn fl nr mk ds cnt dr X (k - 1)) = stXn fl nr mk ds cnt dr X k := by
  obtain ⟨j, rfl⟩ : ∃ j, k = j + 1 := ⟨k - 1, by omega⟩
  rfl
def oa_P (g q c n : Nat) (G : ms_H) (v : Int32) (cnt : Nat) (dr pa : Int32) (X : cX) : ms_P := fun r n1 G1 => r = .inl (some (.int v)) ∧ n1 = n ∧ cw_at G1 g q c cnt dr pa X ∧ ms_fr c 29 G G1
/-- an answer; the crowd is in some state -/
def oq_P (g q c n : Nat) (G : ms_H) (v : Int32) : ms_P := fun r n1 G1 => r = .inl (some (.int v)) ∧ n1 = n ∧ (∃ hd on ht cm wk, cr_at G1 g q c hd on ht cm wk) ∧ ms_fr c 29 G G1
theorem pOut_c {cnt : Nat} {wk u : Nat → Nat → Int32} (ha : ∀ k, k < cnt → ∀ j, j < 8 → wk k j = u k j) : ct (pOut wk) cnt = ct (pOut u) cnt := ct_congr (fun i hi => by unfold pOut; rw [ha i hi 3 (by omega)])
theorem an_congr {p q : Nat → Bool} : ∀ {n : Nat}, (∀ i, i < n → p i = q i) → an p n = an q n
  | 0, _ => rfl
  | n + 1, h => by
    show (an p n || p n) = (an q n || q n)
    rw [an_congr (n := n) (fun i hi => h i (by omega)), h n (by omega)]
theorem pJam_i {p : Int32} {u v : Nat → Int32} (h3 : u 3 = v 3) (h5 : u 5 = v 5) : pJam p u ↔ pJam p v := by unfold pJam; rw [h3, h5]
theorem pJam_c {cnt : Nat} {wk u : Nat → Nat → Int32} {p : Int32} (ha : ∀ k, k < cnt → ∀ j, j < 8 → wk k j = u k j) (n : Nat) (h : n ≤ cnt) : an (fun j => decide (pJam p (wk j))) n = an (fun j => decide (pJam p (u j))) n :=
  an_congr (fun i hi => decide_eq_decide.mpr (pJam_i (ha i (by omega) 3 (by omega)) (ha i (by omega) 5 (by omega))))
set_option maxHeartbeats 4000000 in
set_option maxRecDepth 20000 in
theorem l_X0_outAfter {n g q c : Nat} {G : ms_H} {fl w h : Int32} {nr : Nat → Int32} {wl mk ds qu : Nat → Int32} {cnt : Nat} {dr pa : Int32} {X : cX} (hs : g + 1 < q) (hs2 : q + 4 < c) (hc : cnt ≤ 24) (hv : hvX fl cnt X.1) {T : Nat} (hT : T ≤ 100) : ∀ (r k : Nat), k + r = T → ∀ (K : ms_H), gr_at K g fl w h nr → sq_at K g q wl mk ds qu → cw_at K g q c cnt dr pa (stXn fl nr mk ds cnt dr X k) → ms_fr c 29 G K → ms_W false m_X0_outAfter (oa_P g q c n G (nI (ct (pOut (stXn fl nr mk ds cnt dr X T).1) cnt)) cnt dr pa (stXn fl nr mk ds cnt dr X T)) 2 [(0, .ref c), (1, .int (nI T)), (2, .int (nI k))] [] n K 0 0 := by
  intro r
  induction r with
  | zero =>
    intro k hk K hG hQ hW hF
    have hkN : k = T := by omega
    obtain ⟨hd, cm, wk, hC, hx, hd1, hd2, hd3, ha⟩ := hW
    refine ms_run (pc' := 4) (lv' := [(0, .ref c), (1, .int (nI T)), (2, .int (nI k))]) (st' := [.int (nI T), .int (nI k)]) _ (ms_deC dX0_outAfter_2 (ms_deC dX0_outAfter_3 ms_deN)) rfl rfl ?_
    refine ms_icmp_ge (tgt := 17) dX0_outAfter_4 (by decide) (fun h_4 => ?_) (fun h_4 => ?_)
    · skip
      refine ms_run (pc' := 18) (lv' := [(0, .ref c), (1, .int (nI T)), (2, .int (nI k))]) (st' := [.ref c]) _ (ms_deC dX0_outAfter_17 ms_deN) rfl rfl ?_
      refine ms_callVp (As := []) dX0_outAfter_18 (c_X0_countOut hC hx hc) cv_X0_140 hC.1 rfl ⟨Nat.le_of_ble_eq_true rfl, Nat.le_of_ble_eq_true rfl⟩ rfl (Nat.le_of_ble_eq_true rfl) ?_
      rw [pOut_c ha]
      refine ms_reti (st := []) (ty := .int) dX0_outAfter_21 rfl rfl ?_
      exact ⟨by rw [hkN], rfl, ⟨hd, cm, wk, by rw [← hkN]; exact hC, hx, by rw [← hkN]; exact hd1, hd2, hd3, by rw [← hkN]; exact ha⟩, hF⟩
    · skip
      exact absurd (by exact nI_le (b := k) (by omega) (by omega)) h_4
  | succ r ih =>
    intro k hk K hG hQ hW hF
    have hlt : k < T := by omega
    obtain ⟨hd, cm, wk, hC, hx, hd1, hd2, hd3, ha⟩ := hW
    refine ms_run (pc' := 4) (lv' := [(0, .ref c), (1, .int (nI T)), (2, .int (nI k))]) (st' := [.int (nI T), .int (nI k)]) _ (ms_deC dX0_outAfter_2 (ms_deC dX0_outAfter_3 ms_deN)) rfl rfl ?_
    refine ms_icmp_ge (tgt := 17) dX0_outAfter_4 (by decide) (fun h_4 => ?_) (fun h_4 => ?_)
    · skip
      exact absurd h_4 (by exact nI_ge (b := T) (by omega) (by omega))
    · skip
      refine ms_run (pc' := 8) (lv' := [(0, .ref c), (1, .int (nI T)), (2, .int (nI k))]) (st' := [.ref c]) _ (ms_deC dX0_outAfter_7 ms_deN) rfl rfl ?_
      refine ms_callV0 (As := []) dX0_outAfter_8 (c_X0_step hG hQ ⟨hd, cm, wk, hC, hx, hd1, hd2, hd3, ha⟩ hs hs2 hc (hv.n k)) cv_X0_137 hC.1 rfl ⟨Nat.le_of_ble_eq_true rfl, Nat.le_of_ble_eq_true rfl⟩ rfl (Nat.le_of_ble_eq_true rfl) (fun v9 n9 K9 hp9 => ?_)
      obtain ⟨hv9, rfl, hW9, hF9⟩ := hp9
      cases hv9
      have hG9 := hG.fr hF9 (by omega)
      have hQ9 := hQ.fr hF9 (by omega)
      have hF8 := hF.trans hF9
      refine ms_run (pc' := 14) (lv' := [(2, .int ((nI k) + 1)), (0, .ref c), (1, .int (nI T))]) (st' := []) _ (ms_deC dX0_outAfter_11 ms_deN) rfl rfl ?_
      refine ms_goto (tgt := 2) dX0_outAfter_14 (by decide) ?_
      rw [nI_1 k]
      refine ms_W.sub (lv2 := [(0, _), (1, _), (2, _)]) ?_ [1, 2, 0] rfl
      exact ih (k + 1) (by omega) K9 hG9 hQ9 hW9 hF8
set_option maxHeartbeats 4000000 in
set_option maxRecDepth 20000 in
theorem c_X0_outAfter {n g q c : Nat} {G : ms_H} {fl w h : Int32} {nr : Nat → Int32} {wl mk ds qu : Nat → Int32} {cnt : Nat} {dr pa : Int32} {X : cX} (hs : g + 1 < q) (hs2 : q + 4 < c) (hc : cnt ≤ 24) (hv : hvX fl cnt X.1) {T : Nat} (hT : T ≤ 100) (hG : gr_at G g fl w h nr) (hQ : sq_at G g q wl mk ds qu) (hW : cw_at G g q c cnt dr pa X) : ms_M m_X0_outAfter [.ref c, .int (nI T)] n G 0 0 (oa_P g q c n G (nI (ct (pOut (stXn fl nr mk ds cnt dr X T).1) cnt)) cnt dr pa (stXn fl nr mk ds cnt dr X T)) := by
  refine ms_M.of (by decide) (Nat.le_of_ble_eq_true rfl) ?_
  show ms_W false m_X0_outAfter _ 0 [(0, .ref c), (1, .int (nI T))] [] n G 0 0
  refine ms_run (pc' := 2) (lv' := [(2, .int 0), (0, .ref c), (1, .int (nI T))]) (st' := []) _ (ms_deC dX0_outAfter_0 (ms_deC dX0_outAfter_1 ms_deN)) rfl rfl ?_
  refine ms_W.sub (lv2 := [(0, _), (1, _), (2, _)]) ?_ [1, 2, 0] rfl
  exact l_X0_outAfter hs hs2 hc hv hT T 0 (by omega) G hG hQ hW ms_fr.rf
set_option maxHeartbeats 4000000 in
set_option maxRecDepth 20000 in
theorem l_X0_ticksTillOut {n g q c : Nat} {G : ms_H} {fl w h : Int32} {nr : Nat → Int32} {wl mk ds qu : Nat → Int32} {cnt : Nat} {dr pa : Int32} {X : cX} (hs : g + 1 < q) (hs2 : q + 4 < c) (hc : cnt ≤ 24) (hv : hvX fl cnt X.1) {T : Nat} (hT : T ≤ 100) {i : Nat} (hi : i < cnt) {V : Int32} : ∀ (r k : Nat), k + r = T + 1 → ∀ (K : ms_H), gr_at K g fl w h nr → sq_at K g q wl mk ds qu → cw_at K g q c cnt dr pa (stXn fl nr mk ds cnt dr X (k - 1)) → ms_fr c 29 G K → fst1 (fun t => decide ((stXn fl nr mk ds cnt dr X t).1 i 3 = -1)) (fun t => nI t) k r = V → ms_W false m_X0_ticksTillOut (oq_P g q c n G V) 15 [(0, .ref c), (2, .int (nI T)), (3, .ref (c + 5 + i)), (4, .int (nI k))] [] n K 0 0 := by
  intro r
  induction r with
  | zero =>
    intro k hk K hG hQ hW hF hV
    have hkN : k = T + 1 := by omega
    obtain ⟨hd, cm, wk, hC, hx, hd1, hd2, hd3, ha⟩ := hW
    refine ms_run (pc' := 18) (lv' := [(0, .ref c), (2, .int (nI T)), (3, .ref (c + 5 + i)), (4, .int (nI k))]) (st' := [.int (nI T), .int (nI k)]) _ (ms_deC dX0_ticksTillOut_15 (ms_deC dX0_ticksTillOut_17 ms_deN)) rfl rfl ?_
    refine ms_icmp_gt (tgt := 46) dX0_ticksTillOut_18 (by decide) (fun h_18 => ?_) (fun h_18 => ?_)
    · skip
      refine ms_run (pc' := 47) (lv' := [(0, .ref c), (2, .int (nI T)), (3, .ref (c + 5 + i)), (4, .int (nI k))]) (st' := [.int (-1)]) _ (ms_deC dX0_ticksTillOut_46 ms_deN) rfl rfl ?_
      refine ms_reti (st := []) (ty := .int) dX0_ticksTillOut_47 rfl rfl ?_
      exact ⟨by rw [← hV]; rfl, rfl, ⟨_, _, _, _, _, hC⟩, hF⟩
    · skip
      exact absurd (nI_lt (by omega) (by omega)) h_18
  | succ r ih =>
    intro k hk K hG hQ hW hF hV
    have hlt : k < T + 1 := by omega
    obtain ⟨hd, cm, wk, hC, hx, hd1, hd2, hd3, ha⟩ := hW
    refine ms_run (pc' := 18) (lv' := [(0, .ref c), (2, .int (nI T)), (3, .ref (c + 5 + i)), (4, .int (nI k))]) (st' := [.int (nI T), .int (nI k)]) _ (ms_deC dX0_ticksTillOut_15 (ms_deC dX0_ticksTillOut_17 ms_deN)) rfl rfl ?_
    refine ms_icmp_gt (tgt := 46) dX0_ticksTillOut_18 (by decide) (fun h_18 => ?_) (fun h_18 => ?_)
    · skip
      exact absurd h_18 (nI_nlt (by omega) (by omega))
    · skip
      refine ms_run (pc' := 23) (lv' := [(0, .ref c), (2, .int (nI T)), (3, .ref (c + 5 + i)), (4, .int (nI k))]) (st' := [.int (nI k)]) _ (ms_deC dX0_ticksTillOut_21 ms_deN) rfl rfl ?_
      refine ms_if_le (tgt := 30) dX0_ticksTillOut_23 (by decide) (fun h_23 => ?_) (fun h_23 => ?_)
      · skip
        have hk0 : k = 0 := by rcases Nat.eq_zero_or_pos k with z | z; exact z; exact absurd h_23 (nI_nle z (by omega))
        have hXe : (stXn fl nr mk ds cnt dr X (k - 1)) = (stXn fl nr mk ds cnt dr X k) := by rw [hk0]
        rw [hXe] at hC hd1 ha
        have hG9 := hG
        have hQ9 := hQ
        have hF8 := hF
        have hC9 := hC
        have hx9 := hx
        have hd19 := hd1
        have hd29 := hd2
        have hd39 := hd3
        have ha9 := ha
        refine ms_run (pc' := 31) (lv' := [(0, .ref c), (2, .int (nI T)), (3, .ref (c + 5 + i)), (4, .int (nI k))]) (st' := [.ref (c + 5 + i)]) _ (ms_deC dX0_ticksTillOut_30 ms_deN) rfl rfl ?_
        refine ms_callVp (As := []) dX0_ticksTillOut_31 (c_X4_isOut (hC9.2.2.2.2.2 i (by omega))) cv_X0_91 (hC9.2.2.2.2.2 i (by omega)) rfl ⟨Nat.le_of_ble_eq_true rfl, Nat.le_of_ble_eq_true rfl⟩ rfl (Nat.le_of_ble_eq_true rfl) ?_
        simp only [ha9 i hi 3 (by omega)]
        by_cases ho : (stXn fl nr mk ds cnt dr X k).1 i 3 = -1
        · rw [show ms_b ((stXn fl nr mk ds cnt dr X k).1 i 3 = -1) = 1 from if_pos ho]
          refine ms_if_eq (tgt := 40) dX0_ticksTillOut_34 (by decide) (fun h9 => absurd h9 (by decide)) (fun _ => ?_)
          refine ms_run (pc' := 39) (lv' := [(0, .ref c), (2, .int (nI T)), (3, .ref (c + 5 + i)), (4, .int (nI k))]) (st' := [.int (nI k)]) _ (ms_deC dX0_ticksTillOut_37 ms_deN) rfl rfl ?_
          refine ms_reti (st := []) (ty := .int) dX0_ticksTillOut_39 rfl rfl ?_
          exact ⟨by rw [← hV, fst1_t (p := (fun t => decide ((stXn fl nr mk ds cnt dr X t).1 i 3 = -1))) (decide_eq_true ho)], rfl, ⟨_, _, _, _, _, hC9⟩, hF8⟩
        · rw [show ms_b ((stXn fl nr mk ds cnt dr X k).1 i 3 = -1) = 0 from if_neg ho]
          refine ms_if_eq (tgt := 40) dX0_ticksTillOut_34 (by decide) (fun _ => ?_) (fun h9 => absurd h9 (by decide))
          refine ms_run (pc' := 43) (lv' := [(4, .int ((nI k) + 1)), (0, .ref c), (2, .int (nI T)), (3, .ref (c + 5 + i))]) (st' := []) _ (ms_deC dX0_ticksTillOut_40 ms_deN) rfl rfl ?_
          refine ms_goto (tgt := 15) dX0_ticksTillOut_43 (by decide) ?_
          have hV9 : fst1 (fun t => decide ((stXn fl nr mk ds cnt dr X t).1 i 3 = -1)) (fun t => nI t) (k + 1) r = V := by rw [← fst1_f (p := (fun t => decide ((stXn fl nr mk ds cnt dr X t).1 i 3 = -1))) (decide_eq_false ho)]; exact hV
          rw [nI_1 k]
          refine ms_W.sub (lv2 := [(0, _), (2, _), (3, _), (4, _)]) ?_ [1, 2, 3, 0] rfl
          exact ih (k + 1) (by omega) _ hG9 hQ9 ⟨hd, cm, wk, hC9, hx9, hd19, hd29, hd39, ha9⟩ hF8 hV9
      · skip
        have hk0 : 0 < k := by rcases Nat.eq_zero_or_pos k with z | z; subst z; exact absurd (show nI 0 ≤ 0 by decide) h_23; exact z
        refine ms_run (pc' := 27) (lv' := [(0, .ref c), (2, .int (nI T)), (3, .ref (c + 5 + i)), (4, .int (nI k))]) (st' := [.ref c]) _ (ms_deC dX0_ticksTillOut_26 ms_deN) rfl rfl ?_
        refine ms_callV0 (As := []) dX0_ticksTillOut_27 (c_X0_step hG hQ ⟨hd, cm, wk, hC, hx, hd1, hd2, hd3, ha⟩ hs hs2 hc (hv.n (k - 1))) cv_X0_137 hC.1 rfl ⟨Nat.le_of_ble_eq_true rfl, Nat.le_of_ble_eq_true rfl⟩ rfl (Nat.le_of_ble_eq_true rfl) (fun v9 n9 K9 hp9 => ?_)
        obtain ⟨hv9, rfl, hW9, hF9⟩ := hp9
        cases hv9
        have hG9 := hG.fr hF9 (by omega)
        have hQ9 := hQ.fr hF9 (by omega)
        have hF8 := hF.trans hF9
        rw [stXn_p hk0] at hW9
        obtain ⟨hd, cm, wk, hC9, hx9, hd19, hd29, hd39, ha9⟩ := hW9
        refine ms_run (pc' := 31) (lv' := [(0, .ref c), (2, .int (nI T)), (3, .ref (c + 5 + i)), (4, .int (nI k))]) (st' := [.ref (c + 5 + i)]) _ (ms_deC dX0_ticksTillOut_30 ms_deN) rfl rfl ?_
        refine ms_callVp (As := []) dX0_ticksTillOut_31 (c_X4_isOut (hC9.2.2.2.2.2 i (by omega))) cv_X0_91 (hC9.2.2.2.2.2 i (by omega)) rfl ⟨Nat.le_of_ble_eq_true rfl, Nat.le_of_ble_eq_true rfl⟩ rfl (Nat.le_of_ble_eq_true rfl) ?_
        simp only [ha9 i hi 3 (by omega)]
        by_cases ho : (stXn fl nr mk ds cnt dr X k).1 i 3 = -1
        · rw [show ms_b ((stXn fl nr mk ds cnt dr X k).1 i 3 = -1) = 1 from if_pos ho]
          refine ms_if_eq (tgt := 40) dX0_ticksTillOut_34 (by decide) (fun h9 => absurd h9 (by decide)) (fun _ => ?_)
          refine ms_run (pc' := 39) (lv' := [(0, .ref c), (2, .int (nI T)), (3, .ref (c + 5 + i)), (4, .int (nI k))]) (st' := [.int (nI k)]) _ (ms_deC dX0_ticksTillOut_37 ms_deN) rfl rfl ?_
          refine ms_reti (st := []) (ty := .int) dX0_ticksTillOut_39 rfl rfl ?_
          exact ⟨by rw [← hV, fst1_t (p := (fun t => decide ((stXn fl nr mk ds cnt dr X t).1 i 3 = -1))) (decide_eq_true ho)], rfl, ⟨_, _, _, _, _, hC9⟩, hF8⟩
        · rw [show ms_b ((stXn fl nr mk ds cnt dr X k).1 i 3 = -1) = 0 from if_neg ho]
          refine ms_if_eq (tgt := 40) dX0_ticksTillOut_34 (by decide) (fun _ => ?_) (fun h9 => absurd h9 (by decide))
          refine ms_run (pc' := 43) (lv' := [(4, .int ((nI k) + 1)), (0, .ref c), (2, .int (nI T)), (3, .ref (c + 5 + i))]) (st' := []) _ (ms_deC dX0_ticksTillOut_40 ms_deN) rfl rfl ?_
          refine ms_goto (tgt := 15) dX0_ticksTillOut_43 (by decide) ?_
          have hV9 : fst1 (fun t => decide ((stXn fl nr mk ds cnt dr X t).1 i 3 = -1)) (fun t => nI t) (k + 1) r = V := by rw [← fst1_f (p := (fun t => decide ((stXn fl nr mk ds cnt dr X t).1 i 3 = -1))) (decide_eq_false ho)]; exact hV
          rw [nI_1 k]
          refine ms_W.sub (lv2 := [(0, _), (2, _), (3, _), (4, _)]) ?_ [1, 2, 3, 0] rfl
          exact ih (k + 1) (by omega) _ hG9 hQ9 ⟨hd, cm, wk, hC9, hx9, hd19, hd29, hd39, ha9⟩ hF8 hV9
set_option maxHeartbeats 4000000 in
set_option maxRecDepth 20000 in
theorem c_X0_ticksTillOut {n g q c : Nat} {G : ms_H} {fl w h : Int32} {nr : Nat → Int32} {wl mk ds qu : Nat → Int32} {cnt : Nat} {dr pa : Int32} {X : cX} (hs : g + 1 < q) (hs2 : q + 4 < c) (hc : cnt ≤ 24) (hv : hvX fl cnt X.1) {T : Nat} (hT : T ≤ 100) {i : Nat} (hi : i < cnt) (hG : gr_at G g fl w h nr) (hQ : sq_at G g q wl mk ds qu) (hW : cw_at G g q c cnt dr pa X) : ms_M m_X0_ticksTillOut [.ref c, .int (nI i), .int (nI T)] n G 0 0 (oq_P g q c n G (fst1 (fun t => decide ((stXn fl nr mk ds cnt dr X t).1 i 3 = -1)) (fun t => nI t) 0 (T + 1))) := by
  refine ms_M.of (by decide) (Nat.le_of_ble_eq_true rfl) ?_
  show ms_W false m_X0_ticksTillOut _ 0 [(0, .ref c), (1, .int (nI i)), (2, .int (nI T))] [] n G 0 0
  obtain ⟨hd, cm, wk, hC, hx, hd1, hd2, hd3, ha⟩ := hW
  refine ms_run (pc' := 2) (lv' := [(0, .ref c), (1, .int (nI i)), (2, .int (nI T))]) (st' := [.int (nI i), .ref c]) _ (ms_deC dX0_ticksTillOut_0 (ms_deC dX0_ticksTillOut_1 ms_deN)) rfl rfl ?_
  refine ms_callVp (As := [.int (nI i)]) dX0_ticksTillOut_2 (c_X0_getI hC hx hc hi) cv_X0_55 hC.1 rfl ⟨Nat.le_of_ble_eq_true rfl, Nat.le_of_ble_eq_true rfl⟩ rfl (Nat.le_of_ble_eq_true rfl) ?_
  refine ms_run (pc' := 7) (lv' := [(3, .ref (c + 5 + i)), (0, .ref c), (1, .int (nI i)), (2, .int (nI T))]) (st' := [.ref (c + 5 + i)]) _ (ms_deC dX0_ticksTillOut_5 (ms_deC dX0_ticksTillOut_6 ms_deN)) rfl rfl ?_
  refine ms_ifnonnull (tgt := 12) dX0_ticksTillOut_7 (by decide) ?_
  refine ms_run (pc' := 15) (lv' := [(4, .int 0), (3, .ref (c + 5 + i)), (0, .ref c), (1, .int (nI i)), (2, .int (nI T))]) (st' := []) _ (ms_deC dX0_ticksTillOut_12 (ms_deC dX0_ticksTillOut_13 ms_deN)) rfl rfl ?_
  refine ms_W.sub (lv2 := [(0, _), (2, _), (3, _), (4, _)]) ?_ [2, 4, 1, 0] rfl
  exact l_X0_ticksTillOut hs hs2 hc hv hT hi (T + 1) 0 (by omega) G hG hQ ⟨hd, cm, wk, hC, hx, hd1, hd2, hd3, ha⟩ ms_fr.rf rfl
set_option maxHeartbeats 4000000 in
set_option maxRecDepth 20000 in
theorem l_X0_ticksTillJam {n g q c : Nat} {G : ms_H} {fl w h : Int32} {nr : Nat → Int32} {wl mk ds qu : Nat → Int32} {cnt : Nat} {dr pa : Int32} {X : cX} (hs : g + 1 < q) (hs2 : q + 4 < c) (hc : cnt ≤ 24) (hv : hvX fl cnt X.1) {T : Nat} (hT : T ≤ 100) {V : Int32} : ∀ (r k : Nat), k + r = T + 1 → ∀ (K : ms_H), gr_at K g fl w h nr → sq_at K g q wl mk ds qu → cw_at K g q c cnt dr pa (stXn fl nr mk ds cnt dr X (k - 1)) → ms_fr c 29 G K → fst1 (fun t => decide (an (fun j => decide (pJam pa ((stXn fl nr mk ds cnt dr X t).1 j))) cnt = true)) (fun t => nI t) k r = V → ms_W false m_X0_ticksTillJam (oq_P g q c n G V) 2 [(0, .ref c), (1, .int (nI T)), (2, .int (nI k))] [] n K 0 0 := by
  intro r
  induction r with
  | zero =>
    intro k hk K hG hQ hW hF hV
    have hkN : k = T + 1 := by omega
    obtain ⟨hd, cm, wk, hC, hx, hd1, hd2, hd3, ha⟩ := hW
    refine ms_run (pc' := 4) (lv' := [(0, .ref c), (1, .int (nI T)), (2, .int (nI k))]) (st' := [.int (nI T), .int (nI k)]) _ (ms_deC dX0_ticksTillJam_2 (ms_deC dX0_ticksTillJam_3 ms_deN)) rfl rfl ?_
    refine ms_icmp_gt (tgt := 30) dX0_ticksTillJam_4 (by decide) (fun h_4 => ?_) (fun h_4 => ?_)
    · skip
      refine ms_run (pc' := 31) (lv' := [(0, .ref c), (1, .int (nI T)), (2, .int (nI k))]) (st' := [.int (-1)]) _ (ms_deC dX0_ticksTillJam_30 ms_deN) rfl rfl ?_
      refine ms_reti (st := []) (ty := .int) dX0_ticksTillJam_31 rfl rfl ?_
      exact ⟨by rw [← hV]; rfl, rfl, ⟨_, _, _, _, _, hC⟩, hF⟩
    · skip
      exact absurd (nI_lt (by omega) (by omega)) h_4
  | succ r ih =>
    intro k hk K hG hQ hW hF hV
    have hlt : k < T + 1 := by omega
    obtain ⟨hd, cm, wk, hC, hx, hd1, hd2, hd3, ha⟩ := hW
    refine ms_run (pc' := 4) (lv' := [(0, .ref c), (1, .int (nI T)), (2, .int (nI k))]) (st' := [.int (nI T), .int (nI k)]) _ (ms_deC dX0_ticksTillJam_2 (ms_deC dX0_ticksTillJam_3 ms_deN)) rfl rfl ?_
    refine ms_icmp_gt (tgt := 30) dX0_ticksTillJam_4 (by decide) (fun h_4 => ?_) (fun h_4 => ?_)
    · skip
      exact absurd h_4 (nI_nlt (by omega) (by omega))
    · skip
      refine ms_run (pc' := 8) (lv' := [(0, .ref c), (1, .int (nI T)), (2, .int (nI k))]) (st' := [.int (nI k)]) _ (ms_deC dX0_ticksTillJam_7 ms_deN) rfl rfl ?_
      refine ms_if_le (tgt := 15) dX0_ticksTillJam_8 (by decide) (fun h_8 => ?_) (fun h_8 => ?_)
      · skip
        have hk0 : k = 0 := by rcases Nat.eq_zero_or_pos k with z | z; exact z; exact absurd h_8 (nI_nle z (by omega))
        have hXe : (stXn fl nr mk ds cnt dr X (k - 1)) = (stXn fl nr mk ds cnt dr X k) := by rw [hk0]
        rw [hXe] at hC hd1 ha
        have hG9 := hG
        have hQ9 := hQ
        have hF8 := hF
        have hC9 := hC
        have hx9 := hx
        have hd19 := hd1
        have hd29 := hd2
        have hd39 := hd3
        have ha9 := ha
        refine ms_run (pc' := 16) (lv' := [(0, .ref c), (1, .int (nI T)), (2, .int (nI k))]) (st' := [.ref c]) _ (ms_deC dX0_ticksTillJam_15 ms_deN) rfl rfl ?_
        refine ms_callVp (As := []) dX0_ticksTillJam_16 (c_X0_hasJam hC9 hx9 hc) cv_X0_144 hC9.1 rfl ⟨Nat.le_of_ble_eq_true rfl, Nat.le_of_ble_eq_true rfl⟩ rfl (Nat.le_of_ble_eq_true rfl) ?_
        rw [hd39, pJam_c ha9 cnt (Nat.le_refl _)]
        by_cases ho : an (fun j => decide (pJam pa ((stXn fl nr mk ds cnt dr X k).1 j))) cnt = true
        · rw [if_pos ho]
          refine ms_if_eq (tgt := 24) dX0_ticksTillJam_19 (by decide) (fun h9 => absurd h9 (by decide)) (fun _ => ?_)
          refine ms_run (pc' := 23) (lv' := [(0, .ref c), (1, .int (nI T)), (2, .int (nI k))]) (st' := [.int (nI k)]) _ (ms_deC dX0_ticksTillJam_22 ms_deN) rfl rfl ?_
          refine ms_reti (st := []) (ty := .int) dX0_ticksTillJam_23 rfl rfl ?_
          exact ⟨by rw [← hV, fst1_t (p := (fun t => decide (an (fun j => decide (pJam pa ((stXn fl nr mk ds cnt dr X t).1 j))) cnt = true))) (decide_eq_true ho)], rfl, ⟨_, _, _, _, _, hC9⟩, hF8⟩
        · rw [if_neg ho]
          refine ms_if_eq (tgt := 24) dX0_ticksTillJam_19 (by decide) (fun _ => ?_) (fun h9 => absurd h9 (by decide))
          refine ms_run (pc' := 27) (lv' := [(2, .int ((nI k) + 1)), (0, .ref c), (1, .int (nI T))]) (st' := []) _ (ms_deC dX0_ticksTillJam_24 ms_deN) rfl rfl ?_
          refine ms_goto (tgt := 2) dX0_ticksTillJam_27 (by decide) ?_
          have hV9 : fst1 (fun t => decide (an (fun j => decide (pJam pa ((stXn fl nr mk ds cnt dr X t).1 j))) cnt = true)) (fun t => nI t) (k + 1) r = V := by rw [← fst1_f (p := (fun t => decide (an (fun j => decide (pJam pa ((stXn fl nr mk ds cnt dr X t).1 j))) cnt = true))) (decide_eq_false ho)]; exact hV
          rw [nI_1 k]
          refine ms_W.sub (lv2 := [(0, _), (1, _), (2, _)]) ?_ [1, 2, 0] rfl
          exact ih (k + 1) (by omega) _ hG9 hQ9 ⟨hd, cm, wk, hC9, hx9, hd19, hd29, hd39, ha9⟩ hF8 hV9
      · skip
        have hk0 : 0 < k := by rcases Nat.eq_zero_or_pos k with z | z; subst z; exact absurd (show nI 0 ≤ 0 by decide) h_8; exact z
        refine ms_run (pc' := 12) (lv' := [(0, .ref c), (1, .int (nI T)), (2, .int (nI k))]) (st' := [.ref c]) _ (ms_deC dX0_ticksTillJam_11 ms_deN) rfl rfl ?_
        refine ms_callV0 (As := []) dX0_ticksTillJam_12 (c_X0_step hG hQ ⟨hd, cm, wk, hC, hx, hd1, hd2, hd3, ha⟩ hs hs2 hc (hv.n (k - 1))) cv_X0_137 hC.1 rfl ⟨Nat.le_of_ble_eq_true rfl, Nat.le_of_ble_eq_true rfl⟩ rfl (Nat.le_of_ble_eq_true rfl) (fun v9 n9 K9 hp9 => ?_)
        obtain ⟨hv9, rfl, hW9, hF9⟩ := hp9
        cases hv9
        have hG9 := hG.fr hF9 (by omega)
        have hQ9 := hQ.fr hF9 (by omega)
        have hF8 := hF.trans hF9
        rw [stXn_p hk0] at hW9
        obtain ⟨hd, cm, wk, hC9, hx9, hd19, hd29, hd39, ha9⟩ := hW9
        refine ms_run (pc' := 16) (lv' := [(0, .ref c), (1, .int (nI T)), (2, .int (nI k))]) (st' := [.ref c]) _ (ms_deC dX0_ticksTillJam_15 ms_deN) rfl rfl ?_
        refine ms_callVp (As := []) dX0_ticksTillJam_16 (c_X0_hasJam hC9 hx9 hc) cv_X0_144 hC9.1 rfl ⟨Nat.le_of_ble_eq_true rfl, Nat.le_of_ble_eq_true rfl⟩ rfl (Nat.le_of_ble_eq_true rfl) ?_
        rw [hd39, pJam_c ha9 cnt (Nat.le_refl _)]
        by_cases ho : an (fun j => decide (pJam pa ((stXn fl nr mk ds cnt dr X k).1 j))) cnt = true
        · rw [if_pos ho]
          refine ms_if_eq (tgt := 24) dX0_ticksTillJam_19 (by decide) (fun h9 => absurd h9 (by decide)) (fun _ => ?_)
          refine ms_run (pc' := 23) (lv' := [(0, .ref c), (1, .int (nI T)), (2, .int (nI k))]) (st' := [.int (nI k)]) _ (ms_deC dX0_ticksTillJam_22 ms_deN) rfl rfl ?_
          refine ms_reti (st := []) (ty := .int) dX0_ticksTillJam_23 rfl rfl ?_
          exact ⟨by rw [← hV, fst1_t (p := (fun t => decide (an (fun j => decide (pJam pa ((stXn fl nr mk ds cnt dr X t).1 j))) cnt = true))) (decide_eq_true ho)], rfl, ⟨_, _, _, _, _, hC9⟩, hF8⟩
        · rw [if_neg ho]
          refine ms_if_eq (tgt := 24) dX0_ticksTillJam_19 (by decide) (fun _ => ?_) (fun h9 => absurd h9 (by decide))
          refine ms_run (pc' := 27) (lv' := [(2, .int ((nI k) + 1)), (0, .ref c), (1, .int (nI T))]) (st' := []) _ (ms_deC dX0_ticksTillJam_24 ms_deN) rfl rfl ?_
          refine ms_goto (tgt := 2) dX0_ticksTillJam_27 (by decide) ?_
          have hV9 : fst1 (fun t => decide (an (fun j => decide (pJam pa ((stXn fl nr mk ds cnt dr X t).1 j))) cnt = true)) (fun t => nI t) (k + 1) r = V := by rw [← fst1_f (p := (fun t => decide (an (fun j => decide (pJam pa ((stXn fl nr mk ds cnt dr X t).1 j))) cnt = true))) (decide_eq_false ho)]; exact hV
          rw [nI_1 k]
          refine ms_W.sub (lv2 := [(0, _), (1, _), (2, _)]) ?_ [1, 2, 0] rfl
          exact ih (k + 1) (by omega) _ hG9 hQ9 ⟨hd, cm, wk, hC9, hx9, hd19, hd29, hd39, ha9⟩ hF8 hV9
set_option maxHeartbeats 4000000 in
set_option maxRecDepth 20000 in
theorem c_X0_ticksTillJam {n g q c : Nat} {G : ms_H} {fl w h : Int32} {nr : Nat → Int32} {wl mk ds qu : Nat → Int32} {cnt : Nat} {dr pa : Int32} {X : cX} (hs : g + 1 < q) (hs2 : q + 4 < c) (hc : cnt ≤ 24) (hv : hvX fl cnt X.1) {T : Nat} (hT : T ≤ 100) (hG : gr_at G g fl w h nr) (hQ : sq_at G g q wl mk ds qu) (hW : cw_at G g q c cnt dr pa X) : ms_M m_X0_ticksTillJam [.ref c, .int (nI T)] n G 0 0 (oq_P g q c n G (fst1 (fun t => decide (an (fun j => decide (pJam pa ((stXn fl nr mk ds cnt dr X t).1 j))) cnt = true)) (fun t => nI t) 0 (T + 1))) := by
  refine ms_M.of (by decide) (Nat.le_of_ble_eq_true rfl) ?_
  show ms_W false m_X0_ticksTillJam _ 0 [(0, .ref c), (1, .int (nI T))] [] n G 0 0
  refine ms_run (pc' := 2) (lv' := [(2, .int 0), (0, .ref c), (1, .int (nI T))]) (st' := []) _ (ms_deC dX0_ticksTillJam_0 (ms_deC dX0_ticksTillJam_1 ms_deN)) rfl rfl ?_
  refine ms_W.sub (lv2 := [(0, _), (1, _), (2, _)]) ?_ [1, 2, 0] rfl
  exact l_X0_ticksTillJam hs hs2 hc hv hT (T + 1) 0 (by omega) G hG hQ hW ms_fr.rf rfl

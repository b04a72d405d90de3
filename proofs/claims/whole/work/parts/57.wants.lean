/-! the model: wantsNow -/
def mwR (c : Nat → Int32) : Nat → Int32 → Int32 → Int32
  | 0, b, _ => b
  | r + 1, b, l => if l < c r ∨ c r = 10000 then mwR c r b l else mwR c r (nI r) (c r)
theorem nI_dec {r : Nat} : nI r + (-1) = nI r - 1 := by rw [Int32.sub_eq_add_neg]
set_option maxHeartbeats 1000000 in
set_option maxRecDepth 20000 in
theorem l_X6_wantsNow {n m aw am ai ah W H cnt : Nat} {G : ms_H} {th cl dr pa : Int32} {wl mm ht : Nat → Int32} {u : Nat → Nat → Int32} (hM : md_at G m aw am ai ah W H th cl dr pa cnt wl mm ht u) (hW : W ≤ 14) (hH : H ≤ 14) (hc : cnt ≤ 24) (hW0 : 0 < W) {nr on D : Nat → Int32} (hL : lk_ok W H (W * H) nr) (hon : onV (W * H) cnt u on) (hv : hvX (nI (W * H)) cnt u) {fa : Nat} (hfa : G fa = some (.inl (0, W * H, .inl D))) {i own : Nat} (hi : i < cnt) (hpo : u i 3 = nI own) (ho : own < W * H) : ∀ (r k : Nat), k + r = 4 → ∀ (b l : Int32), ms_W false m_X6_wantsNow (ms_p1 (some (.int (mwR (mcM W cnt nr on dr u D i own) r b l))) n G) 14 [(0, .ref m), (1, .int (nI i)), (2, .ref fa), (3, .int b), (4, .int l), (5, .int (nI r - 1))] [] n G 0 0 := by
  obtain ⟨hm, hw_, hk_, ⟨it, hi_, hit⟩, hh_⟩ := hM
  have h196 := fd_196 hW hH
  intro r
  induction r with
  | zero =>
    intro k hk b l
    have hkN : k = 4 := by omega
    refine ms_run (pc' := 16) (lv' := [(0, .ref m), (1, .int (nI i)), (2, .ref fa), (3, .int b), (4, .int l), (5, .int (nI 0 - 1))]) (st' := [.int (nI 0 - 1)]) _ (ms_deC dX6_wantsNow_14 ms_deN) rfl rfl ?_
    refine ms_if_lt (tgt := 60) dX6_wantsNow_16 (by decide) (fun h_16 => ?_) (fun h_16 => ?_)
    · skip
      refine ms_run (pc' := 61) (lv' := [(0, .ref m), (1, .int (nI i)), (2, .ref fa), (3, .int b), (4, .int l), (5, .int (nI 0 - 1))]) (st' := [.int b]) _ (ms_deC dX6_wantsNow_60 ms_deN) rfl rfl ?_
      refine ms_reti (st := []) (ty := .int) dX6_wantsNow_61 rfl rfl ?_
      exact ms_p1.mk rfl rfl
    · skip
      exact absurd (show nI 0 - 1 < 0 from by decide) h_16
  | succ r ih =>
    intro k hk b l
    have hlt : k < 4 := by omega
    rw [nI_pred r]
    refine ms_run (pc' := 16) (lv' := [(0, .ref m), (1, .int (nI i)), (2, .ref fa), (3, .int b), (4, .int l), (5, .int (nI r))]) (st' := [.int (nI r)]) _ (ms_deC dX6_wantsNow_14 ms_deN) rfl rfl ?_
    refine ms_if_lt (tgt := 60) dX6_wantsNow_16 (by decide) (fun h_16 => ?_) (fun h_16 => ?_)
    · skip
      exact absurd h_16 (nI_pos (by omega))
    · skip
      refine ms_run (pc' := 24) (lv' := [(0, .ref m), (1, .int (nI i)), (2, .ref fa), (3, .int b), (4, .int l), (5, .int (nI r))]) (st' := [.ref fa, .int (nI r), .int (nI i), .ref m]) _ (ms_deC dX6_wantsNow_19 (ms_deC dX6_wantsNow_20 (ms_deC dX6_wantsNow_21 (ms_deC dX6_wantsNow_23 ms_deN)))) rfl rfl ?_
      refine ms_callVp (As := [.int (nI i), .int (nI r), .ref fa]) dX6_wantsNow_24 (c_X6_costMove ⟨hm, hw_, hk_, ⟨it, hi_, hit⟩, hh_⟩ hW hH hc hW0 hL hon hv hfa hi hpo ho (s := r) (by omega)) cv_X6_113 hm rfl ⟨Nat.le_of_ble_eq_true rfl, Nat.le_of_ble_eq_true rfl⟩ rfl (Nat.le_of_ble_eq_true rfl) ?_
      refine ms_run (pc' := 33) (lv' := [(6, .int ((mcM W cnt nr on dr u D i own) r)), (0, .ref m), (1, .int (nI i)), (2, .ref fa), (3, .int b), (4, .int l), (5, .int (nI r))]) (st' := [.int l, .int ((mcM W cnt nr on dr u D i own) r)]) _ (ms_deC dX6_wantsNow_27 (ms_deC dX6_wantsNow_29 (ms_deC dX6_wantsNow_31 ms_deN))) rfl rfl ?_
      refine ms_icmp_gt (tgt := 54) dX6_wantsNow_33 (by decide) (fun h_33 => ?_) (fun h_33 => ?_)
      · skip
        refine ms_run (pc' := 57) (lv' := [(5, .int ((nI r) + (-1))), (6, .int ((mcM W cnt nr on dr u D i own) r)), (0, .ref m), (1, .int (nI i)), (2, .ref fa), (3, .int b), (4, .int l)]) (st' := []) _ (ms_deC dX6_wantsNow_54 ms_deN) rfl rfl ?_
        refine ms_goto (tgt := 14) dX6_wantsNow_57 (by decide) ?_
        rw [show mwR (mcM W cnt nr on dr u D i own) (r + 1) b l = mwR (mcM W cnt nr on dr u D i own) r b l from if_pos (by first | exact Or.inl h_33 | exact Or.inr (by first | exact h_41 | exact Decidable.not_not.mp h_41))]
        rw [nI_dec]
        refine ms_W.sub (lv2 := [(0, _), (1, _), (2, _), (3, _), (4, _), (5, _)]) ?_ [2, 3, 4, 5, 6, 0] rfl
        exact ih (k + 1) (by omega) _ _
      · skip
        refine ms_run (pc' := 41) (lv' := [(6, .int ((mcM W cnt nr on dr u D i own) r)), (0, .ref m), (1, .int (nI i)), (2, .ref fa), (3, .int b), (4, .int l), (5, .int (nI r))]) (st' := [.int 10000, .int ((mcM W cnt nr on dr u D i own) r)]) _ (ms_deC dX6_wantsNow_36 (ms_deC dX6_wantsNow_38 ms_deN)) rfl rfl ?_
        refine ms_icmp_ne (tgt := 47) dX6_wantsNow_41 (by decide) (fun h_41 => ?_) (fun h_41 => ?_)
        · skip
          refine ms_run (pc' := 57) (lv' := [(5, .int ((nI r) + (-1))), (3, .int (nI r)), (4, .int ((mcM W cnt nr on dr u D i own) r)), (6, .int ((mcM W cnt nr on dr u D i own) r)), (0, .ref m), (1, .int (nI i)), (2, .ref fa)]) (st' := []) _ (ms_deC dX6_wantsNow_47 (ms_deC dX6_wantsNow_49 (ms_deC dX6_wantsNow_51 (ms_deC dX6_wantsNow_53 (ms_deC dX6_wantsNow_54 ms_deN))))) rfl rfl ?_
          refine ms_goto (tgt := 14) dX6_wantsNow_57 (by decide) ?_
          rw [show mwR (mcM W cnt nr on dr u D i own) (r + 1) b l = mwR (mcM W cnt nr on dr u D i own) r (nI r) ((mcM W cnt nr on dr u D i own) r) from if_neg (by rintro (z9 | z9); exact h_33 z9; exact h_41 z9)]
          rw [nI_dec]
          refine ms_W.sub (lv2 := [(0, _), (1, _), (2, _), (3, _), (4, _), (5, _)]) ?_ [4, 5, 6, 1, 2, 0] rfl
          exact ih (k + 1) (by omega) _ _
        · skip
          refine ms_goto (tgt := 54) dX6_wantsNow_44 (by decide) ?_
          refine ms_run (pc' := 57) (lv' := [(5, .int ((nI r) + (-1))), (6, .int ((mcM W cnt nr on dr u D i own) r)), (0, .ref m), (1, .int (nI i)), (2, .ref fa), (3, .int b), (4, .int l)]) (st' := []) _ (ms_deC dX6_wantsNow_54 ms_deN) rfl rfl ?_
          refine ms_goto (tgt := 14) dX6_wantsNow_57 (by decide) ?_
          rw [show mwR (mcM W cnt nr on dr u D i own) (r + 1) b l = mwR (mcM W cnt nr on dr u D i own) r b l from if_pos (by first | exact Or.inl h_33 | exact Or.inr (by first | exact h_41 | exact Decidable.not_not.mp h_41))]
          rw [nI_dec]
          refine ms_W.sub (lv2 := [(0, _), (1, _), (2, _), (3, _), (4, _), (5, _)]) ?_ [2, 3, 4, 5, 6, 0] rfl
          exact ih (k + 1) (by omega) _ _
set_option maxHeartbeats 2000000 in
set_option maxRecDepth 20000 in
theorem c_X6_wantsNow {n m aw am ai ah W H cnt : Nat} {G : ms_H} {th cl dr pa : Int32} {wl mm ht : Nat → Int32} {u : Nat → Nat → Int32} (hM : md_at G m aw am ai ah W H th cl dr pa cnt wl mm ht u) (hW : W ≤ 14) (hH : H ≤ 14) (hc : cnt ≤ 24) (hW0 : 0 < W) {nr on D : Nat → Int32} (hL : lk_ok W H (W * H) nr) (hon : onV (W * H) cnt u on) (hv : hvX (nI (W * H)) cnt u) {fa : Nat} (hfa : G fa = some (.inl (0, W * H, .inl D))) {i own : Nat} (hi : i < cnt) (hpo : u i 3 = nI own) (ho : own < W * H) : ms_M m_X6_wantsNow [.ref m, .int (nI i), .ref fa] n G 0 0 (ms_p1 (some (.int (mwR (mcM W cnt nr on dr u D i own) 4 4 (mcS W cnt u D i own)))) n G) := by
  refine ms_M.of (by decide) (Nat.le_of_ble_eq_true rfl) ?_
  show ms_W false m_X6_wantsNow _ 0 [(0, .ref m), (1, .int (nI i)), (2, .ref fa)] [] n G 0 0
  obtain ⟨hm, hw_, hk_, ⟨it, hi_, hit⟩, hh_⟩ := hM
  have h196 := fd_196 hW hH
  refine ms_run (pc' := 6) (lv' := [(3, .int 4), (0, .ref m), (1, .int (nI i)), (2, .ref fa)]) (st' := [.ref fa, .int 4, .int (nI i), .ref m]) _ (ms_deC dX6_wantsNow_0 (ms_deC dX6_wantsNow_1 (ms_deC dX6_wantsNow_2 (ms_deC dX6_wantsNow_3 (ms_deC dX6_wantsNow_4 (ms_deC dX6_wantsNow_5 ms_deN)))))) rfl rfl ?_
  refine ms_callVp (As := [.int (nI i), .int 4, .ref fa]) dX6_wantsNow_6 (c_X6_costStay ⟨hm, hw_, hk_, ⟨it, hi_, hit⟩, hh_⟩ hW hH hc hW0 hL hon hv hfa hi hpo ho) cv_X6_113 hm rfl ⟨Nat.le_of_ble_eq_true rfl, Nat.le_of_ble_eq_true rfl⟩ rfl (Nat.le_of_ble_eq_true rfl) ?_
  refine ms_run (pc' := 14) (lv' := [(5, .int 3), (4, .int (mcS W cnt u D i own)), (3, .int 4), (0, .ref m), (1, .int (nI i)), (2, .ref fa)]) (st' := []) _ (ms_deC dX6_wantsNow_9 (ms_deC dX6_wantsNow_11 (ms_deC dX6_wantsNow_12 ms_deN))) rfl rfl ?_
  refine ms_W.sub (lv2 := [(0, _), (1, _), (2, _), (3, _), (4, _), (5, _)]) ?_ [3, 4, 5, 2, 1, 0] rfl
  exact l_X6_wantsNow ⟨hm, hw_, hk_, ⟨it, hi_, hit⟩, hh_⟩ hW hH hc hW0 hL hon hv hfa hi hpo ho 4 0 rfl 4 _
/-- the place of the least, the first of them, where it is below 10000, or 4 -/
def bsP (c : Nat → Int32) (k : Nat) : Prop := k ≤ 4 ∧ (∀ j, j < k → c k < c j ∨ (k = 4 ∧ c j = 10000)) ∧ (∀ j, k < j → j ≤ 4 → c k ≤ c j) ∧ (k < 4 → c k < 10000)
theorem bsP.one {c : Nat → Int32} {j k : Nat} (h1 : bsP c j) (h2 : bsP c k) : j = k := by
  have key : ∀ {j k : Nat}, bsP c j → bsP c k → ¬ j < k := fun {j k} h1 h2 h => by
    have a := h1.2.2.1 k h h2.1
    have b := h1.2.2.2 (by have := h2.1; omega)
    rcases h2.2.1 j h with e | ⟨-, e⟩
    · exact Int32.not_lt.mpr a e
    · rw [e] at b; exact absurd b (by decide)
  rcases Nat.lt_trichotomy j k with h | h | h
  · exact absurd h (key h1 h2)
  · exact h
  · exact absurd h (key h2 h1)
/-- class: what is known behind k of the five -/
theorem cr_bsI {c : Nat → Int32} : ∀ k, k ≤ 5 → (cr_bs c k = (4, 10000) ∧ ∀ j, j < k → 10000 ≤ c j) ∨ ∃ i, i < k ∧ cr_bs c k = (nI i, c i) ∧ c i < 10000 ∧ (∀ j, j < i → c i < c j) ∧ ∀ j, i < j → j < k → c i ≤ c j
  | 0, _ => Or.inl ⟨rfl, fun j hj => absurd hj (Nat.not_lt_zero j)⟩
  | k + 1, hk => by
    have e : cr_bs c (k + 1) = if c k < (cr_bs c k).2 then (nI k, c k) else cr_bs c k := rfl
    rcases cr_bsI (c := c) k (by omega) with ⟨h1, h2⟩ | ⟨i, hi, h1, h2, h3, h4⟩
    · rw [h1] at e
      by_cases h : c k < 10000
      · rw [if_pos h] at e
        exact Or.inr ⟨k, by omega, e, h, fun j hj => Int32.lt_of_lt_of_le h (h2 j hj), fun j h5 h6 => absurd h6 (by omega)⟩
      · rw [if_neg h] at e
        refine Or.inl ⟨e, fun j hj => ?_⟩
        rcases Nat.lt_succ_iff_lt_or_eq.mp hj with h5 | h5
        · exact h2 j h5
        · rw [h5]; exact Int32.not_lt.mp h
    · rw [h1] at e
      by_cases h : c k < c i
      · rw [if_pos h] at e
        refine Or.inr ⟨k, by omega, e, Int32.lt_trans h h2, fun j hj => ?_, fun j h5 h6 => absurd h6 (by omega)⟩
        rcases Nat.lt_trichotomy j i with h7 | h7 | h7
        · exact Int32.lt_trans h (h3 j h7)
        · rw [h7]; exact h
        · exact Int32.lt_of_lt_of_le h (h4 j h7 hj)
      · rw [if_neg h] at e
        refine Or.inr ⟨i, by omega, e, h2, h3, fun j h5 h6 => ?_⟩
        rcases Nat.lt_succ_iff_lt_or_eq.mp h6 with h7 | h7
        · exact h4 j h5 h7
        · rw [h7]; exact Int32.not_lt.mp h
theorem cr_bsP {c : Nat → Int32} (h : ∀ j, j ≤ 4 → c j ≤ 10000) : ∃ k, bsP c k ∧ (cr_bs c 5).1 = nI k := by
  rcases cr_bsI (c := c) 5 (by omega) with ⟨h1, h2⟩ | ⟨i, hi, h1, h2, h3, h4⟩
  · exact ⟨4, ⟨by omega, fun j hj => Or.inr ⟨rfl, Int32.le_antisymm (h j (by omega)) (h2 j (by omega))⟩, fun j h5 h6 => absurd h5 (by omega), fun z => absurd z (by omega)⟩, by rw [h1]; rfl⟩
  · exact ⟨i, ⟨by omega, fun j hj => Or.inl (h3 j hj), fun j h5 h6 => h4 j h5 (by omega), fun _ => h2⟩, by rw [h1]⟩
/-- the model: from above -/
theorem mwR_I {c : Nat → Int32} (h : ∀ j, j ≤ 4 → c j ≤ 10000) : ∀ r, r ≤ 4 → ∀ i, r ≤ i → i ≤ 4 → (∀ j, r ≤ j → j < i → c i < c j ∨ (i = 4 ∧ c j = 10000)) → (∀ j, i < j → j ≤ 4 → c i ≤ c j) → (i < 4 → c i < 10000) → ∃ k, bsP c k ∧ mwR c r (nI i) (c i) = nI k
  | 0, _, i, _, h4, h1, h2, h3 => ⟨i, ⟨h4, fun j hj => h1 j (Nat.zero_le j) hj, h2, h3⟩, rfl⟩
  | r + 1, hr, i, hri, h4, h1, h2, h3 => by
    have e : mwR c (r + 1) (nI i) (c i) = if c i < c r ∨ c r = 10000 then mwR c r (nI i) (c i) else mwR c r (nI r) (c r) := rfl
    rw [e]
    by_cases hc : c i < c r ∨ c r = 10000
    · rw [if_pos hc]
      refine mwR_I h r (by omega) i (by omega) h4 (fun j hj hji => ?_) h2 h3
      by_cases h7 : j = r
      · rw [h7]
        rcases hc with hc | hc
        · exact Or.inl hc
        · by_cases h8 : i = 4
          · exact Or.inr ⟨h8, hc⟩
          · exact Or.inl (by rw [hc]; exact h3 (by omega))
      · exact h1 j (by omega) hji
    · rw [if_neg hc]
      have a1 : c r ≤ c i := Int32.not_lt.mp (fun z => hc (Or.inl z))
      have a2 : c r < 10000 := by
        rcases Int32.lt_or_eq_of_le (h r (by omega)) with z | z
        · exact z
        · exact absurd (Or.inr z) hc
      refine mwR_I h r (by omega) r (Nat.le_refl r) (by omega) (fun j hj hji => absurd hji (by omega)) (fun j hj hj4 => ?_) (fun _ => a2)
      rcases Nat.lt_trichotomy j i with h7 | h7 | h7
      · rcases h1 j (by omega) h7 with z | ⟨-, z⟩
        · exact Int32.le_of_lt (Int32.lt_of_le_of_lt a1 z)
        · rw [z]; exact Int32.le_of_lt a2
      · rw [h7]; exact a1
      · exact Int32.le_trans a1 (h2 j h7 hj4)
theorem bs_eq {c : Nat → Int32} (h : ∀ j, j ≤ 4 → c j ≤ 10000) : mwR c 4 4 (c 4) = (cr_bs c 5).1 := by
  obtain ⟨k, h1, h2⟩ := cr_bsP h
  obtain ⟨j, h3, h4⟩ := mwR_I h 4 (Nat.le_refl 4) 4 (Nat.le_refl 4) (Nat.le_refl 4) (fun j h1 h2 => absurd h2 (by omega)) (fun j h1 h2 => absurd h1 (by omega)) (fun z => absurd z (by omega))
  rw [h2, ← bsP.one h3 h1]
  exact h4
theorem mwR_congr {c d : Nat → Int32} : ∀ r b l, (∀ j, j < r → c j = d j) → mwR c r b l = mwR d r b l
  | 0, _, _, _ => rfl
  | r + 1, b, l, h => by
    show (if _ then _ else _) = (if _ then _ else _)
    rw [h r (by omega), mwR_congr r b l (fun j hj => h j (by omega)), mwR_congr r (nI r) (d r) (fun j hj => h j (by omega))]

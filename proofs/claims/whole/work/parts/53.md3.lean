/-! the model: farAll, most, jams, count -/
/-- the rows of all goals -/
def fa_at (G : ms_H) (a lo hi N : Nat) (D : Nat → Nat → Int32) : Prop := ∃ f : Nat → Option Nat, G a = some (.inl (4, 4, .inr (.inr (.inr (.inr f))))) ∧ ∀ g, g < 4 → ∃ b, f g = some b ∧ lo ≤ b ∧ b < hi ∧ G b = some (.inl (0, N, .inl (D g)))
theorem fa_at.fb {E : Nat → Prop} {G G1 : ms_H} {a lo hi N n : Nat} {D : Nat → Nat → Int32} (h : fa_at G a lo hi N D) (hF : ms_fb E n G G1) (hn : hi ≤ n) (ha : a < n) (hE : ∀ b, lo ≤ b → b < hi → ¬ E b) (hEa : ¬ E a) : fa_at G1 a lo hi N D := by
  obtain ⟨f, h1, h2⟩ := h
  exact ⟨f, (hF a ha hEa).trans h1, fun g hg => by
    obtain ⟨b, e1, e2, e3, e4⟩ := h2 g hg
    exact ⟨b, e1, e2, e3, (hF b (by omega) (hE b e2 e3)).trans e4⟩⟩
set_option maxHeartbeats 1000000 in
set_option maxRecDepth 20000 in
theorem l_X6_farAll {n m aw am ai ah W H cnt : Nat} {G : ms_H} {th cl dr pa : Int32} {wl mm ht : Nat → Int32} {u : Nat → Nat → Int32} (hM : md_at G m aw am ai ah W H th cl dr pa cnt wl mm ht u) (hW : W ≤ 14) (hH : H ≤ 14) (hc : cnt ≤ 24) (hl : md_lt n m aw am ai ah) (hW0 : 0 < W) {nr mk : Nat → Int32} (hL : lk_ok W H (W * H) nr) (hmm : mmR (W * H) mk mm) : ∀ (r k : Nat), k + r = 4 → ∀ (K : ms_H) (f : Nat → Option Nat), ms_fb noE n G K → K n = some (.inl (4, 4, .inr (.inr (.inr (.inr f))))) → (∀ g, g < k → f g = some (n + 1 + 2 * g) ∧ K (n + 1 + 2 * g) = some (.inl (0, W * H, .inl (dXg (W * H) nr wl mk g)))) →  ms_W false m_X6_farAll (fun r n1 G1 => r = .inl (some (.ref n)) ∧ n1 = n + 9 ∧ ms_fb noE n G G1 ∧ fa_at G1 n n (n + 9) (W * H) (dXg (W * H) nr wl mk)) 7 [(0, .ref m), (1, .ref n), (2, .int (nI k))] [] (n + 1 + 2 * k) K (2 * r) (392 * r) := by
  obtain ⟨hm, hw_, hk_, ⟨it, hi_, hit⟩, hh_⟩ := hM
  obtain ⟨l1, l2, l3, l4, l5⟩ := hl
  have h196 := fd_196 hW hH
  intro r
  induction r with
  | zero =>
    intro k hk K f hF hfa hf
    have hkN : k = 4 := by omega
    refine ms_run (pc' := 9) (lv' := [(0, .ref m), (1, .ref n), (2, .int (nI k))]) (st' := [.int 4, .int (nI k)]) _ (ms_deC dX6_farAll_7 (ms_deC dX6_farAll_8 ms_deN)) rfl rfl ?_
    refine ms_icmp_ge (tgt := 26) dX6_farAll_9 (by decide) (fun h_9 => ?_) (fun h_9 => ?_)
    · skip
      refine ms_run (pc' := 27) (lv' := [(0, .ref m), (1, .ref n), (2, .int (nI k))]) (st' := [.ref n]) _ (ms_deC dX6_farAll_26 ms_deN) rfl rfl ?_
      refine ms_reta (st := []) (v := .ref n) dX6_farAll_27 rfl (Or.inr ⟨_, rfl⟩) (Or.inr ⟨_, rfl⟩) ?_
      exact ⟨rfl, by omega, hF, f, hfa, fun g hg => ⟨n + 1 + 2 * g, (hf g (by omega)).1, by omega, by omega, (hf g (by omega)).2⟩⟩
    · skip
      exact absurd (by show nI 4 ≤ nI k; exact nI_le (b := k) (by omega) (by omega)) h_9
  | succ r ih =>
    intro k hk K f hF hfa hf
    have hlt : k < 4 := by omega
    refine ms_run (pc' := 9) (lv' := [(0, .ref m), (1, .ref n), (2, .int (nI k))]) (st' := [.int 4, .int (nI k)]) _ (ms_deC dX6_farAll_7 (ms_deC dX6_farAll_8 ms_deN)) rfl rfl ?_
    refine ms_icmp_ge (tgt := 26) dX6_farAll_9 (by decide) (fun h_9 => ?_) (fun h_9 => ?_)
    · skip
      exact absurd h_9 (by show ¬ nI 4 ≤ nI k; exact nI_ge (b := 4) (by omega) (by omega))
    · skip
      refine ms_run (pc' := 16) (lv' := [(0, .ref m), (1, .ref n), (2, .int (nI k))]) (st' := [.int (nI k), .ref m, .int (nI k), .ref n]) _ (ms_deC dX6_farAll_12 (ms_deC dX6_farAll_13 (ms_deC dX6_farAll_14 (ms_deC dX6_farAll_15 ms_deN)))) rfl rfl ?_
      refine ms_W.room (k2 := 2 + 2 * r) (z2 := 392 + 392 * r) ?_ (by omega) (by omega)
      refine ms_callV (As := [.int (nI k)]) dX6_farAll_16 (c_X6_far (md_at.fb ⟨hm, hw_, hk_, ⟨it, hi_, hit⟩, hh_⟩ hF ⟨l1, l2, l3, l4, l5⟩) hW hH hc ⟨by omega, by omega, by omega, by omega, by omega⟩ hW0 hL hmm (gi := k) hlt) cv_X6_75 ((hF.at m l1).trans hm) rfl ⟨Nat.le_of_ble_eq_true rfl, Nat.le_of_ble_eq_true rfl⟩ rfl (Nat.le_of_ble_eq_true rfl) (fun v9 n9 K_f hp9 => ?_)
      obtain ⟨hv9, rfl, hF_f, hrow_f⟩ := hp9
      cases hv9
      have hF_1 : ms_fb noE n G K_f := ms_fb.trans hF hF_f (by omega)
      have hf_2 := (hF_f.at m (by omega)).trans ((hF.at m l1).trans hm)
      have hf_3 := (hF_f.at aw (by omega)).trans ((hF.at aw l2).trans hw_)
      have hf_4 := (hF_f.at am (by omega)).trans ((hF.at am l3).trans hk_)
      have hf_5 := (hF_f.at ai (by omega)).trans ((hF.at ai l4).trans hi_)
      have hf_6 := (hF_f.at ah (by omega)).trans ((hF.at ah l5).trans hh_)
      have hf_7 := (hF_f.at n (by omega)).trans hfa
      refine ms_aastoreA dX6_farAll_19 hf_7 hrow_f (vp_in_nI (by omega) (by omega)) ?_
      obtain ⟨G_8, eG_8⟩ : ∃ K9 : ms_H, K9 = ms_up K_f n (.inl (4, 4, .inr (.inr (.inr (.inr (va_up f (nI k).toNatClampNeg (some (n + 1 + 2 * k)))))))) := ⟨_, rfl⟩
      refine ms_W.heq eG_8 ?_
      have hF_9 : ms_fb noE n G G_8 := by rw [eG_8]; exact ms_fb.up hF_1 (by first | exact Or.inl (by omega) | exact Or.inr rfl | exact Or.inr (Or.inl rfl) | exact Or.inr (Or.inr (Or.inl rfl)) | exact Or.inr (Or.inr (Or.inr rfl)) | exact Or.inr (Or.inr rfl))
      have hf_10 := (congrFun eG_8 m).trans ((ms_up_n K_f _ (by omega)).trans hf_2)
      have hf_11 := (congrFun eG_8 aw).trans ((ms_up_n K_f _ (by omega)).trans hf_3)
      have hf_12 := (congrFun eG_8 am).trans ((ms_up_n K_f _ (by omega)).trans hf_4)
      have hf_13 := (congrFun eG_8 ai).trans ((ms_up_n K_f _ (by omega)).trans hf_5)
      have hf_14 := (congrFun eG_8 ah).trans ((ms_up_n K_f _ (by omega)).trans hf_6)
      have hf_15 : G_8 n = some (.inl (4, 4, .inr (.inr (.inr (.inr (va_up f (nI k).toNatClampNeg (some (n + 1 + 2 * k)))))))) := by rw [eG_8]; exact ms_up_s _ _ _
      have hf_16 := (congrFun eG_8 (n + 1 + 2 * k)).trans ((ms_up_n K_f _ (by omega)).trans hrow_f)
      refine ms_run (pc' := 23) (lv' := [(2, .int ((nI k) + 1)), (0, .ref m), (1, .ref n)]) (st' := []) _ (ms_deC dX6_farAll_20 ms_deN) rfl rfl ?_
      refine ms_goto (tgt := 7) dX6_farAll_23 (by decide) ?_
      rw [nI_1 k]
      refine ms_W.sub (lv2 := [(0, _), (1, _), (2, _)]) ?_ [1, 2, 0] rfl
      exact ih (k + 1) (by omega) G_8 (va_up f k (some (n + 1 + 2 * k))) hF_9 (by rw [nI_clamp (by omega)] at hf_15; exact hf_15) (fun g hg => by
        rcases Nat.lt_succ_iff_lt_or_eq.mp hg with h8 | h8
        · obtain ⟨h6, h7⟩ := hf g h8
          exact ⟨(if_neg (by omega)).trans h6, by rw [eG_8, ms_up_n _ _ (by omega)]; exact (hF_f.at _ (by omega)).trans h7⟩
        · subst h8
          exact ⟨if_pos rfl, hf_16⟩)
set_option maxHeartbeats 1000000 in
set_option maxRecDepth 20000 in
theorem c_X6_farAll {n m aw am ai ah W H cnt : Nat} {G : ms_H} {th cl dr pa : Int32} {wl mm ht : Nat → Int32} {u : Nat → Nat → Int32} (hM : md_at G m aw am ai ah W H th cl dr pa cnt wl mm ht u) (hW : W ≤ 14) (hH : H ≤ 14) (hc : cnt ≤ 24) (hl : md_lt n m aw am ai ah) (hW0 : 0 < W) {nr mk : Nat → Int32} (hL : lk_ok W H (W * H) nr) (hmm : mmR (W * H) mk mm) : ms_M m_X6_farAll [.ref m] n G 9 1572 (fun r n1 G1 => r = .inl (some (.ref n)) ∧ n1 = n + 9 ∧ ms_fb noE n G G1 ∧ fa_at G1 n n (n + 9) (W * H) (dXg (W * H) nr wl mk)) := by
  refine ms_M.of (by decide) (Nat.le_of_ble_eq_true rfl) ?_
  show ms_W false m_X6_farAll _ 0 [(0, .ref m)] [] n G 9 1572
  obtain ⟨hm, hw_, hk_, ⟨it, hi_, hit⟩, hh_⟩ := hM
  obtain ⟨l1, l2, l3, l4, l5⟩ := hl
  have h196 := fd_196 hW hH
  have hF : ms_fb noE n G G := ms_fb.rf
  refine ms_run (pc' := 1) (lv' := [(0, .ref m)]) (st' := [.int 4]) _ (ms_deC dX6_farAll_0 ms_deN) rfl rfl ?_
  refine ms_W.room (k2 := 1 + 8) (z2 := 4 + 1568) ?_ (by omega) (by omega)
  refine ms_newA (N := 4) dX6_farAll_1 al_X6_74 (by decide) rfl (Nat.le_of_ble_eq_true rfl) ?_
  obtain ⟨G_1, eG_1⟩ : ∃ K9 : ms_H, K9 = ms_up G n (.inl (4, 4, .inr (.inr (.inr (.inr (fun _ => none)))))) := ⟨_, rfl⟩
  refine ms_W.heq eG_1 ?_
  have hF_2 : ms_fb noE n G G_1 := by rw [eG_1]; exact ms_fb.up hF (by first | exact Or.inl (by omega) | exact Or.inr rfl | exact Or.inr (Or.inl rfl) | exact Or.inr (Or.inr (Or.inl rfl)) | exact Or.inr (Or.inr (Or.inr rfl)) | exact Or.inr (Or.inr rfl))
  have hf_3 := (congrFun eG_1 m).trans ((ms_up_n G _ (by omega)).trans hm)
  have hf_4 := (congrFun eG_1 aw).trans ((ms_up_n G _ (by omega)).trans hw_)
  have hf_5 := (congrFun eG_1 am).trans ((ms_up_n G _ (by omega)).trans hk_)
  have hf_6 := (congrFun eG_1 ai).trans ((ms_up_n G _ (by omega)).trans hi_)
  have hf_7 := (congrFun eG_1 ah).trans ((ms_up_n G _ (by omega)).trans hh_)
  have hf_8 : G_1 n = some (.inl (4, 4, .inr (.inr (.inr (.inr (fun _ => none)))))) := by rw [eG_1]; exact ms_up_s _ _ _
  refine ms_run (pc' := 7) (lv' := [(2, .int 0), (1, .ref n), (0, .ref m)]) (st' := []) _ (ms_deC dX6_farAll_4 (ms_deC dX6_farAll_5 (ms_deC dX6_farAll_6 ms_deN))) rfl rfl ?_
  refine ms_W.sub (lv2 := [(0, _), (1, _), (2, _)]) ?_ [2, 1, 0] rfl
  exact l_X6_farAll ⟨hm, hw_, hk_, ⟨it, hi_, hit⟩, hh_⟩ hW hH hc ⟨l1, l2, l3, l4, l5⟩ hW0 hL hmm 4 0 rfl G_1 _ hF_2 hf_8 (fun g hg => absurd hg (Nat.not_lt_zero g))
set_option maxHeartbeats 2000000 in
set_option maxRecDepth 20000 in
theorem l_X6_most {n a N : Nat} {G : ms_H} {f : Nat → Int32} (ha : G a = some (.inl (0, N, .inl f))) (hN : N < 1000) : ∀ (r k : Nat), k + r = N → ms_W false m_X6_most (ms_p1 (some (.int (mx f N))) n G) 10 [(0, .ref a), (1, .int (mx f k)), (2, .ref a), (3, .int (nI N)), (4, .int (nI k))] [] n G 0 0 := by
  intro r
  induction r with
  | zero =>
    intro k hk
    have hkN : k = N := by omega
    refine ms_run (pc' := 13) (lv' := [(0, .ref a), (1, .int (mx f k)), (2, .ref a), (3, .int (nI N)), (4, .int (nI k))]) (st' := [.int (nI N), .int (nI k)]) _ (ms_deC dX6_most_10 (ms_deC dX6_most_12 ms_deN)) rfl rfl ?_
    refine ms_icmp_ge (tgt := 35) dX6_most_13 (by decide) (fun h_13 => ?_) (fun h_13 => ?_)
    · skip
      refine ms_run (pc' := 36) (lv' := [(0, .ref a), (1, .int (mx f k)), (2, .ref a), (3, .int (nI N)), (4, .int (nI k))]) (st' := [.int (mx f k)]) _ (ms_deC dX6_most_35 ms_deN) rfl rfl ?_
      refine ms_reti (st := []) (ty := .int) dX6_most_36 rfl rfl ?_
      exact ms_p1.mk (by rw [hkN]) rfl
    · skip
      exact absurd (by exact nI_le (b := k) (by omega) (by omega)) h_13
  | succ r ih =>
    intro k hk
    have hlt : k < N := by omega
    refine ms_run (pc' := 13) (lv' := [(0, .ref a), (1, .int (mx f k)), (2, .ref a), (3, .int (nI N)), (4, .int (nI k))]) (st' := [.int (nI N), .int (nI k)]) _ (ms_deC dX6_most_10 (ms_deC dX6_most_12 ms_deN)) rfl rfl ?_
    refine ms_icmp_ge (tgt := 35) dX6_most_13 (by decide) (fun h_13 => ?_) (fun h_13 => ?_)
    · skip
      exact absurd h_13 (by exact nI_ge (b := N) (by omega) (by omega))
    · skip
      refine ms_run (pc' := 19) (lv' := [(0, .ref a), (1, .int (mx f k)), (2, .ref a), (3, .int (nI N)), (4, .int (nI k))]) (st' := [.int (nI k), .ref a]) _ (ms_deC dX6_most_16 (ms_deC dX6_most_17 ms_deN)) rfl rfl ?_
      refine ms_iaload dX6_most_19 ha (vp_in_nI (by omega) (by omega)) ?_
      rw [nI_clamp (n := k) (by omega)]
      refine ms_run (pc' := 25) (lv' := [(5, .int (f k)), (0, .ref a), (1, .int (mx f k)), (2, .ref a), (3, .int (nI N)), (4, .int (nI k))]) (st' := [.int (f k), .int (mx f k)]) _ (ms_deC dX6_most_20 (ms_deC dX6_most_22 (ms_deC dX6_most_23 ms_deN))) rfl rfl ?_
      refine ms_max dX6_most_25 mm_X6_85 ⟨Nat.le_of_ble_eq_true rfl, Nat.le_of_ble_eq_true rfl⟩ (Nat.le_of_ble_eq_true rfl) ?_
      rw [show (if mx f k < f k then f k else mx f k) = mx f (k + 1) from rfl]
      refine ms_run (pc' := 32) (lv' := [(4, .int ((nI k) + 1)), (1, .int (mx f (k + 1))), (5, .int (f k)), (0, .ref a), (2, .ref a), (3, .int (nI N))]) (st' := []) _ (ms_deC dX6_most_28 (ms_deC dX6_most_29 ms_deN)) rfl rfl ?_
      refine ms_goto (tgt := 10) dX6_most_32 (by decide) ?_
      rw [nI_1 k]
      refine ms_W.sub (lv2 := [(0, _), (1, _), (2, _), (3, _), (4, _)]) ?_ [3, 1, 4, 5, 0] rfl
      exact ih (k + 1) (by omega)
set_option maxHeartbeats 2000000 in
set_option maxRecDepth 20000 in
theorem c_X6_most {n a N : Nat} {G : ms_H} {f : Nat → Int32} (ha : G a = some (.inl (0, N, .inl f))) (hN : N < 1000) : ms_M m_X6_most [.ref a] n G 0 0 (ms_p1 (some (.int (mx f N))) n G) := by
  refine ms_M.of (by decide) (Nat.le_of_ble_eq_true rfl) ?_
  show ms_W false m_X6_most _ 0 [(0, .ref a)] [] n G 0 0
  refine ms_run (pc' := 5) (lv' := [(2, .ref a), (1, .int (-1)), (0, .ref a)]) (st' := [.ref a]) _ (ms_deC dX6_most_0 (ms_deC dX6_most_1 (ms_deC dX6_most_2 (ms_deC dX6_most_3 (ms_deC dX6_most_4 ms_deN))))) rfl rfl ?_
  refine ms_alen (kd := 0) (v := nI N) (ty := fun c => (c, .int)) dX6_most_5 ha (by decide) rfl ?_
  refine ms_run (pc' := 10) (lv' := [(4, .int 0), (3, .int (nI N)), (2, .ref a), (1, .int (-1)), (0, .ref a)]) (st' := []) _ (ms_deC dX6_most_6 (ms_deC dX6_most_7 (ms_deC dX6_most_8 ms_deN))) rfl rfl ?_
  refine ms_W.sub (lv2 := [(0, _), (1, _), (2, _), (3, _), (4, _)]) ?_ [4, 3, 2, 1, 0] rfl
  exact l_X6_most ha hN N 0 (by omega)
set_option maxHeartbeats 2000000 in
set_option maxRecDepth 20000 in
theorem l_X6_count {n a N : Nat} {G : ms_H} {f : Nat → Int32} (ha : G a = some (.inl (0, N, .inl f))) (hN : N < 1000) (b : Int32) : ∀ (r k : Nat), k + r = N → ms_W false m_X6_count (ms_p1 (some (.int (nI (ct (fun j => decide (f j = b)) N)))) n G) 11 [(0, .ref a), (1, .int b), (2, .int (nI (ct (fun j => decide (f j = b)) k))), (3, .ref a), (4, .int (nI N)), (5, .int (nI k))] [] n G 0 0 := by
  intro r
  induction r with
  | zero =>
    intro k hk
    have hkN : k = N := by omega
    refine ms_run (pc' := 15) (lv' := [(0, .ref a), (1, .int b), (2, .int (nI (ct (fun j => decide (f j = b)) k))), (3, .ref a), (4, .int (nI N)), (5, .int (nI k))]) (st' := [.int (nI N), .int (nI k)]) _ (ms_deC dX6_count_11 (ms_deC dX6_count_13 ms_deN)) rfl rfl ?_
    refine ms_icmp_ge (tgt := 44) dX6_count_15 (by decide) (fun h_15 => ?_) (fun h_15 => ?_)
    · skip
      refine ms_run (pc' := 45) (lv' := [(0, .ref a), (1, .int b), (2, .int (nI (ct (fun j => decide (f j = b)) k))), (3, .ref a), (4, .int (nI N)), (5, .int (nI k))]) (st' := [.int (nI (ct (fun j => decide (f j = b)) k))]) _ (ms_deC dX6_count_44 ms_deN) rfl rfl ?_
      refine ms_reti (st := []) (ty := .int) dX6_count_45 rfl rfl ?_
      exact ms_p1.mk (by rw [hkN]) rfl
    · skip
      exact absurd (by exact nI_le (b := k) (by omega) (by omega)) h_15
  | succ r ih =>
    intro k hk
    have hlt : k < N := by omega
    refine ms_run (pc' := 15) (lv' := [(0, .ref a), (1, .int b), (2, .int (nI (ct (fun j => decide (f j = b)) k))), (3, .ref a), (4, .int (nI N)), (5, .int (nI k))]) (st' := [.int (nI N), .int (nI k)]) _ (ms_deC dX6_count_11 (ms_deC dX6_count_13 ms_deN)) rfl rfl ?_
    refine ms_icmp_ge (tgt := 44) dX6_count_15 (by decide) (fun h_15 => ?_) (fun h_15 => ?_)
    · skip
      exact absurd h_15 (by exact nI_ge (b := N) (by omega) (by omega))
    · skip
      refine ms_run (pc' := 21) (lv' := [(0, .ref a), (1, .int b), (2, .int (nI (ct (fun j => decide (f j = b)) k))), (3, .ref a), (4, .int (nI N)), (5, .int (nI k))]) (st' := [.int (nI k), .ref a]) _ (ms_deC dX6_count_18 (ms_deC dX6_count_19 ms_deN)) rfl rfl ?_
      refine ms_iaload dX6_count_21 ha (vp_in_nI (by omega) (by omega)) ?_
      rw [nI_clamp (n := k) (by omega)]
      refine ms_run (pc' := 28) (lv' := [(6, .int (f k)), (0, .ref a), (1, .int b), (2, .int (nI (ct (fun j => decide (f j = b)) k))), (3, .ref a), (4, .int (nI N)), (5, .int (nI k))]) (st' := [.int b, .int (f k), .int (nI (ct (fun j => decide (f j = b)) k))]) _ (ms_deC dX6_count_22 (ms_deC dX6_count_24 (ms_deC dX6_count_25 (ms_deC dX6_count_27 ms_deN)))) rfl rfl ?_
      refine ms_icmp_ne (tgt := 35) dX6_count_28 (by decide) (fun h_28 => ?_) (fun h_28 => ?_)
      · skip
        refine ms_run (pc' := 41) (lv' := [(5, .int ((nI k) + 1)), (2, .int ((nI (ct (fun j => decide (f j = b)) k)) + 0)), (6, .int (f k)), (0, .ref a), (1, .int b), (3, .ref a), (4, .int (nI N))]) (st' := []) _ (ms_deC dX6_count_35 (ms_deC dX6_count_36 (ms_deC dX6_count_37 (ms_deC dX6_count_38 ms_deN)))) rfl rfl ?_
        refine ms_goto (tgt := 11) dX6_count_41 (by decide) ?_
        have hp : (fun j => decide (f j = b)) k = false := decide_eq_false h_28
        rw [Int32.add_zero, ct_f (p := (fun j => decide (f j = b))) hp]
        rw [nI_1 k]
        refine ms_W.sub (lv2 := [(0, _), (1, _), (2, _), (3, _), (4, _), (5, _)]) ?_ [3, 4, 1, 5, 6, 0] rfl
        exact ih (k + 1) (by omega)
      · skip
        refine ms_run (pc' := 32) (lv' := [(6, .int (f k)), (0, .ref a), (1, .int b), (2, .int (nI (ct (fun j => decide (f j = b)) k))), (3, .ref a), (4, .int (nI N)), (5, .int (nI k))]) (st' := [.int 1, .int (nI (ct (fun j => decide (f j = b)) k))]) _ (ms_deC dX6_count_31 ms_deN) rfl rfl ?_
        refine ms_goto (tgt := 36) dX6_count_32 (by decide) ?_
        refine ms_run (pc' := 41) (lv' := [(5, .int ((nI k) + 1)), (2, .int ((nI (ct (fun j => decide (f j = b)) k)) + 1)), (6, .int (f k)), (0, .ref a), (1, .int b), (3, .ref a), (4, .int (nI N))]) (st' := []) _ (ms_deC dX6_count_36 (ms_deC dX6_count_37 (ms_deC dX6_count_38 ms_deN))) rfl rfl ?_
        refine ms_goto (tgt := 11) dX6_count_41 (by decide) ?_
        have hp : (fun j => decide (f j = b)) k = true := decide_eq_true (by first | exact h_28 | exact Decidable.not_not.mp h_28)
        rw [ct_t (p := (fun j => decide (f j = b))) hp]
        rw [nI_1 k]
        refine ms_W.sub (lv2 := [(0, _), (1, _), (2, _), (3, _), (4, _), (5, _)]) ?_ [3, 4, 1, 5, 6, 0] rfl
        exact ih (k + 1) (by omega)
set_option maxHeartbeats 2000000 in
set_option maxRecDepth 20000 in
theorem c_X6_count {n a N : Nat} {G : ms_H} {f : Nat → Int32} (ha : G a = some (.inl (0, N, .inl f))) (hN : N < 1000) (b : Int32) : ms_M m_X6_count [.ref a, .int b] n G 0 0 (ms_p1 (some (.int (nI (ct (fun j => decide (f j = b)) N)))) n G) := by
  refine ms_M.of (by decide) (Nat.le_of_ble_eq_true rfl) ?_
  show ms_W false m_X6_count _ 0 [(0, .ref a), (1, .int b)] [] n G 0 0
  refine ms_run (pc' := 5) (lv' := [(3, .ref a), (2, .int 0), (0, .ref a), (1, .int b)]) (st' := [.ref a]) _ (ms_deC dX6_count_0 (ms_deC dX6_count_1 (ms_deC dX6_count_2 (ms_deC dX6_count_3 (ms_deC dX6_count_4 ms_deN))))) rfl rfl ?_
  refine ms_alen (kd := 0) (v := nI N) (ty := fun c => (c, .int)) dX6_count_5 ha (by decide) rfl ?_
  refine ms_run (pc' := 11) (lv' := [(5, .int 0), (4, .int (nI N)), (3, .ref a), (2, .int 0), (0, .ref a), (1, .int b)]) (st' := []) _ (ms_deC dX6_count_6 (ms_deC dX6_count_8 (ms_deC dX6_count_9 ms_deN))) rfl rfl ?_
  refine ms_W.sub (lv2 := [(0, _), (1, _), (2, _), (3, _), (4, _), (5, _)]) ?_ [4, 5, 3, 2, 1, 0] rfl
  exact l_X6_count ha hN b N 0 (by omega)

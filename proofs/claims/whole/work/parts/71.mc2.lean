/-! the model: calls (2) -/
theorem mx_congr {f g : Nat → Int32} : ∀ {n : Nat}, (∀ j, j < n → f j = g j) → mx f n = mx g n
  | 0, _ => rfl
  | n + 1, h => by
    show (if mx f n < f n then f n else mx f n) = (if mx g n < g n then g n else mx g n)
    rw [mx_congr (fun j hj => h j (by omega)), h n (by omega)]
set_option maxHeartbeats 1000000 in
set_option maxRecDepth 20000 in
theorem c_X6_farthest {n m aw am ai ah W H cnt N : Nat} {G : ms_H} {th dr pa : Int32} {wl mm : Nat → Int32} {X : cX} {nr mk ds : Nat → Int32} (hM : md_at G m aw am ai ah W H th X.2.2.2 dr pa cnt wl mm X.2.1 X.1) (hl : md_lt n m aw am ai ah) (hW : W ≤ 14) (hH : H ≤ 14) (hW0 : 0 < W) (hc : cnt ≤ 24) (hne : md_ne m aw am ai ah) (hL : lk_ok W H (W * H) nr) (hmm : mmR (W * H) mk mm) (hds : dsR (W * H) nr wl mk ds) (hd : 0 ≤ dr ∧ dr ≤ 9) (hN : N < 1000000) (hV : wdV W H cnt N X) (gl : Int32) : ms_M m_X6_farthest [.ref m, .int gl] n G 2 392 (mq_P n G (E5 m aw am ai ah) (th_goal gl) (fun _ => 1) (.int (mx (fun j => ds (gl.toNatClampNeg * 196 + j)) (W * H))) (fun t G1 => md_at G1 m aw am ai ah W H t X.2.2.2 dr pa cnt wl mm X.2.1 X.1) (fun G1 => md_at G1 m aw am ai ah W H 0 X.2.2.2 dr pa cnt wl mm X.2.1 X.1)) := by
  refine ms_M.of (by decide) (Nat.le_of_ble_eq_true rfl) ?_
  show ms_W false m_X6_farthest _ 0 [(0, .ref m), (1, .int gl)] [] n G 2 392
  have hl9 := hl
  have hne9 := hne
  obtain ⟨hm, hw_, hk_, ⟨it, hi_, hit⟩, hh_⟩ := hM
  obtain ⟨l1, l2, l3, l4, l5⟩ := hl
  obtain ⟨n1, n2, n3, n4, n5, n6, n7, n8, n9, n10⟩ := hne
  have h196 := fd_196 hW hH
  have hF : ms_fb (E5 m aw am ai ah) n G G := ms_fb.rf
  refine ms_run (pc' := 2) (lv' := [(0, .ref m), (1, .int gl)]) (st' := [.int 0, .ref m]) _ (ms_deC dX6_farthest_0 (ms_deC dX6_farthest_1 ms_deN)) rfl rfl ?_
  refine ms_putf dX6_farthest_2 fp_X6_46 hm (Nat.le_of_ble_eq_true rfl) rfl rfl ?_
  obtain ⟨G_1, eG_1⟩ : ∃ K9 : ms_H, K9 = ms_up G m (.inr (6, [.int 0, .int (nI W), .int (nI H), .int X.2.2.2, .int dr, .int pa, .ref aw, .ref am, .int (nI cnt), .ref ai, .ref ah])) := ⟨_, rfl⟩
  refine ms_W.heq eG_1 ?_
  have hF_2 : ms_fb (E5 m aw am ai ah) n G G_1 := by rw [eG_1]; exact ms_fb.up hF (by first | exact Or.inl (by omega) | exact Or.inr rfl | exact Or.inr (Or.inl rfl) | exact Or.inr (Or.inr (Or.inl rfl)) | exact Or.inr (Or.inr (Or.inr rfl)) | exact Or.inr (Or.inr rfl))
  have hf_3 : G_1 m = some (.inr (6, [.int 0, .int (nI W), .int (nI H), .int X.2.2.2, .int dr, .int pa, .ref aw, .ref am, .int (nI cnt), .ref ai, .ref ah])) := by rw [eG_1]; exact ms_up_s _ _ _
  have hf_4 := (congrFun eG_1 aw).trans ((ms_up_n G _ (by omega)).trans hw_)
  have hf_5 := (congrFun eG_1 am).trans ((ms_up_n G _ (by omega)).trans hk_)
  have hf_6 := (congrFun eG_1 ai).trans ((ms_up_n G _ (by omega)).trans hi_)
  have hf_7 := (congrFun eG_1 ah).trans ((ms_up_n G _ (by omega)).trans hh_)
  refine ms_run (pc' := 6) (lv' := [(0, .ref m), (1, .int gl)]) (st' := [.int gl]) _ (ms_deC dX6_farthest_5 ms_deN) rfl rfl ?_
  refine ms_callSp (As := [.int gl]) dX6_farthest_6 (c_X6_isGoal gl) cs_X6_91 rfl ⟨Nat.le_of_ble_eq_true rfl, Nat.le_of_ble_eq_true rfl⟩ rfl (Nat.le_of_ble_eq_true rfl) ?_
  by_cases hgl : gl_is gl
  · rw [show ms_b (gl_is gl) = 1 from if_pos hgl]
    obtain ⟨g, hg, hge⟩ := gl_nI hgl
    subst hge
    refine ms_if_eq (tgt := 23) dX6_farthest_9 (by decide) (fun h9 => absurd h9 (by decide)) (fun _ => ?_)
    refine ms_run (pc' := 14) (lv' := [(0, .ref m), (1, .int (nI g))]) (st' := [.int (nI g), .ref m]) _ (ms_deC dX6_farthest_12 (ms_deC dX6_farthest_13 ms_deN)) rfl rfl ?_
    refine ms_W.room (k2 := 2 + 0) (z2 := 392 + 0) ?_ (by omega) (by omega)
    refine ms_callV (As := [.int (nI g)]) dX6_farthest_14 (c_X6_far (show md_at G_1 m aw am ai ah W H 0 X.2.2.2 dr pa cnt wl mm X.2.1 X.1 from ⟨hf_3, hf_4, hf_5, ⟨it, hf_6, hit⟩, hf_7⟩) hW hH hc hl9 hW0 hL hmm (gi := g) hg) cv_X6_75 hf_3 rfl ⟨Nat.le_of_ble_eq_true rfl, Nat.le_of_ble_eq_true rfl⟩ rfl (Nat.le_of_ble_eq_true rfl) (fun v9 n9 K_fr hp9 => ?_)
    obtain ⟨hv9, rfl, hF_fr, hrow⟩ := hp9
    cases hv9
    have hM2 := md_at.fb (show md_at G_1 m aw am ai ah W H 0 X.2.2.2 dr pa cnt wl mm X.2.1 X.1 from ⟨hf_3, hf_4, hf_5, ⟨it, hf_6, hit⟩, hf_7⟩) hF_fr hl9
    have hF2 := ms_fb.trans hF_2 hF_fr (Nat.le_refl n)
    obtain ⟨hm2, hw2, hk2, ⟨it2, hi2, hit2⟩, hh2⟩ := id hM2
    refine ms_callSp (As := [.ref n]) dX6_farthest_17 (c_X6_most hrow (by omega)) cs_X6_100 rfl ⟨Nat.le_of_ble_eq_true rfl, Nat.le_of_ble_eq_true rfl⟩ rfl (Nat.le_of_ble_eq_true rfl) ?_
    refine ms_goto (tgt := 28) dX6_farthest_20 (by decide) ?_
    refine ms_reti (st := []) (ty := .int) dX6_farthest_28 rfl rfl ?_
    exact mq_P.ok (if_neg (not_not_intro (gl_isI hg))) (by omega) hF2 (by rw [nI_clamp (by omega), mx_congr (fun j hj => (hds g hg j hj))]) hM2
  · rw [show ms_b (gl_is gl) = 0 from if_neg hgl]
    refine ms_if_eq (tgt := 23) dX6_farthest_9 (by decide) (fun _ => ?_) (fun h9 => absurd h9 (by decide))
    refine ms_run (pc' := 25) (lv' := [(0, .ref m), (1, .int gl)]) (st' := [.int 1, .ref m]) _ (ms_deC dX6_farthest_23 (ms_deC dX6_farthest_24 ms_deN)) rfl rfl ?_
    refine ms_callV0 (As := [.int 1]) dX6_farthest_25 (c_X6_no (show md_at G_1 m aw am ai ah W H 0 X.2.2.2 dr pa cnt wl mm X.2.1 X.1 from ⟨hf_3, hf_4, hf_5, ⟨it, hf_6, hit⟩, hf_7⟩) hne9 1) cv_X6_79 hf_3 rfl ⟨Nat.le_of_ble_eq_true rfl, Nat.le_of_ble_eq_true rfl⟩ rfl (Nat.le_of_ble_eq_true rfl) (fun v9 n9 K_no hp9 => ?_)
    obtain ⟨hv9, rfl, hF_no, hM_no⟩ := hp9
    cases hv9
    refine ms_reti (st := []) (ty := .int) dX6_farthest_28 rfl rfl ?_
    exact mq_P.no (if_pos hgl) (by omega) (ms_fb.trans2 hF_2 (hF_no.mono (fun a h => Or.inl h)) (by omega)) rfl hM_no
set_option maxHeartbeats 1000000 in
set_option maxRecDepth 20000 in
theorem c_X6_clock {n m aw am ai ah W H cnt N : Nat} {G : ms_H} {th dr pa : Int32} {wl mm : Nat → Int32} {X : cX} {nr mk ds : Nat → Int32} (hM : md_at G m aw am ai ah W H th X.2.2.2 dr pa cnt wl mm X.2.1 X.1) (hl : md_lt n m aw am ai ah) (hW : W ≤ 14) (hH : H ≤ 14) (hW0 : 0 < W) (hc : cnt ≤ 24) (hne : md_ne m aw am ai ah) (hL : lk_ok W H (W * H) nr) (hmm : mmR (W * H) mk mm) (hds : dsR (W * H) nr wl mk ds) (hd : 0 ≤ dr ∧ dr ≤ 9) (hN : N < 1000000) (hV : wdV W H cnt N X) : ms_M m_X6_clock [.ref m] n G 0 0 (mq_P n G (E5 m aw am ai ah) (none) (fun _ => 1) (.int X.2.2.2) (fun t G1 => md_at G1 m aw am ai ah W H t X.2.2.2 dr pa cnt wl mm X.2.1 X.1) (fun G1 => md_at G1 m aw am ai ah W H 0 X.2.2.2 dr pa cnt wl mm X.2.1 X.1)) := by
  refine ms_M.of (by decide) (Nat.le_of_ble_eq_true rfl) ?_
  show ms_W false m_X6_clock _ 0 [(0, .ref m)] [] n G 0 0
  have hl9 := hl
  have hne9 := hne
  obtain ⟨hm, hw_, hk_, ⟨it, hi_, hit⟩, hh_⟩ := hM
  obtain ⟨l1, l2, l3, l4, l5⟩ := hl
  obtain ⟨n1, n2, n3, n4, n5, n6, n7, n8, n9, n10⟩ := hne
  have h196 := fd_196 hW hH
  have hF : ms_fb (E5 m aw am ai ah) n G G := ms_fb.rf
  refine ms_run (pc' := 2) (lv' := [(0, .ref m)]) (st' := [.ref m, .ref m]) _ (ms_deC dX6_clock_0 (ms_deC dX6_clock_1 ms_deN)) rfl rfl ?_
  refine ms_getf dX6_clock_2 fg_X6_26 hm rfl ?_
  refine ms_callV0 (As := [.int X.2.2.2]) dX6_clock_5 (c_X6_ok (show md_at G m aw am ai ah W H th X.2.2.2 dr pa cnt wl mm X.2.1 X.1 from ⟨hm, hw_, hk_, ⟨it, hi_, hit⟩, hh_⟩) hne9 X.2.2.2) cv_X6_129 hm rfl ⟨Nat.le_of_ble_eq_true rfl, Nat.le_of_ble_eq_true rfl⟩ rfl (Nat.le_of_ble_eq_true rfl) (fun v9 n9 K_no hp9 => ?_)
  obtain ⟨hv9, rfl, hF_no, hM_no⟩ := hp9
  cases hv9
  refine ms_reti (st := []) (ty := .int) dX6_clock_8 rfl rfl ?_
  exact mq_P.ok rfl (by omega) (ms_fb.trans2 hF (hF_no.mono (fun a h => Or.inl h)) (by omega)) rfl hM_no
set_option maxHeartbeats 2000000 in
set_option maxRecDepth 20000 in
theorem c_X6_farOf {n m aw am ai ah W H cnt : Nat} {G : ms_H} {th dr pa : Int32} {wl mm : Nat → Int32} {X : cX} {nr mk ds : Nat → Int32} (hM : md_at G m aw am ai ah W H th X.2.2.2 dr pa cnt wl mm X.2.1 X.1) (hl : md_lt n m aw am ai ah) (hW : W ≤ 14) (hH : H ≤ 14) (hW0 : 0 < W) (hc : cnt ≤ 24) (hne : md_ne m aw am ai ah) (hL : lk_ok W H (W * H) nr) (hmm : mmR (W * H) mk mm) (hds : dsR (W * H) nr wl mk ds) (hd : 0 ≤ dr ∧ dr ≤ 9) {k g : Nat} (hk9 : k < cnt) (hg : g < 4) (hgo : X.1 k 0 = nI g) : ms_M m_X6_farOf [.ref m, .int (nI k)] n G 2 392 (fun r n1 G1 => r = .inl (some (.ref n)) ∧ n1 = n + 2 ∧ ms_fb noE n G G1 ∧ G1 n = some (.inl (0, W * H, .inl (dXg (W * H) nr wl mk g)))) := by
  refine ms_M.of (by decide) (Nat.le_of_ble_eq_true rfl) ?_
  show ms_W false m_X6_farOf _ 0 [(0, .ref m), (1, .int (nI k))] [] n G 2 392
  have hl9 := hl
  obtain ⟨hm, hw_, hk_, ⟨it, hi_, hit⟩, hh_⟩ := hM
  obtain ⟨l1, l2, l3, l4, l5⟩ := hl
  obtain ⟨n1, n2, n3, n4, n5, n6, n7, n8, n9, n10⟩ := hne
  have h196 := fd_196 hW hH
  refine ms_run (pc' := 2) (lv' := [(0, .ref m), (1, .int (nI k))]) (st' := [.ref m, .ref m]) _ (ms_deC dX6_farOf_0 (ms_deC dX6_farOf_1 ms_deN)) rfl rfl ?_
  refine ms_getf dX6_farOf_2 fg_X6_39 hm rfl ?_
  refine ms_run (pc' := 11) (lv' := [(0, .ref m), (1, .int (nI k))]) (st' := [.int (((nI k) * 8) + 0), .ref ai, .ref m]) _ (ms_deC dX6_farOf_5 (ms_deC dX6_farOf_6 (ms_deC dX6_farOf_8 (ms_deC dX6_farOf_9 (ms_deC dX6_farOf_10 ms_deN))))) rfl rfl ?_
  refine ms_iaload dX6_farOf_11 hi_ (md_in (k := k) (j := 0) (Nat.lt_of_lt_of_le hk9 hc) (by omega)) ?_
  rw [show it (((nI k) * 8) + 0).toNatClampNeg = X.1 k 0 from md_it (k := k) (j := 0) hit hk9 hc (by omega)]
  rw [hgo]
  refine ms_W.room (k2 := 2 + 0) (z2 := 392 + 0) ?_ (by omega) (by omega)
  refine ms_callV (As := [.int (nI g)]) dX6_farOf_12 (c_X6_far (show md_at G m aw am ai ah W H th X.2.2.2 dr pa cnt wl mm X.2.1 X.1 from ⟨hm, hw_, hk_, ⟨it, hi_, hit⟩, hh_⟩) hW hH hc hl9 hW0 hL hmm (gi := g) hg) cv_X6_75 hm rfl ⟨Nat.le_of_ble_eq_true rfl, Nat.le_of_ble_eq_true rfl⟩ rfl (Nat.le_of_ble_eq_true rfl) (fun v9 n9 K_fr hp9 => ?_)
  obtain ⟨hv9, rfl, hF_fr, hrow⟩ := hp9
  cases hv9
  refine ms_reta (st := []) (v := .ref n) dX6_farOf_15 rfl (Or.inr ⟨_, rfl⟩) (Or.inr ⟨_, rfl⟩) ?_
  exact ⟨rfl, rfl, hF_fr, hrow⟩
theorem c_X6_costAny {n m aw am ai ah W H cnt : Nat} {G : ms_H} {th cl dr pa : Int32} {wl mm ht : Nat → Int32} {u : Nat → Nat → Int32} (hM : md_at G m aw am ai ah W H th cl dr pa cnt wl mm ht u) (hW : W ≤ 14) (hH : H ≤ 14) (hc : cnt ≤ 24) (hW0 : 0 < W) {nr on D : Nat → Int32} (hL : lk_ok W H (W * H) nr) (hon : onV (W * H) cnt u on) (hv : hvX (nI (W * H)) cnt u) {fa : Nat} (hfa : G fa = some (.inl (0, W * H, .inl D))) {i own : Nat} (hi : i < cnt) (hpo : u i 3 = nI own) (ho : own < W * H) {s : Nat} (hs : s ≤ 4) : ms_M m_X6_costNow [.ref m, .int (nI i), .int (nI s), .ref fa] n G 0 0 (ms_p1 (some (.int (if s = 4 then mcS W cnt u D i own else mcM W cnt nr on dr u D i own s))) n G) := by
  by_cases h : s = 4
  · subst h
    rw [if_pos rfl]
    exact c_X6_costStay hM hW hH hc hW0 hL hon hv hfa hi hpo ho
  · rw [if_neg h]
    exact c_X6_costMove hM hW hH hc hW0 hL hon hv hfa hi hpo ho (by omega)
theorem cost_any {W H cnt i own g s : Nat} {nr on ds D : Nat → Int32} {dr : Int32} {u : Nat → Nat → Int32} (hL : lk_ok W H (W * H) nr) (hc : cnt ≤ 24) (hW : W ≤ 14) (hH : H ≤ 14) (hon : onV (W * H) cnt u on) (hv : hvX (nI (W * H)) cnt u) (hi : i < cnt) (hpo : u i 3 = nI own) (ho : own < W * H) (hg : g < 4) (hgo : u i 0 = nI g) (hD : ∀ f, f < W * H → ds (g * 196 + f) = D f) (hs : s ≤ 4) : (if s = 4 then mcS W cnt u D i own else mcM W cnt nr on dr u D i own s) = cr_cost (nI (W * H)) nr ds on (hdX cnt dr) u (u i) (nI s) := by
  by_cases h : s = 4
  · subst h
    rw [if_pos rfl]
    exact (cost_S (hd := hdX cnt dr) (D := D) hL hc hW hH hon hv hi hpo ho hg hgo hD).symm
  · rw [if_neg h]
    exact (cost_M (hd := hdX cnt dr) (dr := dr) (D := D) hL hc hW hH hon hv hi hpo ho hg hgo hD hdX_0 hdX_2 (by omega)).symm
set_option maxHeartbeats 1000000 in
set_option maxRecDepth 20000 in
theorem c_X6_wants {n m aw am ai ah W H cnt N : Nat} {G : ms_H} {th dr pa : Int32} {wl mm : Nat → Int32} {X : cX} {nr mk ds : Nat → Int32} (hM : md_at G m aw am ai ah W H th X.2.2.2 dr pa cnt wl mm X.2.1 X.1) (hl : md_lt n m aw am ai ah) (hW : W ≤ 14) (hH : H ≤ 14) (hW0 : 0 < W) (hc : cnt ≤ 24) (hne : md_ne m aw am ai ah) (hL : lk_ok W H (W * H) nr) (hmm : mmR (W * H) mk mm) (hds : dsR (W * H) nr wl mk ds) (hd : 0 ≤ dr ∧ dr ≤ 9) (hN : N < 1000000) (hV : wdV W H cnt N X) (kk : Int32) : ms_M m_X6_wants [.ref m, .int kk] n G 2 392 (mq_P n G (E5 m aw am ai ah) (th_wan cnt X.1 kk) (fun _ => 1) (.int (bsX (nI (W * H)) nr ds cnt dr X.2.2.1 X.1 kk.toNatClampNeg)) (fun t G1 => md_at G1 m aw am ai ah W H t X.2.2.2 dr pa cnt wl mm X.2.1 X.1) (fun G1 => md_at G1 m aw am ai ah W H 0 X.2.2.2 dr pa cnt wl mm X.2.1 X.1)) := by
  refine ms_M.of (by decide) (Nat.le_of_ble_eq_true rfl) ?_
  show ms_W false m_X6_wants _ 0 [(0, .ref m), (1, .int kk)] [] n G 2 392
  have hl9 := hl
  have hne9 := hne
  obtain ⟨hm, hw_, hk_, ⟨it, hi_, hit⟩, hh_⟩ := hM
  obtain ⟨l1, l2, l3, l4, l5⟩ := hl
  obtain ⟨n1, n2, n3, n4, n5, n6, n7, n8, n9, n10⟩ := hne
  have h196 := fd_196 hW hH
  have hF : ms_fb (E5 m aw am ai ah) n G G := ms_fb.rf
  refine ms_run (pc' := 2) (lv' := [(0, .ref m), (1, .int kk)]) (st' := [.int 0, .ref m]) _ (ms_deC dX6_wants_0 (ms_deC dX6_wants_1 ms_deN)) rfl rfl ?_
  refine ms_putf dX6_wants_2 fp_X6_46 hm (Nat.le_of_ble_eq_true rfl) rfl rfl ?_
  obtain ⟨G_1, eG_1⟩ : ∃ K9 : ms_H, K9 = ms_up G m (.inr (6, [.int 0, .int (nI W), .int (nI H), .int X.2.2.2, .int dr, .int pa, .ref aw, .ref am, .int (nI cnt), .ref ai, .ref ah])) := ⟨_, rfl⟩
  refine ms_W.heq eG_1 ?_
  have hF_2 : ms_fb (E5 m aw am ai ah) n G G_1 := by rw [eG_1]; exact ms_fb.up hF (by first | exact Or.inl (by omega) | exact Or.inr rfl | exact Or.inr (Or.inl rfl) | exact Or.inr (Or.inr (Or.inl rfl)) | exact Or.inr (Or.inr (Or.inr rfl)) | exact Or.inr (Or.inr rfl))
  have hf_3 : G_1 m = some (.inr (6, [.int 0, .int (nI W), .int (nI H), .int X.2.2.2, .int dr, .int pa, .ref aw, .ref am, .int (nI cnt), .ref ai, .ref ah])) := by rw [eG_1]; exact ms_up_s _ _ _
  have hf_4 := (congrFun eG_1 aw).trans ((ms_up_n G _ (by omega)).trans hw_)
  have hf_5 := (congrFun eG_1 am).trans ((ms_up_n G _ (by omega)).trans hk_)
  have hf_6 := (congrFun eG_1 ai).trans ((ms_up_n G _ (by omega)).trans hi_)
  have hf_7 := (congrFun eG_1 ah).trans ((ms_up_n G _ (by omega)).trans hh_)
  refine ms_run (pc' := 7) (lv' := [(0, .ref m), (1, .int kk)]) (st' := [.int kk, .ref m]) _ (ms_deC dX6_wants_5 (ms_deC dX6_wants_6 ms_deN)) rfl rfl ?_
  refine ms_callVp (As := [.int kk]) dX6_wants_7 (c_X6_isOn (show md_at G_1 m aw am ai ah W H 0 X.2.2.2 dr pa cnt wl mm X.2.1 X.1 from ⟨hf_3, hf_4, hf_5, ⟨it, hf_6, hit⟩, hf_7⟩) hW hH hc kk) cv_X6_110 hf_3 rfl ⟨Nat.le_of_ble_eq_true rfl, Nat.le_of_ble_eq_true rfl⟩ rfl (Nat.le_of_ble_eq_true rfl) ?_
  by_cases hon9 : pIs (nI cnt) kk ∧ ¬ X.1 kk.toNatClampNeg 3 = -1
  · rw [show ms_b (pIs (nI cnt) kk ∧ ¬ X.1 kk.toNatClampNeg 3 = -1) = 1 from if_pos hon9]
    obtain ⟨i, hi, hki⟩ := pIs_nI hc hon9.1
    subst hki
    rw [nI_clamp (n := i) (by omega)] at hon9
    obtain ⟨own, ho, hpo⟩ := pos_of hW hH hV.2.1 hi hon9.2
    obtain ⟨g, hg, hgo⟩ := gl_nI (hV.2.2.1 i hi).1
    rw [nI_clamp (n := i) (by omega)]
    refine ms_if_eq (tgt := 26) dX6_wants_10 (by decide) (fun h9 => absurd h9 (by decide)) (fun _ => ?_)
    refine ms_run (pc' := 17) (lv' := [(0, .ref m), (1, .int (nI i))]) (st' := [.int (nI i), .ref m, .int (nI i), .ref m]) _ (ms_deC dX6_wants_13 (ms_deC dX6_wants_14 (ms_deC dX6_wants_15 (ms_deC dX6_wants_16 ms_deN)))) rfl rfl ?_
    refine ms_W.room (k2 := 2 + 0) (z2 := 392 + 0) ?_ (by omega) (by omega)
    refine ms_callV (As := [.int (nI i)]) dX6_wants_17 (c_X6_farOf (show md_at G_1 m aw am ai ah W H 0 X.2.2.2 dr pa cnt wl mm X.2.1 X.1 from ⟨hf_3, hf_4, hf_5, ⟨it, hf_6, hit⟩, hf_7⟩) hl9 hW hH hW0 hc hne9 hL hmm hds hd hi hg hgo) cv_X6_148 hf_3 rfl ⟨Nat.le_of_ble_eq_true rfl, Nat.le_of_ble_eq_true rfl⟩ rfl (Nat.le_of_ble_eq_true rfl) (fun v9 n9 K_fr hp9 => ?_)
    obtain ⟨hv9, rfl, hF_fr, hrow⟩ := hp9
    cases hv9
    have hM2 := md_at.fb (show md_at G_1 m aw am ai ah W H 0 X.2.2.2 dr pa cnt wl mm X.2.1 X.1 from ⟨hf_3, hf_4, hf_5, ⟨it, hf_6, hit⟩, hf_7⟩) hF_fr hl9
    have hF2 := ms_fb.trans hF_2 hF_fr (Nat.le_refl n)
    obtain ⟨hm2, hw2, hk2, ⟨it2, hi2, hit2⟩, hh2⟩ := id hM2
    have hc9 := c_X6_wantsNow (n := n + 2) (D := dXg (W * H) nr wl mk g) hM2 hW hH hc hW0 hL hV.1 hV.2.1 hrow hi hpo ho
    rw [wants_eq (ds := ds) hL hc hW hH hV.1 hV.2.1 hi hpo ho hg hgo (hds g hg) (dX_val h196) (hV.2.2.1 i hi).2.2 hd] at hc9
    refine ms_callVp (As := [.int (nI i), .ref n]) dX6_wants_20 (hc9) cv_X6_117 hm2 rfl ⟨Nat.le_of_ble_eq_true rfl, Nat.le_of_ble_eq_true rfl⟩ rfl (Nat.le_of_ble_eq_true rfl) ?_
    refine ms_goto (tgt := 31) dX6_wants_23 (by decide) ?_
    refine ms_reti (st := []) (ty := .int) dX6_wants_31 rfl rfl ?_
    exact mq_P.ok (by unfold th_wan; rw [if_neg (by rw [nI_clamp (n := i) (by omega)]; rintro (z9 | z9); exact z9 hon9.1; exact hon9.2 z9)]) (by omega) hF2 rfl hM2
  · rw [show ms_b (pIs (nI cnt) kk ∧ ¬ X.1 kk.toNatClampNeg 3 = -1) = 0 from if_neg hon9]
    refine ms_if_eq (tgt := 26) dX6_wants_10 (by decide) (fun _ => ?_) (fun h9 => absurd h9 (by decide))
    refine ms_run (pc' := 28) (lv' := [(0, .ref m), (1, .int kk)]) (st' := [.int 1, .ref m]) _ (ms_deC dX6_wants_26 (ms_deC dX6_wants_27 ms_deN)) rfl rfl ?_
    refine ms_callV0 (As := [.int 1]) dX6_wants_28 (c_X6_no (show md_at G_1 m aw am ai ah W H 0 X.2.2.2 dr pa cnt wl mm X.2.1 X.1 from ⟨hf_3, hf_4, hf_5, ⟨it, hf_6, hit⟩, hf_7⟩) hne9 1) cv_X6_79 hf_3 rfl ⟨Nat.le_of_ble_eq_true rfl, Nat.le_of_ble_eq_true rfl⟩ rfl (Nat.le_of_ble_eq_true rfl) (fun v9 n9 K_no hp9 => ?_)
    obtain ⟨hv9, rfl, hF_no, hM_no⟩ := hp9
    cases hv9
    refine ms_reti (st := []) (ty := .int) dX6_wants_31 rfl rfl ?_
    exact mq_P.no (show th_wan cnt X.1 kk = some IOB from by unfold th_wan; grind) (by omega) (ms_fb.trans2 hF_2 (hF_no.mono (fun a h => Or.inl h)) (by omega)) rfl hM_no
set_option maxHeartbeats 1000000 in
set_option maxRecDepth 20000 in
theorem c_X6_cost {n m aw am ai ah W H cnt N : Nat} {G : ms_H} {th dr pa : Int32} {wl mm : Nat → Int32} {X : cX} {nr mk ds : Nat → Int32} (hM : md_at G m aw am ai ah W H th X.2.2.2 dr pa cnt wl mm X.2.1 X.1) (hl : md_lt n m aw am ai ah) (hW : W ≤ 14) (hH : H ≤ 14) (hW0 : 0 < W) (hc : cnt ≤ 24) (hne : md_ne m aw am ai ah) (hL : lk_ok W H (W * H) nr) (hmm : mmR (W * H) mk mm) (hds : dsR (W * H) nr wl mk ds) (hd : 0 ≤ dr ∧ dr ≤ 9) (hN : N < 1000000) (hV : wdV W H cnt N X) (kk sd : Int32) : ms_M m_X6_cost [.ref m, .int kk, .int sd] n G 2 392 (mq_P n G (E5 m aw am ai ah) (th_onw cnt X.1 kk (sd < 0 ∨ 4 < sd)) (fun e => if e = IOB then 1 else 2) (.int (cr_cost (nI (W * H)) nr ds X.2.2.1 (hdX cnt dr) X.1 (X.1 kk.toNatClampNeg) sd)) (fun t G1 => md_at G1 m aw am ai ah W H t X.2.2.2 dr pa cnt wl mm X.2.1 X.1) (fun G1 => md_at G1 m aw am ai ah W H 0 X.2.2.2 dr pa cnt wl mm X.2.1 X.1)) := by
  refine ms_M.of (by decide) (Nat.le_of_ble_eq_true rfl) ?_
  show ms_W false m_X6_cost _ 0 [(0, .ref m), (1, .int kk), (2, .int sd)] [] n G 2 392
  have hl9 := hl
  have hne9 := hne
  obtain ⟨hm, hw_, hk_, ⟨it, hi_, hit⟩, hh_⟩ := hM
  obtain ⟨l1, l2, l3, l4, l5⟩ := hl
  obtain ⟨n1, n2, n3, n4, n5, n6, n7, n8, n9, n10⟩ := hne
  have h196 := fd_196 hW hH
  have hF : ms_fb (E5 m aw am ai ah) n G G := ms_fb.rf
  refine ms_run (pc' := 2) (lv' := [(0, .ref m), (1, .int kk), (2, .int sd)]) (st' := [.int 0, .ref m]) _ (ms_deC dX6_cost_0 (ms_deC dX6_cost_1 ms_deN)) rfl rfl ?_
  refine ms_putf dX6_cost_2 fp_X6_46 hm (Nat.le_of_ble_eq_true rfl) rfl rfl ?_
  obtain ⟨G_1, eG_1⟩ : ∃ K9 : ms_H, K9 = ms_up G m (.inr (6, [.int 0, .int (nI W), .int (nI H), .int X.2.2.2, .int dr, .int pa, .ref aw, .ref am, .int (nI cnt), .ref ai, .ref ah])) := ⟨_, rfl⟩
  refine ms_W.heq eG_1 ?_
  have hF_2 : ms_fb (E5 m aw am ai ah) n G G_1 := by rw [eG_1]; exact ms_fb.up hF (by first | exact Or.inl (by omega) | exact Or.inr rfl | exact Or.inr (Or.inl rfl) | exact Or.inr (Or.inr (Or.inl rfl)) | exact Or.inr (Or.inr (Or.inr rfl)) | exact Or.inr (Or.inr rfl))
  have hf_3 : G_1 m = some (.inr (6, [.int 0, .int (nI W), .int (nI H), .int X.2.2.2, .int dr, .int pa, .ref aw, .ref am, .int (nI cnt), .ref ai, .ref ah])) := by rw [eG_1]; exact ms_up_s _ _ _
  have hf_4 := (congrFun eG_1 aw).trans ((ms_up_n G _ (by omega)).trans hw_)
  have hf_5 := (congrFun eG_1 am).trans ((ms_up_n G _ (by omega)).trans hk_)
  have hf_6 := (congrFun eG_1 ai).trans ((ms_up_n G _ (by omega)).trans hi_)
  have hf_7 := (congrFun eG_1 ah).trans ((ms_up_n G _ (by omega)).trans hh_)
  refine ms_run (pc' := 7) (lv' := [(0, .ref m), (1, .int kk), (2, .int sd)]) (st' := [.int kk, .ref m]) _ (ms_deC dX6_cost_5 (ms_deC dX6_cost_6 ms_deN)) rfl rfl ?_
  refine ms_callVp (As := [.int kk]) dX6_cost_7 (c_X6_isOn (show md_at G_1 m aw am ai ah W H 0 X.2.2.2 dr pa cnt wl mm X.2.1 X.1 from ⟨hf_3, hf_4, hf_5, ⟨it, hf_6, hit⟩, hf_7⟩) hW hH hc kk) cv_X6_110 hf_3 rfl ⟨Nat.le_of_ble_eq_true rfl, Nat.le_of_ble_eq_true rfl⟩ rfl (Nat.le_of_ble_eq_true rfl) ?_
  by_cases hon9 : pIs (nI cnt) kk ∧ ¬ X.1 kk.toNatClampNeg 3 = -1
  · rw [show ms_b (pIs (nI cnt) kk ∧ ¬ X.1 kk.toNatClampNeg 3 = -1) = 1 from if_pos hon9]
    obtain ⟨i, hi, hki⟩ := pIs_nI hc hon9.1
    subst hki
    rw [nI_clamp (n := i) (by omega)] at hon9
    obtain ⟨own, ho, hpo⟩ := pos_of hW hH hV.2.1 hi hon9.2
    obtain ⟨g, hg, hgo⟩ := gl_nI (hV.2.2.1 i hi).1
    rw [nI_clamp (n := i) (by omega)]
    refine ms_if_ne (tgt := 19) dX6_cost_10 (by decide) (fun _ => ?_) (fun h9 => absurd h9 (by decide))
    refine ms_run (pc' := 22) (lv' := [(0, .ref m), (1, .int (nI i)), (2, .int sd)]) (st' := [.int 4, .int 0, .int sd]) _ (ms_deC dX6_cost_19 (ms_deC dX6_cost_20 (ms_deC dX6_cost_21 ms_deN))) rfl rfl ?_
    refine ms_callSp (As := [.int sd, .int 0, .int 4]) dX6_cost_22 (c_X6_isIn sd 0 4) cs_X6_49 rfl ⟨Nat.le_of_ble_eq_true rfl, Nat.le_of_ble_eq_true rfl⟩ rfl (Nat.le_of_ble_eq_true rfl) ?_
    by_cases hsd : 0 ≤ sd ∧ sd ≤ 4
    · rw [show ms_b (0 ≤ sd ∧ sd ≤ 4) = 1 from if_pos hsd]
      obtain ⟨s9, hs9, hse⟩ := nI_of2 (M := 4) (n := 4) rfl (Int32.not_lt.mpr hsd.1) hsd.2
      subst hse
      refine ms_if_eq (tgt := 42) dX6_cost_25 (by decide) (fun h9 => absurd h9 (by decide)) (fun _ => ?_)
      refine ms_run (pc' := 33) (lv' := [(0, .ref m), (1, .int (nI i)), (2, .int (nI s9))]) (st' := [.int (nI i), .ref m, .int (nI s9), .int (nI i), .ref m]) _ (ms_deC dX6_cost_28 (ms_deC dX6_cost_29 (ms_deC dX6_cost_30 (ms_deC dX6_cost_31 (ms_deC dX6_cost_32 ms_deN))))) rfl rfl ?_
      refine ms_W.room (k2 := 2 + 0) (z2 := 392 + 0) ?_ (by omega) (by omega)
      refine ms_callV (As := [.int (nI i)]) dX6_cost_33 (c_X6_farOf (show md_at G_1 m aw am ai ah W H 0 X.2.2.2 dr pa cnt wl mm X.2.1 X.1 from ⟨hf_3, hf_4, hf_5, ⟨it, hf_6, hit⟩, hf_7⟩) hl9 hW hH hW0 hc hne9 hL hmm hds hd hi hg hgo) cv_X6_148 hf_3 rfl ⟨Nat.le_of_ble_eq_true rfl, Nat.le_of_ble_eq_true rfl⟩ rfl (Nat.le_of_ble_eq_true rfl) (fun v9 n9 K_fr hp9 => ?_)
      obtain ⟨hv9, rfl, hF_fr, hrow⟩ := hp9
      cases hv9
      have hM2 := md_at.fb (show md_at G_1 m aw am ai ah W H 0 X.2.2.2 dr pa cnt wl mm X.2.1 X.1 from ⟨hf_3, hf_4, hf_5, ⟨it, hf_6, hit⟩, hf_7⟩) hF_fr hl9
      have hF2 := ms_fb.trans hF_2 hF_fr (Nat.le_refl n)
      obtain ⟨hm2, hw2, hk2, ⟨it2, hi2, hit2⟩, hh2⟩ := id hM2
      have hc9 := c_X6_costAny (n := n + 2) (D := dXg (W * H) nr wl mk g) hM2 hW hH hc hW0 hL hV.1 hV.2.1 hrow hi hpo ho hs9
      rw [cost_any (ds := ds) hL hc hW hH hV.1 hV.2.1 hi hpo ho hg hgo (hds g hg) hs9] at hc9
      refine ms_callVp (As := [.int (nI i), .int (nI s9), .ref n]) dX6_cost_36 (hc9) cv_X6_113 hm2 rfl ⟨Nat.le_of_ble_eq_true rfl, Nat.le_of_ble_eq_true rfl⟩ rfl (Nat.le_of_ble_eq_true rfl) ?_
      refine ms_goto (tgt := 47) dX6_cost_39 (by decide) ?_
      refine ms_reti (st := []) (ty := .int) dX6_cost_47 rfl rfl ?_
      exact mq_P.ok (by unfold th_onw; rw [nI_clamp (n := i) (by omega), if_neg (by rintro (z9 | z9); exact z9 hon9.1; exact hon9.2 z9), if_neg (by rintro (z9 | z9); exact Int32.not_lt.mpr hsd.1 z9; exact Int32.not_lt.mpr hsd.2 z9)]) (by omega) hF2 rfl hM2
    · rw [show ms_b (0 ≤ sd ∧ sd ≤ 4) = 0 from if_neg hsd]
      refine ms_if_eq (tgt := 42) dX6_cost_25 (by decide) (fun _ => ?_) (fun h9 => absurd h9 (by decide))
      refine ms_run (pc' := 44) (lv' := [(0, .ref m), (1, .int (nI i)), (2, .int sd)]) (st' := [.int 2, .ref m]) _ (ms_deC dX6_cost_42 (ms_deC dX6_cost_43 ms_deN)) rfl rfl ?_
      refine ms_callV0 (As := [.int 2]) dX6_cost_44 (c_X6_no (show md_at G_1 m aw am ai ah W H 0 X.2.2.2 dr pa cnt wl mm X.2.1 X.1 from ⟨hf_3, hf_4, hf_5, ⟨it, hf_6, hit⟩, hf_7⟩) hne9 2) cv_X6_79 hf_3 rfl ⟨Nat.le_of_ble_eq_true rfl, Nat.le_of_ble_eq_true rfl⟩ rfl (Nat.le_of_ble_eq_true rfl) (fun v9 n9 K_no hp9 => ?_)
      obtain ⟨hv9, rfl, hF_no, hM_no⟩ := hp9
      cases hv9
      refine ms_reti (st := []) (ty := .int) dX6_cost_47 rfl rfl ?_
      exact mq_P.no (show th_onw cnt X.1 (nI i) (sd < 0 ∨ 4 < sd) = some IAE from by unfold th_onw; rw [nI_clamp (n := i) (by omega)]; grind) (by omega) (ms_fb.trans2 hF_2 (hF_no.mono (fun a h => Or.inl h)) (by omega)) rfl hM_no
  · rw [show ms_b (pIs (nI cnt) kk ∧ ¬ X.1 kk.toNatClampNeg 3 = -1) = 0 from if_neg hon9]
    refine ms_if_ne (tgt := 19) dX6_cost_10 (by decide) (fun h9 => absurd h9 (by decide)) (fun _ => ?_)
    refine ms_run (pc' := 15) (lv' := [(0, .ref m), (1, .int kk), (2, .int sd)]) (st' := [.int 1, .ref m]) _ (ms_deC dX6_cost_13 (ms_deC dX6_cost_14 ms_deN)) rfl rfl ?_
    refine ms_callV0 (As := [.int 1]) dX6_cost_15 (c_X6_no (show md_at G_1 m aw am ai ah W H 0 X.2.2.2 dr pa cnt wl mm X.2.1 X.1 from ⟨hf_3, hf_4, hf_5, ⟨it, hf_6, hit⟩, hf_7⟩) hne9 1) cv_X6_79 hf_3 rfl ⟨Nat.le_of_ble_eq_true rfl, Nat.le_of_ble_eq_true rfl⟩ rfl (Nat.le_of_ble_eq_true rfl) (fun v9 n9 K_no hp9 => ?_)
    obtain ⟨hv9, rfl, hF_no, hM_no⟩ := hp9
    cases hv9
    refine ms_reti (st := []) (ty := .int) dX6_cost_18 rfl rfl ?_
    exact mq_P.no (show th_onw cnt X.1 kk (sd < 0 ∨ 4 < sd) = some IOB from by unfold th_onw; grind) (by omega) (ms_fb.trans2 hF_2 (hF_no.mono (fun a h => Or.inl h)) (by omega)) rfl hM_no

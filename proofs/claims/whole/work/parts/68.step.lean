/-! the model: tickNow over the class's world; small methods -/
theorem ms_fb.mono {E E2 : Nat → Prop} {n : Nat} {G G1 : ms_H} (h : ms_fb E n G G1) (e : ∀ a, E a → E2 a) : ms_fb E2 n G G1 := fun a h1 h2 => h a h1 (fun z => h2 (e a z))
theorem ms_fb.less {E : Nat → Prop} {n n2 : Nat} {G G1 : ms_H} (h : ms_fb E n2 G G1) (e : n ≤ n2) : ms_fb E n G G1 := fun a h1 h2 => h a (by omega) h2
abbrev E5 (m aw am ai ah : Nat) : Nat → Prop := fun a => a = m ∨ a = aw ∨ a = am ∨ a = ai ∨ a = ah
theorem E35 {m aw am ai ah : Nat} : ∀ a, E3 m ai ah a → E5 m aw am ai ah a := fun a h => by
  rcases h with h | h | h
  · exact Or.inl h
  · exact Or.inr (Or.inr (Or.inr (Or.inl h)))
  · exact Or.inr (Or.inr (Or.inr (Or.inr h)))
theorem nI_dif {a b : Nat} (h : a + b < 1000000) : nI (a + b) - nI a = nI b := by
  rw [nI_sub h (by omega)]
  congr 1
  omega
theorem c_X6_step {n m aw am ai ah W H cnt N : Nat} {G : ms_H} {th dr pa : Int32} {wl mm : Nat → Int32} {X : cX} {nr mk ds : Nat → Int32} (hM : md_at G m aw am ai ah W H th X.2.2.2 dr pa cnt wl mm X.2.1 X.1) (hl : md_lt n m aw am ai ah) (hW : W ≤ 14) (hH : H ≤ 14) (hW0 : 0 < W) (hc : cnt ≤ 24) (hne : md_ne m aw am ai ah) (hL : lk_ok W H (W * H) nr) (hmm : mmR (W * H) mk mm) (hds : dsR (W * H) nr wl mk ds) (hd : 0 ≤ dr ∧ dr ≤ 9) (hN : N < 1000000) (hV : wdV W H cnt N X) {fr lo hi9 : Nat} (hfa : fa_at G fr lo hi9 (W * H) (dXg (W * H) nr wl mk)) (hlo : m < lo ∧ ai < lo ∧ ah < lo) (hfr : lo ≤ fr ∧ fr < n) (hhi : hi9 ≤ n) : ms_M m_X6_tickNow [.ref m, .ref fr] n G 3 72 (fun r9 n1 G1 => r9 = .inl (some (.int (nI (ct (pOut (stX1 (nI (W * H)) nr mk ds cnt dr X).1) cnt) - nI (ct (pOut X.1) cnt)))) ∧ n1 = n + 3 ∧ ms_fb (E3 m ai ah) n G G1 ∧ md_at G1 m aw am ai ah W H th (stX1 (nI (W * H)) nr mk ds cnt dr X).2.2.2 dr pa cnt wl mm (stX1 (nI (W * H)) nr mk ds cnt dr X).2.1 (stX1 (nI (W * H)) nr mk ds cnt dr X).1) := by
  refine (c_X6_tickNow hM hW hH hc hl hne hW0 hL hV.1 hV.2.1 hV.2.2.1 hd hds hfa hlo hfr hhi hmm).mono (fun v n1 G1 h => ?_)
  obtain ⟨h1, h2, h3, h4⟩ := h
  have e := st_out (mk := mk) (dr := dr) (ds := ds) hN hL hW hH hc hV
  have e1 := ct_le (pOut (stX1 (nI (W * H)) nr mk ds cnt dr X).1) cnt
  refine ⟨?_, h2, h3, ?_⟩
  · rw [e, nI_dif (by omega)]; exact h1
  · rw [st_ht (mk := mk) (dr := dr) (ds := ds) hN hL hW hH hc hV] at h4
    exact h4.uc (st_uw (mk := mk) (dr := dr) (ds := ds) hN hL hW hH hc hV)
set_option maxHeartbeats 1000000 in
set_option maxRecDepth 20000 in
theorem c_X6_no {n m aw am ai ah W H cnt : Nat} {G : ms_H} {th cl dr pa : Int32} {wl mm ht : Nat → Int32} {u : Nat → Nat → Int32} (hM : md_at G m aw am ai ah W H th cl dr pa cnt wl mm ht u) (hne : md_ne m aw am ai ah) (v : Int32) : ms_M m_X6_no [.ref m, .int v] n G 0 0 (fun r9 n9 G1 => r9 = .inl (some (.int 0)) ∧ n9 = n ∧ ms_fb (fun a => a = m) n G G1 ∧ md_at G1 m aw am ai ah W H v cl dr pa cnt wl mm ht u) := by
  refine ms_M.of (by decide) (Nat.le_of_ble_eq_true rfl) ?_
  show ms_W false m_X6_no _ 0 [(0, .ref m), (1, .int v)] [] n G 0 0
  obtain ⟨hm, hw_, hk_, ⟨it, hi_, hit⟩, hh_⟩ := hM
  obtain ⟨n1, n2, n3, n4, n5, n6, n7, n8, n9, n10⟩ := hne
  have hF : ms_fb (fun a => a = m) n G G := ms_fb.rf
  refine ms_run (pc' := 2) (lv' := [(0, .ref m), (1, .int v)]) (st' := [.int v, .ref m]) _ (ms_deC dX6_no_0 (ms_deC dX6_no_1 ms_deN)) rfl rfl ?_
  refine ms_putf dX6_no_2 fp_X6_46 hm (Nat.le_of_ble_eq_true rfl) rfl rfl ?_
  obtain ⟨G_1, eG_1⟩ : ∃ K9 : ms_H, K9 = ms_up G m (.inr (6, [.int v, .int (nI W), .int (nI H), .int cl, .int dr, .int pa, .ref aw, .ref am, .int (nI cnt), .ref ai, .ref ah])) := ⟨_, rfl⟩
  refine ms_W.heq eG_1 ?_
  have hF_2 : ms_fb (fun a => a = m) n G G_1 := by rw [eG_1]; exact ms_fb.up hF (by first | exact Or.inl (by omega) | exact Or.inr rfl | exact Or.inr (Or.inl rfl) | exact Or.inr (Or.inr (Or.inl rfl)) | exact Or.inr (Or.inr (Or.inr rfl)) | exact Or.inr (Or.inr rfl))
  have hf_3 : G_1 m = some (.inr (6, [.int v, .int (nI W), .int (nI H), .int cl, .int dr, .int pa, .ref aw, .ref am, .int (nI cnt), .ref ai, .ref ah])) := by rw [eG_1]; exact ms_up_s _ _ _
  have hf_4 := (congrFun eG_1 aw).trans ((ms_up_n G _ (by omega)).trans hw_)
  have hf_5 := (congrFun eG_1 am).trans ((ms_up_n G _ (by omega)).trans hk_)
  have hf_6 := (congrFun eG_1 ai).trans ((ms_up_n G _ (by omega)).trans hi_)
  have hf_7 := (congrFun eG_1 ah).trans ((ms_up_n G _ (by omega)).trans hh_)
  refine ms_run (pc' := 6) (lv' := [(0, .ref m), (1, .int v)]) (st' := [.int 0]) _ (ms_deC dX6_no_5 ms_deN) rfl rfl ?_
  refine ms_reti (st := []) (ty := .int) dX6_no_6 rfl rfl ?_
  exact ⟨rfl, rfl, hF_2, ⟨hf_3, hf_4, hf_5, ⟨it, hf_6, hit⟩, hf_7⟩⟩
set_option maxHeartbeats 1000000 in
set_option maxRecDepth 20000 in
theorem c_X6_ok {n m aw am ai ah W H cnt : Nat} {G : ms_H} {th cl dr pa : Int32} {wl mm ht : Nat → Int32} {u : Nat → Nat → Int32} (hM : md_at G m aw am ai ah W H th cl dr pa cnt wl mm ht u) (hne : md_ne m aw am ai ah) (v : Int32) : ms_M m_X6_ok [.ref m, .int v] n G 0 0 (fun r9 n9 G1 => r9 = .inl (some (.int v)) ∧ n9 = n ∧ ms_fb (fun a => a = m) n G G1 ∧ md_at G1 m aw am ai ah W H 0 cl dr pa cnt wl mm ht u) := by
  refine ms_M.of (by decide) (Nat.le_of_ble_eq_true rfl) ?_
  show ms_W false m_X6_ok _ 0 [(0, .ref m), (1, .int v)] [] n G 0 0
  obtain ⟨hm, hw_, hk_, ⟨it, hi_, hit⟩, hh_⟩ := hM
  obtain ⟨n1, n2, n3, n4, n5, n6, n7, n8, n9, n10⟩ := hne
  have hF : ms_fb (fun a => a = m) n G G := ms_fb.rf
  refine ms_run (pc' := 2) (lv' := [(0, .ref m), (1, .int v)]) (st' := [.int 0, .ref m]) _ (ms_deC dX6_ok_0 (ms_deC dX6_ok_1 ms_deN)) rfl rfl ?_
  refine ms_putf dX6_ok_2 fp_X6_46 hm (Nat.le_of_ble_eq_true rfl) rfl rfl ?_
  obtain ⟨G_1, eG_1⟩ : ∃ K9 : ms_H, K9 = ms_up G m (.inr (6, [.int 0, .int (nI W), .int (nI H), .int cl, .int dr, .int pa, .ref aw, .ref am, .int (nI cnt), .ref ai, .ref ah])) := ⟨_, rfl⟩
  refine ms_W.heq eG_1 ?_
  have hF_2 : ms_fb (fun a => a = m) n G G_1 := by rw [eG_1]; exact ms_fb.up hF (by first | exact Or.inl (by omega) | exact Or.inr rfl | exact Or.inr (Or.inl rfl) | exact Or.inr (Or.inr (Or.inl rfl)) | exact Or.inr (Or.inr (Or.inr rfl)) | exact Or.inr (Or.inr rfl))
  have hf_3 : G_1 m = some (.inr (6, [.int 0, .int (nI W), .int (nI H), .int cl, .int dr, .int pa, .ref aw, .ref am, .int (nI cnt), .ref ai, .ref ah])) := by rw [eG_1]; exact ms_up_s _ _ _
  have hf_4 := (congrFun eG_1 aw).trans ((ms_up_n G _ (by omega)).trans hw_)
  have hf_5 := (congrFun eG_1 am).trans ((ms_up_n G _ (by omega)).trans hk_)
  have hf_6 := (congrFun eG_1 ai).trans ((ms_up_n G _ (by omega)).trans hi_)
  have hf_7 := (congrFun eG_1 ah).trans ((ms_up_n G _ (by omega)).trans hh_)
  refine ms_run (pc' := 6) (lv' := [(0, .ref m), (1, .int v)]) (st' := [.int v]) _ (ms_deC dX6_ok_5 ms_deN) rfl rfl ?_
  refine ms_reti (st := []) (ty := .int) dX6_ok_6 rfl rfl ?_
  exact ⟨rfl, rfl, hF_2, ⟨hf_3, hf_4, hf_5, ⟨it, hf_6, hit⟩, hf_7⟩⟩
set_option maxHeartbeats 2000000 in
set_option maxRecDepth 20000 in
theorem c_X6_thrown {n m aw am ai ah W H cnt : Nat} {G : ms_H} {th cl dr pa : Int32} {wl mm ht : Nat → Int32} {u : Nat → Nat → Int32} (hM : md_at G m aw am ai ah W H th cl dr pa cnt wl mm ht u) : ms_M m_X6_thrown [.ref m] n G 0 0 (ms_p1 (some (.int th)) n G) := by
  refine ms_M.of (by decide) (Nat.le_of_ble_eq_true rfl) ?_
  show ms_W false m_X6_thrown _ 0 [(0, .ref m)] [] n G 0 0
  obtain ⟨hm, hw_, hk_, ⟨it, hi_, hit⟩, hh_⟩ := hM
  refine ms_run (pc' := 1) (lv' := [(0, .ref m)]) (st' := [.ref m]) _ (ms_deC dX6_thrown_0 ms_deN) rfl rfl ?_
  refine ms_getf dX6_thrown_1 fg_X6_46 hm rfl ?_
  refine ms_reti (st := []) (ty := .int) dX6_thrown_4 rfl rfl ?_
  exact ms_p1.mk rfl rfl

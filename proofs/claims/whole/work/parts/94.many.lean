/-! the model: manyNow, many, jamNow, jam -/
set_option maxHeartbeats 1000000 in
set_option maxRecDepth 20000 in
theorem l4_X6_manyNow {n m aw am ai ah W H cnt N : Nat} {G : ms_H} {th dr pa : Int32} {wl mm : Nat → Int32} {X : cX} {nr mk ds : Nat → Int32} (hM : md_at G m aw am ai ah W H th X.2.2.2 dr pa cnt wl mm X.2.1 X.1) (hl : md_lt n m aw am ai ah) (hW : W ≤ 14) (hH : H ≤ 14) (hW0 : 0 < W) (hc : cnt ≤ 24) (hne : md_ne m aw am ai ah) (hL : lk_ok W H (W * H) nr) (hmm : mmR (W * H) mk mm) (hds : dsR (W * H) nr wl mk ds) (hd : 0 ≤ dr ∧ dr ≤ 9) (hN : N < 1000000) (hV : wdV W H cnt N X) {a : Nat} {f : Nat → Int32} {L : Nat → Nat} (hr : G a = some (.inl (0, cnt, .inl f))) (hjL : jL (jbR cnt pa X.1) (nbR cnt nr X.2.2.1 X.1) L) (hjF : jF (jbR cnt pa X.1) L cnt f) {fr lo hi9 : Nat} (hfa : fa_at G fr lo hi9 (W * H) (dXg (W * H) nr wl mk)) {M : Nat} (hMh : M < 1000000) (hhe : heB M (W * H) X.2.1) (hp : 0 < W * H) : ∀ (r k : Nat), k + r = cnt →  ms_W false m_X6_manyNow (ms_p1 (some (.int (nI (ct (fun j => decide (f j = nI j)) cnt)))) n G) 75 [(0, .ref m), (2, .ref a), (4, .int (nI (ct (fun j => decide (f j = nI j)) k))), (5, .int (nI k))] [] n G 0 0 := by
  have hM9 := hM
  obtain ⟨hm, hw_, hk_, ⟨it, hi_, hit⟩, hh_⟩ := hM
  obtain ⟨l1, l2, l3, l4, l5⟩ := hl
  obtain ⟨n1, n2, n3, n4, n5, n6, n7, n8, n9, n10⟩ := hne
  have h196 := fd_196 hW hH
  have hfa9 := hfa
  obtain ⟨f9, hf1, hf2⟩ := hfa
  intro r
  induction r with
  | zero =>
    intro k hk 
    have hkN : k = cnt := by omega
    refine ms_run (pc' := 78) (lv' := [(0, .ref m), (2, .ref a), (4, .int (nI (ct (fun j => decide (f j = nI j)) k))), (5, .int (nI k))]) (st' := [.ref m, .int (nI k)]) _ (ms_deC dX6_manyNow_75 (ms_deC dX6_manyNow_77 ms_deN)) rfl rfl ?_
    refine ms_getf dX6_manyNow_78 fg_X6_36 hm rfl ?_
    refine ms_icmp_ge (tgt := 109) dX6_manyNow_81 (by decide) (fun h_81 => ?_) (fun h_81 => ?_)
    · skip
      refine ms_run (pc' := 111) (lv' := [(0, .ref m), (2, .ref a), (4, .int (nI (ct (fun j => decide (f j = nI j)) k))), (5, .int (nI k))]) (st' := [.int (nI (ct (fun j => decide (f j = nI j)) k))]) _ (ms_deC dX6_manyNow_109 ms_deN) rfl rfl ?_
      refine ms_reti (st := []) (ty := .int) dX6_manyNow_111 rfl rfl ?_
      exact ms_p1.mk (by rw [hkN]) rfl
    · skip
      exact absurd (by exact nI_le (b := k) (by omega) (by omega)) h_81
  | succ r ih =>
    intro k hk 
    have hlt : k < cnt := by omega
    refine ms_run (pc' := 78) (lv' := [(0, .ref m), (2, .ref a), (4, .int (nI (ct (fun j => decide (f j = nI j)) k))), (5, .int (nI k))]) (st' := [.ref m, .int (nI k)]) _ (ms_deC dX6_manyNow_75 (ms_deC dX6_manyNow_77 ms_deN)) rfl rfl ?_
    refine ms_getf dX6_manyNow_78 fg_X6_36 hm rfl ?_
    refine ms_icmp_ge (tgt := 109) dX6_manyNow_81 (by decide) (fun h_81 => ?_) (fun h_81 => ?_)
    · skip
      exact absurd h_81 (by exact nI_ge (b := cnt) (by omega) (by omega))
    · skip
      refine ms_run (pc' := 89) (lv' := [(0, .ref m), (2, .ref a), (4, .int (nI (ct (fun j => decide (f j = nI j)) k))), (5, .int (nI k))]) (st' := [.int (nI k), .ref a, .int (nI (ct (fun j => decide (f j = nI j)) k))]) _ (ms_deC dX6_manyNow_84 (ms_deC dX6_manyNow_86 (ms_deC dX6_manyNow_87 ms_deN))) rfl rfl ?_
      refine ms_iaload dX6_manyNow_89 hr (vp_in_nI (by omega) (by omega)) ?_
      rw [nI_clamp (n := k) (by omega)]
      refine ms_run (pc' := 92) (lv' := [(0, .ref m), (2, .ref a), (4, .int (nI (ct (fun j => decide (f j = nI j)) k))), (5, .int (nI k))]) (st' := [.int (nI k), .int (f k), .int (nI (ct (fun j => decide (f j = nI j)) k))]) _ (ms_deC dX6_manyNow_90 ms_deN) rfl rfl ?_
      refine ms_icmp_ne (tgt := 99) dX6_manyNow_92 (by decide) (fun h_92 => ?_) (fun h_92 => ?_)
      · skip
        refine ms_run (pc' := 106) (lv' := [(5, .int ((nI k) + 1)), (4, .int ((nI (ct (fun j => decide (f j = nI j)) k)) + 0)), (0, .ref m), (2, .ref a)]) (st' := []) _ (ms_deC dX6_manyNow_99 (ms_deC dX6_manyNow_100 (ms_deC dX6_manyNow_101 (ms_deC dX6_manyNow_103 ms_deN)))) rfl rfl ?_
        refine ms_goto (tgt := 75) dX6_manyNow_106 (by decide) ?_
        have hq : (fun j => decide (f j = nI j)) k = false := decide_eq_false h_92
        rw [Int32.add_zero, ct_f (p := (fun j => decide (f j = nI j))) hq]
        rw [nI_1 k]
        refine ms_W.sub (lv2 := [(0, _), (2, _), (4, _), (5, _)]) ?_ [2, 3, 1, 0] rfl
        exact ih (k + 1) (by omega)
      · skip
        refine ms_run (pc' := 96) (lv' := [(0, .ref m), (2, .ref a), (4, .int (nI (ct (fun j => decide (f j = nI j)) k))), (5, .int (nI k))]) (st' := [.int 1, .int (nI (ct (fun j => decide (f j = nI j)) k))]) _ (ms_deC dX6_manyNow_95 ms_deN) rfl rfl ?_
        refine ms_goto (tgt := 100) dX6_manyNow_96 (by decide) ?_
        refine ms_run (pc' := 106) (lv' := [(5, .int ((nI k) + 1)), (4, .int ((nI (ct (fun j => decide (f j = nI j)) k)) + 1)), (0, .ref m), (2, .ref a)]) (st' := []) _ (ms_deC dX6_manyNow_100 (ms_deC dX6_manyNow_101 (ms_deC dX6_manyNow_103 ms_deN))) rfl rfl ?_
        refine ms_goto (tgt := 75) dX6_manyNow_106 (by decide) ?_
        have hq : (fun j => decide (f j = nI j)) k = true := decide_eq_true (by first | exact h_92 | exact Decidable.not_not.mp h_92)
        rw [ct_t (p := (fun j => decide (f j = nI j))) hq]
        rw [nI_1 k]
        refine ms_W.sub (lv2 := [(0, _), (2, _), (4, _), (5, _)]) ?_ [2, 3, 1, 0] rfl
        exact ih (k + 1) (by omega)
set_option maxHeartbeats 1000000 in
set_option maxRecDepth 20000 in
theorem l5_X6_manyNow {n m aw am ai ah W H cnt N : Nat} {G : ms_H} {th dr pa : Int32} {wl mm : Nat → Int32} {X : cX} {nr mk ds : Nat → Int32} (hM : md_at G m aw am ai ah W H th X.2.2.2 dr pa cnt wl mm X.2.1 X.1) (hl : md_lt n m aw am ai ah) (hW : W ≤ 14) (hH : H ≤ 14) (hW0 : 0 < W) (hc : cnt ≤ 24) (hne : md_ne m aw am ai ah) (hL : lk_ok W H (W * H) nr) (hmm : mmR (W * H) mk mm) (hds : dsR (W * H) nr wl mk ds) (hd : 0 ≤ dr ∧ dr ≤ 9) (hN : N < 1000000) (hV : wdV W H cnt N X) {a : Nat} {f : Nat → Int32} {L : Nat → Nat} (hr : G a = some (.inl (0, cnt, .inl f))) (hjL : jL (jbR cnt pa X.1) (nbR cnt nr X.2.2.1 X.1) L) (hjF : jF (jbR cnt pa X.1) L cnt f) {fr lo hi9 : Nat} (hfa : fa_at G fr lo hi9 (W * H) (dXg (W * H) nr wl mk)) {M : Nat} (hMh : M < 1000000) (hhe : heB M (W * H) X.2.1) (hp : 0 < W * H) : ∀ (r k : Nat), k + r = cnt →  ms_W false m_X6_manyNow (ms_p1 (some (.int (mxc f cnt cnt))) n G) 115 [(0, .ref m), (2, .ref a), (4, .int (mxc f cnt k)), (5, .int (nI k))] [] n G 0 0 := by
  have hM9 := hM
  obtain ⟨hm, hw_, hk_, ⟨it, hi_, hit⟩, hh_⟩ := hM
  obtain ⟨l1, l2, l3, l4, l5⟩ := hl
  obtain ⟨n1, n2, n3, n4, n5, n6, n7, n8, n9, n10⟩ := hne
  have h196 := fd_196 hW hH
  have hfa9 := hfa
  obtain ⟨f9, hf1, hf2⟩ := hfa
  intro r
  induction r with
  | zero =>
    intro k hk 
    have hkN : k = cnt := by omega
    refine ms_run (pc' := 118) (lv' := [(0, .ref m), (2, .ref a), (4, .int (mxc f cnt k)), (5, .int (nI k))]) (st' := [.ref m, .int (nI k)]) _ (ms_deC dX6_manyNow_115 (ms_deC dX6_manyNow_117 ms_deN)) rfl rfl ?_
    refine ms_getf dX6_manyNow_118 fg_X6_36 hm rfl ?_
    refine ms_icmp_ge (tgt := 143) dX6_manyNow_121 (by decide) (fun h_121 => ?_) (fun h_121 => ?_)
    · skip
      refine ms_run (pc' := 145) (lv' := [(0, .ref m), (2, .ref a), (4, .int (mxc f cnt k)), (5, .int (nI k))]) (st' := [.int (mxc f cnt k)]) _ (ms_deC dX6_manyNow_143 ms_deN) rfl rfl ?_
      refine ms_reti (st := []) (ty := .int) dX6_manyNow_145 rfl rfl ?_
      exact ms_p1.mk (by rw [hkN]) rfl
    · skip
      exact absurd (by exact nI_le (b := k) (by omega) (by omega)) h_121
  | succ r ih =>
    intro k hk 
    have hlt : k < cnt := by omega
    refine ms_run (pc' := 118) (lv' := [(0, .ref m), (2, .ref a), (4, .int (mxc f cnt k)), (5, .int (nI k))]) (st' := [.ref m, .int (nI k)]) _ (ms_deC dX6_manyNow_115 (ms_deC dX6_manyNow_117 ms_deN)) rfl rfl ?_
    refine ms_getf dX6_manyNow_118 fg_X6_36 hm rfl ?_
    refine ms_icmp_ge (tgt := 143) dX6_manyNow_121 (by decide) (fun h_121 => ?_) (fun h_121 => ?_)
    · skip
      exact absurd h_121 (by exact nI_ge (b := cnt) (by omega) (by omega))
    · skip
      refine ms_run (pc' := 129) (lv' := [(0, .ref m), (2, .ref a), (4, .int (mxc f cnt k)), (5, .int (nI k))]) (st' := [.int (nI k), .ref a, .int (mxc f cnt k)]) _ (ms_deC dX6_manyNow_124 (ms_deC dX6_manyNow_126 (ms_deC dX6_manyNow_127 ms_deN))) rfl rfl ?_
      refine ms_callSp (As := [.ref a, .int (nI k)]) dX6_manyNow_129 (c_X6_count hr (by omega) (nI k)) cs_X6_132 rfl ⟨Nat.le_of_ble_eq_true rfl, Nat.le_of_ble_eq_true rfl⟩ rfl (Nat.le_of_ble_eq_true rfl) ?_
      refine ms_max dX6_manyNow_132 mm_X6_85 ⟨Nat.le_of_ble_eq_true rfl, Nat.le_of_ble_eq_true rfl⟩ (Nat.le_of_ble_eq_true rfl) ?_
      rw [show (if (mxc f cnt k) < (nI (ct (fun j => decide (f j = nI k)) cnt)) then (nI (ct (fun j => decide (f j = nI k)) cnt)) else (mxc f cnt k)) = mxc f cnt (k + 1) from rfl]
      refine ms_run (pc' := 140) (lv' := [(5, .int ((nI k) + 1)), (4, .int (mxc f cnt (k + 1))), (0, .ref m), (2, .ref a)]) (st' := []) _ (ms_deC dX6_manyNow_135 (ms_deC dX6_manyNow_137 ms_deN)) rfl rfl ?_
      refine ms_goto (tgt := 115) dX6_manyNow_140 (by decide) ?_
      rw [nI_1 k]
      refine ms_W.sub (lv2 := [(0, _), (2, _), (4, _), (5, _)]) ?_ [2, 3, 1, 0] rfl
      exact ih (k + 1) (by omega)
set_option maxHeartbeats 1000000 in
set_option maxRecDepth 20000 in
theorem l8_X6_manyNow {n m aw am ai ah W H cnt N : Nat} {G : ms_H} {th dr pa : Int32} {wl mm : Nat → Int32} {X : cX} {nr mk ds : Nat → Int32} (hM : md_at G m aw am ai ah W H th X.2.2.2 dr pa cnt wl mm X.2.1 X.1) (hl : md_lt n m aw am ai ah) (hW : W ≤ 14) (hH : H ≤ 14) (hW0 : 0 < W) (hc : cnt ≤ 24) (hne : md_ne m aw am ai ah) (hL : lk_ok W H (W * H) nr) (hmm : mmR (W * H) mk mm) (hds : dsR (W * H) nr wl mk ds) (hd : 0 ≤ dr ∧ dr ≤ 9) (hN : N < 1000000) (hV : wdV W H cnt N X) {a : Nat} {f : Nat → Int32} {L : Nat → Nat} (hr : G a = some (.inl (0, cnt, .inl f))) (hjL : jL (jbR cnt pa X.1) (nbR cnt nr X.2.2.1 X.1) L) (hjF : jF (jbR cnt pa X.1) L cnt f) {fr lo hi9 : Nat} (hfa : fa_at G fr lo hi9 (W * H) (dXg (W * H) nr wl mk)) {M : Nat} (hMh : M < 1000000) (hhe : heB M (W * H) X.2.1) (hp : 0 < W * H) : ∀ (r k : Nat), k + r = hx X.2.1 (W * H - 1) →  ms_W false m_X6_manyNow (ms_p1 (some (.int (nI (hx X.2.1 (W * H - 1))))) n G) 154 [(0, .ref m), (4, .int (nI k))] [] n G 0 0 := by
  have hM9 := hM
  obtain ⟨hm, hw_, hk_, ⟨it, hi_, hit⟩, hh_⟩ := hM
  obtain ⟨l1, l2, l3, l4, l5⟩ := hl
  obtain ⟨n1, n2, n3, n4, n5, n6, n7, n8, n9, n10⟩ := hne
  have h196 := fd_196 hW hH
  have hfa9 := hfa
  obtain ⟨f9, hf1, hf2⟩ := hfa
  obtain ⟨hmx, hx2, hx3⟩ := mx_hx hMh (W * H - 1) (by rw [Nat.sub_add_cancel hp]; exact hhe)
  rw [Nat.sub_add_cancel hp] at hmx
  have hxl := hx_le X.2.1 (W * H - 1)
  intro r
  induction r with
  | zero =>
    intro k hk 
    have hkN : k = hx X.2.1 (W * H - 1) := by omega
    refine ms_run (pc' := 155) (lv' := [(0, .ref m), (4, .int (nI k))]) (st' := [.ref m]) _ (ms_deC dX6_manyNow_154 ms_deN) rfl rfl ?_
    refine ms_getf dX6_manyNow_155 fg_X6_43 hm rfl ?_
    refine ms_run (pc' := 160) (lv' := [(0, .ref m), (4, .int (nI k))]) (st' := [.int (nI k), .ref ah]) _ (ms_deC dX6_manyNow_158 ms_deN) rfl rfl ?_
    refine ms_iaload dX6_manyNow_160 hh_ (vp_in_nI (by omega) (by omega)) ?_
    rw [nI_clamp (n := k) (by omega)]
    refine ms_run (pc' := 162) (lv' := [(0, .ref m), (4, .int (nI k))]) (st' := [.ref m, .int (X.2.1 k)]) _ (ms_deC dX6_manyNow_161 ms_deN) rfl rfl ?_
    refine ms_getf dX6_manyNow_162 fg_X6_43 hm rfl ?_
    refine ms_callSp (As := [.ref ah]) dX6_manyNow_165 (c_X6_most hh_ (by omega)) cs_X6_100 rfl ⟨Nat.le_of_ble_eq_true rfl, Nat.le_of_ble_eq_true rfl⟩ rfl (Nat.le_of_ble_eq_true rfl) ?_
    refine ms_icmp_ge (tgt := 177) dX6_manyNow_168 (by decide) (fun h_168 => ?_) (fun h_168 => ?_)
    · skip
      refine ms_run (pc' := 179) (lv' := [(0, .ref m), (4, .int (nI k))]) (st' := [.int (nI k)]) _ (ms_deC dX6_manyNow_177 ms_deN) rfl rfl ?_
      refine ms_reti (st := []) (ty := .int) dX6_manyNow_179 rfl rfl ?_
      exact ms_p1.mk (by rw [hkN]) rfl
    · skip
      exact absurd (by rw [hmx, hkN]; exact Int32.le_refl _) h_168
  | succ r ih =>
    intro k hk 
    have hlt : k < hx X.2.1 (W * H - 1) := by omega
    refine ms_run (pc' := 155) (lv' := [(0, .ref m), (4, .int (nI k))]) (st' := [.ref m]) _ (ms_deC dX6_manyNow_154 ms_deN) rfl rfl ?_
    refine ms_getf dX6_manyNow_155 fg_X6_43 hm rfl ?_
    refine ms_run (pc' := 160) (lv' := [(0, .ref m), (4, .int (nI k))]) (st' := [.int (nI k), .ref ah]) _ (ms_deC dX6_manyNow_158 ms_deN) rfl rfl ?_
    refine ms_iaload dX6_manyNow_160 hh_ (vp_in_nI (by omega) (by omega)) ?_
    rw [nI_clamp (n := k) (by omega)]
    refine ms_run (pc' := 162) (lv' := [(0, .ref m), (4, .int (nI k))]) (st' := [.ref m, .int (X.2.1 k)]) _ (ms_deC dX6_manyNow_161 ms_deN) rfl rfl ?_
    refine ms_getf dX6_manyNow_162 fg_X6_43 hm rfl ?_
    refine ms_callSp (As := [.ref ah]) dX6_manyNow_165 (c_X6_most hh_ (by omega)) cs_X6_100 rfl ⟨Nat.le_of_ble_eq_true rfl, Nat.le_of_ble_eq_true rfl⟩ rfl (Nat.le_of_ble_eq_true rfl) ?_
    refine ms_icmp_ge (tgt := 177) dX6_manyNow_168 (by decide) (fun h_168 => ?_) (fun h_168 => ?_)
    · skip
      exact absurd (hx3 k hlt) (Int32.not_lt.mpr (by rw [← hmx]; exact h_168))
    · skip
      refine ms_run (pc' := 174) (lv' := [(4, .int ((nI k) + 1)), (0, .ref m)]) (st' := []) _ (ms_deC dX6_manyNow_171 ms_deN) rfl rfl ?_
      refine ms_goto (tgt := 154) dX6_manyNow_174 (by decide) ?_
      rw [nI_1 k]
      refine ms_W.sub (lv2 := [(0, _), (4, _)]) ?_ [1, 0] rfl
      exact ih (k + 1) (by omega)
set_option maxHeartbeats 1000000 in
set_option maxRecDepth 20000 in
theorem ld1_X6_manyNow {n m aw am ai ah W H cnt N : Nat} {G : ms_H} {th dr pa : Int32} {wl mm : Nat → Int32} {X : cX} {nr mk ds : Nat → Int32} (hM : md_at G m aw am ai ah W H th X.2.2.2 dr pa cnt wl mm X.2.1 X.1) (hl : md_lt n m aw am ai ah) (hW : W ≤ 14) (hH : H ≤ 14) (hW0 : 0 < W) (hc : cnt ≤ 24) (hne : md_ne m aw am ai ah) (hL : lk_ok W H (W * H) nr) (hmm : mmR (W * H) mk mm) (hds : dsR (W * H) nr wl mk ds) (hd : 0 ≤ dr ∧ dr ≤ 9) (hN : N < 1000000) (hV : wdV W H cnt N X) {a : Nat} {f : Nat → Int32} {L : Nat → Nat} (hr : G a = some (.inl (0, cnt, .inl f))) (hjL : jL (jbR cnt pa X.1) (nbR cnt nr X.2.2.1 X.1) L) (hjF : jF (jbR cnt pa X.1) L cnt f) {fr lo hi9 : Nat} (hfa : fa_at G fr lo hi9 (W * H) (dXg (W * H) nr wl mk)) {M : Nat} (hMh : M < 1000000) (hhe : heB M (W * H) X.2.1) (hp : 0 < W * H) : ∀ (r k : Nat), k + r = cnt →  ms_W false m_X6_manyNow (ms_p1 (some (.int (nI (ct (pOut X.1) cnt)))) n G) 183 [(0, .ref m), (1, .int 1), (3, .ref fr), (4, .int (nI (ct (pOut X.1) k))), (5, .int (nI k))] [] n G 0 0 := by
  have hM9 := hM
  obtain ⟨hm, hw_, hk_, ⟨it, hi_, hit⟩, hh_⟩ := hM
  obtain ⟨l1, l2, l3, l4, l5⟩ := hl
  obtain ⟨n1, n2, n3, n4, n5, n6, n7, n8, n9, n10⟩ := hne
  have h196 := fd_196 hW hH
  have hfa9 := hfa
  obtain ⟨f9, hf1, hf2⟩ := hfa
  intro r
  induction r with
  | zero =>
    intro k hk 
    have hkN : k = cnt := by omega
    refine ms_run (pc' := 186) (lv' := [(0, .ref m), (1, .int 1), (3, .ref fr), (4, .int (nI (ct (pOut X.1) k))), (5, .int (nI k))]) (st' := [.ref m, .int (nI k)]) _ (ms_deC dX6_manyNow_183 (ms_deC dX6_manyNow_185 ms_deN)) rfl rfl ?_
    refine ms_getf dX6_manyNow_186 fg_X6_36 hm rfl ?_
    refine ms_icmp_ge (tgt := 292) dX6_manyNow_189 (by decide) (fun h_189 => ?_) (fun h_189 => ?_)
    · skip
      refine ms_run (pc' := 294) (lv' := [(0, .ref m), (1, .int 1), (3, .ref fr), (4, .int (nI (ct (pOut X.1) k))), (5, .int (nI k))]) (st' := [.int (nI (ct (pOut X.1) k))]) _ (ms_deC dX6_manyNow_292 ms_deN) rfl rfl ?_
      refine ms_reti (st := []) (ty := .int) dX6_manyNow_294 rfl rfl ?_
      exact ms_p1.mk (by rw [hkN]) rfl
    · skip
      exact absurd (by exact nI_le (b := k) (by omega) (by omega)) h_189
  | succ r ih =>
    intro k hk 
    have hlt : k < cnt := by omega
    refine ms_run (pc' := 186) (lv' := [(0, .ref m), (1, .int 1), (3, .ref fr), (4, .int (nI (ct (pOut X.1) k))), (5, .int (nI k))]) (st' := [.ref m, .int (nI k)]) _ (ms_deC dX6_manyNow_183 (ms_deC dX6_manyNow_185 ms_deN)) rfl rfl ?_
    refine ms_getf dX6_manyNow_186 fg_X6_36 hm rfl ?_
    refine ms_icmp_ge (tgt := 292) dX6_manyNow_189 (by decide) (fun h_189 => ?_) (fun h_189 => ?_)
    · skip
      exact absurd h_189 (by exact nI_ge (b := cnt) (by omega) (by omega))
    · skip
      refine ms_run (pc' := 197) (lv' := [(0, .ref m), (1, .int 1), (3, .ref fr), (4, .int (nI (ct (pOut X.1) k))), (5, .int (nI k))]) (st' := [.int 6, .int 1, .int (nI (ct (pOut X.1) k))]) _ (ms_deC dX6_manyNow_192 (ms_deC dX6_manyNow_194 (ms_deC dX6_manyNow_195 ms_deN))) rfl rfl ?_
      refine ms_icmp_ne (tgt := 216) dX6_manyNow_197 (by decide) (fun _ => ?_) (fun h9 => absurd h9 (by decide))
      refine ms_run (pc' := 218) (lv' := [(0, .ref m), (1, .int 1), (3, .ref fr), (4, .int (nI (ct (pOut X.1) k))), (5, .int (nI k))]) (st' := [.int 1, .int 1, .int (nI (ct (pOut X.1) k))]) _ (ms_deC dX6_manyNow_216 (ms_deC dX6_manyNow_217 ms_deN)) rfl rfl ?_
      refine ms_icmp_ne (tgt := 238) dX6_manyNow_218 (by decide) (fun h9 => absurd h9 (by decide)) (fun _ => ?_)
      refine ms_run (pc' := 224) (lv' := [(0, .ref m), (1, .int 1), (3, .ref fr), (4, .int (nI (ct (pOut X.1) k))), (5, .int (nI k))]) (st' := [.int (nI k), .ref m, .int (nI (ct (pOut X.1) k))]) _ (ms_deC dX6_manyNow_221 (ms_deC dX6_manyNow_222 ms_deN)) rfl rfl ?_
      refine ms_callVp (As := [.int (nI k)]) dX6_manyNow_224 (c_X6_isOnI hM9 hW hH hc hlt) cv_X6_110 hm rfl ⟨Nat.le_of_ble_eq_true rfl, Nat.le_of_ble_eq_true rfl⟩ rfl (Nat.le_of_ble_eq_true rfl) ?_
      by_cases hon9 : ¬ X.1 k 3 = -1
      · rw [show ms_b (¬ X.1 k 3 = -1) = 1 from if_pos hon9]
        refine ms_if_eq (tgt := 234) dX6_manyNow_227 (by decide) (fun h9 => absurd h9 (by decide)) (fun _ => ?_)
        refine ms_run (pc' := 231) (lv' := [(0, .ref m), (1, .int 1), (3, .ref fr), (4, .int (nI (ct (pOut X.1) k))), (5, .int (nI k))]) (st' := [.int 0, .int (nI (ct (pOut X.1) k))]) _ (ms_deC dX6_manyNow_230 ms_deN) rfl rfl ?_
        refine ms_goto (tgt := 283) dX6_manyNow_231 (by decide) ?_
        refine ms_run (pc' := 289) (lv' := [(5, .int ((nI k) + 1)), (4, .int ((nI (ct (pOut X.1) k)) + 0)), (0, .ref m), (1, .int 1), (3, .ref fr)]) (st' := []) _ (ms_deC dX6_manyNow_283 (ms_deC dX6_manyNow_284 (ms_deC dX6_manyNow_286 ms_deN))) rfl rfl ?_
        refine ms_goto (tgt := 183) dX6_manyNow_289 (by decide) ?_
        have hq : pOut X.1 k = false := decide_eq_false hon9
        rw [Int32.add_zero, ct_f hq]
        rw [nI_1 k]
        refine ms_W.sub (lv2 := [(0, _), (1, _), (3, _), (4, _), (5, _)]) ?_ [2, 3, 4, 1, 0] rfl
        exact ih (k + 1) (by omega)
      · rw [show ms_b (¬ X.1 k 3 = -1) = 0 from if_neg hon9]
        refine ms_if_eq (tgt := 234) dX6_manyNow_227 (by decide) (fun _ => ?_) (fun h9 => absurd h9 (by decide))
        refine ms_run (pc' := 235) (lv' := [(0, .ref m), (1, .int 1), (3, .ref fr), (4, .int (nI (ct (pOut X.1) k))), (5, .int (nI k))]) (st' := [.int 1, .int (nI (ct (pOut X.1) k))]) _ (ms_deC dX6_manyNow_234 ms_deN) rfl rfl ?_
        refine ms_goto (tgt := 283) dX6_manyNow_235 (by decide) ?_
        refine ms_run (pc' := 289) (lv' := [(5, .int ((nI k) + 1)), (4, .int ((nI (ct (pOut X.1) k)) + 1)), (0, .ref m), (1, .int 1), (3, .ref fr)]) (st' := []) _ (ms_deC dX6_manyNow_283 (ms_deC dX6_manyNow_284 (ms_deC dX6_manyNow_286 ms_deN))) rfl rfl ?_
        refine ms_goto (tgt := 183) dX6_manyNow_289 (by decide) ?_
        have hq : pOut X.1 k = true := decide_eq_true (Decidable.not_not.mp hon9)
        rw [ct_t hq]
        rw [nI_1 k]
        refine ms_W.sub (lv2 := [(0, _), (1, _), (3, _), (4, _), (5, _)]) ?_ [2, 3, 4, 1, 0] rfl
        exact ih (k + 1) (by omega)
set_option maxHeartbeats 1000000 in
set_option maxRecDepth 20000 in
theorem ld2_X6_manyNow {n m aw am ai ah W H cnt N : Nat} {G : ms_H} {th dr pa : Int32} {wl mm : Nat → Int32} {X : cX} {nr mk ds : Nat → Int32} (hM : md_at G m aw am ai ah W H th X.2.2.2 dr pa cnt wl mm X.2.1 X.1) (hl : md_lt n m aw am ai ah) (hW : W ≤ 14) (hH : H ≤ 14) (hW0 : 0 < W) (hc : cnt ≤ 24) (hne : md_ne m aw am ai ah) (hL : lk_ok W H (W * H) nr) (hmm : mmR (W * H) mk mm) (hds : dsR (W * H) nr wl mk ds) (hd : 0 ≤ dr ∧ dr ≤ 9) (hN : N < 1000000) (hV : wdV W H cnt N X) {a : Nat} {f : Nat → Int32} {L : Nat → Nat} (hr : G a = some (.inl (0, cnt, .inl f))) (hjL : jL (jbR cnt pa X.1) (nbR cnt nr X.2.2.1 X.1) L) (hjF : jF (jbR cnt pa X.1) L cnt f) {fr lo hi9 : Nat} (hfa : fa_at G fr lo hi9 (W * H) (dXg (W * H) nr wl mk)) {M : Nat} (hMh : M < 1000000) (hhe : heB M (W * H) X.2.1) (hp : 0 < W * H) : ∀ (r k : Nat), k + r = cnt →  ms_W false m_X6_manyNow (ms_p1 (some (.int (nI (ct (pLost (nI (W * H)) ds X.1) cnt)))) n G) 183 [(0, .ref m), (1, .int 2), (3, .ref fr), (4, .int (nI (ct (pLost (nI (W * H)) ds X.1) k))), (5, .int (nI k))] [] n G 0 0 := by
  have hM9 := hM
  obtain ⟨hm, hw_, hk_, ⟨it, hi_, hit⟩, hh_⟩ := hM
  obtain ⟨l1, l2, l3, l4, l5⟩ := hl
  obtain ⟨n1, n2, n3, n4, n5, n6, n7, n8, n9, n10⟩ := hne
  have h196 := fd_196 hW hH
  have hfa9 := hfa
  obtain ⟨f9, hf1, hf2⟩ := hfa
  intro r
  induction r with
  | zero =>
    intro k hk 
    have hkN : k = cnt := by omega
    refine ms_run (pc' := 186) (lv' := [(0, .ref m), (1, .int 2), (3, .ref fr), (4, .int (nI (ct (pLost (nI (W * H)) ds X.1) k))), (5, .int (nI k))]) (st' := [.ref m, .int (nI k)]) _ (ms_deC dX6_manyNow_183 (ms_deC dX6_manyNow_185 ms_deN)) rfl rfl ?_
    refine ms_getf dX6_manyNow_186 fg_X6_36 hm rfl ?_
    refine ms_icmp_ge (tgt := 292) dX6_manyNow_189 (by decide) (fun h_189 => ?_) (fun h_189 => ?_)
    · skip
      refine ms_run (pc' := 294) (lv' := [(0, .ref m), (1, .int 2), (3, .ref fr), (4, .int (nI (ct (pLost (nI (W * H)) ds X.1) k))), (5, .int (nI k))]) (st' := [.int (nI (ct (pLost (nI (W * H)) ds X.1) k))]) _ (ms_deC dX6_manyNow_292 ms_deN) rfl rfl ?_
      refine ms_reti (st := []) (ty := .int) dX6_manyNow_294 rfl rfl ?_
      exact ms_p1.mk (by rw [hkN]) rfl
    · skip
      exact absurd (by exact nI_le (b := k) (by omega) (by omega)) h_189
  | succ r ih =>
    intro k hk 
    have hlt : k < cnt := by omega
    refine ms_run (pc' := 186) (lv' := [(0, .ref m), (1, .int 2), (3, .ref fr), (4, .int (nI (ct (pLost (nI (W * H)) ds X.1) k))), (5, .int (nI k))]) (st' := [.ref m, .int (nI k)]) _ (ms_deC dX6_manyNow_183 (ms_deC dX6_manyNow_185 ms_deN)) rfl rfl ?_
    refine ms_getf dX6_manyNow_186 fg_X6_36 hm rfl ?_
    refine ms_icmp_ge (tgt := 292) dX6_manyNow_189 (by decide) (fun h_189 => ?_) (fun h_189 => ?_)
    · skip
      exact absurd h_189 (by exact nI_ge (b := cnt) (by omega) (by omega))
    · skip
      refine ms_run (pc' := 197) (lv' := [(0, .ref m), (1, .int 2), (3, .ref fr), (4, .int (nI (ct (pLost (nI (W * H)) ds X.1) k))), (5, .int (nI k))]) (st' := [.int 6, .int 2, .int (nI (ct (pLost (nI (W * H)) ds X.1) k))]) _ (ms_deC dX6_manyNow_192 (ms_deC dX6_manyNow_194 (ms_deC dX6_manyNow_195 ms_deN))) rfl rfl ?_
      refine ms_icmp_ne (tgt := 216) dX6_manyNow_197 (by decide) (fun _ => ?_) (fun h9 => absurd h9 (by decide))
      refine ms_run (pc' := 218) (lv' := [(0, .ref m), (1, .int 2), (3, .ref fr), (4, .int (nI (ct (pLost (nI (W * H)) ds X.1) k))), (5, .int (nI k))]) (st' := [.int 1, .int 2, .int (nI (ct (pLost (nI (W * H)) ds X.1) k))]) _ (ms_deC dX6_manyNow_216 (ms_deC dX6_manyNow_217 ms_deN)) rfl rfl ?_
      refine ms_icmp_ne (tgt := 238) dX6_manyNow_218 (by decide) (fun _ => ?_) (fun h9 => absurd h9 (by decide))
      refine ms_run (pc' := 241) (lv' := [(0, .ref m), (1, .int 2), (3, .ref fr), (4, .int (nI (ct (pLost (nI (W * H)) ds X.1) k))), (5, .int (nI k))]) (st' := [.int (nI k), .ref m, .int (nI (ct (pLost (nI (W * H)) ds X.1) k))]) _ (ms_deC dX6_manyNow_238 (ms_deC dX6_manyNow_239 ms_deN)) rfl rfl ?_
      refine ms_callVp (As := [.int (nI k)]) dX6_manyNow_241 (c_X6_isOnI hM9 hW hH hc hlt) cv_X6_110 hm rfl ⟨Nat.le_of_ble_eq_true rfl, Nat.le_of_ble_eq_true rfl⟩ rfl (Nat.le_of_ble_eq_true rfl) ?_
      by_cases hon9 : ¬ X.1 k 3 = -1
      · rw [show ms_b (¬ X.1 k 3 = -1) = 1 from if_pos hon9]
        refine ms_if_eq (tgt := 282) dX6_manyNow_244 (by decide) (fun h9 => absurd h9 (by decide)) (fun _ => ?_)
        refine ms_run (pc' := 249) (lv' := [(0, .ref m), (1, .int 2), (3, .ref fr), (4, .int (nI (ct (pLost (nI (W * H)) ds X.1) k))), (5, .int (nI k))]) (st' := [.ref m, .ref fr, .int (nI (ct (pLost (nI (W * H)) ds X.1) k))]) _ (ms_deC dX6_manyNow_247 (ms_deC dX6_manyNow_248 ms_deN)) rfl rfl ?_
        refine ms_getf dX6_manyNow_249 fg_X6_39 hm rfl ?_
        refine ms_run (pc' := 259) (lv' := [(0, .ref m), (1, .int 2), (3, .ref fr), (4, .int (nI (ct (pLost (nI (W * H)) ds X.1) k))), (5, .int (nI k))]) (st' := [.int (((nI k) * 8) + 0), .ref ai, .ref fr, .int (nI (ct (pLost (nI (W * H)) ds X.1) k))]) _ (ms_deC dX6_manyNow_252 (ms_deC dX6_manyNow_254 (ms_deC dX6_manyNow_256 (ms_deC dX6_manyNow_257 (ms_deC dX6_manyNow_258 ms_deN))))) rfl rfl ?_
        refine ms_iaload dX6_manyNow_259 hi_ (md_in (k := k) (j := 0) (Nat.lt_of_lt_of_le hlt hc) (by omega)) ?_
        rw [show it (((nI k) * 8) + 0).toNatClampNeg = X.1 k 0 from md_it (k := k) (j := 0) hit hlt hc (by omega)]
        obtain ⟨g, hg, hgo⟩ := gl_nI (hV.2.2.1 k hlt).1
        rw [hgo]
        refine ms_aaloadA dX6_manyNow_260 hf1 (vp_in_nI hg (by omega)) ?_
        rw [nI_clamp (n := g) (by omega)]
        obtain ⟨bb, eb, eb1, eb2, eb3⟩ := hf2 g hg
        rw [eb]
        show ms_W _ _ _ _ _ (.ref bb :: _) _ _ _ _
        refine ms_run (pc' := 262) (lv' := [(0, .ref m), (1, .int 2), (3, .ref fr), (4, .int (nI (ct (pLost (nI (W * H)) ds X.1) k))), (5, .int (nI k))]) (st' := [.ref m, .ref bb, .int (nI (ct (pLost (nI (W * H)) ds X.1) k))]) _ (ms_deC dX6_manyNow_261 ms_deN) rfl rfl ?_
        refine ms_getf dX6_manyNow_262 fg_X6_39 hm rfl ?_
        refine ms_run (pc' := 272) (lv' := [(0, .ref m), (1, .int 2), (3, .ref fr), (4, .int (nI (ct (pLost (nI (W * H)) ds X.1) k))), (5, .int (nI k))]) (st' := [.int (((nI k) * 8) + 3), .ref ai, .ref bb, .int (nI (ct (pLost (nI (W * H)) ds X.1) k))]) _ (ms_deC dX6_manyNow_265 (ms_deC dX6_manyNow_267 (ms_deC dX6_manyNow_269 (ms_deC dX6_manyNow_270 (ms_deC dX6_manyNow_271 ms_deN))))) rfl rfl ?_
        refine ms_iaload dX6_manyNow_272 hi_ (md_in (k := k) (j := 3) (Nat.lt_of_lt_of_le hlt hc) (by omega)) ?_
        rw [show it (((nI k) * 8) + 3).toNatClampNeg = X.1 k 3 from md_it (k := k) (j := 3) hit hlt hc (by omega)]
        obtain ⟨own, ho, hpo⟩ := pos_of hW hH hV.2.1 hlt hon9
        rw [hpo]
        refine ms_iaload dX6_manyNow_273 eb3 (vp_in_nI ho (by omega)) ?_
        rw [nI_clamp (n := own) (by omega)]
        refine ms_run (pc' := 275) (lv' := [(0, .ref m), (1, .int 2), (3, .ref fr), (4, .int (nI (ct (pLost (nI (W * H)) ds X.1) k))), (5, .int (nI k))]) (st' := [.int (-1), .int (dXg (W * H) nr wl mk g own), .int (nI (ct (pLost (nI (W * H)) ds X.1) k))]) _ (ms_deC dX6_manyNow_274 ms_deN) rfl rfl ?_
        refine ms_icmp_ne (tgt := 282) dX6_manyNow_275 (by decide) (fun h_275 => ?_) (fun h_275 => ?_)
        · skip
          refine ms_run (pc' := 289) (lv' := [(5, .int ((nI k) + 1)), (4, .int ((nI (ct (pLost (nI (W * H)) ds X.1) k)) + 0)), (0, .ref m), (1, .int 2), (3, .ref fr)]) (st' := []) _ (ms_deC dX6_manyNow_282 (ms_deC dX6_manyNow_283 (ms_deC dX6_manyNow_284 (ms_deC dX6_manyNow_286 ms_deN)))) rfl rfl ?_
          refine ms_goto (tgt := 183) dX6_manyNow_289 (by decide) ?_
          have hq : pLost (nI (W * H)) ds X.1 k = false := decide_eq_false (fun z9 => h_275 (by have := z9.2; rw [hgo, hpo, sq_dsI ds rfl h196 ho hg, hds g hg own ho] at this; exact this))
          rw [Int32.add_zero, ct_f hq]
          rw [nI_1 k]
          refine ms_W.sub (lv2 := [(0, _), (1, _), (3, _), (4, _), (5, _)]) ?_ [2, 3, 4, 1, 0] rfl
          exact ih (k + 1) (by omega)
        · skip
          refine ms_run (pc' := 279) (lv' := [(0, .ref m), (1, .int 2), (3, .ref fr), (4, .int (nI (ct (pLost (nI (W * H)) ds X.1) k))), (5, .int (nI k))]) (st' := [.int 1, .int (nI (ct (pLost (nI (W * H)) ds X.1) k))]) _ (ms_deC dX6_manyNow_278 ms_deN) rfl rfl ?_
          refine ms_goto (tgt := 283) dX6_manyNow_279 (by decide) ?_
          refine ms_run (pc' := 289) (lv' := [(5, .int ((nI k) + 1)), (4, .int ((nI (ct (pLost (nI (W * H)) ds X.1) k)) + 1)), (0, .ref m), (1, .int 2), (3, .ref fr)]) (st' := []) _ (ms_deC dX6_manyNow_283 (ms_deC dX6_manyNow_284 (ms_deC dX6_manyNow_286 ms_deN))) rfl rfl ?_
          refine ms_goto (tgt := 183) dX6_manyNow_289 (by decide) ?_
          have hq : pLost (nI (W * H)) ds X.1 k = true := decide_eq_true ⟨hon9, by rw [hgo, hpo, sq_dsI ds rfl h196 ho hg, hds g hg own ho]; first | exact h_275 | exact Decidable.not_not.mp h_275⟩
          rw [ct_t hq]
          rw [nI_1 k]
          refine ms_W.sub (lv2 := [(0, _), (1, _), (3, _), (4, _), (5, _)]) ?_ [2, 3, 4, 1, 0] rfl
          exact ih (k + 1) (by omega)
      · rw [show ms_b (¬ X.1 k 3 = -1) = 0 from if_neg hon9]
        refine ms_if_eq (tgt := 282) dX6_manyNow_244 (by decide) (fun _ => ?_) (fun h9 => absurd h9 (by decide))
        refine ms_run (pc' := 289) (lv' := [(5, .int ((nI k) + 1)), (4, .int ((nI (ct (pLost (nI (W * H)) ds X.1) k)) + 0)), (0, .ref m), (1, .int 2), (3, .ref fr)]) (st' := []) _ (ms_deC dX6_manyNow_282 (ms_deC dX6_manyNow_283 (ms_deC dX6_manyNow_284 (ms_deC dX6_manyNow_286 ms_deN)))) rfl rfl ?_
        refine ms_goto (tgt := 183) dX6_manyNow_289 (by decide) ?_
        have hq : pLost (nI (W * H)) ds X.1 k = false := decide_eq_false (fun z9 => hon9 z9.1)
        rw [Int32.add_zero, ct_f hq]
        rw [nI_1 k]
        refine ms_W.sub (lv2 := [(0, _), (1, _), (3, _), (4, _), (5, _)]) ?_ [2, 3, 4, 1, 0] rfl
        exact ih (k + 1) (by omega)
set_option maxHeartbeats 1000000 in
set_option maxRecDepth 20000 in
theorem ld6_X6_manyNow {n m aw am ai ah W H cnt N : Nat} {G : ms_H} {th dr pa : Int32} {wl mm : Nat → Int32} {X : cX} {nr mk ds : Nat → Int32} (hM : md_at G m aw am ai ah W H th X.2.2.2 dr pa cnt wl mm X.2.1 X.1) (hl : md_lt n m aw am ai ah) (hW : W ≤ 14) (hH : H ≤ 14) (hW0 : 0 < W) (hc : cnt ≤ 24) (hne : md_ne m aw am ai ah) (hL : lk_ok W H (W * H) nr) (hmm : mmR (W * H) mk mm) (hds : dsR (W * H) nr wl mk ds) (hd : 0 ≤ dr ∧ dr ≤ 9) (hN : N < 1000000) (hV : wdV W H cnt N X) {a : Nat} {f : Nat → Int32} {L : Nat → Nat} (hr : G a = some (.inl (0, cnt, .inl f))) (hjL : jL (jbR cnt pa X.1) (nbR cnt nr X.2.2.1 X.1) L) (hjF : jF (jbR cnt pa X.1) L cnt f) {fr lo hi9 : Nat} (hfa : fa_at G fr lo hi9 (W * H) (dXg (W * H) nr wl mk)) {M : Nat} (hMh : M < 1000000) (hhe : heB M (W * H) X.2.1) (hp : 0 < W * H) : ∀ (r k : Nat), k + r = cnt →  ms_W false m_X6_manyNow (ms_p1 (some (.int (sm (vStep 0 X.1) cnt))) n G) 183 [(0, .ref m), (1, .int 6), (3, .ref fr), (4, .int (sm (vStep 0 X.1) k)), (5, .int (nI k))] [] n G 0 0 := by
  have hM9 := hM
  obtain ⟨hm, hw_, hk_, ⟨it, hi_, hit⟩, hh_⟩ := hM
  obtain ⟨l1, l2, l3, l4, l5⟩ := hl
  obtain ⟨n1, n2, n3, n4, n5, n6, n7, n8, n9, n10⟩ := hne
  have h196 := fd_196 hW hH
  have hfa9 := hfa
  obtain ⟨f9, hf1, hf2⟩ := hfa
  intro r
  induction r with
  | zero =>
    intro k hk 
    have hkN : k = cnt := by omega
    refine ms_run (pc' := 186) (lv' := [(0, .ref m), (1, .int 6), (3, .ref fr), (4, .int (sm (vStep 0 X.1) k)), (5, .int (nI k))]) (st' := [.ref m, .int (nI k)]) _ (ms_deC dX6_manyNow_183 (ms_deC dX6_manyNow_185 ms_deN)) rfl rfl ?_
    refine ms_getf dX6_manyNow_186 fg_X6_36 hm rfl ?_
    refine ms_icmp_ge (tgt := 292) dX6_manyNow_189 (by decide) (fun h_189 => ?_) (fun h_189 => ?_)
    · skip
      refine ms_run (pc' := 294) (lv' := [(0, .ref m), (1, .int 6), (3, .ref fr), (4, .int (sm (vStep 0 X.1) k)), (5, .int (nI k))]) (st' := [.int (sm (vStep 0 X.1) k)]) _ (ms_deC dX6_manyNow_292 ms_deN) rfl rfl ?_
      refine ms_reti (st := []) (ty := .int) dX6_manyNow_294 rfl rfl ?_
      exact ms_p1.mk (by rw [hkN]) rfl
    · skip
      exact absurd (by exact nI_le (b := k) (by omega) (by omega)) h_189
  | succ r ih =>
    intro k hk 
    have hlt : k < cnt := by omega
    refine ms_run (pc' := 186) (lv' := [(0, .ref m), (1, .int 6), (3, .ref fr), (4, .int (sm (vStep 0 X.1) k)), (5, .int (nI k))]) (st' := [.ref m, .int (nI k)]) _ (ms_deC dX6_manyNow_183 (ms_deC dX6_manyNow_185 ms_deN)) rfl rfl ?_
    refine ms_getf dX6_manyNow_186 fg_X6_36 hm rfl ?_
    refine ms_icmp_ge (tgt := 292) dX6_manyNow_189 (by decide) (fun h_189 => ?_) (fun h_189 => ?_)
    · skip
      exact absurd h_189 (by exact nI_ge (b := cnt) (by omega) (by omega))
    · skip
      refine ms_run (pc' := 197) (lv' := [(0, .ref m), (1, .int 6), (3, .ref fr), (4, .int (sm (vStep 0 X.1) k)), (5, .int (nI k))]) (st' := [.int 6, .int 6, .int (sm (vStep 0 X.1) k)]) _ (ms_deC dX6_manyNow_192 (ms_deC dX6_manyNow_194 (ms_deC dX6_manyNow_195 ms_deN))) rfl rfl ?_
      refine ms_icmp_ne (tgt := 216) dX6_manyNow_197 (by decide) (fun h9 => absurd h9 (by decide)) (fun _ => ?_)
      refine ms_run (pc' := 201) (lv' := [(0, .ref m), (1, .int 6), (3, .ref fr), (4, .int (sm (vStep 0 X.1) k)), (5, .int (nI k))]) (st' := [.ref m, .int (sm (vStep 0 X.1) k)]) _ (ms_deC dX6_manyNow_200 ms_deN) rfl rfl ?_
      refine ms_getf dX6_manyNow_201 fg_X6_39 hm rfl ?_
      refine ms_run (pc' := 212) (lv' := [(0, .ref m), (1, .int 6), (3, .ref fr), (4, .int (sm (vStep 0 X.1) k)), (5, .int (nI k))]) (st' := [.int (((nI k) * 8) + 6), .ref ai, .int (sm (vStep 0 X.1) k)]) _ (ms_deC dX6_manyNow_204 (ms_deC dX6_manyNow_206 (ms_deC dX6_manyNow_208 (ms_deC dX6_manyNow_209 (ms_deC dX6_manyNow_211 ms_deN))))) rfl rfl ?_
      refine ms_iaload dX6_manyNow_212 hi_ (md_in (k := k) (j := 6) (Nat.lt_of_lt_of_le hlt hc) (by omega)) ?_
      rw [show it (((nI k) * 8) + 6).toNatClampNeg = X.1 k 6 from md_it (k := k) (j := 6) hit hlt hc (by omega)]
      refine ms_goto (tgt := 283) dX6_manyNow_213 (by decide) ?_
      refine ms_run (pc' := 289) (lv' := [(5, .int ((nI k) + 1)), (4, .int ((sm (vStep 0 X.1) k) + (X.1 k 6))), (0, .ref m), (1, .int 6), (3, .ref fr)]) (st' := []) _ (ms_deC dX6_manyNow_283 (ms_deC dX6_manyNow_284 (ms_deC dX6_manyNow_286 ms_deN))) rfl rfl ?_
      refine ms_goto (tgt := 183) dX6_manyNow_289 (by decide) ?_
      rw [sm_t (f := vStep 0 X.1) (v := X.1 k 6) (if_pos (Or.inl rfl))]
      rw [nI_1 k]
      refine ms_W.sub (lv2 := [(0, _), (1, _), (3, _), (4, _), (5, _)]) ?_ [2, 3, 4, 1, 0] rfl
      exact ih (k + 1) (by omega)
set_option maxHeartbeats 2000000 in
set_option maxRecDepth 20000 in
theorem c_X6_manyNow0 {n m aw am ai ah W H cnt N : Nat} {G : ms_H} {th dr pa : Int32} {wl mm : Nat → Int32} {X : cX} {nr mk ds : Nat → Int32} (hM : md_at G m aw am ai ah W H th X.2.2.2 dr pa cnt wl mm X.2.1 X.1) (hl : md_lt n m aw am ai ah) (hW : W ≤ 14) (hH : H ≤ 14) (hW0 : 0 < W) (hc : cnt ≤ 24) (hne : md_ne m aw am ai ah) (hL : lk_ok W H (W * H) nr) (hmm : mmR (W * H) mk mm) (hds : dsR (W * H) nr wl mk ds) (hd : 0 ≤ dr ∧ dr ≤ 9) (hN : N < 1000000) (hV : wdV W H cnt N X) {a : Nat} {f : Nat → Int32} {L : Nat → Nat} (hr : G a = some (.inl (0, cnt, .inl f))) (hjL : jL (jbR cnt pa X.1) (nbR cnt nr X.2.2.1 X.1) L) (hjF : jF (jbR cnt pa X.1) L cnt f) {fr lo hi9 : Nat} (hfa : fa_at G fr lo hi9 (W * H) (dXg (W * H) nr wl mk)) {M : Nat} (hMh : M < 1000000) (hhe : heB M (W * H) X.2.1) (hp : 0 < W * H) : ms_M m_X6_manyNow [.ref m, .int 0, .ref a, .ref fr] n G 0 0 (ms_p1 (some (.int (cfX (W * H) ds cnt X (jxX pa cnt nr X) 0))) n G) := by
  refine ms_M.of (by decide) (Nat.le_of_ble_eq_true rfl) ?_
  show ms_W false m_X6_manyNow _ 0 [(0, .ref m), (1, .int 0), (2, .ref a), (3, .ref fr)] [] n G 0 0
  have hl8 := hl
  have hne8 := hne
  have hM9 := hM
  obtain ⟨hm, hw_, hk_, ⟨it, hi_, hit⟩, hh_⟩ := hM
  obtain ⟨l1, l2, l3, l4, l5⟩ := hl
  obtain ⟨n1, n2, n3, n4, n5, n6, n7, n8, n9, n10⟩ := hne
  have h196 := fd_196 hW hH
  have hfa9 := hfa
  obtain ⟨f9, hf1, hf2⟩ := hfa
  obtain ⟨hmx, hx2, hx3⟩ := mx_hx hMh (W * H - 1) (by rw [Nat.sub_add_cancel hp]; exact hhe)
  rw [Nat.sub_add_cancel hp] at hmx
  have hxl := hx_le X.2.1 (W * H - 1)
  refine ms_run (pc' := 4) (lv' := [(4, .int 0), (0, .ref m), (1, .int 0), (2, .ref a), (3, .ref fr)]) (st' := [.int 0]) _ (ms_deC dX6_manyNow_0 (ms_deC dX6_manyNow_1 (ms_deC dX6_manyNow_3 ms_deN))) rfl rfl ?_
  refine ms_tabIn (off := 52) (tgt := 56) dX6_manyNow_4 (by decide) (by decide) (by decide) (by decide) ?_
  refine ms_run (pc' := 57) (lv' := [(4, .int 0), (0, .ref m), (1, .int 0), (2, .ref a), (3, .ref fr)]) (st' := [.ref m]) _ (ms_deC dX6_manyNow_56 ms_deN) rfl rfl ?_
  refine ms_getf dX6_manyNow_57 fg_X6_36 hm rfl ?_
  refine ms_reti (st := []) (ty := .int) dX6_manyNow_60 rfl rfl ?_
  exact ms_p1.mk rfl rfl
set_option maxHeartbeats 2000000 in
set_option maxRecDepth 20000 in
theorem c_X6_manyNow1 {n m aw am ai ah W H cnt N : Nat} {G : ms_H} {th dr pa : Int32} {wl mm : Nat → Int32} {X : cX} {nr mk ds : Nat → Int32} (hM : md_at G m aw am ai ah W H th X.2.2.2 dr pa cnt wl mm X.2.1 X.1) (hl : md_lt n m aw am ai ah) (hW : W ≤ 14) (hH : H ≤ 14) (hW0 : 0 < W) (hc : cnt ≤ 24) (hne : md_ne m aw am ai ah) (hL : lk_ok W H (W * H) nr) (hmm : mmR (W * H) mk mm) (hds : dsR (W * H) nr wl mk ds) (hd : 0 ≤ dr ∧ dr ≤ 9) (hN : N < 1000000) (hV : wdV W H cnt N X) {a : Nat} {f : Nat → Int32} {L : Nat → Nat} (hr : G a = some (.inl (0, cnt, .inl f))) (hjL : jL (jbR cnt pa X.1) (nbR cnt nr X.2.2.1 X.1) L) (hjF : jF (jbR cnt pa X.1) L cnt f) {fr lo hi9 : Nat} (hfa : fa_at G fr lo hi9 (W * H) (dXg (W * H) nr wl mk)) {M : Nat} (hMh : M < 1000000) (hhe : heB M (W * H) X.2.1) (hp : 0 < W * H) : ms_M m_X6_manyNow [.ref m, .int 1, .ref a, .ref fr] n G 0 0 (ms_p1 (some (.int (cfX (W * H) ds cnt X (jxX pa cnt nr X) 1))) n G) := by
  refine ms_M.of (by decide) (Nat.le_of_ble_eq_true rfl) ?_
  show ms_W false m_X6_manyNow _ 0 [(0, .ref m), (1, .int 1), (2, .ref a), (3, .ref fr)] [] n G 0 0
  have hl8 := hl
  have hne8 := hne
  have hM9 := hM
  obtain ⟨hm, hw_, hk_, ⟨it, hi_, hit⟩, hh_⟩ := hM
  obtain ⟨l1, l2, l3, l4, l5⟩ := hl
  obtain ⟨n1, n2, n3, n4, n5, n6, n7, n8, n9, n10⟩ := hne
  have h196 := fd_196 hW hH
  have hfa9 := hfa
  obtain ⟨f9, hf1, hf2⟩ := hfa
  obtain ⟨hmx, hx2, hx3⟩ := mx_hx hMh (W * H - 1) (by rw [Nat.sub_add_cancel hp]; exact hhe)
  rw [Nat.sub_add_cancel hp] at hmx
  have hxl := hx_le X.2.1 (W * H - 1)
  refine ms_run (pc' := 4) (lv' := [(4, .int 0), (0, .ref m), (1, .int 1), (2, .ref a), (3, .ref fr)]) (st' := [.int 1]) _ (ms_deC dX6_manyNow_0 (ms_deC dX6_manyNow_1 (ms_deC dX6_manyNow_3 ms_deN))) rfl rfl ?_
  refine ms_tabIn (off := 176) (tgt := 180) dX6_manyNow_4 (by decide) (by decide) (by decide) (by decide) ?_
  refine ms_run (pc' := 183) (lv' := [(5, .int 0), (4, .int 0), (0, .ref m), (1, .int 1), (2, .ref a), (3, .ref fr)]) (st' := []) _ (ms_deC dX6_manyNow_180 (ms_deC dX6_manyNow_181 ms_deN)) rfl rfl ?_
  refine ms_W.sub (lv2 := [(0, _), (1, _), (3, _), (4, _), (5, _)]) ?_ [2, 3, 5, 1, 0] rfl
  exact ld1_X6_manyNow hM9 hl8 hW hH hW0 hc hne8 hL hmm hds hd hN hV hr hjL hjF hfa9 hMh hhe hp cnt 0 (by omega)
set_option maxHeartbeats 2000000 in
set_option maxRecDepth 20000 in
theorem c_X6_manyNow2 {n m aw am ai ah W H cnt N : Nat} {G : ms_H} {th dr pa : Int32} {wl mm : Nat → Int32} {X : cX} {nr mk ds : Nat → Int32} (hM : md_at G m aw am ai ah W H th X.2.2.2 dr pa cnt wl mm X.2.1 X.1) (hl : md_lt n m aw am ai ah) (hW : W ≤ 14) (hH : H ≤ 14) (hW0 : 0 < W) (hc : cnt ≤ 24) (hne : md_ne m aw am ai ah) (hL : lk_ok W H (W * H) nr) (hmm : mmR (W * H) mk mm) (hds : dsR (W * H) nr wl mk ds) (hd : 0 ≤ dr ∧ dr ≤ 9) (hN : N < 1000000) (hV : wdV W H cnt N X) {a : Nat} {f : Nat → Int32} {L : Nat → Nat} (hr : G a = some (.inl (0, cnt, .inl f))) (hjL : jL (jbR cnt pa X.1) (nbR cnt nr X.2.2.1 X.1) L) (hjF : jF (jbR cnt pa X.1) L cnt f) {fr lo hi9 : Nat} (hfa : fa_at G fr lo hi9 (W * H) (dXg (W * H) nr wl mk)) {M : Nat} (hMh : M < 1000000) (hhe : heB M (W * H) X.2.1) (hp : 0 < W * H) : ms_M m_X6_manyNow [.ref m, .int 2, .ref a, .ref fr] n G 0 0 (ms_p1 (some (.int (cfX (W * H) ds cnt X (jxX pa cnt nr X) 2))) n G) := by
  refine ms_M.of (by decide) (Nat.le_of_ble_eq_true rfl) ?_
  show ms_W false m_X6_manyNow _ 0 [(0, .ref m), (1, .int 2), (2, .ref a), (3, .ref fr)] [] n G 0 0
  have hl8 := hl
  have hne8 := hne
  have hM9 := hM
  obtain ⟨hm, hw_, hk_, ⟨it, hi_, hit⟩, hh_⟩ := hM
  obtain ⟨l1, l2, l3, l4, l5⟩ := hl
  obtain ⟨n1, n2, n3, n4, n5, n6, n7, n8, n9, n10⟩ := hne
  have h196 := fd_196 hW hH
  have hfa9 := hfa
  obtain ⟨f9, hf1, hf2⟩ := hfa
  obtain ⟨hmx, hx2, hx3⟩ := mx_hx hMh (W * H - 1) (by rw [Nat.sub_add_cancel hp]; exact hhe)
  rw [Nat.sub_add_cancel hp] at hmx
  have hxl := hx_le X.2.1 (W * H - 1)
  refine ms_run (pc' := 4) (lv' := [(4, .int 0), (0, .ref m), (1, .int 2), (2, .ref a), (3, .ref fr)]) (st' := [.int 2]) _ (ms_deC dX6_manyNow_0 (ms_deC dX6_manyNow_1 (ms_deC dX6_manyNow_3 ms_deN))) rfl rfl ?_
  refine ms_tabIn (off := 176) (tgt := 180) dX6_manyNow_4 (by decide) (by decide) (by decide) (by decide) ?_
  refine ms_run (pc' := 183) (lv' := [(5, .int 0), (4, .int 0), (0, .ref m), (1, .int 2), (2, .ref a), (3, .ref fr)]) (st' := []) _ (ms_deC dX6_manyNow_180 (ms_deC dX6_manyNow_181 ms_deN)) rfl rfl ?_
  refine ms_W.sub (lv2 := [(0, _), (1, _), (3, _), (4, _), (5, _)]) ?_ [2, 3, 5, 1, 0] rfl
  exact ld2_X6_manyNow hM9 hl8 hW hH hW0 hc hne8 hL hmm hds hd hN hV hr hjL hjF hfa9 hMh hhe hp cnt 0 (by omega)
set_option maxHeartbeats 2000000 in
set_option maxRecDepth 20000 in
theorem c_X6_manyNow3 {n m aw am ai ah W H cnt N : Nat} {G : ms_H} {th dr pa : Int32} {wl mm : Nat → Int32} {X : cX} {nr mk ds : Nat → Int32} (hM : md_at G m aw am ai ah W H th X.2.2.2 dr pa cnt wl mm X.2.1 X.1) (hl : md_lt n m aw am ai ah) (hW : W ≤ 14) (hH : H ≤ 14) (hW0 : 0 < W) (hc : cnt ≤ 24) (hne : md_ne m aw am ai ah) (hL : lk_ok W H (W * H) nr) (hmm : mmR (W * H) mk mm) (hds : dsR (W * H) nr wl mk ds) (hd : 0 ≤ dr ∧ dr ≤ 9) (hN : N < 1000000) (hV : wdV W H cnt N X) {a : Nat} {f : Nat → Int32} {L : Nat → Nat} (hr : G a = some (.inl (0, cnt, .inl f))) (hjL : jL (jbR cnt pa X.1) (nbR cnt nr X.2.2.1 X.1) L) (hjF : jF (jbR cnt pa X.1) L cnt f) {fr lo hi9 : Nat} (hfa : fa_at G fr lo hi9 (W * H) (dXg (W * H) nr wl mk)) {M : Nat} (hMh : M < 1000000) (hhe : heB M (W * H) X.2.1) (hp : 0 < W * H) : ms_M m_X6_manyNow [.ref m, .int 3, .ref a, .ref fr] n G 0 0 (ms_p1 (some (.int (cfX (W * H) ds cnt X (jxX pa cnt nr X) 3))) n G) := by
  refine ms_M.of (by decide) (Nat.le_of_ble_eq_true rfl) ?_
  show ms_W false m_X6_manyNow _ 0 [(0, .ref m), (1, .int 3), (2, .ref a), (3, .ref fr)] [] n G 0 0
  have hl8 := hl
  have hne8 := hne
  have hM9 := hM
  obtain ⟨hm, hw_, hk_, ⟨it, hi_, hit⟩, hh_⟩ := hM
  obtain ⟨l1, l2, l3, l4, l5⟩ := hl
  obtain ⟨n1, n2, n3, n4, n5, n6, n7, n8, n9, n10⟩ := hne
  have h196 := fd_196 hW hH
  have hfa9 := hfa
  obtain ⟨f9, hf1, hf2⟩ := hfa
  obtain ⟨hmx, hx2, hx3⟩ := mx_hx hMh (W * H - 1) (by rw [Nat.sub_add_cancel hp]; exact hhe)
  rw [Nat.sub_add_cancel hp] at hmx
  have hxl := hx_le X.2.1 (W * H - 1)
  refine ms_run (pc' := 4) (lv' := [(4, .int 0), (0, .ref m), (1, .int 3), (2, .ref a), (3, .ref fr)]) (st' := [.int 3]) _ (ms_deC dX6_manyNow_0 (ms_deC dX6_manyNow_1 (ms_deC dX6_manyNow_3 ms_deN))) rfl rfl ?_
  refine ms_tabIn (off := 57) (tgt := 61) dX6_manyNow_4 (by decide) (by decide) (by decide) (by decide) ?_
  refine ms_run (pc' := 62) (lv' := [(4, .int 0), (0, .ref m), (1, .int 3), (2, .ref a), (3, .ref fr)]) (st' := [.ref m]) _ (ms_deC dX6_manyNow_61 ms_deN) rfl rfl ?_
  refine ms_getf dX6_manyNow_62 fg_X6_36 hm rfl ?_
  refine ms_run (pc' := 67) (lv' := [(4, .int 0), (0, .ref m), (1, .int 3), (2, .ref a), (3, .ref fr)]) (st' := [.int (-1), .ref a, .int (nI cnt)]) _ (ms_deC dX6_manyNow_65 (ms_deC dX6_manyNow_66 ms_deN)) rfl rfl ?_
  refine ms_callSp (As := [.ref a, .int (-1)]) dX6_manyNow_67 (c_X6_count hr (by omega) (-1)) cs_X6_132 rfl ⟨Nat.le_of_ble_eq_true rfl, Nat.le_of_ble_eq_true rfl⟩ rfl (Nat.le_of_ble_eq_true rfl) ?_
  refine ms_run (pc' := 71) (lv' := [(4, .int 0), (0, .ref m), (1, .int 3), (2, .ref a), (3, .ref fr)]) (st' := [.int ((nI cnt) - (nI (ct (fun j => decide (f j = (-1))) cnt)))]) _ (ms_deC dX6_manyNow_70 ms_deN) rfl rfl ?_
  refine ms_reti (st := []) (ty := .int) dX6_manyNow_71 rfl rfl ?_
  exact ms_p1.mk (ms_int_eq (jam_3 hc jbR_lt hjL hjF)) rfl
set_option maxHeartbeats 2000000 in
set_option maxRecDepth 20000 in
theorem c_X6_manyNow4 {n m aw am ai ah W H cnt N : Nat} {G : ms_H} {th dr pa : Int32} {wl mm : Nat → Int32} {X : cX} {nr mk ds : Nat → Int32} (hM : md_at G m aw am ai ah W H th X.2.2.2 dr pa cnt wl mm X.2.1 X.1) (hl : md_lt n m aw am ai ah) (hW : W ≤ 14) (hH : H ≤ 14) (hW0 : 0 < W) (hc : cnt ≤ 24) (hne : md_ne m aw am ai ah) (hL : lk_ok W H (W * H) nr) (hmm : mmR (W * H) mk mm) (hds : dsR (W * H) nr wl mk ds) (hd : 0 ≤ dr ∧ dr ≤ 9) (hN : N < 1000000) (hV : wdV W H cnt N X) {a : Nat} {f : Nat → Int32} {L : Nat → Nat} (hr : G a = some (.inl (0, cnt, .inl f))) (hjL : jL (jbR cnt pa X.1) (nbR cnt nr X.2.2.1 X.1) L) (hjF : jF (jbR cnt pa X.1) L cnt f) {fr lo hi9 : Nat} (hfa : fa_at G fr lo hi9 (W * H) (dXg (W * H) nr wl mk)) {M : Nat} (hMh : M < 1000000) (hhe : heB M (W * H) X.2.1) (hp : 0 < W * H) : ms_M m_X6_manyNow [.ref m, .int 4, .ref a, .ref fr] n G 0 0 (ms_p1 (some (.int (cfX (W * H) ds cnt X (jxX pa cnt nr X) 4))) n G) := by
  refine ms_M.of (by decide) (Nat.le_of_ble_eq_true rfl) ?_
  show ms_W false m_X6_manyNow _ 0 [(0, .ref m), (1, .int 4), (2, .ref a), (3, .ref fr)] [] n G 0 0
  rw [show (cfX (W * H) ds cnt X (jxX pa cnt nr X) 4) = nI (ct (fun j => decide (f j = nI j)) cnt) from by rw [jam_4 hc jbR_lt hjL hjF]; rfl]
  have hl8 := hl
  have hne8 := hne
  have hM9 := hM
  obtain ⟨hm, hw_, hk_, ⟨it, hi_, hit⟩, hh_⟩ := hM
  obtain ⟨l1, l2, l3, l4, l5⟩ := hl
  obtain ⟨n1, n2, n3, n4, n5, n6, n7, n8, n9, n10⟩ := hne
  have h196 := fd_196 hW hH
  have hfa9 := hfa
  obtain ⟨f9, hf1, hf2⟩ := hfa
  obtain ⟨hmx, hx2, hx3⟩ := mx_hx hMh (W * H - 1) (by rw [Nat.sub_add_cancel hp]; exact hhe)
  rw [Nat.sub_add_cancel hp] at hmx
  have hxl := hx_le X.2.1 (W * H - 1)
  refine ms_run (pc' := 4) (lv' := [(4, .int 0), (0, .ref m), (1, .int 4), (2, .ref a), (3, .ref fr)]) (st' := [.int 4]) _ (ms_deC dX6_manyNow_0 (ms_deC dX6_manyNow_1 (ms_deC dX6_manyNow_3 ms_deN))) rfl rfl ?_
  refine ms_tabIn (off := 68) (tgt := 72) dX6_manyNow_4 (by decide) (by decide) (by decide) (by decide) ?_
  refine ms_run (pc' := 75) (lv' := [(5, .int 0), (4, .int 0), (0, .ref m), (1, .int 4), (2, .ref a), (3, .ref fr)]) (st' := []) _ (ms_deC dX6_manyNow_72 (ms_deC dX6_manyNow_73 ms_deN)) rfl rfl ?_
  refine ms_W.sub (lv2 := [(0, _), (2, _), (4, _), (5, _)]) ?_ [2, 4, 1, 0] rfl
  exact l4_X6_manyNow hM9 hl8 hW hH hW0 hc hne8 hL hmm hds hd hN hV hr hjL hjF hfa9 hMh hhe hp cnt 0 (by omega)
set_option maxHeartbeats 2000000 in
set_option maxRecDepth 20000 in
theorem c_X6_manyNow5 {n m aw am ai ah W H cnt N : Nat} {G : ms_H} {th dr pa : Int32} {wl mm : Nat → Int32} {X : cX} {nr mk ds : Nat → Int32} (hM : md_at G m aw am ai ah W H th X.2.2.2 dr pa cnt wl mm X.2.1 X.1) (hl : md_lt n m aw am ai ah) (hW : W ≤ 14) (hH : H ≤ 14) (hW0 : 0 < W) (hc : cnt ≤ 24) (hne : md_ne m aw am ai ah) (hL : lk_ok W H (W * H) nr) (hmm : mmR (W * H) mk mm) (hds : dsR (W * H) nr wl mk ds) (hd : 0 ≤ dr ∧ dr ≤ 9) (hN : N < 1000000) (hV : wdV W H cnt N X) {a : Nat} {f : Nat → Int32} {L : Nat → Nat} (hr : G a = some (.inl (0, cnt, .inl f))) (hjL : jL (jbR cnt pa X.1) (nbR cnt nr X.2.2.1 X.1) L) (hjF : jF (jbR cnt pa X.1) L cnt f) {fr lo hi9 : Nat} (hfa : fa_at G fr lo hi9 (W * H) (dXg (W * H) nr wl mk)) {M : Nat} (hMh : M < 1000000) (hhe : heB M (W * H) X.2.1) (hp : 0 < W * H) : ms_M m_X6_manyNow [.ref m, .int 5, .ref a, .ref fr] n G 0 0 (ms_p1 (some (.int (cfX (W * H) ds cnt X (jxX pa cnt nr X) 5))) n G) := by
  refine ms_M.of (by decide) (Nat.le_of_ble_eq_true rfl) ?_
  show ms_W false m_X6_manyNow _ 0 [(0, .ref m), (1, .int 5), (2, .ref a), (3, .ref fr)] [] n G 0 0
  rw [show (cfX (W * H) ds cnt X (jxX pa cnt nr X) 5) = mxc f cnt cnt from (jam_5 hc jbR_lt hjL hjF).symm]
  have hl8 := hl
  have hne8 := hne
  have hM9 := hM
  obtain ⟨hm, hw_, hk_, ⟨it, hi_, hit⟩, hh_⟩ := hM
  obtain ⟨l1, l2, l3, l4, l5⟩ := hl
  obtain ⟨n1, n2, n3, n4, n5, n6, n7, n8, n9, n10⟩ := hne
  have h196 := fd_196 hW hH
  have hfa9 := hfa
  obtain ⟨f9, hf1, hf2⟩ := hfa
  obtain ⟨hmx, hx2, hx3⟩ := mx_hx hMh (W * H - 1) (by rw [Nat.sub_add_cancel hp]; exact hhe)
  rw [Nat.sub_add_cancel hp] at hmx
  have hxl := hx_le X.2.1 (W * H - 1)
  refine ms_run (pc' := 4) (lv' := [(4, .int 0), (0, .ref m), (1, .int 5), (2, .ref a), (3, .ref fr)]) (st' := [.int 5]) _ (ms_deC dX6_manyNow_0 (ms_deC dX6_manyNow_1 (ms_deC dX6_manyNow_3 ms_deN))) rfl rfl ?_
  refine ms_tabIn (off := 108) (tgt := 112) dX6_manyNow_4 (by decide) (by decide) (by decide) (by decide) ?_
  refine ms_run (pc' := 115) (lv' := [(5, .int 0), (4, .int 0), (0, .ref m), (1, .int 5), (2, .ref a), (3, .ref fr)]) (st' := []) _ (ms_deC dX6_manyNow_112 (ms_deC dX6_manyNow_113 ms_deN)) rfl rfl ?_
  refine ms_W.sub (lv2 := [(0, _), (2, _), (4, _), (5, _)]) ?_ [2, 4, 1, 0] rfl
  exact l5_X6_manyNow hM9 hl8 hW hH hW0 hc hne8 hL hmm hds hd hN hV hr hjL hjF hfa9 hMh hhe hp cnt 0 (by omega)
set_option maxHeartbeats 2000000 in
set_option maxRecDepth 20000 in
theorem c_X6_manyNow6 {n m aw am ai ah W H cnt N : Nat} {G : ms_H} {th dr pa : Int32} {wl mm : Nat → Int32} {X : cX} {nr mk ds : Nat → Int32} (hM : md_at G m aw am ai ah W H th X.2.2.2 dr pa cnt wl mm X.2.1 X.1) (hl : md_lt n m aw am ai ah) (hW : W ≤ 14) (hH : H ≤ 14) (hW0 : 0 < W) (hc : cnt ≤ 24) (hne : md_ne m aw am ai ah) (hL : lk_ok W H (W * H) nr) (hmm : mmR (W * H) mk mm) (hds : dsR (W * H) nr wl mk ds) (hd : 0 ≤ dr ∧ dr ≤ 9) (hN : N < 1000000) (hV : wdV W H cnt N X) {a : Nat} {f : Nat → Int32} {L : Nat → Nat} (hr : G a = some (.inl (0, cnt, .inl f))) (hjL : jL (jbR cnt pa X.1) (nbR cnt nr X.2.2.1 X.1) L) (hjF : jF (jbR cnt pa X.1) L cnt f) {fr lo hi9 : Nat} (hfa : fa_at G fr lo hi9 (W * H) (dXg (W * H) nr wl mk)) {M : Nat} (hMh : M < 1000000) (hhe : heB M (W * H) X.2.1) (hp : 0 < W * H) : ms_M m_X6_manyNow [.ref m, .int 6, .ref a, .ref fr] n G 0 0 (ms_p1 (some (.int (cfX (W * H) ds cnt X (jxX pa cnt nr X) 6))) n G) := by
  refine ms_M.of (by decide) (Nat.le_of_ble_eq_true rfl) ?_
  show ms_W false m_X6_manyNow _ 0 [(0, .ref m), (1, .int 6), (2, .ref a), (3, .ref fr)] [] n G 0 0
  have hl8 := hl
  have hne8 := hne
  have hM9 := hM
  obtain ⟨hm, hw_, hk_, ⟨it, hi_, hit⟩, hh_⟩ := hM
  obtain ⟨l1, l2, l3, l4, l5⟩ := hl
  obtain ⟨n1, n2, n3, n4, n5, n6, n7, n8, n9, n10⟩ := hne
  have h196 := fd_196 hW hH
  have hfa9 := hfa
  obtain ⟨f9, hf1, hf2⟩ := hfa
  obtain ⟨hmx, hx2, hx3⟩ := mx_hx hMh (W * H - 1) (by rw [Nat.sub_add_cancel hp]; exact hhe)
  rw [Nat.sub_add_cancel hp] at hmx
  have hxl := hx_le X.2.1 (W * H - 1)
  refine ms_run (pc' := 4) (lv' := [(4, .int 0), (0, .ref m), (1, .int 6), (2, .ref a), (3, .ref fr)]) (st' := [.int 6]) _ (ms_deC dX6_manyNow_0 (ms_deC dX6_manyNow_1 (ms_deC dX6_manyNow_3 ms_deN))) rfl rfl ?_
  refine ms_tabIn (off := 176) (tgt := 180) dX6_manyNow_4 (by decide) (by decide) (by decide) (by decide) ?_
  refine ms_run (pc' := 183) (lv' := [(5, .int 0), (4, .int 0), (0, .ref m), (1, .int 6), (2, .ref a), (3, .ref fr)]) (st' := []) _ (ms_deC dX6_manyNow_180 (ms_deC dX6_manyNow_181 ms_deN)) rfl rfl ?_
  refine ms_W.sub (lv2 := [(0, _), (1, _), (3, _), (4, _), (5, _)]) ?_ [2, 3, 5, 1, 0] rfl
  exact ld6_X6_manyNow hM9 hl8 hW hH hW0 hc hne8 hL hmm hds hd hN hV hr hjL hjF hfa9 hMh hhe hp cnt 0 (by omega)
set_option maxHeartbeats 2000000 in
set_option maxRecDepth 20000 in
theorem c_X6_manyNow7 {n m aw am ai ah W H cnt N : Nat} {G : ms_H} {th dr pa : Int32} {wl mm : Nat → Int32} {X : cX} {nr mk ds : Nat → Int32} (hM : md_at G m aw am ai ah W H th X.2.2.2 dr pa cnt wl mm X.2.1 X.1) (hl : md_lt n m aw am ai ah) (hW : W ≤ 14) (hH : H ≤ 14) (hW0 : 0 < W) (hc : cnt ≤ 24) (hne : md_ne m aw am ai ah) (hL : lk_ok W H (W * H) nr) (hmm : mmR (W * H) mk mm) (hds : dsR (W * H) nr wl mk ds) (hd : 0 ≤ dr ∧ dr ≤ 9) (hN : N < 1000000) (hV : wdV W H cnt N X) {a : Nat} {f : Nat → Int32} {L : Nat → Nat} (hr : G a = some (.inl (0, cnt, .inl f))) (hjL : jL (jbR cnt pa X.1) (nbR cnt nr X.2.2.1 X.1) L) (hjF : jF (jbR cnt pa X.1) L cnt f) {fr lo hi9 : Nat} (hfa : fa_at G fr lo hi9 (W * H) (dXg (W * H) nr wl mk)) {M : Nat} (hMh : M < 1000000) (hhe : heB M (W * H) X.2.1) (hp : 0 < W * H) : ms_M m_X6_manyNow [.ref m, .int 7, .ref a, .ref fr] n G 0 0 (ms_p1 (some (.int (cfX (W * H) ds cnt X (jxX pa cnt nr X) 7))) n G) := by
  refine ms_M.of (by decide) (Nat.le_of_ble_eq_true rfl) ?_
  show ms_W false m_X6_manyNow _ 0 [(0, .ref m), (1, .int 7), (2, .ref a), (3, .ref fr)] [] n G 0 0
  have hl8 := hl
  have hne8 := hne
  have hM9 := hM
  obtain ⟨hm, hw_, hk_, ⟨it, hi_, hit⟩, hh_⟩ := hM
  obtain ⟨l1, l2, l3, l4, l5⟩ := hl
  obtain ⟨n1, n2, n3, n4, n5, n6, n7, n8, n9, n10⟩ := hne
  have h196 := fd_196 hW hH
  have hfa9 := hfa
  obtain ⟨f9, hf1, hf2⟩ := hfa
  obtain ⟨hmx, hx2, hx3⟩ := mx_hx hMh (W * H - 1) (by rw [Nat.sub_add_cancel hp]; exact hhe)
  rw [Nat.sub_add_cancel hp] at hmx
  have hxl := hx_le X.2.1 (W * H - 1)
  refine ms_run (pc' := 4) (lv' := [(4, .int 0), (0, .ref m), (1, .int 7), (2, .ref a), (3, .ref fr)]) (st' := [.int 7]) _ (ms_deC dX6_manyNow_0 (ms_deC dX6_manyNow_1 (ms_deC dX6_manyNow_3 ms_deN))) rfl rfl ?_
  refine ms_tabIn (off := 142) (tgt := 146) dX6_manyNow_4 (by decide) (by decide) (by decide) (by decide) ?_
  refine ms_run (pc' := 147) (lv' := [(4, .int 0), (0, .ref m), (1, .int 7), (2, .ref a), (3, .ref fr)]) (st' := [.ref m]) _ (ms_deC dX6_manyNow_146 ms_deN) rfl rfl ?_
  refine ms_getf dX6_manyNow_147 fg_X6_43 hm rfl ?_
  refine ms_callSp (As := [.ref ah]) dX6_manyNow_150 (c_X6_most hh_ (by omega)) cs_X6_100 rfl ⟨Nat.le_of_ble_eq_true rfl, Nat.le_of_ble_eq_true rfl⟩ rfl (Nat.le_of_ble_eq_true rfl) ?_
  refine ms_reti (st := []) (ty := .int) dX6_manyNow_153 rfl rfl ?_
  exact ms_p1.mk (ms_int_eq hmx) rfl
set_option maxHeartbeats 2000000 in
set_option maxRecDepth 20000 in
theorem c_X6_manyNow8 {n m aw am ai ah W H cnt N : Nat} {G : ms_H} {th dr pa : Int32} {wl mm : Nat → Int32} {X : cX} {nr mk ds : Nat → Int32} (hM : md_at G m aw am ai ah W H th X.2.2.2 dr pa cnt wl mm X.2.1 X.1) (hl : md_lt n m aw am ai ah) (hW : W ≤ 14) (hH : H ≤ 14) (hW0 : 0 < W) (hc : cnt ≤ 24) (hne : md_ne m aw am ai ah) (hL : lk_ok W H (W * H) nr) (hmm : mmR (W * H) mk mm) (hds : dsR (W * H) nr wl mk ds) (hd : 0 ≤ dr ∧ dr ≤ 9) (hN : N < 1000000) (hV : wdV W H cnt N X) {a : Nat} {f : Nat → Int32} {L : Nat → Nat} (hr : G a = some (.inl (0, cnt, .inl f))) (hjL : jL (jbR cnt pa X.1) (nbR cnt nr X.2.2.1 X.1) L) (hjF : jF (jbR cnt pa X.1) L cnt f) {fr lo hi9 : Nat} (hfa : fa_at G fr lo hi9 (W * H) (dXg (W * H) nr wl mk)) {M : Nat} (hMh : M < 1000000) (hhe : heB M (W * H) X.2.1) (hp : 0 < W * H) : ms_M m_X6_manyNow [.ref m, .int 8, .ref a, .ref fr] n G 0 0 (ms_p1 (some (.int (cfX (W * H) ds cnt X (jxX pa cnt nr X) 8))) n G) := by
  refine ms_M.of (by decide) (Nat.le_of_ble_eq_true rfl) ?_
  show ms_W false m_X6_manyNow _ 0 [(0, .ref m), (1, .int 8), (2, .ref a), (3, .ref fr)] [] n G 0 0
  have hl8 := hl
  have hne8 := hne
  have hM9 := hM
  obtain ⟨hm, hw_, hk_, ⟨it, hi_, hit⟩, hh_⟩ := hM
  obtain ⟨l1, l2, l3, l4, l5⟩ := hl
  obtain ⟨n1, n2, n3, n4, n5, n6, n7, n8, n9, n10⟩ := hne
  have h196 := fd_196 hW hH
  have hfa9 := hfa
  obtain ⟨f9, hf1, hf2⟩ := hfa
  obtain ⟨hmx, hx2, hx3⟩ := mx_hx hMh (W * H - 1) (by rw [Nat.sub_add_cancel hp]; exact hhe)
  rw [Nat.sub_add_cancel hp] at hmx
  have hxl := hx_le X.2.1 (W * H - 1)
  refine ms_run (pc' := 4) (lv' := [(4, .int 0), (0, .ref m), (1, .int 8), (2, .ref a), (3, .ref fr)]) (st' := [.int 8]) _ (ms_deC dX6_manyNow_0 (ms_deC dX6_manyNow_1 (ms_deC dX6_manyNow_3 ms_deN))) rfl rfl ?_
  refine ms_tabIn (off := 150) (tgt := 154) dX6_manyNow_4 (by decide) (by decide) (by decide) (by decide) ?_
  refine ms_W.sub (lv2 := [(0, _), (4, _)]) ?_ [1, 0] rfl
  exact l8_X6_manyNow hM9 hl8 hW hH hW0 hc hne8 hL hmm hds hd hN hV hr hjL hjF hfa9 hMh hhe hp (hx X.2.1 (W * H - 1)) 0 (by omega)
theorem c_X6_manyNow {n m aw am ai ah W H cnt N : Nat} {G : ms_H} {th dr pa : Int32} {wl mm : Nat → Int32} {X : cX} {nr mk ds : Nat → Int32} (hM : md_at G m aw am ai ah W H th X.2.2.2 dr pa cnt wl mm X.2.1 X.1) (hl : md_lt n m aw am ai ah) (hW : W ≤ 14) (hH : H ≤ 14) (hW0 : 0 < W) (hc : cnt ≤ 24) (hne : md_ne m aw am ai ah) (hL : lk_ok W H (W * H) nr) (hmm : mmR (W * H) mk mm) (hds : dsR (W * H) nr wl mk ds) (hd : 0 ≤ dr ∧ dr ≤ 9) (hN : N < 1000000) (hV : wdV W H cnt N X) {a : Nat} {f : Nat → Int32} {L : Nat → Nat} (hr : G a = some (.inl (0, cnt, .inl f))) (hjL : jL (jbR cnt pa X.1) (nbR cnt nr X.2.2.1 X.1) L) (hjF : jF (jbR cnt pa X.1) L cnt f) {fr lo hi9 : Nat} (hfa : fa_at G fr lo hi9 (W * H) (dXg (W * H) nr wl mk)) {M : Nat} (hMh : M < 1000000) (hhe : heB M (W * H) X.2.1) (hp : 0 < W * H) {s : Nat} (hs : s ≤ 8) : ms_M m_X6_manyNow [.ref m, .int (nI s), .ref a, .ref fr] n G 0 0 (ms_p1 (some (.int (cfX (W * H) ds cnt X (jxX pa cnt nr X) s))) n G) :=
  match s, hs with
  | 0, _ => c_X6_manyNow0 hM hl hW hH hW0 hc hne hL hmm hds hd hN hV hr hjL hjF hfa hMh hhe hp
  | 1, _ => c_X6_manyNow1 hM hl hW hH hW0 hc hne hL hmm hds hd hN hV hr hjL hjF hfa hMh hhe hp
  | 2, _ => c_X6_manyNow2 hM hl hW hH hW0 hc hne hL hmm hds hd hN hV hr hjL hjF hfa hMh hhe hp
  | 3, _ => c_X6_manyNow3 hM hl hW hH hW0 hc hne hL hmm hds hd hN hV hr hjL hjF hfa hMh hhe hp
  | 4, _ => c_X6_manyNow4 hM hl hW hH hW0 hc hne hL hmm hds hd hN hV hr hjL hjF hfa hMh hhe hp
  | 5, _ => c_X6_manyNow5 hM hl hW hH hW0 hc hne hL hmm hds hd hN hV hr hjL hjF hfa hMh hhe hp
  | 6, _ => c_X6_manyNow6 hM hl hW hH hW0 hc hne hL hmm hds hd hN hV hr hjL hjF hfa hMh hhe hp
  | 7, _ => c_X6_manyNow7 hM hl hW hH hW0 hc hne hL hmm hds hd hN hV hr hjL hjF hfa hMh hhe hp
  | 8, _ => c_X6_manyNow8 hM hl hW hH hW0 hc hne hL hmm hds hd hN hV hr hjL hjF hfa hMh hhe hp
set_option maxHeartbeats 2000000 in
set_option maxRecDepth 20000 in
theorem c_X6_jamNow {n m a cnt k : Nat} {G : ms_H} {f : Nat → Int32} (hr : G a = some (.inl (0, cnt, .inl f))) (hc : cnt ≤ 24) (hk : k < cnt) : ms_M m_X6_jamNow [.ref m, .int (nI k), .ref a] n G 0 0 (ms_p1 (some (.int (if f k = -1 then 0 else nI (ct (fun j => decide (f j = f k)) cnt)))) n G) := by
  refine ms_M.of (by decide) (Nat.le_of_ble_eq_true rfl) ?_
  show ms_W false m_X6_jamNow _ 0 [(0, .ref m), (1, .int (nI k)), (2, .ref a)] [] n G 0 0
  refine ms_run (pc' := 2) (lv' := [(0, .ref m), (1, .int (nI k)), (2, .ref a)]) (st' := [.int (nI k), .ref a]) _ (ms_deC dX6_jamNow_0 (ms_deC dX6_jamNow_1 ms_deN)) rfl rfl ?_
  refine ms_iaload dX6_jamNow_2 hr (vp_in_nI hk (by omega)) ?_
  rw [nI_clamp (n := k) (by omega)]
  refine ms_run (pc' := 4) (lv' := [(0, .ref m), (1, .int (nI k)), (2, .ref a)]) (st' := [.int (-1), .int (f k)]) _ (ms_deC dX6_jamNow_3 ms_deN) rfl rfl ?_
  refine ms_icmp_ne (tgt := 11) dX6_jamNow_4 (by decide) (fun h_4 => ?_) (fun h_4 => ?_)
  · skip
    refine ms_run (pc' := 14) (lv' := [(0, .ref m), (1, .int (nI k)), (2, .ref a)]) (st' := [.int (nI k), .ref a, .ref a]) _ (ms_deC dX6_jamNow_11 (ms_deC dX6_jamNow_12 (ms_deC dX6_jamNow_13 ms_deN))) rfl rfl ?_
    refine ms_iaload dX6_jamNow_14 hr (vp_in_nI hk (by omega)) ?_
    rw [nI_clamp (n := k) (by omega)]
    refine ms_callSp (As := [.ref a, .int (f k)]) dX6_jamNow_15 (c_X6_count hr (by omega) (f k)) cs_X6_132 rfl ⟨Nat.le_of_ble_eq_true rfl, Nat.le_of_ble_eq_true rfl⟩ rfl (Nat.le_of_ble_eq_true rfl) ?_
    refine ms_reti (st := []) (ty := .int) dX6_jamNow_18 rfl rfl ?_
    exact ms_p1.mk (ms_int_eq (if_neg h_4).symm) rfl
  · skip
    refine ms_run (pc' := 8) (lv' := [(0, .ref m), (1, .int (nI k)), (2, .ref a)]) (st' := [.int 0]) _ (ms_deC dX6_jamNow_7 ms_deN) rfl rfl ?_
    refine ms_goto (tgt := 18) dX6_jamNow_8 (by decide) ?_
    refine ms_reti (st := []) (ty := .int) dX6_jamNow_18 rfl rfl ?_
    exact ms_p1.mk (ms_int_eq (if_pos (by first | exact h_4 | exact Decidable.not_not.mp h_4)).symm) rfl
set_option maxHeartbeats 1000000 in
set_option maxRecDepth 20000 in
theorem c_X6_many {n m aw am ai ah W H cnt N : Nat} {G : ms_H} {th dr pa : Int32} {wl mm : Nat → Int32} {X : cX} {nr mk ds : Nat → Int32} (hM : md_at G m aw am ai ah W H th X.2.2.2 dr pa cnt wl mm X.2.1 X.1) (hl : md_lt n m aw am ai ah) (hW : W ≤ 14) (hH : H ≤ 14) (hW0 : 0 < W) (hc : cnt ≤ 24) (hne : md_ne m aw am ai ah) (hL : lk_ok W H (W * H) nr) (hmm : mmR (W * H) mk mm) (hds : dsR (W * H) nr wl mk ds) (hd : 0 ≤ dr ∧ dr ≤ 9) (hN : N < 1000000) (hV : wdV W H cnt N X) {M : Nat} (hMh : M < 1000000) (hhe : heB M (W * H) X.2.1) (hp : 0 < W * H) (wh : Int32) : ms_M m_X6_many [.ref m, .int wh] n G 10 1596 (mq_P n G (E5 m aw am ai ah) (th_what wh) (fun _ => 1) (.int (cfX (W * H) ds cnt X (jxX pa cnt nr X) wh.toNatClampNeg)) (fun t G1 => md_at G1 m aw am ai ah W H t X.2.2.2 dr pa cnt wl mm X.2.1 X.1) (fun G1 => md_at G1 m aw am ai ah W H 0 X.2.2.2 dr pa cnt wl mm X.2.1 X.1)) := by
  refine ms_M.of (by decide) (Nat.le_of_ble_eq_true rfl) ?_
  show ms_W false m_X6_many _ 0 [(0, .ref m), (1, .int wh)] [] n G 10 1596
  have hl9 := hl
  have hne9 := hne
  obtain ⟨hm, hw_, hk_, ⟨it, hi_, hit⟩, hh_⟩ := hM
  obtain ⟨l1, l2, l3, l4, l5⟩ := hl
  obtain ⟨n1, n2, n3, n4, n5, n6, n7, n8, n9, n10⟩ := hne
  have h196 := fd_196 hW hH
  have hF : ms_fb (E5 m aw am ai ah) n G G := ms_fb.rf
  refine ms_run (pc' := 2) (lv' := [(0, .ref m), (1, .int wh)]) (st' := [.int 0, .ref m]) _ (ms_deC dX6_many_0 (ms_deC dX6_many_1 ms_deN)) rfl rfl ?_
  refine ms_putf dX6_many_2 fp_X6_46 hm (Nat.le_of_ble_eq_true rfl) rfl rfl ?_
  obtain ⟨G_1, eG_1⟩ : ∃ K9 : ms_H, K9 = ms_up G m (.inr (6, [.int 0, .int (nI W), .int (nI H), .int X.2.2.2, .int dr, .int pa, .ref aw, .ref am, .int (nI cnt), .ref ai, .ref ah])) := ⟨_, rfl⟩
  refine ms_W.heq eG_1 ?_
  have hF_2 : ms_fb (E5 m aw am ai ah) n G G_1 := by rw [eG_1]; exact ms_fb.up hF (by first | exact Or.inl (by omega) | exact Or.inr rfl | exact Or.inr (Or.inl rfl) | exact Or.inr (Or.inr (Or.inl rfl)) | exact Or.inr (Or.inr (Or.inr rfl)) | exact Or.inr (Or.inr rfl) | exact Or.inr (Or.inr (Or.inr (Or.inl rfl))) | exact Or.inr (Or.inr (Or.inr (Or.inr (Or.inl rfl)))) | exact Or.inr (Or.inr (Or.inr (Or.inr (Or.inr rfl)))))
  have hf_3 : G_1 m = some (.inr (6, [.int 0, .int (nI W), .int (nI H), .int X.2.2.2, .int dr, .int pa, .ref aw, .ref am, .int (nI cnt), .ref ai, .ref ah])) := by rw [eG_1]; exact ms_up_s _ _ _
  have hf_4 := (congrFun eG_1 aw).trans ((ms_up_n G _ (by omega)).trans hw_)
  have hf_5 := (congrFun eG_1 am).trans ((ms_up_n G _ (by omega)).trans hk_)
  have hf_6 := (congrFun eG_1 ai).trans ((ms_up_n G _ (by omega)).trans hi_)
  have hf_7 := (congrFun eG_1 ah).trans ((ms_up_n G _ (by omega)).trans hh_)
  refine ms_run (pc' := 9) (lv' := [(0, .ref m), (1, .int wh)]) (st' := [.int 8, .int 0, .int wh]) _ (ms_deC dX6_many_5 (ms_deC dX6_many_6 (ms_deC dX6_many_7 ms_deN))) rfl rfl ?_
  refine ms_callSp (As := [.int wh, .int 0, .int 8]) dX6_many_9 (c_X6_isIn wh 0 8) cs_X6_49 rfl ⟨Nat.le_of_ble_eq_true rfl, Nat.le_of_ble_eq_true rfl⟩ rfl (Nat.le_of_ble_eq_true rfl) ?_
  by_cases hwh : 0 ≤ wh ∧ wh ≤ 8
  · rw [show ms_b (0 ≤ wh ∧ wh ≤ 8) = 1 from if_pos hwh]
    obtain ⟨s9, hs9, hse⟩ := nI_of2 (M := 8) (n := 8) rfl (Int32.not_lt.mpr hwh.1) hwh.2
    subst hse
    refine ms_if_eq (tgt := 31) dX6_many_12 (by decide) (fun h9 => absurd h9 (by decide)) (fun _ => ?_)
    refine ms_run (pc' := 18) (lv' := [(0, .ref m), (1, .int (nI s9))]) (st' := [.ref m, .int (nI s9), .ref m]) _ (ms_deC dX6_many_15 (ms_deC dX6_many_16 (ms_deC dX6_many_17 ms_deN))) rfl rfl ?_
    refine ms_W.room (k2 := 1 + 9) (z2 := 24 + 1572) ?_ (by omega) (by omega)
    refine ms_callV (As := []) dX6_many_18 (c_X6_jams (show md_at G_1 m aw am ai ah W H 0 X.2.2.2 dr pa cnt wl mm X.2.1 X.1 from ⟨hf_3, hf_4, hf_5, ⟨it, hf_6, hit⟩, hf_7⟩) hl9 hW hH hW0 hc hne9 hL hmm hds hd hN hV) cv_X6_136 hf_3 rfl ⟨Nat.le_of_ble_eq_true rfl, Nat.le_of_ble_eq_true rfl⟩ rfl (Nat.le_of_ble_eq_true rfl) (fun v9 n9 K_jm hp9 => ?_)
    obtain ⟨hv9, rfl, hF_jm, fj, Lj, hrow, hjL, hjF⟩ := hp9
    cases hv9
    have hM2 := md_at.fb (show md_at G_1 m aw am ai ah W H 0 X.2.2.2 dr pa cnt wl mm X.2.1 X.1 from ⟨hf_3, hf_4, hf_5, ⟨it, hf_6, hit⟩, hf_7⟩) hF_jm hl9
    have hl2 : md_lt (n + 1) m aw am ai ah := ⟨by omega, by omega, by omega, by omega, by omega⟩
    have hF2 := ms_fb.trans hF_2 hF_jm (Nat.le_refl n)
    obtain ⟨hm2, -⟩ := id hM2
    refine ms_run (pc' := 22) (lv' := [(0, .ref m), (1, .int (nI s9))]) (st' := [.ref m, .ref n, .int (nI s9), .ref m]) _ (ms_deC dX6_many_21 ms_deN) rfl rfl ?_
    refine ms_W.room (k2 := 9 + 0) (z2 := 1572 + 0) ?_ (by omega) (by omega)
    refine ms_callV (As := []) dX6_many_22 (c_X6_farAll hM2 hW hH hc hl2 hW0 hL hmm) cv_X6_121 hm2 rfl ⟨Nat.le_of_ble_eq_true rfl, Nat.le_of_ble_eq_true rfl⟩ rfl (Nat.le_of_ble_eq_true rfl) (fun v9 n9 K_fa hp9 => ?_)
    obtain ⟨hv9, rfl, hF_fa, hfa⟩ := hp9
    cases hv9
    have hM3 := md_at.fb hM2 hF_fa hl2
    have hl3 : md_lt (n + 1 + 9) m aw am ai ah := ⟨by omega, by omega, by omega, by omega, by omega⟩
    have hF3 := ms_fb.trans hF2 hF_fa (by omega)
    have hrow3 := (hF_fa.at n (by omega)).trans hrow
    obtain ⟨hm3, -⟩ := id hM3
    refine ms_callVp (As := [.int (nI s9), .ref n, .ref (n + 1)]) dX6_many_25 (c_X6_manyNow hM3 hl3 hW hH hW0 hc hne9 hL hmm hds hd hN hV hrow3 hjL hjF hfa hMh hhe hp hs9) cv_X6_140 hm3 rfl ⟨Nat.le_of_ble_eq_true rfl, Nat.le_of_ble_eq_true rfl⟩ rfl (Nat.le_of_ble_eq_true rfl) ?_
    refine ms_goto (tgt := 36) dX6_many_28 (by decide) ?_
    refine ms_reti (st := []) (ty := .int) dX6_many_36 rfl rfl ?_
    exact mq_P.ok (by unfold th_what; rw [if_neg (by rintro (z9 | z9); exact Int32.not_lt.mpr hwh.1 z9; exact Int32.not_lt.mpr hwh.2 z9)]) (by omega) hF3 (by rw [nI_clamp (n := s9) (by omega)]) hM3
  · rw [show ms_b (0 ≤ wh ∧ wh ≤ 8) = 0 from if_neg hwh]
    refine ms_if_eq (tgt := 31) dX6_many_12 (by decide) (fun _ => ?_) (fun h9 => absurd h9 (by decide))
    refine ms_run (pc' := 33) (lv' := [(0, .ref m), (1, .int wh)]) (st' := [.int 1, .ref m]) _ (ms_deC dX6_many_31 (ms_deC dX6_many_32 ms_deN)) rfl rfl ?_
    refine ms_callV0 (As := [.int 1]) dX6_many_33 (c_X6_no (show md_at G_1 m aw am ai ah W H 0 X.2.2.2 dr pa cnt wl mm X.2.1 X.1 from ⟨hf_3, hf_4, hf_5, ⟨it, hf_6, hit⟩, hf_7⟩) hne9 1) cv_X6_79 hf_3 rfl ⟨Nat.le_of_ble_eq_true rfl, Nat.le_of_ble_eq_true rfl⟩ rfl (Nat.le_of_ble_eq_true rfl) (fun v9 n9 K_no hp9 => ?_)
    obtain ⟨hv9, rfl, hF_no, hM_no⟩ := hp9
    cases hv9
    refine ms_reti (st := []) (ty := .int) dX6_many_36 rfl rfl ?_
    exact mq_P.no (show th_what wh = some IAE from by unfold th_what; rw [if_pos (by rcases Decidable.not_and_iff_or_not.mp hwh with z9 | z9; exact Or.inl (Int32.not_le.mp z9); exact Or.inr (Int32.not_le.mp z9))]) (by omega) (ms_fb.trans2 hF_2 (hF_no.mono (fun a h => Or.inl h)) (by omega)) rfl hM_no
set_option maxHeartbeats 1000000 in
set_option maxRecDepth 20000 in
theorem c_X6_jam {n m aw am ai ah W H cnt N : Nat} {G : ms_H} {th dr pa : Int32} {wl mm : Nat → Int32} {X : cX} {nr mk ds : Nat → Int32} (hM : md_at G m aw am ai ah W H th X.2.2.2 dr pa cnt wl mm X.2.1 X.1) (hl : md_lt n m aw am ai ah) (hW : W ≤ 14) (hH : H ≤ 14) (hW0 : 0 < W) (hc : cnt ≤ 24) (hne : md_ne m aw am ai ah) (hL : lk_ok W H (W * H) nr) (hmm : mmR (W * H) mk mm) (hds : dsR (W * H) nr wl mk ds) (hd : 0 ≤ dr ∧ dr ≤ 9) (hN : N < 1000000) (hV : wdV W H cnt N X) (kk : Int32) : ms_M m_X6_jam [.ref m, .int kk] n G 1 24 (mq_P n G (E5 m aw am ai ah) (th_wk cnt kk) (fun _ => 1) (.int (jm_sz (jxX pa cnt nr X).1 (jxX pa cnt nr X).2.1 (nI kk.toNatClampNeg))) (fun t G1 => md_at G1 m aw am ai ah W H t X.2.2.2 dr pa cnt wl mm X.2.1 X.1) (fun G1 => md_at G1 m aw am ai ah W H 0 X.2.2.2 dr pa cnt wl mm X.2.1 X.1)) := by
  refine ms_M.of (by decide) (Nat.le_of_ble_eq_true rfl) ?_
  show ms_W false m_X6_jam _ 0 [(0, .ref m), (1, .int kk)] [] n G 1 24
  have hl9 := hl
  have hne9 := hne
  obtain ⟨hm, hw_, hk_, ⟨it, hi_, hit⟩, hh_⟩ := hM
  obtain ⟨l1, l2, l3, l4, l5⟩ := hl
  obtain ⟨n1, n2, n3, n4, n5, n6, n7, n8, n9, n10⟩ := hne
  have h196 := fd_196 hW hH
  have hF : ms_fb (E5 m aw am ai ah) n G G := ms_fb.rf
  refine ms_run (pc' := 2) (lv' := [(0, .ref m), (1, .int kk)]) (st' := [.int 0, .ref m]) _ (ms_deC dX6_jam_0 (ms_deC dX6_jam_1 ms_deN)) rfl rfl ?_
  refine ms_putf dX6_jam_2 fp_X6_46 hm (Nat.le_of_ble_eq_true rfl) rfl rfl ?_
  obtain ⟨G_1, eG_1⟩ : ∃ K9 : ms_H, K9 = ms_up G m (.inr (6, [.int 0, .int (nI W), .int (nI H), .int X.2.2.2, .int dr, .int pa, .ref aw, .ref am, .int (nI cnt), .ref ai, .ref ah])) := ⟨_, rfl⟩
  refine ms_W.heq eG_1 ?_
  have hF_2 : ms_fb (E5 m aw am ai ah) n G G_1 := by rw [eG_1]; exact ms_fb.up hF (by first | exact Or.inl (by omega) | exact Or.inr rfl | exact Or.inr (Or.inl rfl) | exact Or.inr (Or.inr (Or.inl rfl)) | exact Or.inr (Or.inr (Or.inr rfl)) | exact Or.inr (Or.inr rfl) | exact Or.inr (Or.inr (Or.inr (Or.inl rfl))) | exact Or.inr (Or.inr (Or.inr (Or.inr (Or.inl rfl)))) | exact Or.inr (Or.inr (Or.inr (Or.inr (Or.inr rfl)))))
  have hf_3 : G_1 m = some (.inr (6, [.int 0, .int (nI W), .int (nI H), .int X.2.2.2, .int dr, .int pa, .ref aw, .ref am, .int (nI cnt), .ref ai, .ref ah])) := by rw [eG_1]; exact ms_up_s _ _ _
  have hf_4 := (congrFun eG_1 aw).trans ((ms_up_n G _ (by omega)).trans hw_)
  have hf_5 := (congrFun eG_1 am).trans ((ms_up_n G _ (by omega)).trans hk_)
  have hf_6 := (congrFun eG_1 ai).trans ((ms_up_n G _ (by omega)).trans hi_)
  have hf_7 := (congrFun eG_1 ah).trans ((ms_up_n G _ (by omega)).trans hh_)
  refine ms_run (pc' := 7) (lv' := [(0, .ref m), (1, .int kk)]) (st' := [.int kk, .ref m]) _ (ms_deC dX6_jam_5 (ms_deC dX6_jam_6 ms_deN)) rfl rfl ?_
  refine ms_callVp (As := [.int kk]) dX6_jam_7 (c_X6_isWalker (show md_at G_1 m aw am ai ah W H 0 X.2.2.2 dr pa cnt wl mm X.2.1 X.1 from ⟨hf_3, hf_4, hf_5, ⟨it, hf_6, hit⟩, hf_7⟩) hW hH hc kk) cv_X6_53 hf_3 rfl ⟨Nat.le_of_ble_eq_true rfl, Nat.le_of_ble_eq_true rfl⟩ rfl (Nat.le_of_ble_eq_true rfl) ?_
  by_cases hpi : pIs (nI cnt) kk
  · rw [show ms_b (pIs (nI cnt) kk) = 1 from if_pos hpi]
    obtain ⟨i, hi, hki⟩ := pIs_nI hc hpi
    subst hki
    rw [nI_clamp (n := i) (by omega)]
    refine ms_if_eq (tgt := 25) dX6_jam_10 (by decide) (fun h9 => absurd h9 (by decide)) (fun _ => ?_)
    refine ms_run (pc' := 16) (lv' := [(0, .ref m), (1, .int (nI i))]) (st' := [.ref m, .int (nI i), .ref m]) _ (ms_deC dX6_jam_13 (ms_deC dX6_jam_14 (ms_deC dX6_jam_15 ms_deN))) rfl rfl ?_
    refine ms_W.room (k2 := 1 + 0) (z2 := 24 + 0) ?_ (by omega) (by omega)
    refine ms_callV (As := []) dX6_jam_16 (c_X6_jams (show md_at G_1 m aw am ai ah W H 0 X.2.2.2 dr pa cnt wl mm X.2.1 X.1 from ⟨hf_3, hf_4, hf_5, ⟨it, hf_6, hit⟩, hf_7⟩) hl9 hW hH hW0 hc hne9 hL hmm hds hd hN hV) cv_X6_136 hf_3 rfl ⟨Nat.le_of_ble_eq_true rfl, Nat.le_of_ble_eq_true rfl⟩ rfl (Nat.le_of_ble_eq_true rfl) (fun v9 n9 K_jm hp9 => ?_)
    obtain ⟨hv9, rfl, hF_jm, fj, Lj, hrow, hjL, hjF⟩ := hp9
    cases hv9
    have hM2 := md_at.fb (show md_at G_1 m aw am ai ah W H 0 X.2.2.2 dr pa cnt wl mm X.2.1 X.1 from ⟨hf_3, hf_4, hf_5, ⟨it, hf_6, hit⟩, hf_7⟩) hF_jm hl9
    have hl2 : md_lt (n + 1) m aw am ai ah := ⟨by omega, by omega, by omega, by omega, by omega⟩
    have hF2 := ms_fb.trans hF_2 hF_jm (Nat.le_refl n)
    obtain ⟨hm2, -⟩ := id hM2
    refine ms_callVp (As := [.int (nI i), .ref n]) dX6_jam_19 (c_X6_jamNow (m := m) hrow hc hi) cv_X6_151 hm2 rfl ⟨Nat.le_of_ble_eq_true rfl, Nat.le_of_ble_eq_true rfl⟩ rfl (Nat.le_of_ble_eq_true rfl) ?_
    refine ms_goto (tgt := 30) dX6_jam_22 (by decide) ?_
    refine ms_reti (st := []) (ty := .int) dX6_jam_30 rfl rfl ?_
    exact mq_P.ok (by unfold th_wk; rw [if_neg (not_not_intro hpi)]) (by omega) hF2 (by rw [jam_sz hc jbR_lt hjL hjF hi]; rfl) hM2
  · rw [show ms_b (pIs (nI cnt) kk) = 0 from if_neg hpi]
    refine ms_if_eq (tgt := 25) dX6_jam_10 (by decide) (fun _ => ?_) (fun h9 => absurd h9 (by decide))
    refine ms_run (pc' := 27) (lv' := [(0, .ref m), (1, .int kk)]) (st' := [.int 1, .ref m]) _ (ms_deC dX6_jam_25 (ms_deC dX6_jam_26 ms_deN)) rfl rfl ?_
    refine ms_callV0 (As := [.int 1]) dX6_jam_27 (c_X6_no (show md_at G_1 m aw am ai ah W H 0 X.2.2.2 dr pa cnt wl mm X.2.1 X.1 from ⟨hf_3, hf_4, hf_5, ⟨it, hf_6, hit⟩, hf_7⟩) hne9 1) cv_X6_79 hf_3 rfl ⟨Nat.le_of_ble_eq_true rfl, Nat.le_of_ble_eq_true rfl⟩ rfl (Nat.le_of_ble_eq_true rfl) (fun v9 n9 K_no hp9 => ?_)
    obtain ⟨hv9, rfl, hF_no, hM_no⟩ := hp9
    cases hv9
    refine ms_reti (st := []) (ty := .int) dX6_jam_30 rfl rfl ?_
    exact mq_P.no (show th_wk cnt kk = some IOB from if_pos hpi) (by omega) (ms_fb.trans2 hF_2 (hF_no.mono (fun a h => Or.inl h)) (by omega)) rfl hM_no

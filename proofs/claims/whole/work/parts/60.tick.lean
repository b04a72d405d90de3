/-! the model: tickNow, first what each wants -/
abbrev E3 (m ai ah : Nat) : Nat → Prop := fun a => a = m ∨ a = ai ∨ a = ah
def md_ne (m aw am ai ah : Nat) : Prop := m ≠ aw ∧ m ≠ am ∧ m ≠ ai ∧ m ≠ ah ∧ aw ≠ am ∧ aw ≠ ai ∧ aw ≠ ah ∧ am ≠ ai ∧ am ≠ ah ∧ ai ≠ ah
def fl2 (f : Nat → Int32) (k : Nat) : Nat → Int32 := fun j => if j < k then f j else 0
theorem fl2_s {f : Nat → Int32} {k : Nat} : upd (fl2 f k) k (f k) = fl2 f (k + 1) := by
  funext j
  unfold upd fl2
  by_cases h : j = k
  · rw [if_pos h, if_pos (by omega), h]
  · rw [if_neg h]
    by_cases h2 : j < k
    · rw [if_pos h2, if_pos (by omega)]
    · rw [if_neg h2, if_neg (by omega)]
theorem fl2_v {f : Nat → Int32} {k : Nat} {v : Int32} (h : f k = v) : upd (fl2 f k) k v = fl2 f (k + 1) := by rw [← h]; exact fl2_s
theorem fl2_z {f : Nat → Int32} {k : Nat} (h : f k = 0) : fl2 f k = fl2 f (k + 1) := by
  rw [← fl2_s, h]
  funext j
  unfold upd fl2
  by_cases h : j = k
  · rw [if_pos h, if_neg (by omega)]
  · rw [if_neg h]
theorem fl2_0 {f : Nat → Int32} : fl2 f 0 = fun _ => 0 := by funext j; exact if_neg (Nat.not_lt_zero j)
theorem fl2_at {f : Nat → Int32} {k j : Nat} (h : j < k) : fl2 f k j = f j := if_pos h
theorem upd_upd {f : Nat → Int32} {k : Nat} {x y : Int32} : upd (upd f k x) k y = upd f k y := by
  funext j
  unfold upd
  by_cases h : j = k
  · rw [if_pos h, if_pos h]
  · rw [if_neg h, if_neg h, if_neg h]
theorem upd_at {f : Nat → Int32} {k : Nat} {x : Int32} : upd f k x k = x := if_pos rfl
def mto (u : Nat → Nat → Int32) (sd tg : Nat → Int32) (t : Int32) (k : Nat) : Int32 := if wk_turn (u k) t then (if sd k = 4 then u k 3 else tg k) else -1
def msd (u : Nat → Nat → Int32) (sd : Nat → Int32) (t : Int32) (k : Nat) : Int32 := if wk_turn (u k) t then sd k else 0
theorem bsX_val {fl : Int32} {nr ds : Nat → Int32} {cnt : Nat} {dr : Int32} {on : Nat → Int32} {u : Nat → Nat → Int32} {k : Nat} : ∃ s, s ≤ 4 ∧ bsX fl nr ds cnt dr on u k = nI s := by
  rcases cr_bsI (c := fun j => cr_cost fl nr ds on (hdX cnt dr) u (u k) (nI j)) 5 (by omega) with ⟨h1, -⟩ | ⟨i, hi, h1, -⟩
  · exact ⟨4, by omega, by unfold bsX; rw [h1]; rfl⟩
  · exact ⟨i, by omega, by unfold bsX; rw [h1]⟩
def dsR (n : Nat) (nr wl mk ds : Nat → Int32) : Prop := ∀ g, g < 4 → ∀ f, f < n → ds (g * 196 + f) = dXg n nr wl mk g f
theorem c_X6_isOnI {n m aw am ai ah W H cnt : Nat} {G : ms_H} {th cl dr pa : Int32} {wl mm ht : Nat → Int32} {u : Nat → Nat → Int32} (hM : md_at G m aw am ai ah W H th cl dr pa cnt wl mm ht u) (hW : W ≤ 14) (hH : H ≤ 14) (hc : cnt ≤ 24) {k : Nat} (hk : k < cnt) : ms_M m_X6_isOn [.ref m, .int (nI k)] n G 0 0 (ms_p1 (some (.int (ms_b (¬ u k 3 = -1)))) n G) := by
  have h := c_X6_isOn (n := n) hM hW hH hc (nI k)
  rw [nI_clamp (by omega)] at h
  have e : (pIs (nI cnt) (nI k) ∧ ¬ u k 3 = -1) ↔ ¬ u k 3 = -1 := ⟨fun z => z.2, fun z => ⟨pIs_of hc hk, z⟩⟩
  have e2 : ms_b (pIs (nI cnt) (nI k) ∧ ¬ u k 3 = -1) = ms_b (¬ u k 3 = -1) := by grind
  rw [e2] at h
  exact h
theorem vp_in_gl {x : Int32} (h : gl_is x) : vp_in x 4 := by
  obtain ⟨g, hg, rfl⟩ := gl_nI h
  exact vp_in_nI hg (by omega)
set_option maxHeartbeats 1000000 in
set_option maxRecDepth 20000 in
theorem l1_X6_tickNow {n m aw am ai ah W H cnt : Nat} {G : ms_H} {th cl dr pa : Int32} {wl mm ht : Nat → Int32} {u : Nat → Nat → Int32} (hW : W ≤ 14) (hH : H ≤ 14) (hc : cnt ≤ 24) (hl : md_lt n m aw am ai ah) (hne : md_ne m aw am ai ah) (hW0 : 0 < W) {nr mk on ds : Nat → Int32} (hL : lk_ok W H (W * H) nr) (hon : onV (W * H) cnt u on) (hv : hvX (nI (W * H)) cnt u) (hwk : wkV cnt u) (hd : 0 ≤ dr ∧ dr ≤ 9) (hds : dsR (W * H) nr wl mk ds) {fr lo hi9 : Nat} (hfa : fa_at G fr lo hi9 (W * H) (dXg (W * H) nr wl mk)) (hlo : m < lo ∧ ai < lo ∧ ah < lo) (hfr : lo ≤ fr ∧ fr < n) (hhi : hi9 ≤ n) {P : ms_P} {kr zr : Nat} : ∀ (r k : Nat), k + r = cnt → ∀ (K : ms_H), md_at K m aw am ai ah W H th cl dr pa cnt wl mm ht u → ms_fb (E3 m ai ah) n G K → K n = some (.inl (0, 24, .inl (fl2 (mto u (sdX (nI (W * H)) nr ds cnt dr on u cl) (fun k => amT nr (u k) ((sdX (nI (W * H)) nr ds cnt dr on u cl) k)) cl) k))) → K (n + 1) = some (.inl (0, 24, .inl (fl2 (msd u (sdX (nI (W * H)) nr ds cnt dr on u cl) cl) k))) → (∀ (K : ms_H), md_at K m aw am ai ah W H th cl dr pa cnt wl mm ht u → ms_fb (E3 m ai ah) n G K → K n = some (.inl (0, 24, .inl (fl2 (mto u (sdX (nI (W * H)) nr ds cnt dr on u cl) (fun k => amT nr (u k) ((sdX (nI (W * H)) nr ds cnt dr on u cl) k)) cl) cnt))) → K (n + 1) = some (.inl (0, 24, .inl (fl2 (msd u (sdX (nI (W * H)) nr ds cnt dr on u cl) cl) cnt))) → ms_W false m_X6_tickNow P 146 [(0, .ref m), (1, .ref fr), (2, .ref n), (3, .ref (n + 1))] [] (n + 2) K kr zr) → ms_W false m_X6_tickNow (P) 23 [(0, .ref m), (1, .ref fr), (2, .ref n), (3, .ref (n + 1)), (4, .int (nI k))] [] (n + 2) K kr zr := by
  obtain ⟨l1, l2, l3, l4, l5⟩ := hl
  obtain ⟨n1, n2, n3, n4, n5, n6, n7, n8, n9, n10⟩ := hne
  have h196 := fd_196 hW hH
  obtain ⟨f9, hf1, hf2⟩ := hfa
  intro r
  induction r with
  | zero =>
    intro k hk K hM9 hF hto hsi kk
    have hkN : k = cnt := by omega
    obtain ⟨hm, hw_, hk_, ⟨it, hi_, hit⟩, hh_⟩ := hM9
    have hfr9 := (hF fr hfr.2 (by rintro (z9 | z9 | z9) <;> omega)).trans hf1
    refine ms_run (pc' := 26) (lv' := [(0, .ref m), (1, .ref fr), (2, .ref n), (3, .ref (n + 1)), (4, .int (nI k))]) (st' := [.ref m, .int (nI k)]) _ (ms_deC dX6_tickNow_23 (ms_deC dX6_tickNow_25 ms_deN)) rfl rfl ?_
    refine ms_getf dX6_tickNow_26 fg_X6_36 hm rfl ?_
    refine ms_icmp_ge (tgt := 146) dX6_tickNow_29 (by decide) (fun h_29 => ?_) (fun h_29 => ?_)
    · skip
      refine ms_W.sub (lv2 := [(0, _), (1, _), (2, _), (3, _)]) ?_ [0, 1, 2, 3] rfl
      rw [hkN] at hto hsi
      exact kk K ⟨hm, hw_, hk_, ⟨it, hi_, hit⟩, hh_⟩ hF hto hsi
    · skip
      exact absurd (by exact nI_le (b := k) (by omega) (by omega)) h_29
  | succ r ih =>
    intro k hk K hM9 hF hto hsi kk
    have hlt : k < cnt := by omega
    obtain ⟨hm, hw_, hk_, ⟨it, hi_, hit⟩, hh_⟩ := hM9
    have hfr9 := (hF fr hfr.2 (by rintro (z9 | z9 | z9) <;> omega)).trans hf1
    refine ms_run (pc' := 26) (lv' := [(0, .ref m), (1, .ref fr), (2, .ref n), (3, .ref (n + 1)), (4, .int (nI k))]) (st' := [.ref m, .int (nI k)]) _ (ms_deC dX6_tickNow_23 (ms_deC dX6_tickNow_25 ms_deN)) rfl rfl ?_
    refine ms_getf dX6_tickNow_26 fg_X6_36 hm rfl ?_
    refine ms_icmp_ge (tgt := 146) dX6_tickNow_29 (by decide) (fun h_29 => ?_) (fun h_29 => ?_)
    · skip
      exact absurd h_29 (by exact nI_ge (b := cnt) (by omega) (by omega))
    · skip
      refine ms_run (pc' := 36) (lv' := [(0, .ref m), (1, .ref fr), (2, .ref n), (3, .ref (n + 1)), (4, .int (nI k))]) (st' := [.int (-1), .int (nI k), .ref n]) _ (ms_deC dX6_tickNow_32 (ms_deC dX6_tickNow_33 (ms_deC dX6_tickNow_35 ms_deN))) rfl rfl ?_
      refine ms_iastore dX6_tickNow_36 hto (vp_in_nI (by omega) (by omega)) ?_
      rw [nI_clamp (n := k) (by omega)]
      obtain ⟨G_1, eG_1⟩ : ∃ K9 : ms_H, K9 = ms_up K n (.inl (0, 24, .inl (upd (fl2 (mto u (sdX (nI (W * H)) nr ds cnt dr on u cl) (fun k => amT nr (u k) ((sdX (nI (W * H)) nr ds cnt dr on u cl) k)) cl) k) k (-1)))) := ⟨_, rfl⟩
      refine ms_W.heq eG_1 ?_
      have hF_2 : ms_fb (E3 m ai ah) n G G_1 := by rw [eG_1]; exact ms_fb.up hF (by first | exact Or.inl (by omega) | exact Or.inr rfl | exact Or.inr (Or.inl rfl) | exact Or.inr (Or.inr (Or.inl rfl)) | exact Or.inr (Or.inr (Or.inr rfl)) | exact Or.inr (Or.inr rfl))
      have hf_3 := (congrFun eG_1 m).trans ((ms_up_n K _ (by omega)).trans hm)
      have hf_4 := (congrFun eG_1 aw).trans ((ms_up_n K _ (by omega)).trans hw_)
      have hf_5 := (congrFun eG_1 am).trans ((ms_up_n K _ (by omega)).trans hk_)
      have hf_6 := (congrFun eG_1 ai).trans ((ms_up_n K _ (by omega)).trans hi_)
      have hf_7 := (congrFun eG_1 ah).trans ((ms_up_n K _ (by omega)).trans hh_)
      have hf_8 : G_1 n = some (.inl (0, 24, .inl (upd (fl2 (mto u (sdX (nI (W * H)) nr ds cnt dr on u cl) (fun k => amT nr (u k) ((sdX (nI (W * H)) nr ds cnt dr on u cl) k)) cl) k) k (-1)))) := by rw [eG_1]; exact ms_up_s _ _ _
      have hf_9 := (congrFun eG_1 (n + 1)).trans ((ms_up_n K _ (by omega)).trans hsi)
      have hf_10 := (congrFun eG_1 fr).trans ((ms_up_n K _ (by omega)).trans hfr9)
      refine ms_run (pc' := 40) (lv' := [(0, .ref m), (1, .ref fr), (2, .ref n), (3, .ref (n + 1)), (4, .int (nI k))]) (st' := [.int (nI k), .ref m]) _ (ms_deC dX6_tickNow_37 (ms_deC dX6_tickNow_38 ms_deN)) rfl rfl ?_
      refine ms_callVp (As := [.int (nI k)]) dX6_tickNow_40 (c_X6_isOnI ⟨hf_3, hf_4, hf_5, ⟨it, hf_6, hit⟩, hf_7⟩ hW hH hc hlt) cv_X6_110 hf_3 rfl ⟨Nat.le_of_ble_eq_true rfl, Nat.le_of_ble_eq_true rfl⟩ rfl (Nat.le_of_ble_eq_true rfl) ?_
      by_cases hon9 : ¬ u k 3 = -1
      · rw [show ms_b (¬ u k 3 = -1) = 1 from if_pos hon9]
        refine ms_if_eq (tgt := 140) dX6_tickNow_43 (by decide) (fun h9 => absurd h9 (by decide)) (fun _ => ?_)
        refine ms_run (pc' := 47) (lv' := [(0, .ref m), (1, .ref fr), (2, .ref n), (3, .ref (n + 1)), (4, .int (nI k))]) (st' := [.ref m]) _ (ms_deC dX6_tickNow_46 ms_deN) rfl rfl ?_
        refine ms_getf dX6_tickNow_47 fg_X6_26 hf_3 rfl ?_
        refine ms_run (pc' := 51) (lv' := [(0, .ref m), (1, .ref fr), (2, .ref n), (3, .ref (n + 1)), (4, .int (nI k))]) (st' := [.ref m, .int cl]) _ (ms_deC dX6_tickNow_50 ms_deN) rfl rfl ?_
        refine ms_getf dX6_tickNow_51 fg_X6_39 hf_3 rfl ?_
        refine ms_run (pc' := 61) (lv' := [(0, .ref m), (1, .ref fr), (2, .ref n), (3, .ref (n + 1)), (4, .int (nI k))]) (st' := [.int (((nI k) * 8) + 1), .ref ai, .int cl]) _ (ms_deC dX6_tickNow_54 (ms_deC dX6_tickNow_56 (ms_deC dX6_tickNow_58 (ms_deC dX6_tickNow_59 (ms_deC dX6_tickNow_60 ms_deN))))) rfl rfl ?_
        refine ms_iaload dX6_tickNow_61 hf_6 (md_in (k := k) (j := 1) (Nat.lt_of_lt_of_le hlt hc) (by omega)) ?_
        rw [show it (((nI k) * 8) + 1).toNatClampNeg = u k 1 from md_it (k := k) (j := 1) hit hlt hc (by omega)]
        refine ms_irem dX6_tickNow_62 (fun z9 => by have := (hwk k hlt).2.1.1; rw [z9] at this; exact absurd this (by decide)) ?_
        refine ms_if_eq (tgt := 69) dX6_tickNow_63 (by decide) (fun h_63 => ?_) (fun h_63 => ?_)
        · skip
          have htu : wk_turn (u k) cl := ⟨hon9, Int32.lt_of_lt_of_le (by decide) (hwk k hlt).2.1.1, h_63⟩
          refine ms_run (pc' := 77) (lv' := [(0, .ref m), (1, .ref fr), (2, .ref n), (3, .ref (n + 1)), (4, .int (nI k))]) (st' := [.ref m, .ref fr, .int (nI k), .ref m, .int (nI k), .ref (n + 1)]) _ (ms_deC dX6_tickNow_69 (ms_deC dX6_tickNow_70 (ms_deC dX6_tickNow_72 (ms_deC dX6_tickNow_73 (ms_deC dX6_tickNow_75 (ms_deC dX6_tickNow_76 ms_deN)))))) rfl rfl ?_
          refine ms_getf dX6_tickNow_77 fg_X6_39 hf_3 rfl ?_
          refine ms_run (pc' := 87) (lv' := [(0, .ref m), (1, .ref fr), (2, .ref n), (3, .ref (n + 1)), (4, .int (nI k))]) (st' := [.int (((nI k) * 8) + 0), .ref ai, .ref fr, .int (nI k), .ref m, .int (nI k), .ref (n + 1)]) _ (ms_deC dX6_tickNow_80 (ms_deC dX6_tickNow_82 (ms_deC dX6_tickNow_84 (ms_deC dX6_tickNow_85 (ms_deC dX6_tickNow_86 ms_deN))))) rfl rfl ?_
          refine ms_iaload dX6_tickNow_87 hf_6 (md_in (k := k) (j := 0) (Nat.lt_of_lt_of_le hlt hc) (by omega)) ?_
          rw [show it (((nI k) * 8) + 0).toNatClampNeg = u k 0 from md_it (k := k) (j := 0) hit hlt hc (by omega)]
          refine ms_aaloadA dX6_tickNow_88 hf_10 (vp_in_gl (hwk k hlt).1) ?_
          obtain ⟨g, hg, hge⟩ := gl_nI (hwk k hlt).1
          rw [hge, nI_clamp (n := g) (by omega)]
          obtain ⟨bb, eb, eb1, eb2, eb3⟩ := hf2 g hg
          rw [eb]
          show ms_W _ _ _ _ _ (.ref bb :: _) _ _ _ _
          have hbb := (hF_2 bb (by omega) (by rintro (z9 | z9 | z9) <;> omega)).trans eb3
          obtain ⟨own, ho, hpo⟩ := pos_of hW hH hv hlt hon9
          have hc9 := c_X6_wantsNow (n := n + 2) (D := dXg (W * H) nr wl mk g) ⟨hf_3, hf_4, hf_5, ⟨it, hf_6, hit⟩, hf_7⟩ hW hH hc hW0 hL hon hv hbb hlt hpo ho
          rw [wants_eq (ds := ds) hL hc hW hH hon hv hlt hpo ho hg hge (hds g hg) (dX_val h196) (hwk k hlt).2.2 hd] at hc9
          obtain ⟨b9, hb9⟩ : ∃ b9, b9 = bsX (nI (W * H)) nr ds cnt dr on u k := ⟨_, rfl⟩
          rw [← hb9] at hc9
          have hsd : (sdX (nI (W * H)) nr ds cnt dr on u cl) k = b9 := by rw [hb9]; exact if_pos htu
          refine ms_callVp (As := [.int (nI k), .ref bb]) dX6_tickNow_89 (hc9) cv_X6_117 hf_3 rfl ⟨Nat.le_of_ble_eq_true rfl, Nat.le_of_ble_eq_true rfl⟩ rfl (Nat.le_of_ble_eq_true rfl) ?_
          refine ms_iastore dX6_tickNow_92 hf_9 (vp_in_nI (by omega) (by omega)) ?_
          rw [nI_clamp (n := k) (by omega)]
          obtain ⟨G_11, eG_11⟩ : ∃ K9 : ms_H, K9 = ms_up G_1 (n + 1) (.inl (0, 24, .inl (upd (fl2 (msd u (sdX (nI (W * H)) nr ds cnt dr on u cl) cl) k) k b9))) := ⟨_, rfl⟩
          refine ms_W.heq eG_11 ?_
          have hF_12 : ms_fb (E3 m ai ah) n G G_11 := by rw [eG_11]; exact ms_fb.up hF_2 (by first | exact Or.inl (by omega) | exact Or.inr rfl | exact Or.inr (Or.inl rfl) | exact Or.inr (Or.inr (Or.inl rfl)) | exact Or.inr (Or.inr (Or.inr rfl)) | exact Or.inr (Or.inr rfl))
          have hf_13 := (congrFun eG_11 m).trans ((ms_up_n G_1 _ (by omega)).trans hf_3)
          have hf_14 := (congrFun eG_11 aw).trans ((ms_up_n G_1 _ (by omega)).trans hf_4)
          have hf_15 := (congrFun eG_11 am).trans ((ms_up_n G_1 _ (by omega)).trans hf_5)
          have hf_16 := (congrFun eG_11 ai).trans ((ms_up_n G_1 _ (by omega)).trans hf_6)
          have hf_17 := (congrFun eG_11 ah).trans ((ms_up_n G_1 _ (by omega)).trans hf_7)
          have hf_18 := (congrFun eG_11 n).trans ((ms_up_n G_1 _ (by omega)).trans hf_8)
          have hf_19 : G_11 (n + 1) = some (.inl (0, 24, .inl (upd (fl2 (msd u (sdX (nI (W * H)) nr ds cnt dr on u cl) cl) k) k b9))) := by rw [eG_11]; exact ms_up_s _ _ _
          have hf_20 := (congrFun eG_11 fr).trans ((ms_up_n G_1 _ (by omega)).trans hf_10)
          have hf_21 := (congrFun eG_11 bb).trans ((ms_up_n G_1 _ (by omega)).trans hbb)
          refine ms_run (pc' := 99) (lv' := [(0, .ref m), (1, .ref fr), (2, .ref n), (3, .ref (n + 1)), (4, .int (nI k))]) (st' := [.int (nI k), .ref (n + 1), .int (nI k), .ref n]) _ (ms_deC dX6_tickNow_93 (ms_deC dX6_tickNow_94 (ms_deC dX6_tickNow_96 (ms_deC dX6_tickNow_97 ms_deN)))) rfl rfl ?_
          refine ms_iaload dX6_tickNow_99 hf_19 (vp_in_nI (by omega) (by omega)) ?_
          rw [nI_clamp (n := k) (by omega), upd_at]
          refine ms_run (pc' := 101) (lv' := [(0, .ref m), (1, .ref fr), (2, .ref n), (3, .ref (n + 1)), (4, .int (nI k))]) (st' := [.int 4, .int b9, .int (nI k), .ref n]) _ (ms_deC dX6_tickNow_100 ms_deN) rfl rfl ?_
          refine ms_icmp_ne (tgt := 119) dX6_tickNow_101 (by decide) (fun h_101 => ?_) (fun h_101 => ?_)
          · skip
            refine ms_run (pc' := 121) (lv' := [(0, .ref m), (1, .ref fr), (2, .ref n), (3, .ref (n + 1)), (4, .int (nI k))]) (st' := [.ref m, .ref m, .int (nI k), .ref n]) _ (ms_deC dX6_tickNow_119 (ms_deC dX6_tickNow_120 ms_deN)) rfl rfl ?_
            refine ms_getf dX6_tickNow_121 fg_X6_39 hf_13 rfl ?_
            refine ms_run (pc' := 131) (lv' := [(0, .ref m), (1, .ref fr), (2, .ref n), (3, .ref (n + 1)), (4, .int (nI k))]) (st' := [.int (((nI k) * 8) + 3), .ref ai, .ref m, .int (nI k), .ref n]) _ (ms_deC dX6_tickNow_124 (ms_deC dX6_tickNow_126 (ms_deC dX6_tickNow_128 (ms_deC dX6_tickNow_129 (ms_deC dX6_tickNow_130 ms_deN))))) rfl rfl ?_
            refine ms_iaload dX6_tickNow_131 hf_16 (md_in (k := k) (j := 3) (Nat.lt_of_lt_of_le hlt hc) (by omega)) ?_
            rw [show it (((nI k) * 8) + 3).toNatClampNeg = u k 3 from md_it (k := k) (j := 3) hit hlt hc (by omega)]
            refine ms_run (pc' := 135) (lv' := [(0, .ref m), (1, .ref fr), (2, .ref n), (3, .ref (n + 1)), (4, .int (nI k))]) (st' := [.int (nI k), .ref (n + 1), .int (u k 3), .ref m, .int (nI k), .ref n]) _ (ms_deC dX6_tickNow_132 (ms_deC dX6_tickNow_133 ms_deN)) rfl rfl ?_
            refine ms_iaload dX6_tickNow_135 hf_19 (vp_in_nI (by omega) (by omega)) ?_
            rw [nI_clamp (n := k) (by omega), upd_at]
            obtain ⟨s9, hs9, es9⟩ : ∃ s9, s9 ≤ 4 ∧ b9 = nI s9 := by rw [hb9]; exact bsX_val
            have hs4 : s9 < 4 := by rcases Nat.lt_or_eq_of_le hs9 with z9 | z9; exact z9; exact absurd (by rw [es9, z9]; rfl) h_101
            rw [hpo, es9]
            refine ms_callVp (As := [.int (nI own), .int (nI s9)]) dX6_tickNow_136 (c_X6_beside ⟨hf_13, hf_14, hf_15, ⟨it, hf_16, hit⟩, hf_17⟩ hW hH hc hW0 hL ho (s := s9) hs4) cv_X6_70 hf_13 rfl ⟨Nat.le_of_ble_eq_true rfl, Nat.le_of_ble_eq_true rfl⟩ rfl (Nat.le_of_ble_eq_true rfl) ?_
            refine ms_iastore dX6_tickNow_139 hf_18 (vp_in_nI (by omega) (by omega)) ?_
            rw [nI_clamp (n := k) (by omega)]
            obtain ⟨G_22, eG_22⟩ : ∃ K9 : ms_H, K9 = ms_up G_11 n (.inl (0, 24, .inl (upd (upd (fl2 (mto u (sdX (nI (W * H)) nr ds cnt dr on u cl) (fun k => amT nr (u k) ((sdX (nI (W * H)) nr ds cnt dr on u cl) k)) cl) k) k (-1)) k (nbX nr own s9)))) := ⟨_, rfl⟩
            refine ms_W.heq eG_22 ?_
            have hF_23 : ms_fb (E3 m ai ah) n G G_22 := by rw [eG_22]; exact ms_fb.up hF_12 (by first | exact Or.inl (by omega) | exact Or.inr rfl | exact Or.inr (Or.inl rfl) | exact Or.inr (Or.inr (Or.inl rfl)) | exact Or.inr (Or.inr (Or.inr rfl)) | exact Or.inr (Or.inr rfl))
            have hf_24 := (congrFun eG_22 m).trans ((ms_up_n G_11 _ (by omega)).trans hf_13)
            have hf_25 := (congrFun eG_22 aw).trans ((ms_up_n G_11 _ (by omega)).trans hf_14)
            have hf_26 := (congrFun eG_22 am).trans ((ms_up_n G_11 _ (by omega)).trans hf_15)
            have hf_27 := (congrFun eG_22 ai).trans ((ms_up_n G_11 _ (by omega)).trans hf_16)
            have hf_28 := (congrFun eG_22 ah).trans ((ms_up_n G_11 _ (by omega)).trans hf_17)
            have hf_29 : G_22 n = some (.inl (0, 24, .inl (upd (upd (fl2 (mto u (sdX (nI (W * H)) nr ds cnt dr on u cl) (fun k => amT nr (u k) ((sdX (nI (W * H)) nr ds cnt dr on u cl) k)) cl) k) k (-1)) k (nbX nr own s9)))) := by rw [eG_22]; exact ms_up_s _ _ _
            have hf_30 := (congrFun eG_22 (n + 1)).trans ((ms_up_n G_11 _ (by omega)).trans hf_19)
            have hf_31 := (congrFun eG_22 fr).trans ((ms_up_n G_11 _ (by omega)).trans hf_20)
            have hf_32 := (congrFun eG_22 bb).trans ((ms_up_n G_11 _ (by omega)).trans hf_21)
            refine ms_run (pc' := 143) (lv' := [(4, .int ((nI k) + 1)), (0, .ref m), (1, .ref fr), (2, .ref n), (3, .ref (n + 1))]) (st' := []) _ (ms_deC dX6_tickNow_140 ms_deN) rfl rfl ?_
            refine ms_goto (tgt := 23) dX6_tickNow_143 (by decide) ?_
            have eto : (mto u (sdX (nI (W * H)) nr ds cnt dr on u cl) (fun k => amT nr (u k) ((sdX (nI (W * H)) nr ds cnt dr on u cl) k)) cl) k = nbX nr own s9 := by unfold mto; rw [if_pos htu, hsd, if_neg h_101] ; (show amT nr (u k) ((sdX (nI (W * H)) nr ds cnt dr on u cl) k) = _) ; (unfold amT) ; rw [hsd, if_neg h_101, es9, hpo]
            have esd : (msd u (sdX (nI (W * H)) nr ds cnt dr on u cl) cl) k = b9 := by unfold msd; rw [if_pos htu, hsd]
            rw [nI_1 k]
            refine ms_W.sub (lv2 := [(0, _), (1, _), (2, _), (3, _), (4, _)]) ?_ [1, 2, 3, 4, 0] rfl
            exact ih (k + 1) (by omega) G_22 ⟨hf_24, hf_25, hf_26, ⟨it, hf_27, hit⟩, hf_28⟩ hF_23 (by rw [← fl2_v eto, ← upd_upd (x := -1)]; exact hf_29) (by rw [← fl2_v esd]; exact hf_30) kk
          · skip
            refine ms_run (pc' := 105) (lv' := [(0, .ref m), (1, .ref fr), (2, .ref n), (3, .ref (n + 1)), (4, .int (nI k))]) (st' := [.ref m, .int (nI k), .ref n]) _ (ms_deC dX6_tickNow_104 ms_deN) rfl rfl ?_
            refine ms_getf dX6_tickNow_105 fg_X6_39 hf_13 rfl ?_
            refine ms_run (pc' := 115) (lv' := [(0, .ref m), (1, .ref fr), (2, .ref n), (3, .ref (n + 1)), (4, .int (nI k))]) (st' := [.int (((nI k) * 8) + 3), .ref ai, .int (nI k), .ref n]) _ (ms_deC dX6_tickNow_108 (ms_deC dX6_tickNow_110 (ms_deC dX6_tickNow_112 (ms_deC dX6_tickNow_113 (ms_deC dX6_tickNow_114 ms_deN))))) rfl rfl ?_
            refine ms_iaload dX6_tickNow_115 hf_16 (md_in (k := k) (j := 3) (Nat.lt_of_lt_of_le hlt hc) (by omega)) ?_
            rw [show it (((nI k) * 8) + 3).toNatClampNeg = u k 3 from md_it (k := k) (j := 3) hit hlt hc (by omega)]
            refine ms_goto (tgt := 139) dX6_tickNow_116 (by decide) ?_
            refine ms_iastore dX6_tickNow_139 hf_18 (vp_in_nI (by omega) (by omega)) ?_
            rw [nI_clamp (n := k) (by omega)]
            obtain ⟨G_33, eG_33⟩ : ∃ K9 : ms_H, K9 = ms_up G_11 n (.inl (0, 24, .inl (upd (upd (fl2 (mto u (sdX (nI (W * H)) nr ds cnt dr on u cl) (fun k => amT nr (u k) ((sdX (nI (W * H)) nr ds cnt dr on u cl) k)) cl) k) k (-1)) k (u k 3)))) := ⟨_, rfl⟩
            refine ms_W.heq eG_33 ?_
            have hF_34 : ms_fb (E3 m ai ah) n G G_33 := by rw [eG_33]; exact ms_fb.up hF_12 (by first | exact Or.inl (by omega) | exact Or.inr rfl | exact Or.inr (Or.inl rfl) | exact Or.inr (Or.inr (Or.inl rfl)) | exact Or.inr (Or.inr (Or.inr rfl)) | exact Or.inr (Or.inr rfl))
            have hf_35 := (congrFun eG_33 m).trans ((ms_up_n G_11 _ (by omega)).trans hf_13)
            have hf_36 := (congrFun eG_33 aw).trans ((ms_up_n G_11 _ (by omega)).trans hf_14)
            have hf_37 := (congrFun eG_33 am).trans ((ms_up_n G_11 _ (by omega)).trans hf_15)
            have hf_38 := (congrFun eG_33 ai).trans ((ms_up_n G_11 _ (by omega)).trans hf_16)
            have hf_39 := (congrFun eG_33 ah).trans ((ms_up_n G_11 _ (by omega)).trans hf_17)
            have hf_40 : G_33 n = some (.inl (0, 24, .inl (upd (upd (fl2 (mto u (sdX (nI (W * H)) nr ds cnt dr on u cl) (fun k => amT nr (u k) ((sdX (nI (W * H)) nr ds cnt dr on u cl) k)) cl) k) k (-1)) k (u k 3)))) := by rw [eG_33]; exact ms_up_s _ _ _
            have hf_41 := (congrFun eG_33 (n + 1)).trans ((ms_up_n G_11 _ (by omega)).trans hf_19)
            have hf_42 := (congrFun eG_33 fr).trans ((ms_up_n G_11 _ (by omega)).trans hf_20)
            have hf_43 := (congrFun eG_33 bb).trans ((ms_up_n G_11 _ (by omega)).trans hf_21)
            refine ms_run (pc' := 143) (lv' := [(4, .int ((nI k) + 1)), (0, .ref m), (1, .ref fr), (2, .ref n), (3, .ref (n + 1))]) (st' := []) _ (ms_deC dX6_tickNow_140 ms_deN) rfl rfl ?_
            refine ms_goto (tgt := 23) dX6_tickNow_143 (by decide) ?_
            have eto : (mto u (sdX (nI (W * H)) nr ds cnt dr on u cl) (fun k => amT nr (u k) ((sdX (nI (W * H)) nr ds cnt dr on u cl) k)) cl) k = u k 3 := by unfold mto; rw [if_pos htu, hsd, if_pos h_101]
            have esd : (msd u (sdX (nI (W * H)) nr ds cnt dr on u cl) cl) k = b9 := by unfold msd; rw [if_pos htu, hsd]
            rw [nI_1 k]
            refine ms_W.sub (lv2 := [(0, _), (1, _), (2, _), (3, _), (4, _)]) ?_ [1, 2, 3, 4, 0] rfl
            exact ih (k + 1) (by omega) G_33 ⟨hf_35, hf_36, hf_37, ⟨it, hf_38, hit⟩, hf_39⟩ hF_34 (by rw [← fl2_v eto, ← upd_upd (x := -1)]; exact hf_40) (by rw [← fl2_v esd]; exact hf_41) kk
        · skip
          have htu : ¬ wk_turn (u k) cl := fun z9 => h_63 z9.2.2
          refine ms_goto (tgt := 140) dX6_tickNow_66 (by decide) ?_
          refine ms_run (pc' := 143) (lv' := [(4, .int ((nI k) + 1)), (0, .ref m), (1, .ref fr), (2, .ref n), (3, .ref (n + 1))]) (st' := []) _ (ms_deC dX6_tickNow_140 ms_deN) rfl rfl ?_
          refine ms_goto (tgt := 23) dX6_tickNow_143 (by decide) ?_
          have eto : (mto u (sdX (nI (W * H)) nr ds cnt dr on u cl) (fun k => amT nr (u k) ((sdX (nI (W * H)) nr ds cnt dr on u cl) k)) cl) k = -1 := if_neg htu
          have esd : (msd u (sdX (nI (W * H)) nr ds cnt dr on u cl) cl) k = 0 := if_neg htu
          rw [nI_1 k]
          refine ms_W.sub (lv2 := [(0, _), (1, _), (2, _), (3, _), (4, _)]) ?_ [1, 2, 3, 4, 0] rfl
          exact ih (k + 1) (by omega) G_1 ⟨hf_3, hf_4, hf_5, ⟨it, hf_6, hit⟩, hf_7⟩ hF_2 (by rw [← fl2_v eto]; exact hf_8) (by rw [← fl2_z esd]; exact hf_9) kk
      · rw [show ms_b (¬ u k 3 = -1) = 0 from if_neg hon9]
        have htu : ¬ wk_turn (u k) cl := fun z9 => hon9 z9.1
        refine ms_if_eq (tgt := 140) dX6_tickNow_43 (by decide) (fun _ => ?_) (fun h9 => absurd h9 (by decide))
        refine ms_run (pc' := 143) (lv' := [(4, .int ((nI k) + 1)), (0, .ref m), (1, .ref fr), (2, .ref n), (3, .ref (n + 1))]) (st' := []) _ (ms_deC dX6_tickNow_140 ms_deN) rfl rfl ?_
        refine ms_goto (tgt := 23) dX6_tickNow_143 (by decide) ?_
        have eto : (mto u (sdX (nI (W * H)) nr ds cnt dr on u cl) (fun k => amT nr (u k) ((sdX (nI (W * H)) nr ds cnt dr on u cl) k)) cl) k = -1 := if_neg htu
        have esd : (msd u (sdX (nI (W * H)) nr ds cnt dr on u cl) cl) k = 0 := if_neg htu
        rw [nI_1 k]
        refine ms_W.sub (lv2 := [(0, _), (1, _), (2, _), (3, _), (4, _)]) ?_ [1, 2, 3, 4, 0] rfl
        exact ih (k + 1) (by omega) G_1 ⟨hf_3, hf_4, hf_5, ⟨it, hf_6, hit⟩, hf_7⟩ hF_2 (by rw [← fl2_v eto]; exact hf_8) (by rw [← fl2_z esd]; exact hf_9) kk

/-! the model: digest -/
theorem mix0 {c : Int32} : (29977 : Int64) + c.toInt64 = mixL 967 c := by
  unfold mixL
  rw [show (967 : Int64) * 31 = 29977 from by decide]
set_option maxHeartbeats 1000000 in
set_option maxRecDepth 20000 in
theorem l1_X6_digest {n m aw am ai ah W H cnt N : Nat} {G : ms_H} {th dr pa : Int32} {wl mm : Nat → Int32} {X : cX} {nr mk ds : Nat → Int32} (hM : md_at G m aw am ai ah W H th X.2.2.2 dr pa cnt wl mm X.2.1 X.1) (hl : md_lt n m aw am ai ah) (hW : W ≤ 14) (hH : H ≤ 14) (hW0 : 0 < W) (hc : cnt ≤ 24) (hne : md_ne m aw am ai ah) (hL : lk_ok W H (W * H) nr) (hmm : mmR (W * H) mk mm) (hds : dsR (W * H) nr wl mk ds) (hd : 0 ≤ dr ∧ dr ≤ 9) (hN : N < 1000000) (hV : wdV W H cnt N X) {a : Nat} {f : Nat → Int32} {L : Nat → Nat} (hr : G a = some (.inl (0, cnt, .inl f))) (hjL : jL (jbR cnt pa X.1) (nbR cnt nr X.2.2.1 X.1) L) (hjF : jF (jbR cnt pa X.1) L cnt f) {fr lo hi9 : Nat} (hfa : fa_at G fr lo hi9 (W * H) (dXg (W * H) nr wl mk)) {M : Nat} (hMh : M < 1000000) (hhe : heB M (W * H) X.2.1) (hp : 0 < W * H) {P : ms_P} {d0 : Int64} : ∀ (r k : Nat), k + r = 9 → (ms_W false m_X6_digest P 57 [(0, .ref m), (1, .ref fr), (2, .ref a), (3, .long (mxf (cfX (W * H) ds cnt X (jxX pa cnt nr X)) d0 9))] [] n G 0 0) →  ms_W false m_X6_digest (P) 28 [(0, .ref m), (1, .ref fr), (2, .ref a), (3, .long (mxf (cfX (W * H) ds cnt X (jxX pa cnt nr X)) d0 k)), (5, .int (nI k))] [] n G 0 0 := by
  have hM9 := hM
  have hl9 := hl
  have hne9 := hne
  obtain ⟨hm, hw_, hk_, ⟨it, hi_, hit⟩, hh_⟩ := hM
  obtain ⟨l1, l2, l3, l4, l5⟩ := hl
  obtain ⟨n1, n2, n3, n4, n5, n6, n7, n8, n9, n10⟩ := hne
  have h196 := fd_196 hW hH
  have hfa9 := hfa
  obtain ⟨f9, hf1, hf2⟩ := hfa
  intro r
  induction r with
  | zero =>
    intro k hk kk
    have hkN : k = 9 := by omega
    refine ms_run (pc' := 32) (lv' := [(0, .ref m), (1, .ref fr), (2, .ref a), (3, .long (mxf (cfX (W * H) ds cnt X (jxX pa cnt nr X)) d0 k)), (5, .int (nI k))]) (st' := [.int 9, .int (nI k)]) _ (ms_deC dX6_digest_28 (ms_deC dX6_digest_30 ms_deN)) rfl rfl ?_
    refine ms_icmp_ge (tgt := 57) dX6_digest_32 (by decide) (fun h_32 => ?_) (fun h_32 => ?_)
    · skip
      refine ms_W.sub (lv2 := [(0, _), (1, _), (2, _), (3, _)]) ?_ [0, 1, 2, 3] rfl
      rw [hkN]
      exact kk
    · skip
      exact absurd (by show nI 9 ≤ nI k; exact nI_le (b := k) (by omega) (by omega)) h_32
  | succ r ih =>
    intro k hk kk
    have hlt : k < 9 := by omega
    refine ms_run (pc' := 32) (lv' := [(0, .ref m), (1, .ref fr), (2, .ref a), (3, .long (mxf (cfX (W * H) ds cnt X (jxX pa cnt nr X)) d0 k)), (5, .int (nI k))]) (st' := [.int 9, .int (nI k)]) _ (ms_deC dX6_digest_28 (ms_deC dX6_digest_30 ms_deN)) rfl rfl ?_
    refine ms_icmp_ge (tgt := 57) dX6_digest_32 (by decide) (fun h_32 => ?_) (fun h_32 => ?_)
    · skip
      exact absurd h_32 (by show ¬ nI 9 ≤ nI k; exact nI_ge (b := 9) (by omega) (by omega))
    · skip
      refine ms_run (pc' := 36) (lv' := [(0, .ref m), (1, .ref fr), (2, .ref a), (3, .long (mxf (cfX (W * H) ds cnt X (jxX pa cnt nr X)) d0 k)), (5, .int (nI k))]) (st' := [.long (mxf (cfX (W * H) ds cnt X (jxX pa cnt nr X)) d0 k)]) _ (ms_deC dX6_digest_35 ms_deN) rfl rfl ?_
      refine ms_ldc2 dX6_digest_36 lc_X6_166 ?_
      refine ms_run (pc' := 45) (lv' := [(0, .ref m), (1, .ref fr), (2, .ref a), (3, .long (mxf (cfX (W * H) ds cnt X (jxX pa cnt nr X)) d0 k)), (5, .int (nI k))]) (st' := [.ref fr, .ref a, .int (nI k), .ref m, .long ((mxf (cfX (W * H) ds cnt X (jxX pa cnt nr X)) d0 k) * 31)]) _ (ms_deC dX6_digest_39 (ms_deC dX6_digest_40 (ms_deC dX6_digest_41 (ms_deC dX6_digest_43 (ms_deC dX6_digest_44 ms_deN))))) rfl rfl ?_
      refine ms_callVp (As := [.int (nI k), .ref a, .ref fr]) dX6_digest_45 (c_X6_manyNow hM9 hl9 hW hH hW0 hc hne9 hL hmm hds hd hN hV hr hjL hjF hfa9 hMh hhe hp (s := k) (by omega)) cv_X6_140 hm rfl ⟨Nat.le_of_ble_eq_true rfl, Nat.le_of_ble_eq_true rfl⟩ rfl (Nat.le_of_ble_eq_true rfl) ?_
      refine ms_run (pc' := 54) (lv' := [(5, .int ((nI k) + 1)), (3, .long (((mxf (cfX (W * H) ds cnt X (jxX pa cnt nr X)) d0 k) * 31) + (((cfX (W * H) ds cnt X (jxX pa cnt nr X)) k).toInt64))), (0, .ref m), (1, .ref fr), (2, .ref a)]) (st' := []) _ (ms_deC dX6_digest_48 (ms_deC dX6_digest_49 (ms_deC dX6_digest_50 (ms_deC dX6_digest_51 ms_deN)))) rfl rfl ?_
      refine ms_goto (tgt := 28) dX6_digest_54 (by decide) ?_
      rw [show ((mxf (cfX (W * H) ds cnt X (jxX pa cnt nr X)) d0 k) * 31) + (((cfX (W * H) ds cnt X (jxX pa cnt nr X)) k).toInt64) = (mxf (cfX (W * H) ds cnt X (jxX pa cnt nr X)) d0 (k + 1)) from rfl]
      rw [nI_1 k]
      refine ms_W.sub (lv2 := [(0, _), (1, _), (2, _), (3, _), (5, _)]) ?_ [2, 3, 4, 1, 0] rfl
      exact ih (k + 1) (by omega) kk
set_option maxHeartbeats 1000000 in
set_option maxRecDepth 20000 in
theorem l2_X6_digest {n m aw am ai ah W H cnt N : Nat} {G : ms_H} {th dr pa : Int32} {wl mm : Nat → Int32} {X : cX} {nr mk ds : Nat → Int32} (hM : md_at G m aw am ai ah W H th X.2.2.2 dr pa cnt wl mm X.2.1 X.1) (hl : md_lt n m aw am ai ah) (hW : W ≤ 14) (hH : H ≤ 14) (hW0 : 0 < W) (hc : cnt ≤ 24) (hne : md_ne m aw am ai ah) (hL : lk_ok W H (W * H) nr) (hmm : mmR (W * H) mk mm) (hds : dsR (W * H) nr wl mk ds) (hd : 0 ≤ dr ∧ dr ≤ 9) (hN : N < 1000000) (hV : wdV W H cnt N X) {a : Nat} {f : Nat → Int32} {L : Nat → Nat} (hr : G a = some (.inl (0, cnt, .inl f))) (hjL : jL (jbR cnt pa X.1) (nbR cnt nr X.2.2.1 X.1) L) (hjF : jF (jbR cnt pa X.1) L cnt f) {fr lo hi9 : Nat} (hfa : fa_at G fr lo hi9 (W * H) (dXg (W * H) nr wl mk)) {M : Nat} (hMh : M < 1000000) (hhe : heB M (W * H) X.2.1) (hp : 0 < W * H) {P : ms_P} {d0 : Int64} : ∀ (r k : Nat), k + r = 4 → (ms_W false m_X6_digest P 87 [(0, .ref m), (1, .ref fr), (2, .ref a), (3, .long (mxf (fun g => mx (fun j => ds (g * 196 + j)) (W * H)) d0 4))] [] n G 0 0) →  ms_W false m_X6_digest (P) 60 [(0, .ref m), (1, .ref fr), (2, .ref a), (3, .long (mxf (fun g => mx (fun j => ds (g * 196 + j)) (W * H)) d0 k)), (5, .int (nI k))] [] n G 0 0 := by
  have hM9 := hM
  have hl9 := hl
  have hne9 := hne
  obtain ⟨hm, hw_, hk_, ⟨it, hi_, hit⟩, hh_⟩ := hM
  obtain ⟨l1, l2, l3, l4, l5⟩ := hl
  obtain ⟨n1, n2, n3, n4, n5, n6, n7, n8, n9, n10⟩ := hne
  have h196 := fd_196 hW hH
  have hfa9 := hfa
  obtain ⟨f9, hf1, hf2⟩ := hfa
  intro r
  induction r with
  | zero =>
    intro k hk kk
    have hkN : k = 4 := by omega
    refine ms_run (pc' := 63) (lv' := [(0, .ref m), (1, .ref fr), (2, .ref a), (3, .long (mxf (fun g => mx (fun j => ds (g * 196 + j)) (W * H)) d0 k)), (5, .int (nI k))]) (st' := [.int 4, .int (nI k)]) _ (ms_deC dX6_digest_60 (ms_deC dX6_digest_62 ms_deN)) rfl rfl ?_
    refine ms_icmp_ge (tgt := 87) dX6_digest_63 (by decide) (fun h_63 => ?_) (fun h_63 => ?_)
    · skip
      refine ms_W.sub (lv2 := [(0, _), (1, _), (2, _), (3, _)]) ?_ [0, 1, 2, 3] rfl
      rw [hkN]
      exact kk
    · skip
      exact absurd (by show nI 4 ≤ nI k; exact nI_le (b := k) (by omega) (by omega)) h_63
  | succ r ih =>
    intro k hk kk
    have hlt : k < 4 := by omega
    refine ms_run (pc' := 63) (lv' := [(0, .ref m), (1, .ref fr), (2, .ref a), (3, .long (mxf (fun g => mx (fun j => ds (g * 196 + j)) (W * H)) d0 k)), (5, .int (nI k))]) (st' := [.int 4, .int (nI k)]) _ (ms_deC dX6_digest_60 (ms_deC dX6_digest_62 ms_deN)) rfl rfl ?_
    refine ms_icmp_ge (tgt := 87) dX6_digest_63 (by decide) (fun h_63 => ?_) (fun h_63 => ?_)
    · skip
      exact absurd h_63 (by show ¬ nI 4 ≤ nI k; exact nI_ge (b := 4) (by omega) (by omega))
    · skip
      refine ms_run (pc' := 67) (lv' := [(0, .ref m), (1, .ref fr), (2, .ref a), (3, .long (mxf (fun g => mx (fun j => ds (g * 196 + j)) (W * H)) d0 k)), (5, .int (nI k))]) (st' := [.long (mxf (fun g => mx (fun j => ds (g * 196 + j)) (W * H)) d0 k)]) _ (ms_deC dX6_digest_66 ms_deN) rfl rfl ?_
      refine ms_ldc2 dX6_digest_67 lc_X6_166 ?_
      refine ms_run (pc' := 74) (lv' := [(0, .ref m), (1, .ref fr), (2, .ref a), (3, .long (mxf (fun g => mx (fun j => ds (g * 196 + j)) (W * H)) d0 k)), (5, .int (nI k))]) (st' := [.int (nI k), .ref fr, .long ((mxf (fun g => mx (fun j => ds (g * 196 + j)) (W * H)) d0 k) * 31)]) _ (ms_deC dX6_digest_70 (ms_deC dX6_digest_71 (ms_deC dX6_digest_72 ms_deN))) rfl rfl ?_
      refine ms_aaloadA dX6_digest_74 hf1 (vp_in_nI hlt (by omega)) ?_
      rw [nI_clamp (n := k) (by omega)]
      obtain ⟨bb, eb, eb1, eb2, eb3⟩ := hf2 k hlt
      rw [eb]
      show ms_W _ _ _ _ _ (.ref bb :: _) _ _ _ _
      have hq := c_X6_most (n := n) eb3 (by omega)
      rw [show mx (dXg (W * H) nr wl mk k) (W * H) = (fun g => mx (fun j => ds (g * 196 + j)) (W * H)) k from mx_congr (fun j hj => (hds k hlt j hj).symm)] at hq
      refine ms_callSp (As := [.ref bb]) dX6_digest_75 (hq) cs_X6_100 rfl ⟨Nat.le_of_ble_eq_true rfl, Nat.le_of_ble_eq_true rfl⟩ rfl (Nat.le_of_ble_eq_true rfl) ?_
      refine ms_run (pc' := 84) (lv' := [(5, .int ((nI k) + 1)), (3, .long (((mxf (fun g => mx (fun j => ds (g * 196 + j)) (W * H)) d0 k) * 31) + (((fun g => mx (fun j => ds (g * 196 + j)) (W * H)) k).toInt64))), (0, .ref m), (1, .ref fr), (2, .ref a)]) (st' := []) _ (ms_deC dX6_digest_78 (ms_deC dX6_digest_79 (ms_deC dX6_digest_80 (ms_deC dX6_digest_81 ms_deN)))) rfl rfl ?_
      refine ms_goto (tgt := 60) dX6_digest_84 (by decide) ?_
      rw [show ((mxf (fun g => mx (fun j => ds (g * 196 + j)) (W * H)) d0 k) * 31) + (((fun g => mx (fun j => ds (g * 196 + j)) (W * H)) k).toInt64) = (mxf (fun g => mx (fun j => ds (g * 196 + j)) (W * H)) d0 (k + 1)) from rfl]
      rw [nI_1 k]
      refine ms_W.sub (lv2 := [(0, _), (1, _), (2, _), (3, _), (5, _)]) ?_ [2, 3, 4, 1, 0] rfl
      exact ih (k + 1) (by omega) kk
set_option maxHeartbeats 1000000 in
set_option maxRecDepth 20000 in
theorem l3_X6_digest {n m aw am ai ah W H cnt N : Nat} {G : ms_H} {th dr pa : Int32} {wl mm : Nat → Int32} {X : cX} {nr mk ds : Nat → Int32} (hM : md_at G m aw am ai ah W H th X.2.2.2 dr pa cnt wl mm X.2.1 X.1) (hl : md_lt n m aw am ai ah) (hW : W ≤ 14) (hH : H ≤ 14) (hW0 : 0 < W) (hc : cnt ≤ 24) (hne : md_ne m aw am ai ah) (hL : lk_ok W H (W * H) nr) (hmm : mmR (W * H) mk mm) (hds : dsR (W * H) nr wl mk ds) (hd : 0 ≤ dr ∧ dr ≤ 9) (hN : N < 1000000) (hV : wdV W H cnt N X) {a : Nat} {f : Nat → Int32} {L : Nat → Nat} (hr : G a = some (.inl (0, cnt, .inl f))) (hjL : jL (jbR cnt pa X.1) (nbR cnt nr X.2.2.1 X.1) L) (hjF : jF (jbR cnt pa X.1) L cnt f) {fr lo hi9 : Nat} (hfa : fa_at G fr lo hi9 (W * H) (dXg (W * H) nr wl mk)) {M : Nat} (hMh : M < 1000000) (hhe : heB M (W * H) X.2.1) (hp : 0 < W * H) {P : ms_P} {d0 : Int64} {i : Nat} (hi9 : i < cnt) : ∀ (r k : Nat), k + r = 9 → (ms_W false m_X6_digest P 132 [(0, .ref m), (1, .ref fr), (2, .ref a), (3, .long (mxf (cr_fig (nI (W * H)) ds (X.1 i)) d0 9)), (5, .int (nI i))] [] n G 0 0) →  ms_W false m_X6_digest (P) 102 [(0, .ref m), (1, .ref fr), (2, .ref a), (3, .long (mxf (cr_fig (nI (W * H)) ds (X.1 i)) d0 k)), (5, .int (nI i)), (6, .int (nI k))] [] n G 0 0 := by
  have hM9 := hM
  have hl9 := hl
  have hne9 := hne
  obtain ⟨hm, hw_, hk_, ⟨it, hi_, hit⟩, hh_⟩ := hM
  obtain ⟨l1, l2, l3, l4, l5⟩ := hl
  obtain ⟨n1, n2, n3, n4, n5, n6, n7, n8, n9, n10⟩ := hne
  have h196 := fd_196 hW hH
  have hfa9 := hfa
  obtain ⟨f9, hf1, hf2⟩ := hfa
  intro r
  induction r with
  | zero =>
    intro k hk kk
    have hkN : k = 9 := by omega
    refine ms_run (pc' := 106) (lv' := [(0, .ref m), (1, .ref fr), (2, .ref a), (3, .long (mxf (cr_fig (nI (W * H)) ds (X.1 i)) d0 k)), (5, .int (nI i)), (6, .int (nI k))]) (st' := [.int 9, .int (nI k)]) _ (ms_deC dX6_digest_102 (ms_deC dX6_digest_104 ms_deN)) rfl rfl ?_
    refine ms_icmp_ge (tgt := 132) dX6_digest_106 (by decide) (fun h_106 => ?_) (fun h_106 => ?_)
    · skip
      refine ms_W.sub (lv2 := [(0, _), (1, _), (2, _), (3, _), (5, _)]) ?_ [0, 1, 2, 3, 4] rfl
      rw [hkN]
      exact kk
    · skip
      exact absurd (by show nI 9 ≤ nI k; exact nI_le (b := k) (by omega) (by omega)) h_106
  | succ r ih =>
    intro k hk kk
    have hlt : k < 9 := by omega
    refine ms_run (pc' := 106) (lv' := [(0, .ref m), (1, .ref fr), (2, .ref a), (3, .long (mxf (cr_fig (nI (W * H)) ds (X.1 i)) d0 k)), (5, .int (nI i)), (6, .int (nI k))]) (st' := [.int 9, .int (nI k)]) _ (ms_deC dX6_digest_102 (ms_deC dX6_digest_104 ms_deN)) rfl rfl ?_
    refine ms_icmp_ge (tgt := 132) dX6_digest_106 (by decide) (fun h_106 => ?_) (fun h_106 => ?_)
    · skip
      exact absurd h_106 (by show ¬ nI 9 ≤ nI k; exact nI_ge (b := 9) (by omega) (by omega))
    · skip
      refine ms_run (pc' := 110) (lv' := [(0, .ref m), (1, .ref fr), (2, .ref a), (3, .long (mxf (cr_fig (nI (W * H)) ds (X.1 i)) d0 k)), (5, .int (nI i)), (6, .int (nI k))]) (st' := [.long (mxf (cr_fig (nI (W * H)) ds (X.1 i)) d0 k)]) _ (ms_deC dX6_digest_109 ms_deN) rfl rfl ?_
      refine ms_ldc2 dX6_digest_110 lc_X6_166 ?_
      refine ms_run (pc' := 120) (lv' := [(0, .ref m), (1, .ref fr), (2, .ref a), (3, .long (mxf (cr_fig (nI (W * H)) ds (X.1 i)) d0 k)), (5, .int (nI i)), (6, .int (nI k))]) (st' := [.ref fr, .int (nI k), .int (nI i), .ref m, .long ((mxf (cr_fig (nI (W * H)) ds (X.1 i)) d0 k) * 31)]) _ (ms_deC dX6_digest_113 (ms_deC dX6_digest_114 (ms_deC dX6_digest_115 (ms_deC dX6_digest_117 (ms_deC dX6_digest_119 ms_deN))))) rfl rfl ?_
      refine ms_callVp (As := [.int (nI i), .int (nI k), .ref fr]) dX6_digest_120 (c_X6_ofNow hM9 hl9 hW hH hW0 hc hne9 hL hmm hds hd hN hV hfa9 hi9 (s := k) (by omega)) cv_X6_144 hm rfl ⟨Nat.le_of_ble_eq_true rfl, Nat.le_of_ble_eq_true rfl⟩ rfl (Nat.le_of_ble_eq_true rfl) ?_
      refine ms_run (pc' := 129) (lv' := [(6, .int ((nI k) + 1)), (3, .long (((mxf (cr_fig (nI (W * H)) ds (X.1 i)) d0 k) * 31) + (((cr_fig (nI (W * H)) ds (X.1 i)) k).toInt64))), (0, .ref m), (1, .ref fr), (2, .ref a), (5, .int (nI i))]) (st' := []) _ (ms_deC dX6_digest_123 (ms_deC dX6_digest_124 (ms_deC dX6_digest_125 (ms_deC dX6_digest_126 ms_deN)))) rfl rfl ?_
      refine ms_goto (tgt := 102) dX6_digest_129 (by decide) ?_
      rw [show ((mxf (cr_fig (nI (W * H)) ds (X.1 i)) d0 k) * 31) + (((cr_fig (nI (W * H)) ds (X.1 i)) k).toInt64) = (mxf (cr_fig (nI (W * H)) ds (X.1 i)) d0 (k + 1)) from rfl]
      rw [nI_1 k]
      refine ms_W.sub (lv2 := [(0, _), (1, _), (2, _), (3, _), (5, _), (6, _)]) ?_ [2, 3, 4, 1, 5, 0] rfl
      exact ih (k + 1) (by omega) kk
set_option maxHeartbeats 1000000 in
set_option maxRecDepth 20000 in
theorem l4_X6_digest {n m aw am ai ah W H cnt N : Nat} {G : ms_H} {th dr pa : Int32} {wl mm : Nat → Int32} {X : cX} {nr mk ds : Nat → Int32} (hM : md_at G m aw am ai ah W H th X.2.2.2 dr pa cnt wl mm X.2.1 X.1) (hl : md_lt n m aw am ai ah) (hW : W ≤ 14) (hH : H ≤ 14) (hW0 : 0 < W) (hc : cnt ≤ 24) (hne : md_ne m aw am ai ah) (hL : lk_ok W H (W * H) nr) (hmm : mmR (W * H) mk mm) (hds : dsR (W * H) nr wl mk ds) (hd : 0 ≤ dr ∧ dr ≤ 9) (hN : N < 1000000) (hV : wdV W H cnt N X) {a : Nat} {f : Nat → Int32} {L : Nat → Nat} (hr : G a = some (.inl (0, cnt, .inl f))) (hjL : jL (jbR cnt pa X.1) (nbR cnt nr X.2.2.1 X.1) L) (hjF : jF (jbR cnt pa X.1) L cnt f) {fr lo hi9 : Nat} (hfa : fa_at G fr lo hi9 (W * H) (dXg (W * H) nr wl mk)) {M : Nat} (hMh : M < 1000000) (hhe : heB M (W * H) X.2.1) (hp : 0 < W * H) {P : ms_P} {d0 : Int64} {i : Nat} (hi9 : i < cnt) (hon8 : ¬ X.1 i 3 = -1) : ∀ (r k : Nat), k + r = 5 → (ms_W false m_X6_digest P 201 [(0, .ref m), (1, .ref fr), (2, .ref a), (3, .long (mxf (fun s => cr_cost (nI (W * H)) nr ds X.2.2.1 (hdX cnt dr) X.1 (X.1 i) (nI s)) d0 5)), (5, .int (nI i))] [] n G 0 0) →  ms_W false m_X6_digest (P) 150 [(0, .ref m), (1, .ref fr), (2, .ref a), (3, .long (mxf (fun s => cr_cost (nI (W * H)) nr ds X.2.2.1 (hdX cnt dr) X.1 (X.1 i) (nI s)) d0 k)), (5, .int (nI i)), (6, .int (nI k))] [] n G 0 0 := by
  have hM9 := hM
  have hl9 := hl
  have hne9 := hne
  obtain ⟨hm, hw_, hk_, ⟨it, hi_, hit⟩, hh_⟩ := hM
  obtain ⟨l1, l2, l3, l4, l5⟩ := hl
  obtain ⟨n1, n2, n3, n4, n5, n6, n7, n8, n9, n10⟩ := hne
  have h196 := fd_196 hW hH
  have hfa9 := hfa
  obtain ⟨f9, hf1, hf2⟩ := hfa
  intro r
  induction r with
  | zero =>
    intro k hk kk
    have hkN : k = 5 := by omega
    refine ms_run (pc' := 153) (lv' := [(0, .ref m), (1, .ref fr), (2, .ref a), (3, .long (mxf (fun s => cr_cost (nI (W * H)) nr ds X.2.2.1 (hdX cnt dr) X.1 (X.1 i) (nI s)) d0 k)), (5, .int (nI i)), (6, .int (nI k))]) (st' := [.int 4, .int (nI k)]) _ (ms_deC dX6_digest_150 (ms_deC dX6_digest_152 ms_deN)) rfl rfl ?_
    refine ms_icmp_gt (tgt := 201) dX6_digest_153 (by decide) (fun h_153 => ?_) (fun h_153 => ?_)
    · skip
      refine ms_W.sub (lv2 := [(0, _), (1, _), (2, _), (3, _), (5, _)]) ?_ [0, 1, 2, 3, 4] rfl
      rw [hkN]
      exact kk
    · skip
      exact absurd (show (4 : Int32) < nI k from nI_lt (a := 4) (b := k) (by omega) (by omega)) h_153
  | succ r ih =>
    intro k hk kk
    have hlt : k < 5 := by omega
    refine ms_run (pc' := 153) (lv' := [(0, .ref m), (1, .ref fr), (2, .ref a), (3, .long (mxf (fun s => cr_cost (nI (W * H)) nr ds X.2.2.1 (hdX cnt dr) X.1 (X.1 i) (nI s)) d0 k)), (5, .int (nI i)), (6, .int (nI k))]) (st' := [.int 4, .int (nI k)]) _ (ms_deC dX6_digest_150 (ms_deC dX6_digest_152 ms_deN)) rfl rfl ?_
    refine ms_icmp_gt (tgt := 201) dX6_digest_153 (by decide) (fun h_153 => ?_) (fun h_153 => ?_)
    · skip
      exact absurd h_153 (show ¬ (4 : Int32) < nI k from nI_nlt (a := 4) (b := k) (by omega) (by omega))
    · skip
      refine ms_run (pc' := 159) (lv' := [(0, .ref m), (1, .ref fr), (2, .ref a), (3, .long (mxf (fun s => cr_cost (nI (W * H)) nr ds X.2.2.1 (hdX cnt dr) X.1 (X.1 i) (nI s)) d0 k)), (5, .int (nI i)), (6, .int (nI k))]) (st' := [.int (nI i), .ref m]) _ (ms_deC dX6_digest_156 (ms_deC dX6_digest_157 ms_deN)) rfl rfl ?_
      refine ms_callVp (As := [.int (nI i)]) dX6_digest_159 (c_X6_isOnI hM9 hW hH hc hi9) cv_X6_110 hm rfl ⟨Nat.le_of_ble_eq_true rfl, Nat.le_of_ble_eq_true rfl⟩ rfl (Nat.le_of_ble_eq_true rfl) ?_
      by_cases hon9 : ¬ X.1 i 3 = -1
      · rw [show ms_b (¬ X.1 i 3 = -1) = 1 from if_pos hon9]
        obtain ⟨own, ho, hpo⟩ := pos_of hW hH hV.2.1 hi9 hon9
        obtain ⟨g, hg, hgo⟩ := gl_nI (hV.2.2.1 i hi9).1
        refine ms_if_eq (tgt := 201) dX6_digest_162 (by decide) (fun h9 => absurd h9 (by decide)) (fun _ => ?_)
        refine ms_run (pc' := 166) (lv' := [(0, .ref m), (1, .ref fr), (2, .ref a), (3, .long (mxf (fun s => cr_cost (nI (W * H)) nr ds X.2.2.1 (hdX cnt dr) X.1 (X.1 i) (nI s)) d0 k)), (5, .int (nI i)), (6, .int (nI k))]) (st' := [.long (mxf (fun s => cr_cost (nI (W * H)) nr ds X.2.2.1 (hdX cnt dr) X.1 (X.1 i) (nI s)) d0 k)]) _ (ms_deC dX6_digest_165 ms_deN) rfl rfl ?_
        refine ms_ldc2 dX6_digest_166 lc_X6_166 ?_
        refine ms_run (pc' := 177) (lv' := [(0, .ref m), (1, .ref fr), (2, .ref a), (3, .long (mxf (fun s => cr_cost (nI (W * H)) nr ds X.2.2.1 (hdX cnt dr) X.1 (X.1 i) (nI s)) d0 k)), (5, .int (nI i)), (6, .int (nI k))]) (st' := [.ref m, .ref fr, .int (nI k), .int (nI i), .ref m, .long ((mxf (fun s => cr_cost (nI (W * H)) nr ds X.2.2.1 (hdX cnt dr) X.1 (X.1 i) (nI s)) d0 k) * 31)]) _ (ms_deC dX6_digest_169 (ms_deC dX6_digest_170 (ms_deC dX6_digest_171 (ms_deC dX6_digest_173 (ms_deC dX6_digest_175 (ms_deC dX6_digest_176 ms_deN)))))) rfl rfl ?_
        refine ms_getf dX6_digest_177 fg_X6_39 hm rfl ?_
        refine ms_run (pc' := 187) (lv' := [(0, .ref m), (1, .ref fr), (2, .ref a), (3, .long (mxf (fun s => cr_cost (nI (W * H)) nr ds X.2.2.1 (hdX cnt dr) X.1 (X.1 i) (nI s)) d0 k)), (5, .int (nI i)), (6, .int (nI k))]) (st' := [.int (((nI i) * 8) + 0), .ref ai, .ref fr, .int (nI k), .int (nI i), .ref m, .long ((mxf (fun s => cr_cost (nI (W * H)) nr ds X.2.2.1 (hdX cnt dr) X.1 (X.1 i) (nI s)) d0 k) * 31)]) _ (ms_deC dX6_digest_180 (ms_deC dX6_digest_182 (ms_deC dX6_digest_184 (ms_deC dX6_digest_185 (ms_deC dX6_digest_186 ms_deN))))) rfl rfl ?_
        refine ms_iaload dX6_digest_187 hi_ (md_in (k := i) (j := 0) (Nat.lt_of_lt_of_le hi9 hc) (by omega)) ?_
        rw [show it (((nI i) * 8) + 0).toNatClampNeg = X.1 i 0 from md_it (k := i) (j := 0) hit hi9 hc (by omega)]
        rw [hgo]
        refine ms_aaloadA dX6_digest_188 hf1 (vp_in_nI hg (by omega)) ?_
        rw [nI_clamp (n := g) (by omega)]
        obtain ⟨bb, eb, eb1, eb2, eb3⟩ := hf2 g hg
        rw [eb]
        show ms_W _ _ _ _ _ (.ref bb :: _) _ _ _ _
        have hc9 := c_X6_costAny (n := n) (D := dXg (W * H) nr wl mk g) hM9 hW hH hc hW0 hL hV.1 hV.2.1 eb3 hi9 hpo ho (s := k) (by omega)
        rw [cost_any (ds := ds) hL hc hW hH hV.1 hV.2.1 hi9 hpo ho hg hgo (hds g hg) (by omega)] at hc9
        refine ms_callVp (As := [.int (nI i), .int (nI k), .ref bb]) dX6_digest_189 (hc9) cv_X6_113 hm rfl ⟨Nat.le_of_ble_eq_true rfl, Nat.le_of_ble_eq_true rfl⟩ rfl (Nat.le_of_ble_eq_true rfl) ?_
        refine ms_run (pc' := 198) (lv' := [(6, .int ((nI k) + 1)), (3, .long (((mxf (fun s => cr_cost (nI (W * H)) nr ds X.2.2.1 (hdX cnt dr) X.1 (X.1 i) (nI s)) d0 k) * 31) + (((fun s => cr_cost (nI (W * H)) nr ds X.2.2.1 (hdX cnt dr) X.1 (X.1 i) (nI s)) k).toInt64))), (0, .ref m), (1, .ref fr), (2, .ref a), (5, .int (nI i))]) (st' := []) _ (ms_deC dX6_digest_192 (ms_deC dX6_digest_193 (ms_deC dX6_digest_194 (ms_deC dX6_digest_195 ms_deN)))) rfl rfl ?_
        refine ms_goto (tgt := 150) dX6_digest_198 (by decide) ?_
        rw [show ((mxf (fun s => cr_cost (nI (W * H)) nr ds X.2.2.1 (hdX cnt dr) X.1 (X.1 i) (nI s)) d0 k) * 31) + (((fun s => cr_cost (nI (W * H)) nr ds X.2.2.1 (hdX cnt dr) X.1 (X.1 i) (nI s)) k).toInt64) = (mxf (fun s => cr_cost (nI (W * H)) nr ds X.2.2.1 (hdX cnt dr) X.1 (X.1 i) (nI s)) d0 (k + 1)) from rfl]
        rw [nI_1 k]
        refine ms_W.sub (lv2 := [(0, _), (1, _), (2, _), (3, _), (5, _), (6, _)]) ?_ [2, 3, 4, 1, 5, 0] rfl
        exact ih (k + 1) (by omega) kk
      · rw [show ms_b (¬ X.1 i 3 = -1) = 0 from if_neg hon9]
        exact absurd hon8 hon9
set_option maxHeartbeats 1000000 in
set_option maxRecDepth 20000 in
theorem l5_X6_digest {n m aw am ai ah W H cnt N : Nat} {G : ms_H} {th dr pa : Int32} {wl mm : Nat → Int32} {X : cX} {nr mk ds : Nat → Int32} (hM : md_at G m aw am ai ah W H th X.2.2.2 dr pa cnt wl mm X.2.1 X.1) (hl : md_lt n m aw am ai ah) (hW : W ≤ 14) (hH : H ≤ 14) (hW0 : 0 < W) (hc : cnt ≤ 24) (hne : md_ne m aw am ai ah) (hL : lk_ok W H (W * H) nr) (hmm : mmR (W * H) mk mm) (hds : dsR (W * H) nr wl mk ds) (hd : 0 ≤ dr ∧ dr ≤ 9) (hN : N < 1000000) (hV : wdV W H cnt N X) {a : Nat} {f : Nat → Int32} {L : Nat → Nat} (hr : G a = some (.inl (0, cnt, .inl f))) (hjL : jL (jbR cnt pa X.1) (nbR cnt nr X.2.2.1 X.1) L) (hjF : jF (jbR cnt pa X.1) L cnt f) {fr lo hi9 : Nat} (hfa : fa_at G fr lo hi9 (W * H) (dXg (W * H) nr wl mk)) {M : Nat} (hMh : M < 1000000) (hhe : heB M (W * H) X.2.1) (hp : 0 < W * H) {P : ms_P} {d0 : Int64} : ∀ (r k : Nat), k + r = cnt → (ms_W false m_X6_digest P 207 [(0, .ref m), (1, .ref fr), (2, .ref a), (3, .long (fdl (dgW (nI (W * H)) nr ds cnt dr X (jxX pa cnt nr X)) d0 cnt))] [] n G 0 0) →  ms_W false m_X6_digest (P) 90 [(0, .ref m), (1, .ref fr), (2, .ref a), (3, .long (fdl (dgW (nI (W * H)) nr ds cnt dr X (jxX pa cnt nr X)) d0 k)), (5, .int (nI k))] [] n G 0 0 := by
  have hM9 := hM
  have hl9 := hl
  have hne9 := hne
  obtain ⟨hm, hw_, hk_, ⟨it, hi_, hit⟩, hh_⟩ := hM
  obtain ⟨l1, l2, l3, l4, l5⟩ := hl
  obtain ⟨n1, n2, n3, n4, n5, n6, n7, n8, n9, n10⟩ := hne
  have h196 := fd_196 hW hH
  have hfa9 := hfa
  obtain ⟨f9, hf1, hf2⟩ := hfa
  intro r
  induction r with
  | zero =>
    intro k hk kk
    have hkN : k = cnt := by omega
    refine ms_run (pc' := 93) (lv' := [(0, .ref m), (1, .ref fr), (2, .ref a), (3, .long (fdl (dgW (nI (W * H)) nr ds cnt dr X (jxX pa cnt nr X)) d0 k)), (5, .int (nI k))]) (st' := [.ref m, .int (nI k)]) _ (ms_deC dX6_digest_90 (ms_deC dX6_digest_92 ms_deN)) rfl rfl ?_
    refine ms_getf dX6_digest_93 fg_X6_36 hm rfl ?_
    refine ms_icmp_ge (tgt := 207) dX6_digest_96 (by decide) (fun h_96 => ?_) (fun h_96 => ?_)
    · skip
      refine ms_W.sub (lv2 := [(0, _), (1, _), (2, _), (3, _)]) ?_ [0, 1, 2, 3] rfl
      rw [hkN]
      exact kk
    · skip
      exact absurd (by exact nI_le (b := k) (by omega) (by omega)) h_96
  | succ r ih =>
    intro k hk kk
    have hlt : k < cnt := by omega
    refine ms_run (pc' := 93) (lv' := [(0, .ref m), (1, .ref fr), (2, .ref a), (3, .long (fdl (dgW (nI (W * H)) nr ds cnt dr X (jxX pa cnt nr X)) d0 k)), (5, .int (nI k))]) (st' := [.ref m, .int (nI k)]) _ (ms_deC dX6_digest_90 (ms_deC dX6_digest_92 ms_deN)) rfl rfl ?_
    refine ms_getf dX6_digest_93 fg_X6_36 hm rfl ?_
    refine ms_icmp_ge (tgt := 207) dX6_digest_96 (by decide) (fun h_96 => ?_) (fun h_96 => ?_)
    · skip
      exact absurd h_96 (by exact nI_ge (b := cnt) (by omega) (by omega))
    · skip
      refine ms_run (pc' := 102) (lv' := [(6, .int 0), (0, .ref m), (1, .ref fr), (2, .ref a), (3, .long (fdl (dgW (nI (W * H)) nr ds cnt dr X (jxX pa cnt nr X)) d0 k)), (5, .int (nI k))]) (st' := []) _ (ms_deC dX6_digest_99 (ms_deC dX6_digest_100 ms_deN)) rfl rfl ?_
      refine ms_W.sub (lv2 := [(0, _), (1, _), (2, _), (3, _), (5, _), (6, _)]) ?_ [1, 2, 3, 4, 5, 0] rfl
      refine l3_X6_digest hM9 hl9 hW hH hW0 hc hne9 hL hmm hds hd hN hV hr hjL hjF hfa9 hMh hhe hp (d0 := (fdl (dgW (nI (W * H)) nr ds cnt dr X (jxX pa cnt nr X)) d0 k)) hlt 9 0 rfl ?_
      refine ms_run (pc' := 133) (lv' := [(0, .ref m), (1, .ref fr), (2, .ref a), (3, .long (mxf (cr_fig (nI (W * H)) ds (X.1 k)) (fdl (dgW (nI (W * H)) nr ds cnt dr X (jxX pa cnt nr X)) d0 k) 9)), (5, .int (nI k))]) (st' := [.long (mxf (cr_fig (nI (W * H)) ds (X.1 k)) (fdl (dgW (nI (W * H)) nr ds cnt dr X (jxX pa cnt nr X)) d0 k) 9)]) _ (ms_deC dX6_digest_132 ms_deN) rfl rfl ?_
      refine ms_ldc2 dX6_digest_133 lc_X6_166 ?_
      refine ms_run (pc' := 141) (lv' := [(0, .ref m), (1, .ref fr), (2, .ref a), (3, .long (mxf (cr_fig (nI (W * H)) ds (X.1 k)) (fdl (dgW (nI (W * H)) nr ds cnt dr X (jxX pa cnt nr X)) d0 k) 9)), (5, .int (nI k))]) (st' := [.ref a, .int (nI k), .ref m, .long ((mxf (cr_fig (nI (W * H)) ds (X.1 k)) (fdl (dgW (nI (W * H)) nr ds cnt dr X (jxX pa cnt nr X)) d0 k) 9) * 31)]) _ (ms_deC dX6_digest_136 (ms_deC dX6_digest_137 (ms_deC dX6_digest_138 (ms_deC dX6_digest_140 ms_deN)))) rfl rfl ?_
      refine ms_callVp (As := [.int (nI k), .ref a]) dX6_digest_141 (c_X6_jamNow (m := m) hr hc hlt) cv_X6_151 hm rfl ⟨Nat.le_of_ble_eq_true rfl, Nat.le_of_ble_eq_true rfl⟩ rfl (Nat.le_of_ble_eq_true rfl) ?_
      refine ms_run (pc' := 147) (lv' := [(3, .long (((mxf (cr_fig (nI (W * H)) ds (X.1 k)) (fdl (dgW (nI (W * H)) nr ds cnt dr X (jxX pa cnt nr X)) d0 k) 9) * 31) + ((if f k = -1 then 0 else nI (ct (fun j => decide (f j = f k)) cnt)).toInt64))), (0, .ref m), (1, .ref fr), (2, .ref a), (5, .int (nI k))]) (st' := []) _ (ms_deC dX6_digest_144 (ms_deC dX6_digest_145 (ms_deC dX6_digest_146 ms_deN))) rfl rfl ?_
      rw [jam_sz hc jbR_lt hjL hjF hlt]
      rw [show ((mxf (cr_fig (nI (W * H)) ds (X.1 k)) (fdl (dgW (nI (W * H)) nr ds cnt dr X (jxX pa cnt nr X)) d0 k) 9) * 31) + ((jm_sz (fdX (jbR cnt pa X.1) (nbR cnt nr X.2.2.1 X.1) cnt).1 (fdX (jbR cnt pa X.1) (nbR cnt nr X.2.2.1 X.1) cnt).2.1 (nI k)).toInt64) = (mixL (mxf (cr_fig (nI (W * H)) ds (X.1 k)) (fdl (dgW (nI (W * H)) nr ds cnt dr X (jxX pa cnt nr X)) d0 k) 9) (jm_sz (jxX pa cnt nr X).1 (jxX pa cnt nr X).2.1 (nI k))) from rfl]
      refine ms_run (pc' := 150) (lv' := [(6, .int 0), (3, .long (mixL (mxf (cr_fig (nI (W * H)) ds (X.1 k)) (fdl (dgW (nI (W * H)) nr ds cnt dr X (jxX pa cnt nr X)) d0 k) 9) (jm_sz (jxX pa cnt nr X).1 (jxX pa cnt nr X).2.1 (nI k)))), (0, .ref m), (1, .ref fr), (2, .ref a), (5, .int (nI k))]) (st' := []) _ (ms_deC dX6_digest_147 (ms_deC dX6_digest_148 ms_deN)) rfl rfl ?_
      by_cases hon8 : X.1 k 3 = -1
      · have ew : (mixL (mxf (cr_fig (nI (W * H)) ds (X.1 k)) (fdl (dgW (nI (W * H)) nr ds cnt dr X (jxX pa cnt nr X)) d0 k) 9) (jm_sz (jxX pa cnt nr X).1 (jxX pa cnt nr X).2.1 (nI k))) = (fdl (dgW (nI (W * H)) nr ds cnt dr X (jxX pa cnt nr X)) d0 (k + 1)) := by show _ = (if X.1 k 3 = -1 then _ else _); rw [if_pos hon8]
        refine ms_run (pc' := 153) (lv' := [(6, .int 0), (3, .long (mixL (mxf (cr_fig (nI (W * H)) ds (X.1 k)) (fdl (dgW (nI (W * H)) nr ds cnt dr X (jxX pa cnt nr X)) d0 k) 9) (jm_sz (jxX pa cnt nr X).1 (jxX pa cnt nr X).2.1 (nI k)))), (0, .ref m), (1, .ref fr), (2, .ref a), (5, .int (nI k))]) (st' := [.int 4, .int 0]) _ (ms_deC dX6_digest_150 (ms_deC dX6_digest_152 ms_deN)) rfl rfl ?_
        refine ms_icmp_gt (tgt := 201) dX6_digest_153 (by decide) (fun h9 => absurd h9 (by decide)) (fun _ => ?_)
        refine ms_run (pc' := 159) (lv' := [(6, .int 0), (3, .long (mixL (mxf (cr_fig (nI (W * H)) ds (X.1 k)) (fdl (dgW (nI (W * H)) nr ds cnt dr X (jxX pa cnt nr X)) d0 k) 9) (jm_sz (jxX pa cnt nr X).1 (jxX pa cnt nr X).2.1 (nI k)))), (0, .ref m), (1, .ref fr), (2, .ref a), (5, .int (nI k))]) (st' := [.int (nI k), .ref m]) _ (ms_deC dX6_digest_156 (ms_deC dX6_digest_157 ms_deN)) rfl rfl ?_
        refine ms_callVp (As := [.int (nI k)]) dX6_digest_159 (c_X6_isOnI hM9 hW hH hc hlt) cv_X6_110 hm rfl ⟨Nat.le_of_ble_eq_true rfl, Nat.le_of_ble_eq_true rfl⟩ rfl (Nat.le_of_ble_eq_true rfl) ?_
        rw [show ms_b (¬ X.1 k 3 = -1) = 0 from if_neg (not_not_intro hon8)]
        refine ms_if_eq (tgt := 201) dX6_digest_162 (by decide) (fun _ => ?_) (fun h9 => absurd h9 (by decide))
        refine ms_run (pc' := 204) (lv' := [(5, .int ((nI k) + 1)), (6, .int 0), (3, .long (mixL (mxf (cr_fig (nI (W * H)) ds (X.1 k)) (fdl (dgW (nI (W * H)) nr ds cnt dr X (jxX pa cnt nr X)) d0 k) 9) (jm_sz (jxX pa cnt nr X).1 (jxX pa cnt nr X).2.1 (nI k)))), (0, .ref m), (1, .ref fr), (2, .ref a)]) (st' := []) _ (ms_deC dX6_digest_201 ms_deN) rfl rfl ?_
        refine ms_goto (tgt := 90) dX6_digest_204 (by decide) ?_
        rw [ew, nI_1 k]
        refine ms_W.sub (lv2 := [(0, _), (1, _), (2, _), (3, _), (5, _)]) ?_ [3, 4, 5, 2, 0] rfl
        exact ih (k + 1) (by omega) kk
      · have ew : mxf (fun s => cr_cost (nI (W * H)) nr ds X.2.2.1 (hdX cnt dr) X.1 (X.1 k) (nI s)) (mixL (mxf (cr_fig (nI (W * H)) ds (X.1 k)) (fdl (dgW (nI (W * H)) nr ds cnt dr X (jxX pa cnt nr X)) d0 k) 9) (jm_sz (jxX pa cnt nr X).1 (jxX pa cnt nr X).2.1 (nI k))) 5 = (fdl (dgW (nI (W * H)) nr ds cnt dr X (jxX pa cnt nr X)) d0 (k + 1)) := by show _ = (if X.1 k 3 = -1 then _ else _); rw [if_neg hon8]
        refine ms_W.sub (lv2 := [(0, _), (1, _), (2, _), (3, _), (5, _), (6, _)]) ?_ [2, 3, 4, 1, 5, 0] rfl
        refine l4_X6_digest hM9 hl9 hW hH hW0 hc hne9 hL hmm hds hd hN hV hr hjL hjF hfa9 hMh hhe hp (d0 := (mixL (mxf (cr_fig (nI (W * H)) ds (X.1 k)) (fdl (dgW (nI (W * H)) nr ds cnt dr X (jxX pa cnt nr X)) d0 k) 9) (jm_sz (jxX pa cnt nr X).1 (jxX pa cnt nr X).2.1 (nI k)))) hlt hon8 5 0 rfl ?_
        rw [ew]
        refine ms_run (pc' := 204) (lv' := [(5, .int ((nI k) + 1)), (0, .ref m), (1, .ref fr), (2, .ref a), (3, .long (fdl (dgW (nI (W * H)) nr ds cnt dr X (jxX pa cnt nr X)) d0 (k + 1)))]) (st' := []) _ (ms_deC dX6_digest_201 ms_deN) rfl rfl ?_
        refine ms_goto (tgt := 90) dX6_digest_204 (by decide) ?_
        rw [nI_1 k]
        refine ms_W.sub (lv2 := [(0, _), (1, _), (2, _), (3, _), (5, _)]) ?_ [1, 2, 3, 4, 0] rfl
        exact ih (k + 1) (by omega) kk
set_option maxHeartbeats 1000000 in
set_option maxRecDepth 20000 in
theorem l6_X6_digest {n m aw am ai ah W H cnt N : Nat} {G : ms_H} {th dr pa : Int32} {wl mm : Nat → Int32} {X : cX} {nr mk ds : Nat → Int32} (hM : md_at G m aw am ai ah W H th X.2.2.2 dr pa cnt wl mm X.2.1 X.1) (hl : md_lt n m aw am ai ah) (hW : W ≤ 14) (hH : H ≤ 14) (hW0 : 0 < W) (hc : cnt ≤ 24) (hne : md_ne m aw am ai ah) (hL : lk_ok W H (W * H) nr) (hmm : mmR (W * H) mk mm) (hds : dsR (W * H) nr wl mk ds) (hd : 0 ≤ dr ∧ dr ≤ 9) (hN : N < 1000000) (hV : wdV W H cnt N X) {a : Nat} {f : Nat → Int32} {L : Nat → Nat} (hr : G a = some (.inl (0, cnt, .inl f))) (hjL : jL (jbR cnt pa X.1) (nbR cnt nr X.2.2.1 X.1) L) (hjF : jF (jbR cnt pa X.1) L cnt f) {fr lo hi9 : Nat} (hfa : fa_at G fr lo hi9 (W * H) (dXg (W * H) nr wl mk)) {M : Nat} (hMh : M < 1000000) (hhe : heB M (W * H) X.2.1) (hp : 0 < W * H) {P : ms_P} {d0 : Int64} {i : Nat} (hi9 : i < W * H) : ∀ (r k : Nat), k + r = 3 → (ms_W false m_X6_digest P 255 [(0, .ref m), (1, .ref fr), (2, .ref a), (3, .long (mxf (ffX (nI (W * H)) nr wl X (nI i)) d0 3)), (5, .int (nI i))] [] n G 0 0) →  ms_W false m_X6_digest (P) 227 [(0, .ref m), (1, .ref fr), (2, .ref a), (3, .long (mxf (ffX (nI (W * H)) nr wl X (nI i)) d0 k)), (5, .int (nI i)), (6, .int (nI k))] [] n G 0 0 := by
  have hM9 := hM
  have hl9 := hl
  have hne9 := hne
  obtain ⟨hm, hw_, hk_, ⟨it, hi_, hit⟩, hh_⟩ := hM
  obtain ⟨l1, l2, l3, l4, l5⟩ := hl
  obtain ⟨n1, n2, n3, n4, n5, n6, n7, n8, n9, n10⟩ := hne
  have h196 := fd_196 hW hH
  have hfa9 := hfa
  obtain ⟨f9, hf1, hf2⟩ := hfa
  intro r
  induction r with
  | zero =>
    intro k hk kk
    have hkN : k = 3 := by omega
    refine ms_run (pc' := 230) (lv' := [(0, .ref m), (1, .ref fr), (2, .ref a), (3, .long (mxf (ffX (nI (W * H)) nr wl X (nI i)) d0 k)), (5, .int (nI i)), (6, .int (nI k))]) (st' := [.int 3, .int (nI k)]) _ (ms_deC dX6_digest_227 (ms_deC dX6_digest_229 ms_deN)) rfl rfl ?_
    refine ms_icmp_ge (tgt := 255) dX6_digest_230 (by decide) (fun h_230 => ?_) (fun h_230 => ?_)
    · skip
      refine ms_W.sub (lv2 := [(0, _), (1, _), (2, _), (3, _), (5, _)]) ?_ [0, 1, 2, 3, 4] rfl
      rw [hkN]
      exact kk
    · skip
      exact absurd (by show nI 3 ≤ nI k; exact nI_le (b := k) (by omega) (by omega)) h_230
  | succ r ih =>
    intro k hk kk
    have hlt : k < 3 := by omega
    refine ms_run (pc' := 230) (lv' := [(0, .ref m), (1, .ref fr), (2, .ref a), (3, .long (mxf (ffX (nI (W * H)) nr wl X (nI i)) d0 k)), (5, .int (nI i)), (6, .int (nI k))]) (st' := [.int 3, .int (nI k)]) _ (ms_deC dX6_digest_227 (ms_deC dX6_digest_229 ms_deN)) rfl rfl ?_
    refine ms_icmp_ge (tgt := 255) dX6_digest_230 (by decide) (fun h_230 => ?_) (fun h_230 => ?_)
    · skip
      exact absurd h_230 (by show ¬ nI 3 ≤ nI k; exact nI_ge (b := 3) (by omega) (by omega))
    · skip
      refine ms_run (pc' := 234) (lv' := [(0, .ref m), (1, .ref fr), (2, .ref a), (3, .long (mxf (ffX (nI (W * H)) nr wl X (nI i)) d0 k)), (5, .int (nI i)), (6, .int (nI k))]) (st' := [.long (mxf (ffX (nI (W * H)) nr wl X (nI i)) d0 k)]) _ (ms_deC dX6_digest_233 ms_deN) rfl rfl ?_
      refine ms_ldc2 dX6_digest_234 lc_X6_166 ?_
      refine ms_run (pc' := 243) (lv' := [(0, .ref m), (1, .ref fr), (2, .ref a), (3, .long (mxf (ffX (nI (W * H)) nr wl X (nI i)) d0 k)), (5, .int (nI i)), (6, .int (nI k))]) (st' := [.int (nI k), .int (nI i), .ref m, .long ((mxf (ffX (nI (W * H)) nr wl X (nI i)) d0 k) * 31)]) _ (ms_deC dX6_digest_237 (ms_deC dX6_digest_238 (ms_deC dX6_digest_239 (ms_deC dX6_digest_241 ms_deN)))) rfl rfl ?_
      refine ms_callVp (As := [.int (nI i), .int (nI k)]) dX6_digest_243 (c_X6_fieldNow hM9 hl9 hW hH hW0 hc hne9 hL hmm hds hd hN hV hi9 (s := k) (by omega)) cv_X6_97 hm rfl ⟨Nat.le_of_ble_eq_true rfl, Nat.le_of_ble_eq_true rfl⟩ rfl (Nat.le_of_ble_eq_true rfl) ?_
      refine ms_run (pc' := 252) (lv' := [(6, .int ((nI k) + 1)), (3, .long (((mxf (ffX (nI (W * H)) nr wl X (nI i)) d0 k) * 31) + (((ffX (nI (W * H)) nr wl X (nI i)) k).toInt64))), (0, .ref m), (1, .ref fr), (2, .ref a), (5, .int (nI i))]) (st' := []) _ (ms_deC dX6_digest_246 (ms_deC dX6_digest_247 (ms_deC dX6_digest_248 (ms_deC dX6_digest_249 ms_deN)))) rfl rfl ?_
      refine ms_goto (tgt := 227) dX6_digest_252 (by decide) ?_
      rw [show ((mxf (ffX (nI (W * H)) nr wl X (nI i)) d0 k) * 31) + (((ffX (nI (W * H)) nr wl X (nI i)) k).toInt64) = (mxf (ffX (nI (W * H)) nr wl X (nI i)) d0 (k + 1)) from rfl]
      rw [nI_1 k]
      refine ms_W.sub (lv2 := [(0, _), (1, _), (2, _), (3, _), (5, _), (6, _)]) ?_ [2, 3, 4, 1, 5, 0] rfl
      exact ih (k + 1) (by omega) kk
set_option maxHeartbeats 1000000 in
set_option maxRecDepth 20000 in
theorem l7_X6_digest {n m aw am ai ah W H cnt N : Nat} {G : ms_H} {th dr pa : Int32} {wl mm : Nat → Int32} {X : cX} {nr mk ds : Nat → Int32} (hM : md_at G m aw am ai ah W H th X.2.2.2 dr pa cnt wl mm X.2.1 X.1) (hl : md_lt n m aw am ai ah) (hW : W ≤ 14) (hH : H ≤ 14) (hW0 : 0 < W) (hc : cnt ≤ 24) (hne : md_ne m aw am ai ah) (hL : lk_ok W H (W * H) nr) (hmm : mmR (W * H) mk mm) (hds : dsR (W * H) nr wl mk ds) (hd : 0 ≤ dr ∧ dr ≤ 9) (hN : N < 1000000) (hV : wdV W H cnt N X) {a : Nat} {f : Nat → Int32} {L : Nat → Nat} (hr : G a = some (.inl (0, cnt, .inl f))) (hjL : jL (jbR cnt pa X.1) (nbR cnt nr X.2.2.1 X.1) L) (hjF : jF (jbR cnt pa X.1) L cnt f) {fr lo hi9 : Nat} (hfa : fa_at G fr lo hi9 (W * H) (dXg (W * H) nr wl mk)) {M : Nat} (hMh : M < 1000000) (hhe : heB M (W * H) X.2.1) (hp : 0 < W * H) {P : ms_P} {d0 : Int64} {i : Nat} (hi9 : i < W * H) : ∀ (r k : Nat), k + r = 4 → (ms_W false m_X6_digest P 285 [(0, .ref m), (1, .ref fr), (2, .ref a), (3, .long (mxf (fun g => ds (g * 196 + i)) d0 4)), (5, .int (nI i))] [] n G 0 0) →  ms_W false m_X6_digest (P) 258 [(0, .ref m), (1, .ref fr), (2, .ref a), (3, .long (mxf (fun g => ds (g * 196 + i)) d0 k)), (5, .int (nI i)), (6, .int (nI k))] [] n G 0 0 := by
  have hM9 := hM
  have hl9 := hl
  have hne9 := hne
  obtain ⟨hm, hw_, hk_, ⟨it, hi_, hit⟩, hh_⟩ := hM
  obtain ⟨l1, l2, l3, l4, l5⟩ := hl
  obtain ⟨n1, n2, n3, n4, n5, n6, n7, n8, n9, n10⟩ := hne
  have h196 := fd_196 hW hH
  have hfa9 := hfa
  obtain ⟨f9, hf1, hf2⟩ := hfa
  intro r
  induction r with
  | zero =>
    intro k hk kk
    have hkN : k = 4 := by omega
    refine ms_run (pc' := 261) (lv' := [(0, .ref m), (1, .ref fr), (2, .ref a), (3, .long (mxf (fun g => ds (g * 196 + i)) d0 k)), (5, .int (nI i)), (6, .int (nI k))]) (st' := [.int 4, .int (nI k)]) _ (ms_deC dX6_digest_258 (ms_deC dX6_digest_260 ms_deN)) rfl rfl ?_
    refine ms_icmp_ge (tgt := 285) dX6_digest_261 (by decide) (fun h_261 => ?_) (fun h_261 => ?_)
    · skip
      refine ms_W.sub (lv2 := [(0, _), (1, _), (2, _), (3, _), (5, _)]) ?_ [0, 1, 2, 3, 4] rfl
      rw [hkN]
      exact kk
    · skip
      exact absurd (by show nI 4 ≤ nI k; exact nI_le (b := k) (by omega) (by omega)) h_261
  | succ r ih =>
    intro k hk kk
    have hlt : k < 4 := by omega
    refine ms_run (pc' := 261) (lv' := [(0, .ref m), (1, .ref fr), (2, .ref a), (3, .long (mxf (fun g => ds (g * 196 + i)) d0 k)), (5, .int (nI i)), (6, .int (nI k))]) (st' := [.int 4, .int (nI k)]) _ (ms_deC dX6_digest_258 (ms_deC dX6_digest_260 ms_deN)) rfl rfl ?_
    refine ms_icmp_ge (tgt := 285) dX6_digest_261 (by decide) (fun h_261 => ?_) (fun h_261 => ?_)
    · skip
      exact absurd h_261 (by show ¬ nI 4 ≤ nI k; exact nI_ge (b := 4) (by omega) (by omega))
    · skip
      refine ms_run (pc' := 265) (lv' := [(0, .ref m), (1, .ref fr), (2, .ref a), (3, .long (mxf (fun g => ds (g * 196 + i)) d0 k)), (5, .int (nI i)), (6, .int (nI k))]) (st' := [.long (mxf (fun g => ds (g * 196 + i)) d0 k)]) _ (ms_deC dX6_digest_264 ms_deN) rfl rfl ?_
      refine ms_ldc2 dX6_digest_265 lc_X6_166 ?_
      refine ms_run (pc' := 272) (lv' := [(0, .ref m), (1, .ref fr), (2, .ref a), (3, .long (mxf (fun g => ds (g * 196 + i)) d0 k)), (5, .int (nI i)), (6, .int (nI k))]) (st' := [.int (nI k), .ref fr, .long ((mxf (fun g => ds (g * 196 + i)) d0 k) * 31)]) _ (ms_deC dX6_digest_268 (ms_deC dX6_digest_269 (ms_deC dX6_digest_270 ms_deN))) rfl rfl ?_
      refine ms_aaloadA dX6_digest_272 hf1 (vp_in_nI hlt (by omega)) ?_
      rw [nI_clamp (n := k) (by omega)]
      obtain ⟨bb, eb, eb1, eb2, eb3⟩ := hf2 k hlt
      rw [eb]
      show ms_W _ _ _ _ _ (.ref bb :: _) _ _ _ _
      refine ms_run (pc' := 275) (lv' := [(0, .ref m), (1, .ref fr), (2, .ref a), (3, .long (mxf (fun g => ds (g * 196 + i)) d0 k)), (5, .int (nI i)), (6, .int (nI k))]) (st' := [.int (nI i), .ref bb, .long ((mxf (fun g => ds (g * 196 + i)) d0 k) * 31)]) _ (ms_deC dX6_digest_273 ms_deN) rfl rfl ?_
      refine ms_iaload dX6_digest_275 eb3 (vp_in_nI hi9 (by omega)) ?_
      rw [nI_clamp (n := i) (by omega), show dXg (W * H) nr wl mk k i = (fun g => ds (g * 196 + i)) k from (hds k hlt i hi9).symm]
      refine ms_run (pc' := 282) (lv' := [(6, .int ((nI k) + 1)), (3, .long (((mxf (fun g => ds (g * 196 + i)) d0 k) * 31) + (((fun g => ds (g * 196 + i)) k).toInt64))), (0, .ref m), (1, .ref fr), (2, .ref a), (5, .int (nI i))]) (st' := []) _ (ms_deC dX6_digest_276 (ms_deC dX6_digest_277 (ms_deC dX6_digest_278 (ms_deC dX6_digest_279 ms_deN)))) rfl rfl ?_
      refine ms_goto (tgt := 258) dX6_digest_282 (by decide) ?_
      rw [show ((mxf (fun g => ds (g * 196 + i)) d0 k) * 31) + (((fun g => ds (g * 196 + i)) k).toInt64) = (mxf (fun g => ds (g * 196 + i)) d0 (k + 1)) from rfl]
      rw [nI_1 k]
      refine ms_W.sub (lv2 := [(0, _), (1, _), (2, _), (3, _), (5, _), (6, _)]) ?_ [2, 3, 4, 1, 5, 0] rfl
      exact ih (k + 1) (by omega) kk
set_option maxHeartbeats 1000000 in
set_option maxRecDepth 20000 in
theorem l8_X6_digest {n m aw am ai ah W H cnt N : Nat} {G : ms_H} {th dr pa : Int32} {wl mm : Nat → Int32} {X : cX} {nr mk ds : Nat → Int32} (hM : md_at G m aw am ai ah W H th X.2.2.2 dr pa cnt wl mm X.2.1 X.1) (hl : md_lt n m aw am ai ah) (hW : W ≤ 14) (hH : H ≤ 14) (hW0 : 0 < W) (hc : cnt ≤ 24) (hne : md_ne m aw am ai ah) (hL : lk_ok W H (W * H) nr) (hmm : mmR (W * H) mk mm) (hds : dsR (W * H) nr wl mk ds) (hd : 0 ≤ dr ∧ dr ≤ 9) (hN : N < 1000000) (hV : wdV W H cnt N X) {a : Nat} {f : Nat → Int32} {L : Nat → Nat} (hr : G a = some (.inl (0, cnt, .inl f))) (hjL : jL (jbR cnt pa X.1) (nbR cnt nr X.2.2.1 X.1) L) (hjF : jF (jbR cnt pa X.1) L cnt f) {fr lo hi9 : Nat} (hfa : fa_at G fr lo hi9 (W * H) (dXg (W * H) nr wl mk)) {M : Nat} (hMh : M < 1000000) (hhe : heB M (W * H) X.2.1) (hp : 0 < W * H) {P : ms_P} {d0 : Int64} : ∀ (r k : Nat), k + r = W * H → (ms_W false m_X6_digest P 291 [(3, .long (fdl (dgF (nI (W * H)) nr wl ds X) d0 (W * H)))] [] n G 0 0) →  ms_W false m_X6_digest (P) 210 [(0, .ref m), (1, .ref fr), (2, .ref a), (3, .long (fdl (dgF (nI (W * H)) nr wl ds X) d0 k)), (5, .int (nI k))] [] n G 0 0 := by
  have hM9 := hM
  have hl9 := hl
  have hne9 := hne
  obtain ⟨hm, hw_, hk_, ⟨it, hi_, hit⟩, hh_⟩ := hM
  obtain ⟨l1, l2, l3, l4, l5⟩ := hl
  obtain ⟨n1, n2, n3, n4, n5, n6, n7, n8, n9, n10⟩ := hne
  have h196 := fd_196 hW hH
  have hfa9 := hfa
  obtain ⟨f9, hf1, hf2⟩ := hfa
  intro r
  induction r with
  | zero =>
    intro k hk kk
    have hkN : k = W * H := by omega
    refine ms_run (pc' := 213) (lv' := [(0, .ref m), (1, .ref fr), (2, .ref a), (3, .long (fdl (dgF (nI (W * H)) nr wl ds X) d0 k)), (5, .int (nI k))]) (st' := [.ref m, .int (nI k)]) _ (ms_deC dX6_digest_210 (ms_deC dX6_digest_212 ms_deN)) rfl rfl ?_
    refine ms_getf dX6_digest_213 fg_X6_20 hm rfl ?_
    refine ms_run (pc' := 217) (lv' := [(0, .ref m), (1, .ref fr), (2, .ref a), (3, .long (fdl (dgF (nI (W * H)) nr wl ds X) d0 k)), (5, .int (nI k))]) (st' := [.ref m, .int (nI W), .int (nI k)]) _ (ms_deC dX6_digest_216 ms_deN) rfl rfl ?_
    refine ms_getf dX6_digest_217 fg_X6_23 hm rfl ?_
    refine ms_run (pc' := 221) (lv' := [(0, .ref m), (1, .ref fr), (2, .ref a), (3, .long (fdl (dgF (nI (W * H)) nr wl ds X) d0 k)), (5, .int (nI k))]) (st' := [.int ((nI W) * (nI H)), .int (nI k)]) _ (ms_deC dX6_digest_220 ms_deN) rfl rfl ?_
    rw [show nI W * nI H = nI (W * H) from pk_mul W H]
    refine ms_icmp_ge (tgt := 291) dX6_digest_221 (by decide) (fun h_221 => ?_) (fun h_221 => ?_)
    · skip
      refine ms_W.sub (lv2 := [(3, _)]) ?_ [3] rfl
      rw [hkN]
      exact kk
    · skip
      exact absurd (by exact nI_le (b := k) (by omega) (by omega)) h_221
  | succ r ih =>
    intro k hk kk
    have hlt : k < W * H := by omega
    refine ms_run (pc' := 213) (lv' := [(0, .ref m), (1, .ref fr), (2, .ref a), (3, .long (fdl (dgF (nI (W * H)) nr wl ds X) d0 k)), (5, .int (nI k))]) (st' := [.ref m, .int (nI k)]) _ (ms_deC dX6_digest_210 (ms_deC dX6_digest_212 ms_deN)) rfl rfl ?_
    refine ms_getf dX6_digest_213 fg_X6_20 hm rfl ?_
    refine ms_run (pc' := 217) (lv' := [(0, .ref m), (1, .ref fr), (2, .ref a), (3, .long (fdl (dgF (nI (W * H)) nr wl ds X) d0 k)), (5, .int (nI k))]) (st' := [.ref m, .int (nI W), .int (nI k)]) _ (ms_deC dX6_digest_216 ms_deN) rfl rfl ?_
    refine ms_getf dX6_digest_217 fg_X6_23 hm rfl ?_
    refine ms_run (pc' := 221) (lv' := [(0, .ref m), (1, .ref fr), (2, .ref a), (3, .long (fdl (dgF (nI (W * H)) nr wl ds X) d0 k)), (5, .int (nI k))]) (st' := [.int ((nI W) * (nI H)), .int (nI k)]) _ (ms_deC dX6_digest_220 ms_deN) rfl rfl ?_
    rw [show nI W * nI H = nI (W * H) from pk_mul W H]
    refine ms_icmp_ge (tgt := 291) dX6_digest_221 (by decide) (fun h_221 => ?_) (fun h_221 => ?_)
    · skip
      exact absurd h_221 (by exact nI_ge (b := W * H) (by omega) (by omega))
    · skip
      refine ms_run (pc' := 227) (lv' := [(6, .int 0), (0, .ref m), (1, .ref fr), (2, .ref a), (3, .long (fdl (dgF (nI (W * H)) nr wl ds X) d0 k)), (5, .int (nI k))]) (st' := []) _ (ms_deC dX6_digest_224 (ms_deC dX6_digest_225 ms_deN)) rfl rfl ?_
      refine ms_W.sub (lv2 := [(0, _), (1, _), (2, _), (3, _), (5, _), (6, _)]) ?_ [1, 2, 3, 4, 5, 0] rfl
      refine l6_X6_digest hM9 hl9 hW hH hW0 hc hne9 hL hmm hds hd hN hV hr hjL hjF hfa9 hMh hhe hp (d0 := (fdl (dgF (nI (W * H)) nr wl ds X) d0 k)) hlt 3 0 rfl ?_
      refine ms_run (pc' := 258) (lv' := [(6, .int 0), (0, .ref m), (1, .ref fr), (2, .ref a), (3, .long (mxf (ffX (nI (W * H)) nr wl X (nI k)) (fdl (dgF (nI (W * H)) nr wl ds X) d0 k) 3)), (5, .int (nI k))]) (st' := []) _ (ms_deC dX6_digest_255 (ms_deC dX6_digest_256 ms_deN)) rfl rfl ?_
      refine ms_W.sub (lv2 := [(0, _), (1, _), (2, _), (3, _), (5, _), (6, _)]) ?_ [1, 2, 3, 4, 5, 0] rfl
      refine l7_X6_digest hM9 hl9 hW hH hW0 hc hne9 hL hmm hds hd hN hV hr hjL hjF hfa9 hMh hhe hp (d0 := (mxf (ffX (nI (W * H)) nr wl X (nI k)) (fdl (dgF (nI (W * H)) nr wl ds X) d0 k) 3)) hlt 4 0 rfl ?_
      rw [show (mxf (fun g => ds (g * 196 + k)) (mxf (ffX (nI (W * H)) nr wl X (nI k)) (fdl (dgF (nI (W * H)) nr wl ds X) d0 k) 3) 4) = (fdl (dgF (nI (W * H)) nr wl ds X) d0 (k + 1)) from rfl]
      refine ms_run (pc' := 288) (lv' := [(5, .int ((nI k) + 1)), (0, .ref m), (1, .ref fr), (2, .ref a), (3, .long (fdl (dgF (nI (W * H)) nr wl ds X) d0 (k + 1)))]) (st' := []) _ (ms_deC dX6_digest_285 ms_deN) rfl rfl ?_
      refine ms_goto (tgt := 210) dX6_digest_288 (by decide) ?_
      rw [nI_1 k]
      refine ms_W.sub (lv2 := [(0, _), (1, _), (2, _), (3, _), (5, _)]) ?_ [1, 2, 3, 4, 0] rfl
      exact ih (k + 1) (by omega) kk
set_option maxHeartbeats 1000000 in
set_option maxRecDepth 20000 in
theorem c_X6_digest {n m aw am ai ah W H cnt N : Nat} {G : ms_H} {th dr pa : Int32} {wl mm : Nat → Int32} {X : cX} {nr mk ds : Nat → Int32} (hM : md_at G m aw am ai ah W H th X.2.2.2 dr pa cnt wl mm X.2.1 X.1) (hl : md_lt n m aw am ai ah) (hW : W ≤ 14) (hH : H ≤ 14) (hW0 : 0 < W) (hc : cnt ≤ 24) (hne : md_ne m aw am ai ah) (hL : lk_ok W H (W * H) nr) (hmm : mmR (W * H) mk mm) (hds : dsR (W * H) nr wl mk ds) (hd : 0 ≤ dr ∧ dr ≤ 9) (hN : N < 1000000) (hV : wdV W H cnt N X) {M : Nat} (hMh : M < 1000000) (hhe : heB M (W * H) X.2.1) (hp : 0 < W * H) : ms_M m_X6_digest [.ref m] n G 10 1596 (mq_P n G (E5 m aw am ai ah) (none) (fun _ => 1) (.long (dgX (W * H) nr wl ds cnt dr X (jxX pa cnt nr X))) (fun t G1 => md_at G1 m aw am ai ah W H t X.2.2.2 dr pa cnt wl mm X.2.1 X.1) (fun G1 => md_at G1 m aw am ai ah W H 0 X.2.2.2 dr pa cnt wl mm X.2.1 X.1)) := by
  refine ms_M.of (by decide) (Nat.le_of_ble_eq_true rfl) ?_
  show ms_W false m_X6_digest _ 0 [(0, .ref m)] [] n G 10 1596
  have hl9 := hl
  have hne9 := hne
  obtain ⟨hm, hw_, hk_, ⟨it, hi_, hit⟩, hh_⟩ := hM
  obtain ⟨l1, l2, l3, l4, l5⟩ := hl
  obtain ⟨n1, n2, n3, n4, n5, n6, n7, n8, n9, n10⟩ := hne
  have h196 := fd_196 hW hH
  have hF : ms_fb (E5 m aw am ai ah) n G G := ms_fb.rf
  refine ms_run (pc' := 2) (lv' := [(0, .ref m)]) (st' := [.int 0, .ref m]) _ (ms_deC dX6_digest_0 (ms_deC dX6_digest_1 ms_deN)) rfl rfl ?_
  refine ms_putf dX6_digest_2 fp_X6_46 hm (Nat.le_of_ble_eq_true rfl) rfl rfl ?_
  obtain ⟨G_1, eG_1⟩ : ∃ K9 : ms_H, K9 = ms_up G m (.inr (6, [.int 0, .int (nI W), .int (nI H), .int X.2.2.2, .int dr, .int pa, .ref aw, .ref am, .int (nI cnt), .ref ai, .ref ah])) := ⟨_, rfl⟩
  refine ms_W.heq eG_1 ?_
  have hF_2 : ms_fb (E5 m aw am ai ah) n G G_1 := by rw [eG_1]; exact ms_fb.up hF (by first | exact Or.inl (by omega) | exact Or.inr rfl | exact Or.inr (Or.inl rfl) | exact Or.inr (Or.inr (Or.inl rfl)) | exact Or.inr (Or.inr (Or.inr rfl)) | exact Or.inr (Or.inr rfl) | exact Or.inr (Or.inr (Or.inr (Or.inl rfl))) | exact Or.inr (Or.inr (Or.inr (Or.inr (Or.inl rfl)))) | exact Or.inr (Or.inr (Or.inr (Or.inr (Or.inr rfl)))))
  have hf_3 : G_1 m = some (.inr (6, [.int 0, .int (nI W), .int (nI H), .int X.2.2.2, .int dr, .int pa, .ref aw, .ref am, .int (nI cnt), .ref ai, .ref ah])) := by rw [eG_1]; exact ms_up_s _ _ _
  have hf_4 := (congrFun eG_1 aw).trans ((ms_up_n G _ (by omega)).trans hw_)
  have hf_5 := (congrFun eG_1 am).trans ((ms_up_n G _ (by omega)).trans hk_)
  have hf_6 := (congrFun eG_1 ai).trans ((ms_up_n G _ (by omega)).trans hi_)
  have hf_7 := (congrFun eG_1 ah).trans ((ms_up_n G _ (by omega)).trans hh_)
  refine ms_run (pc' := 6) (lv' := [(0, .ref m)]) (st' := [.ref m]) _ (ms_deC dX6_digest_5 ms_deN) rfl rfl ?_
  refine ms_W.room (k2 := 9 + 1) (z2 := 1572 + 24) ?_ (by omega) (by omega)
  refine ms_callV (As := []) dX6_digest_6 (c_X6_farAll (show md_at G_1 m aw am ai ah W H 0 X.2.2.2 dr pa cnt wl mm X.2.1 X.1 from ⟨hf_3, hf_4, hf_5, ⟨it, hf_6, hit⟩, hf_7⟩) hW hH hc hl9 hW0 hL hmm) cv_X6_121 hf_3 rfl ⟨Nat.le_of_ble_eq_true rfl, Nat.le_of_ble_eq_true rfl⟩ rfl (Nat.le_of_ble_eq_true rfl) (fun v9 n9 K_fa hp9 => ?_)
  obtain ⟨hv9, rfl, hF_fa, hfa⟩ := hp9
  cases hv9
  have hM2 := md_at.fb (show md_at G_1 m aw am ai ah W H 0 X.2.2.2 dr pa cnt wl mm X.2.1 X.1 from ⟨hf_3, hf_4, hf_5, ⟨it, hf_6, hit⟩, hf_7⟩) hF_fa hl9
  have hl2 : md_lt (n + 9) m aw am ai ah := ⟨by omega, by omega, by omega, by omega, by omega⟩
  have hF2 := ms_fb.trans hF_2 hF_fa (Nat.le_refl n)
  obtain ⟨hm2, hw2, hk2, ⟨it2, hi2, hit2⟩, hh2⟩ := id hM2
  refine ms_run (pc' := 11) (lv' := [(1, .ref n), (0, .ref m)]) (st' := [.ref m]) _ (ms_deC dX6_digest_9 (ms_deC dX6_digest_10 ms_deN)) rfl rfl ?_
  refine ms_W.room (k2 := 1 + 0) (z2 := 24 + 0) ?_ (by omega) (by omega)
  refine ms_callV (As := []) dX6_digest_11 (c_X6_jams hM2 hl2 hW hH hW0 hc hne9 hL hmm hds hd hN hV) cv_X6_136 hm2 rfl ⟨Nat.le_of_ble_eq_true rfl, Nat.le_of_ble_eq_true rfl⟩ rfl (Nat.le_of_ble_eq_true rfl) (fun v9 n9 K_jm hp9 => ?_)
  obtain ⟨hv9, rfl, hF_jm, fj, Lj, hrow, hjL, hjF⟩ := hp9
  cases hv9
  have hM3 := md_at.fb hM2 hF_jm hl2
  have hl3 : md_lt (n + 9 + 1) m aw am ai ah := ⟨by omega, by omega, by omega, by omega, by omega⟩
  have hF3 := ms_fb.trans hF2 hF_jm (by omega)
  have hfa3 : fa_at K_jm n n (n + 9) (W * H) (dXg (W * H) nr wl mk) := hfa.fb hF_jm (by omega) (by omega) (fun _ _ _ z9 => z9) (fun z9 => z9)
  obtain ⟨hm3, -⟩ := id hM3
  refine ms_run (pc' := 15) (lv' := [(2, .ref (n + 9)), (1, .ref n), (0, .ref m)]) (st' := []) _ (ms_deC dX6_digest_14 ms_deN) rfl rfl ?_
  refine ms_ldc2 dX6_digest_15 lc_X6_164 ?_
  refine ms_run (pc' := 19) (lv' := [(2, .ref (n + 9)), (1, .ref n), (0, .ref m)]) (st' := [.ref m, .long 29977]) _ (ms_deC dX6_digest_18 ms_deN) rfl rfl ?_
  refine ms_getf dX6_digest_19 fg_X6_26 hm3 rfl ?_
  refine ms_run (pc' := 28) (lv' := [(5, .int 0), (3, .long (29977 + X.2.2.2.toInt64)), (2, .ref (n + 9)), (1, .ref n), (0, .ref m)]) (st' := []) _ (ms_deC dX6_digest_22 (ms_deC dX6_digest_23 (ms_deC dX6_digest_24 (ms_deC dX6_digest_25 (ms_deC dX6_digest_26 ms_deN))))) rfl rfl ?_
  rw [mix0]
  refine ms_W.sub (lv2 := [(0, _), (1, _), (2, _), (3, _), (5, _)]) ?_ [4, 3, 2, 1, 0] rfl
  refine l1_X6_digest hM3 hl3 hW hH hW0 hc hne9 hL hmm hds hd hN hV hrow hjL hjF hfa3 hMh hhe hp (d0 := (mixL 967 X.2.2.2)) 9 0 rfl ?_
  refine ms_run (pc' := 60) (lv' := [(5, .int 0), (0, .ref m), (1, .ref n), (2, .ref (n + 9)), (3, .long (mxf (cfX (W * H) ds cnt X (jxX pa cnt nr X)) (mixL 967 X.2.2.2) 9))]) (st' := []) _ (ms_deC dX6_digest_57 (ms_deC dX6_digest_58 ms_deN)) rfl rfl ?_
  refine ms_W.sub (lv2 := [(0, _), (1, _), (2, _), (3, _), (5, _)]) ?_ [1, 2, 3, 4, 0] rfl
  refine l2_X6_digest hM3 hl3 hW hH hW0 hc hne9 hL hmm hds hd hN hV hrow hjL hjF hfa3 hMh hhe hp (d0 := (mxf (cfX (W * H) ds cnt X (jxX pa cnt nr X)) (mixL 967 X.2.2.2) 9)) 4 0 (by omega) ?_
  refine ms_run (pc' := 90) (lv' := [(5, .int 0), (0, .ref m), (1, .ref n), (2, .ref (n + 9)), (3, .long (mxf (fun g => mx (fun j => ds (g * 196 + j)) (W * H)) (mxf (cfX (W * H) ds cnt X (jxX pa cnt nr X)) (mixL 967 X.2.2.2) 9) 4))]) (st' := []) _ (ms_deC dX6_digest_87 (ms_deC dX6_digest_88 ms_deN)) rfl rfl ?_
  refine ms_W.sub (lv2 := [(0, _), (1, _), (2, _), (3, _), (5, _)]) ?_ [1, 2, 3, 4, 0] rfl
  refine l5_X6_digest hM3 hl3 hW hH hW0 hc hne9 hL hmm hds hd hN hV hrow hjL hjF hfa3 hMh hhe hp (d0 := (mxf (fun g => mx (fun j => ds (g * 196 + j)) (W * H)) (mxf (cfX (W * H) ds cnt X (jxX pa cnt nr X)) (mixL 967 X.2.2.2) 9) 4)) cnt 0 (by omega) ?_
  refine ms_run (pc' := 210) (lv' := [(5, .int 0), (0, .ref m), (1, .ref n), (2, .ref (n + 9)), (3, .long (fdl (dgW (nI (W * H)) nr ds cnt dr X (jxX pa cnt nr X)) (mxf (fun g => mx (fun j => ds (g * 196 + j)) (W * H)) (mxf (cfX (W * H) ds cnt X (jxX pa cnt nr X)) (mixL 967 X.2.2.2) 9) 4) cnt))]) (st' := []) _ (ms_deC dX6_digest_207 (ms_deC dX6_digest_208 ms_deN)) rfl rfl ?_
  refine ms_W.sub (lv2 := [(0, _), (1, _), (2, _), (3, _), (5, _)]) ?_ [1, 2, 3, 4, 0] rfl
  refine l8_X6_digest hM3 hl3 hW hH hW0 hc hne9 hL hmm hds hd hN hV hrow hjL hjF hfa3 hMh hhe hp (d0 := (fdl (dgW (nI (W * H)) nr ds cnt dr X (jxX pa cnt nr X)) (mxf (fun g => mx (fun j => ds (g * 196 + j)) (W * H)) (mxf (cfX (W * H) ds cnt X (jxX pa cnt nr X)) (mixL 967 X.2.2.2) 9) 4) cnt)) (W * H) 0 (by omega) ?_
  refine ms_run (pc' := 292) (lv' := [(3, .long (fdl (dgF (nI (W * H)) nr wl ds X) (fdl (dgW (nI (W * H)) nr ds cnt dr X (jxX pa cnt nr X)) (mxf (fun g => mx (fun j => ds (g * 196 + j)) (W * H)) (mxf (cfX (W * H) ds cnt X (jxX pa cnt nr X)) (mixL 967 X.2.2.2) 9) 4) cnt) (W * H)))]) (st' := [.long (fdl (dgF (nI (W * H)) nr wl ds X) (fdl (dgW (nI (W * H)) nr ds cnt dr X (jxX pa cnt nr X)) (mxf (fun g => mx (fun j => ds (g * 196 + j)) (W * H)) (mxf (cfX (W * H) ds cnt X (jxX pa cnt nr X)) (mixL 967 X.2.2.2) 9) 4) cnt) (W * H))]) _ (ms_deC dX6_digest_291 ms_deN) rfl rfl ?_
  refine ms_retl (st := []) dX6_digest_292 rfl ?_
  exact mq_P.ok rfl (by omega) hF3 rfl hM3

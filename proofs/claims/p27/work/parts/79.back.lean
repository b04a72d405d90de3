/-! the law: a wall that comes and goes, and a mark, too -/
theorem wlX_1 {W a b : Nat} {bv : Int32} {wl : Nat → Int32} : wlX W bv a b a b wl = upd wl (b * W + a) (if bv = 0 then 0 else 1) := by
  unfold wlX
  rw [Nat.min_self, Nat.max_self, Nat.min_self, Nat.max_self, show a + 1 - a = 1 by omega, show b + 1 - b = 1 by omega]
  rfl
theorem upd_back {wl : Nat → Int32} {f : Nat} {v w : Int32} (h : wl f = w) : upd (upd wl f v) f w = wl := by
  funext j
  unfold upd
  by_cases e : j = f
  · rw [if_pos e, e, h]
  · rw [if_neg e, if_neg e]
theorem dXa_out {n j : Nat} {nr wl mk ds : Nat → Int32} : ∀ k, (∀ g, g < k → ¬ (g * 196 ≤ j ∧ j < g * 196 + n)) → dXa n nr wl mk ds k j = ds j
  | 0, _ => rfl
  | k + 1, h => by
    show rq n (dXa n nr wl mk ds k) k (dXg n nr wl mk k) j = ds j
    unfold rq
    rw [if_neg (h k (by omega))]
    exact dXa_out k (fun g hg => h g (by omega))
theorem dXa_in {n g f : Nat} {nr wl mk ds : Nat → Int32} (h9 : n ≤ 196) (hf : f < n) : ∀ k, g < k → dXa n nr wl mk ds k (g * 196 + f) = dXg n nr wl mk g f
  | 0, h => absurd h (Nat.not_lt_zero _)
  | k + 1, h => by
    show rq n (dXa n nr wl mk ds k) k (dXg n nr wl mk k) (g * 196 + f) = _
    by_cases e : g = k
    · subst e
      exact rq_get hf
    · unfold rq
      rw [if_neg (by omega)]
      exact dXa_in h9 hf k (by omega)
theorem dXa_back {n : Nat} {nr wl wl1 mk ds : Nat → Int32} (h9 : n ≤ 196) (hds : dsR n nr wl mk ds) : dXa n nr wl mk (dXa n nr wl1 mk ds 4) 4 = ds := by
  funext j
  by_cases h : ∃ g, g < 4 ∧ g * 196 ≤ j ∧ j < g * 196 + n
  · obtain ⟨g, hg, h1, h2⟩ := h
    obtain ⟨f, rfl⟩ : ∃ f, j = g * 196 + f := ⟨j - g * 196, by omega⟩
    rw [dXa_in h9 (by omega) 4 hg, hds g hg f (by omega)]
  · have h1 : ∀ g, g < 4 → ¬ (g * 196 ≤ j ∧ j < g * 196 + n) := fun g hg z => h ⟨g, hg, z⟩
    rw [dXa_out 4 h1, dXa_out 4 h1]
theorem mk_back {mk : Nat → Int32} {g f : Nat} : mkF (mkF mk g f) g f = mk := by
  funext j
  unfold mkF upd
  by_cases e : j = f
  · rw [if_pos e, if_pos rfl, Int32.xor_assoc, Int32.xor_self, Int32.xor_zero, e]
  · rw [if_neg e, if_neg e]
theorem rq_back {n g : Nat} {nr wl mk ds D : Nat → Int32} (hds : dsR n nr wl mk ds) (hg : g < 4) : rq n (rq n ds g D) g (dXg n nr wl mk g) = ds := by
  funext j
  unfold rq
  by_cases e : g * 196 ≤ j ∧ j < g * 196 + n
  · rw [if_pos e]
    have h := hds g hg (j - g * 196) (by omega)
    rw [← h]
    congr 1
    omega
  · rw [if_neg e, if_neg e]
theorem wan_1 {W H a b : Nat} {X : cX} (hW : W ≤ 14) (hH : H ≤ 14) (ha : a < W) (hb : b < H) (he : X.2.2.1 (b * W + a) = -1) : ¬ wanF W H X a b a b = true := fun z => by
  obtain ⟨f, hf, hr, hn⟩ := (wanF_iff hW hH ha hb ha hb).mp z
  unfold rcT at hr
  obtain ⟨h1, h2, h3⟩ := fd_div hf
  have e1 : f % W = a := by omega
  have e2 : f / W = b := by omega
  rw [e1, e2] at h3
  rw [← h3] at hn
  exact hn he
theorem th_mrk_n {W H a b g cnt : Nat} {X : cX} (hW : W ≤ 14) (hH : H ≤ 14) (hg : g < 4) (ha : a < W) (hb : b < H) (he : X.2.2.1 (b * W + a) = -1) : th_mrk W H cnt X (nI g) (nI a) (nI b) = none := by
  have h9 : W * H ≤ 196 := Nat.mul_le_mul hW hH
  have hf := fij ha hb
  unfold th_mrk
  rw [gr_num_n hW hH ha hb, cr_on_n (by omega), he, if_neg (fun z => by rcases z with z | z; exact z (gl_n hg); exact nI_m1 (by omega) z)]
  exact if_neg (fun z => absurd z.1.1 (by decide))
section ACT
variable {x9 : Bool} {dd : ms_D} {P : ms_P} {pc : Nat} {lv : List (Nat × Value)} {st stk : List Value} {n x : Nat} {G : ms_H}
theorem lw_act {kr zr kr1 zr1 i n9 : Nat} {d' : ms_D} {As fs : List Value} {th : Option String} {v : Value} {Q : ms_H → Prop} (hdg : decode dd.2.1 pc = .ok (.invokevirtual i, 3))
    (hM : ms_X d' (.ref x :: As) n G 1 6 (xq_P n G th v Q)) (hth : th = none) (ok : ms_okV dd.1.cls i d' 5 n9) (hX : G x = some (.inr (5, fs))) (hn : As.length = n9) (hR : ms_okR dd d') (hst : stk = As.reverse ++ .ref x :: st) (hW9 : (st.map fun v => v.category).sum ≤ 8) (hk : 1 + kr1 ≤ kr) (hz : 6 + zr1 ≤ zr)
    (k : ∀ (n1 : Nat) (G1 : ms_H), n ≤ n1 → Q G1 → ms_W x9 dd P (pc + 3) lv (v :: st) n1 G1 kr1 zr1) (hs9 : d'.2.2.2.2.2.2.2 = none ∨ d'.2.2.2.2.2.2.2 = dd.2.2.2.2.2.2.2 := by first | exact Or.inl rfl | exact Or.inr rfl) : ms_W x9 dd P pc lv stk n G kr zr := by
  refine ms_W.room (k2 := 1 + kr1) (z2 := 6 + zr1) ?_ hk hz
  refine ms_callVX (As := As) hdg hM ok hX hn hR hst hW9 (fun v9 n1 G1 hp => ?_) (fun E n1 G1 q9 hp => absurd ((xq_P.thw hp).1.symm.trans hth) (fun z => by cases z)) hs9
  obtain ⟨-, hv9, hQ, hn1⟩ := xq_P.val hp
  rw [hv9]
  exact k n1 G1 hn1 hQ
end ACT
theorem fS.draw {n o x g q c j q2 c2 sb d t W H cnt fa wa : Nat} {G G1 : ms_H} {dr pa : Int32} {X : cX} {nr wl mk ds : Nat → Int32} {wr : Nat → Nat} {fv : Nat → Nat → Int32} (ho : ox x g q c j q2 c2) (hox : o < x) (hS : fS o x g q c j q2 c2 sb n d t G W H cnt fa wa dr pa X nr wl mk ds wr fv) (e : G1 = ms_up G o (.inr (6, [.ref x, .ref sb, .int (nI (d + 1)), .int (nI W), .int (nI H), .int X.2.2.2, .int dr, .int pa, .ref fa, .ref wa]))) : fS o x g q c j q2 c2 sb n (d + 1) t G1 W H cnt fa wa dr pa X nr wl mk ds wr fv := by
  obtain ⟨hX, hM, fl, ly, hcf, hK⟩ := hS
  have hW0 : 0 < W := by have := hK.1.1; omega
  exact ⟨hX.cx ho (fun a h1 h2 => by rw [e]; exact ms_up_n _ _ (by omega)), by rw [e]; exact hM.ob ly hW0, fl, ly, hcf, hK⟩
set_option maxHeartbeats 1000000 in
set_option maxRecDepth 20000 in
theorem b_law {n o x g q c j q2 c2 sb L d t W H cnt fa wa : Nat} {xs : Nat → Int32} {G : ms_H} {dr pa : Int32} {X : cX} {nr wl mk ds : Nat → Int32} {wr : Nat → Nat} {fv : Nat → Nat → Int32} {P : ms_P} {kr zr : Nat} {tm sp : Int32} {bf : Int64} (ho : ox x g q c j q2 c2) (hox : o < x) (hS : fS o x g q c j q2 c2 sb n d t G W H cnt fa wa dr pa X nr wl mk ds wr fv) (hLb : L < 1000) (hd : d < 800) (hbf : bf = dgX (W * H) nr wl ds cnt dr X (jxX pa cnt nr X)) (kk : ∀ (n1 : Nat) (G1 : ms_H), n ≤ n1 → fS o x g q c j q2 c2 sb n1 (d + 1 + 1) t G1 W H cnt fa wa dr pa X nr wl mk ds wr fv → ms_W false (ms_S (sb, L, xs) m_L_law) P 983 [(0, .ref sb), (1, .int tm), (2, .ref o), (3, .ref x), (4, .int sp), (5, .long bf)] [] n1 G1 kr zr) : ms_W false (ms_S (sb, L, xs) m_L_law) (P) 848 [(0, .ref sb), (1, .int tm), (2, .ref o), (3, .ref x), (4, .int sp), (5, .long bf)] [] n G (5 + kr) (30 + zr) := by
  have hS0 := hS
  obtain ⟨-, -, -, -, -, hK⟩ := hS0
  have hK0 := hK
  obtain ⟨⟨pb1, pb2, pb3, pb4⟩, hc, hL, hfv, hht, hds, hdr, ⟨p9, hp91, hp92, hpa⟩, hwl, ⟨hcl, ht9⟩, hV, hI, hHt⟩ := hK0
  have hW : W ≤ 14 := by omega
  have hH : H ≤ 14 := by omega
  have hW0 : 0 < W := by omega
  have h9 : W * H ≤ 196 := Nat.mul_le_mul hW hH
  have h35 : W * H ≤ 7 * 5 := Nat.mul_le_mul pb2 pb4
  have hp0 : 0 < W * H := Nat.mul_pos hW0 (by omega)
  refine ms_run (pc' := 850) (lv' := [(0, .ref sb), (1, .int tm), (2, .ref o), (3, .ref x), (4, .int sp), (5, .long bf)]) (st' := [.ref o, .ref o]) _ (ms_deC dL_law_848 (ms_deC dL_law_849 ms_deN)) rfl rfl ?_
  refine ms_getf dL_law_850 fg_L_35 hS.2.1.1 rfl ?_
  refine ms_callV0 (As := [.int (nI W)]) dL_law_853 (c_X6_draw (n := n) (L := L) (xs := xs) (d := d) (N := W) hS.2.1.1 (by omega) hLb (by omega) (by omega)) cv_L_93 hS.2.1.1 rfl ⟨Nat.le_of_ble_eq_true rfl, Nat.le_of_ble_eq_true rfl⟩ rfl (Nat.le_of_ble_eq_true rfl) (fun v9 n9 K1 hp9 => ?_)
  obtain ⟨v1, hv1, hr9, hnn9, eK1⟩ := hp9
  cases hr9
  rw [hnn9]
  have hS1 := hS.draw ho hox eK1
  refine ms_run (pc' := 860) (lv' := [(11, .int (nI v1)), (0, .ref sb), (1, .int tm), (2, .ref o), (3, .ref x), (4, .int sp), (5, .long bf)]) (st' := [.ref o, .ref o]) _ (ms_deC dL_law_856 (ms_deC dL_law_858 (ms_deC dL_law_859 ms_deN))) rfl rfl ?_
  refine ms_getf dL_law_860 fg_L_39 hS1.2.1.1 rfl ?_
  refine ms_callV0 (As := [.int (nI H)]) dL_law_863 (c_X6_draw (n := n) (L := L) (xs := xs) (d := (d + 1)) (N := H) hS1.2.1.1 (by omega) hLb (by omega) (by omega)) cv_L_93 hS1.2.1.1 rfl ⟨Nat.le_of_ble_eq_true rfl, Nat.le_of_ble_eq_true rfl⟩ rfl (Nat.le_of_ble_eq_true rfl) (fun v9 n9 K2 hp9 => ?_)
  obtain ⟨v2, hv2, hr9, hnn9, eK2⟩ := hp9
  cases hr9
  rw [hnn9]
  have hS2 := hS1.draw ho hox eK2
  refine ms_run (pc' := 868) (lv' := [(12, .int (nI v2)), (11, .int (nI v1)), (0, .ref sb), (1, .int tm), (2, .ref o), (3, .ref x), (4, .int sp), (5, .long bf)]) (st' := []) _ (ms_deC dL_law_866 ms_deN) rfl rfl ?_
  have hfd := fij hv1 hv2
  rcases hwl (v2 * W + v1) with ew | ew
  · skip
    refine ms_run (pc' := 874) (lv' := [(12, .int (nI v2)), (11, .int (nI v1)), (0, .ref sb), (1, .int tm), (2, .ref o), (3, .ref x), (4, .int sp), (5, .long bf)]) (st' := [.int 0, .int (nI v2), .int (nI v1), .ref x]) _ (ms_deC dL_law_868 (ms_deC dL_law_869 (ms_deC dL_law_871 (ms_deC dL_law_873 ms_deN)))) rfl rfl ?_
    refine lw_ask (As := [.int (nI v1), .int (nI v2), .int 0]) (v2 := .int 0) (kr1 := 4 + kr) (zr1 := 24 + zr) dL_law_874 ho hox hS2 (c_X5_field ho hS2.1 (nI v1) (nI v2) 0) (th_fld_n (w := 0) hW hH hv1 hv2 (by decide)) (congrArg Value.int ((vf_0 hW hH hv1 hv2 rfl hwl).trans ew)) cv_L_42 rfl ⟨Nat.le_of_ble_eq_true rfl, Nat.le_of_ble_eq_true rfl⟩ rfl (Nat.le_of_ble_eq_true rfl) (by omega) (by omega) (fun n3 K3 hn3 hS3 => ?_)
    refine ms_run (pc' := 878) (lv' := [(12, .int (nI v2)), (11, .int (nI v1)), (0, .ref sb), (1, .int tm), (2, .ref o), (3, .ref x), (4, .int sp), (5, .long bf)]) (st' := [.int 1, .int 0]) _ (ms_deC dL_law_877 ms_deN) rfl rfl ?_
    refine ms_icmp_ne (tgt := 912) dL_law_878 (by decide) (fun _ => ?_) (fun h9 => absurd h9 (by decide))
    refine ms_run (pc' := 917) (lv' := [(12, .int (nI v2)), (11, .int (nI v1)), (0, .ref sb), (1, .int tm), (2, .ref o), (3, .ref x), (4, .int sp), (5, .long bf)]) (st' := [.int (nI v2), .int (nI v1), .ref o]) _ (ms_deC dL_law_912 (ms_deC dL_law_913 (ms_deC dL_law_915 ms_deN))) rfl rfl ?_
    refine ms_callVp (As := [.int (nI v1), .int (nI v2)]) dL_law_917 (c_X6_isOn hS3.2.1 hW hH hc hV.1 hV.2.1 hv1 hv2) cv_L_100 hS3.2.1.1 rfl ⟨Nat.le_of_ble_eq_true rfl, Nat.le_of_ble_eq_true rfl⟩ rfl (Nat.le_of_ble_eq_true rfl) ?_
    by_cases hc_917 : ¬ X.2.2.1 (v2 * W + v1) = -1
    · rw [show ms_b (¬ X.2.2.1 (v2 * W + v1) = -1) = 1 from if_pos hc_917]
      refine ms_if_ne (tgt := 971) dL_law_920 (by decide) (fun _ => ?_) (fun h9 => absurd h9 (by decide))
      refine ms_run (pc' := 972) (lv' := [(12, .int (nI v2)), (11, .int (nI v1)), (0, .ref sb), (1, .int tm), (2, .ref o), (3, .ref x), (4, .int sp), (5, .long bf)]) (st' := [.ref x]) _ (ms_deC dL_law_971 ms_deN) rfl rfl ?_
      refine lw_askM (As := []) (v2 := .long bf) dL_law_972 ho hox hS3 (c_X5_digest ho hS3.1 hc hW hH hp0) (congrArg Value.long hbf.symm) cv_L_29 rfl ⟨Nat.le_of_ble_eq_true rfl, Nat.le_of_ble_eq_true rfl⟩ rfl (Nat.le_of_ble_eq_true rfl) (fun K4 hS4 => ?_)
      refine ms_run (pc' := 977) (lv' := [(12, .int (nI v2)), (11, .int (nI v1)), (0, .ref sb), (1, .int tm), (2, .ref o), (3, .ref x), (4, .int sp), (5, .long bf)]) (st' := [.long bf, .long bf]) _ (ms_deC dL_law_975 ms_deN) rfl rfl ?_
      refine ms_lcmp dL_law_977 ?_
      rw [lg_same]
      refine ms_if_eq (tgt := 983) dL_law_978 (by decide) (fun _ => ?_) (fun h9 => absurd h9 (by decide))
      exact ms_W.room (k2 := kr) (z2 := zr) (by refine ms_W.sub (lv2 := [(0, _), (1, _), (2, _), (3, _), (4, _), (5, _)]) ?_ [2, 3, 4, 5, 6, 7] rfl; exact kk n3 K4 (by omega) hS4) (by omega) (by omega)
    · rw [show ms_b (¬ X.2.2.1 (v2 * W + v1) = -1) = 0 from if_neg hc_917]
      have eo : X.2.2.1 (v2 * W + v1) = -1 := Decidable.not_not.mp hc_917
      refine ms_if_ne (tgt := 971) dL_law_920 (by decide) (fun h9 => absurd h9 (by decide)) (fun _ => ?_)
      refine ms_run (pc' := 933) (lv' := [(12, .int (nI v2)), (11, .int (nI v1)), (0, .ref sb), (1, .int tm), (2, .ref o), (3, .ref x), (4, .int sp), (5, .long bf)]) (st' := [.int 1, .int (nI v2), .int (nI v1), .int (nI v2), .int (nI v1), .ref x]) _ (ms_deC dL_law_923 (ms_deC dL_law_924 (ms_deC dL_law_926 (ms_deC dL_law_928 (ms_deC dL_law_930 (ms_deC dL_law_932 ms_deN)))))) rfl rfl ?_
      have hct := c_X5_wall (n := n3) ho hS3.1 hW hH (nI v1) (nI v2) (nI v1) (nI v2) 1
      rw [nI_clamp (n := v1) (by omega), nI_clamp (n := v2) (by omega), wlX_1] at hct
      refine lw_act (As := [.int (nI v1), .int (nI v2), .int (nI v1), .int (nI v2), .int 1]) (kr1 := 3 + kr) (zr1 := 18 + zr) dL_law_933 hct ((th_wal_i hW hH hv1 hv2 hv1 hv2).trans (if_neg (fun y => wan_1 hW hH hv1 hv2 eo y.2))) cv_L_96 hS3.1.1 rfl ⟨Nat.le_of_ble_eq_true rfl, Nat.le_of_ble_eq_true rfl⟩ rfl (Nat.le_of_ble_eq_true rfl) (by omega) (by omega) (fun n4 K4 hn4 hQ4 => ?_)
      obtain ⟨hX4, hF4⟩ := hQ4
      refine ms_run (pc' := 947) (lv' := [(12, .int (nI v2)), (11, .int (nI v1)), (0, .ref sb), (1, .int tm), (2, .ref o), (3, .ref x), (4, .int sp), (5, .long bf)]) (st' := [.int 0, .int (nI v2), .int (nI v1), .int (nI v2), .int (nI v1), .ref x]) _ (ms_deC dL_law_936 (ms_deC dL_law_937 (ms_deC dL_law_938 (ms_deC dL_law_940 (ms_deC dL_law_942 (ms_deC dL_law_944 (ms_deC dL_law_946 ms_deN))))))) rfl rfl ?_
      have hct := c_X5_wall (n := n4) ho hX4 hW hH (nI v1) (nI v2) (nI v1) (nI v2) 0
      rw [nI_clamp (n := v1) (by omega), nI_clamp (n := v2) (by omega), wlX_1] at hct
      refine lw_act (As := [.int (nI v1), .int (nI v2), .int (nI v1), .int (nI v2), .int 0]) (kr1 := 2 + kr) (zr1 := 12 + zr) dL_law_947 hct ((th_wal_i hW hH hv1 hv2 hv1 hv2).trans (if_neg (fun y => y.1 rfl))) cv_L_96 hX4.1 rfl ⟨Nat.le_of_ble_eq_true rfl, Nat.le_of_ble_eq_true rfl⟩ rfl (Nat.le_of_ble_eq_true rfl) (by omega) (by omega) (fun n5 K5 hn5 hQ5 => ?_)
      obtain ⟨hX5, hF5⟩ := hQ5
      rw [show upd (upd wl (v2 * W + v1) (if (1 : Int32) = 0 then 0 else 1)) (v2 * W + v1) (if (0 : Int32) = 0 then 0 else 1) = wl from upd_back ew, dXa_back h9 hds] at hX5
      have hS5 := hS3.ask ho hox hX5 (fun a ha => (hF5 a ha).trans (hF4 a ha)) (by omega : n3 ≤ n5)
      refine ms_run (pc' := 957) (lv' := [(12, .int (nI v2)), (11, .int (nI v1)), (0, .ref sb), (1, .int tm), (2, .ref o), (3, .ref x), (4, .int sp), (5, .long bf)]) (st' := [.int (nI v2), .int (nI v1), .int 3, .ref x]) _ (ms_deC dL_law_950 (ms_deC dL_law_951 (ms_deC dL_law_952 (ms_deC dL_law_953 (ms_deC dL_law_955 ms_deN))))) rfl rfl ?_
      have hct := c_X5_mark (n := n5) ho hS5.1 hc hW hH 3 (nI v1) (nI v2)
      rw [gr_num_n hW hH hv1 hv2, nI_clamp (n := v2 * W + v1) (by omega)] at hct
      refine lw_act (As := [.int 3, .int (nI v1), .int (nI v2)]) (kr1 := 1 + kr) (zr1 := 6 + zr) dL_law_957 hct (th_mrk_n (g := 3) hW hH (by decide) hv1 hv2 eo) cv_L_104 hS5.1.1 rfl ⟨Nat.le_of_ble_eq_true rfl, Nat.le_of_ble_eq_true rfl⟩ rfl (Nat.le_of_ble_eq_true rfl) (by omega) (by omega) (fun n6 K6 hn6 hQ6 => ?_)
      obtain ⟨hX6, hF6⟩ := hQ6
      refine ms_run (pc' := 967) (lv' := [(12, .int (nI v2)), (11, .int (nI v1)), (0, .ref sb), (1, .int tm), (2, .ref o), (3, .ref x), (4, .int sp), (5, .long bf)]) (st' := [.int (nI v2), .int (nI v1), .int 3, .ref x]) _ (ms_deC dL_law_960 (ms_deC dL_law_961 (ms_deC dL_law_962 (ms_deC dL_law_963 (ms_deC dL_law_965 ms_deN))))) rfl rfl ?_
      have hct := c_X5_mark (n := n6) ho hX6 hc hW hH 3 (nI v1) (nI v2)
      rw [gr_num_n hW hH hv1 hv2, nI_clamp (n := v2 * W + v1) (by omega)] at hct
      refine lw_act (As := [.int 3, .int (nI v1), .int (nI v2)]) (kr1 := 0 + kr) (zr1 := 0 + zr) dL_law_967 hct (th_mrk_n (g := 3) hW hH (by decide) hv1 hv2 eo) cv_L_104 hX6.1 rfl ⟨Nat.le_of_ble_eq_true rfl, Nat.le_of_ble_eq_true rfl⟩ rfl (Nat.le_of_ble_eq_true rfl) (by omega) (by omega) (fun n7 K7 hn7 hQ7 => ?_)
      obtain ⟨hX7, hF7⟩ := hQ7
      rw [show mkF (mkF mk (3 : Int32).toNatClampNeg (v2 * W + v1)) (3 : Int32).toNatClampNeg (v2 * W + v1) = mk from mk_back, rq_back (g := (3 : Int32).toNatClampNeg) hds (by decide)] at hX7
      have hS7 := hS5.ask ho hox hX7 (fun a ha => (hF7 a ha).trans (hF6 a ha)) (by omega : n5 ≤ n7)
      refine ms_run (pc' := 972) (lv' := [(12, .int (nI v2)), (11, .int (nI v1)), (0, .ref sb), (1, .int tm), (2, .ref o), (3, .ref x), (4, .int sp), (5, .long bf)]) (st' := [.ref x]) _ (ms_deC dL_law_970 (ms_deC dL_law_971 ms_deN)) rfl rfl ?_
      refine lw_askM (As := []) (v2 := .long bf) dL_law_972 ho hox hS7 (c_X5_digest ho hS7.1 hc hW hH hp0) (congrArg Value.long hbf.symm) cv_L_29 rfl ⟨Nat.le_of_ble_eq_true rfl, Nat.le_of_ble_eq_true rfl⟩ rfl (Nat.le_of_ble_eq_true rfl) (fun K8 hS8 => ?_)
      refine ms_run (pc' := 977) (lv' := [(12, .int (nI v2)), (11, .int (nI v1)), (0, .ref sb), (1, .int tm), (2, .ref o), (3, .ref x), (4, .int sp), (5, .long bf)]) (st' := [.long bf, .long bf]) _ (ms_deC dL_law_975 ms_deN) rfl rfl ?_
      refine ms_lcmp dL_law_977 ?_
      rw [lg_same]
      refine ms_if_eq (tgt := 983) dL_law_978 (by decide) (fun _ => ?_) (fun h9 => absurd h9 (by decide))
      exact ms_W.room (k2 := kr) (z2 := zr) (by refine ms_W.sub (lv2 := [(0, _), (1, _), (2, _), (3, _), (4, _), (5, _)]) ?_ [2, 3, 4, 5, 6, 7] rfl; exact kk n7 K8 (by omega) hS8) (by omega) (by omega)
  · skip
    have eo : X.2.2.1 (v2 * W + v1) = -1 := by
      rcases hV.1 (v2 * W + v1) hfd with ⟨y, -⟩ | ⟨k, hk, -, y, -⟩
      · exact y
      · exact absurd (((hI k hk).1 _ hfd y).1.symm.trans ew) (by decide)
    refine ms_run (pc' := 874) (lv' := [(12, .int (nI v2)), (11, .int (nI v1)), (0, .ref sb), (1, .int tm), (2, .ref o), (3, .ref x), (4, .int sp), (5, .long bf)]) (st' := [.int 0, .int (nI v2), .int (nI v1), .ref x]) _ (ms_deC dL_law_868 (ms_deC dL_law_869 (ms_deC dL_law_871 (ms_deC dL_law_873 ms_deN)))) rfl rfl ?_
    refine lw_ask (As := [.int (nI v1), .int (nI v2), .int 0]) (v2 := .int 1) (kr1 := 4 + kr) (zr1 := 24 + zr) dL_law_874 ho hox hS2 (c_X5_field ho hS2.1 (nI v1) (nI v2) 0) (th_fld_n (w := 0) hW hH hv1 hv2 (by decide)) (congrArg Value.int ((vf_0 hW hH hv1 hv2 rfl hwl).trans ew)) cv_L_42 rfl ⟨Nat.le_of_ble_eq_true rfl, Nat.le_of_ble_eq_true rfl⟩ rfl (Nat.le_of_ble_eq_true rfl) (by omega) (by omega) (fun n3 K3 hn3 hS3 => ?_)
    refine ms_run (pc' := 878) (lv' := [(12, .int (nI v2)), (11, .int (nI v1)), (0, .ref sb), (1, .int tm), (2, .ref o), (3, .ref x), (4, .int sp), (5, .long bf)]) (st' := [.int 1, .int 1]) _ (ms_deC dL_law_877 ms_deN) rfl rfl ?_
    refine ms_icmp_ne (tgt := 912) dL_law_878 (by decide) (fun h9 => absurd h9 (by decide)) (fun _ => ?_)
    refine ms_run (pc' := 891) (lv' := [(12, .int (nI v2)), (11, .int (nI v1)), (0, .ref sb), (1, .int tm), (2, .ref o), (3, .ref x), (4, .int sp), (5, .long bf)]) (st' := [.int 0, .int (nI v2), .int (nI v1), .int (nI v2), .int (nI v1), .ref x]) _ (ms_deC dL_law_881 (ms_deC dL_law_882 (ms_deC dL_law_884 (ms_deC dL_law_886 (ms_deC dL_law_888 (ms_deC dL_law_890 ms_deN)))))) rfl rfl ?_
    have hct := c_X5_wall (n := n3) ho hS3.1 hW hH (nI v1) (nI v2) (nI v1) (nI v2) 0
    rw [nI_clamp (n := v1) (by omega), nI_clamp (n := v2) (by omega), wlX_1] at hct
    refine lw_act (As := [.int (nI v1), .int (nI v2), .int (nI v1), .int (nI v2), .int 0]) (kr1 := 3 + kr) (zr1 := 18 + zr) dL_law_891 hct ((th_wal_i hW hH hv1 hv2 hv1 hv2).trans (if_neg (fun y => y.1 rfl))) cv_L_96 hS3.1.1 rfl ⟨Nat.le_of_ble_eq_true rfl, Nat.le_of_ble_eq_true rfl⟩ rfl (Nat.le_of_ble_eq_true rfl) (by omega) (by omega) (fun n4 K4 hn4 hQ4 => ?_)
    obtain ⟨hX4, hF4⟩ := hQ4
    refine ms_run (pc' := 905) (lv' := [(12, .int (nI v2)), (11, .int (nI v1)), (0, .ref sb), (1, .int tm), (2, .ref o), (3, .ref x), (4, .int sp), (5, .long bf)]) (st' := [.int 1, .int (nI v2), .int (nI v1), .int (nI v2), .int (nI v1), .ref x]) _ (ms_deC dL_law_894 (ms_deC dL_law_895 (ms_deC dL_law_896 (ms_deC dL_law_898 (ms_deC dL_law_900 (ms_deC dL_law_902 (ms_deC dL_law_904 ms_deN))))))) rfl rfl ?_
    have hct := c_X5_wall (n := n4) ho hX4 hW hH (nI v1) (nI v2) (nI v1) (nI v2) 1
    rw [nI_clamp (n := v1) (by omega), nI_clamp (n := v2) (by omega), wlX_1] at hct
    refine lw_act (As := [.int (nI v1), .int (nI v2), .int (nI v1), .int (nI v2), .int 1]) (kr1 := 2 + kr) (zr1 := 12 + zr) dL_law_905 hct ((th_wal_i hW hH hv1 hv2 hv1 hv2).trans (if_neg (fun y => wan_1 hW hH hv1 hv2 eo y.2))) cv_L_96 hX4.1 rfl ⟨Nat.le_of_ble_eq_true rfl, Nat.le_of_ble_eq_true rfl⟩ rfl (Nat.le_of_ble_eq_true rfl) (by omega) (by omega) (fun n5 K5 hn5 hQ5 => ?_)
    obtain ⟨hX5, hF5⟩ := hQ5
    rw [show upd (upd wl (v2 * W + v1) (if (0 : Int32) = 0 then 0 else 1)) (v2 * W + v1) (if (1 : Int32) = 0 then 0 else 1) = wl from upd_back ew, dXa_back h9 hds] at hX5
    have hS5 := hS3.ask ho hox hX5 (fun a ha => (hF5 a ha).trans (hF4 a ha)) (by omega : n3 ≤ n5)
    refine ms_run (pc' := 909) (lv' := [(12, .int (nI v2)), (11, .int (nI v1)), (0, .ref sb), (1, .int tm), (2, .ref o), (3, .ref x), (4, .int sp), (5, .long bf)]) (st' := []) _ (ms_deC dL_law_908 ms_deN) rfl rfl ?_
    refine ms_goto (tgt := 971) dL_law_909 (by decide) ?_
    refine ms_run (pc' := 972) (lv' := [(12, .int (nI v2)), (11, .int (nI v1)), (0, .ref sb), (1, .int tm), (2, .ref o), (3, .ref x), (4, .int sp), (5, .long bf)]) (st' := [.ref x]) _ (ms_deC dL_law_971 ms_deN) rfl rfl ?_
    refine lw_askM (As := []) (v2 := .long bf) dL_law_972 ho hox hS5 (c_X5_digest ho hS5.1 hc hW hH hp0) (congrArg Value.long hbf.symm) cv_L_29 rfl ⟨Nat.le_of_ble_eq_true rfl, Nat.le_of_ble_eq_true rfl⟩ rfl (Nat.le_of_ble_eq_true rfl) (fun K6 hS6 => ?_)
    refine ms_run (pc' := 977) (lv' := [(12, .int (nI v2)), (11, .int (nI v1)), (0, .ref sb), (1, .int tm), (2, .ref o), (3, .ref x), (4, .int sp), (5, .long bf)]) (st' := [.long bf, .long bf]) _ (ms_deC dL_law_975 ms_deN) rfl rfl ?_
    refine ms_lcmp dL_law_977 ?_
    rw [lg_same]
    refine ms_if_eq (tgt := 983) dL_law_978 (by decide) (fun _ => ?_) (fun h9 => absurd h9 (by decide))
    exact ms_W.room (k2 := kr) (z2 := zr) (by refine ms_W.sub (lv2 := [(0, _), (1, _), (2, _), (3, _), (4, _), (5, _)]) ?_ [2, 3, 4, 5, 6, 7] rfl; exact kk n5 K6 (by omega) hS6) (by omega) (by omega)

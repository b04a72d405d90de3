/-! the law: the cases -/
abbrev m_L_lw (b L : Nat) (xs : Nat → Int32) : ms_D := (yL_law, cL_law, 9, (some .boolean), 10, 400, [], some (b, L, xs))
theorem sc_at {i j : Nat} (h : i + j < 100000) : (nI i + nI j).toNatClampNeg = i + j := by rw [nI_add, nI_clamp (by omega)]
theorem sc_in {i j L : Nat} (h : i + j < L) (h2 : L < 100000) : vp_in (nI i + nI j) L := by rw [nI_add]; exact vp_in_nI h (by omega)
theorem md_at.co {m aw am ai ah W H cnt : Nat} {G G1 : ms_H} {th cl dr pa : Int32} {wl mm ht : Nat → Int32} {u : Nat → Nat → Int32} (hM : md_at G m aw am ai ah W H th cl dr pa cnt wl mm ht u) (h : ∀ a, E5 m aw am ai ah a → G1 a = G a) : md_at G1 m aw am ai ah W H th cl dr pa cnt wl mm ht u := by
  obtain ⟨h1, h2, h3, ⟨it, h4, h6⟩, h5⟩ := hM
  exact ⟨(h m (Or.inl rfl)).trans h1, (h aw (Or.inr (Or.inl rfl))).trans h2, (h am (Or.inr (Or.inr (Or.inl rfl)))).trans h3, ⟨it, (h ai (Or.inr (Or.inr (Or.inr (Or.inl rfl))))).trans h4, h6⟩, (h ah (Or.inr (Or.inr (Or.inr (Or.inr rfl))))).trans h5⟩
set_option maxHeartbeats 1000000 in
set_option maxRecDepth 20000 in
theorem cs_reset {x g q c j q2 c2 o m b L k i n : Nat} {xs : Nat → Int32} {G : ms_H} {P : ms_P} {kr zr : Nat} (ho : ox x g q c j q2 c2) (hoo : c2 + 29 ≤ o) (hS : lS x g q c j q2 c2 o m k n G) (hO : lo_at o n G) (hk : k < 512) (hi : i + 5 < L) (hL : L ≤ 3072) (kk : ∀ n1 G1, lS x g q c j q2 c2 o m (k + 1) n1 G1 → lo_at o n1 G1 → ms_W false (m_L_lw b L xs) P 1736 [(0, .ref b), (1, .ref x), (2, .ref m), (3, .ref o), (4, .int (nI i))] [] n1 G1 kr zr) : ms_W false (m_L_lw b L xs) P 152 [(0, .ref b), (1, .ref x), (2, .ref m), (3, .ref o), (4, .int (nI i))] [] n G (394 + kr) (12720 + zr) := by
  obtain ⟨aw, am, ai, ah, W, H, cnt, th, dr, pa, X, nr, wl, mk, ds, mm, hS5, hM6, hl, hne, hge, hnoe, hWH, hc, hL9, hmm, hds, hd, hwl, hV, hhe⟩ := hS
  obtain ⟨hW0, hW, hH0, hH⟩ := hWH
  obtain ⟨hon, fo, hro⟩ := hO
  have hp : 0 < W * H := Nat.mul_pos hW0 hH0
  obtain ⟨l1, l2, l3, l4, l5⟩ := id hl
  obtain ⟨g1, g2, g3, g4, g5⟩ := id hge
  obtain ⟨e1, e2, e3, e4, e5⟩ := id hnoe
  have ho9 := ho
  obtain ⟨o1, o2, o3, o4, o5, o6⟩ := ho
  have h196 := fd_196 hW hH
  refine ms_run (pc' := 158) (lv' := [(0, .ref b), (1, .ref x), (2, .ref m), (3, .ref o), (4, .int (nI i))]) (st' := [.int ((nI i) + 1), .ref b, .ref x]) _ (ms_deC dL_law_152 (ms_deC dL_law_153 (ms_deC dL_law_154 (ms_deC dL_law_156 (ms_deC dL_law_157 ms_deN))))) rfl rfl ?_
  refine ms_sld dL_law_158 rfl (sc_in (j := 1) (by omega) (by omega)) ?_
  rw [show (nI i + 1).toNatClampNeg = i + 1 from sc_at (j := 1) (by omega)]
  refine ms_run (pc' := 164) (lv' := [(0, .ref b), (1, .ref x), (2, .ref m), (3, .ref o), (4, .int (nI i))]) (st' := [.int ((nI i) + 2), .ref b, .int (xs (i + 1)), .ref x]) _ (ms_deC dL_law_159 (ms_deC dL_law_160 (ms_deC dL_law_162 (ms_deC dL_law_163 ms_deN)))) rfl rfl ?_
  refine ms_sld dL_law_164 rfl (sc_in (j := 2) (by omega) (by omega)) ?_
  rw [show (nI i + 2).toNatClampNeg = i + 2 from sc_at (j := 2) (by omega)]
  refine ms_run (pc' := 166) (lv' := [(0, .ref b), (1, .ref x), (2, .ref m), (3, .ref o), (4, .int (nI i))]) (st' := [.ref o, .int (xs (i + 2)), .int (xs (i + 1)), .ref x]) _ (ms_deC dL_law_165 ms_deN) rfl rfl ?_
  refine ms_W.room (k2 := 1 + (393 + kr)) (z2 := 6 + (12714 + zr)) ?_ (by omega) (by omega)
  refine ms_callSX (As := [.ref x, .int (xs (i + 1)), .int (xs (i + 2)), .ref o]) dL_law_166 (c_L_reset ho9 hS5 hoo hro (xs (i + 1)) (xs (i + 2))) cs_L_87 (List.cons_ne_nil _ _) rfl ⟨Nat.le_of_ble_eq_true rfl, Nat.le_of_ble_eq_true rfl⟩ rfl (Nat.le_of_ble_eq_true rfl) (fun v9 n9 K9 hp9 => ?_) (fun E9 n9 K9 hp9 => hp9.noX)
  cases hth : (th_reset (xs (i + 1)) (xs (i + 2))) with
  | some E9 =>
    obtain ⟨hn9, hv9, hG9⟩ := hp9.t hth
    obtain ⟨t9, ht9, ht0⟩ : ∃ t9 : Int32, (fun _ => 1) E9 = t9 ∧ ¬ t9 = 0 := ⟨_, rfl, cd1_n E9⟩
    have hv8 : v9 = some (Value.int t9) := hv9.trans (congrArg (fun q => some (Value.int q)) ht9)
    subst hv8
    subst hG9
    have hl9 : md_lt n9 m aw am ai ah := ⟨by omega, by omega, by omega, by omega, by omega⟩
    refine ms_run (pc' := 177) (lv' := [(5, .int t9), (0, .ref b), (1, .ref x), (2, .ref m), (3, .ref o), (4, .int (nI i))]) (st' := [.int ((nI i) + 1), .ref b, .ref m]) _ (ms_deC dL_law_169 (ms_deC dL_law_171 (ms_deC dL_law_172 (ms_deC dL_law_173 (ms_deC dL_law_175 (ms_deC dL_law_176 ms_deN)))))) rfl rfl ?_
    refine ms_sld dL_law_177 rfl (sc_in (j := 1) (by omega) (by omega)) ?_
    rw [show (nI i + 1).toNatClampNeg = i + 1 from sc_at (j := 1) (by omega)]
    refine ms_run (pc' := 183) (lv' := [(5, .int t9), (0, .ref b), (1, .ref x), (2, .ref m), (3, .ref o), (4, .int (nI i))]) (st' := [.int ((nI i) + 2), .ref b, .int (xs (i + 1)), .ref m]) _ (ms_deC dL_law_178 (ms_deC dL_law_179 (ms_deC dL_law_181 (ms_deC dL_law_182 ms_deN)))) rfl rfl ?_
    refine ms_sld dL_law_183 rfl (sc_in (j := 2) (by omega) (by omega)) ?_
    rw [show (nI i + 2).toNatClampNeg = i + 2 from sc_at (j := 2) (by omega)]
    refine ms_W.room (k2 := 4 + kr) (z2 := 1368 + zr) ?_ (by omega) (by omega)
    refine ms_callV (As := [.int (xs (i + 1)), .int (xs (i + 2))]) dL_law_184 (c_X6_reset hM6 hl9 hW hH hW0 hc hne hL9 hmm hds hd (xs (i + 1)) (xs (i + 2))) cv_L_92 hM6.1 rfl ⟨Nat.le_of_ble_eq_true rfl, Nat.le_of_ble_eq_true rfl⟩ rfl (Nat.le_of_ble_eq_true rfl) (fun v8 n8 K8 hp8 => ?_)
    obtain ⟨hn8, hF8, hv7, hq8⟩ := hp8.1.t hth
    subst hv7
    have hM8 : md_at K8 m aw am ai ah W H t9 X.2.2.2 dr pa cnt wl mm X.2.1 X.1 := by rw [← ht9]; exact hq8
    have hS8 := hS5.co ho9 (fun a ha => hF8 a (by omega) (by rintro (z9 | z9 | z9 | z9 | z9) <;> omega))
    have hro8 := (hF8 o (by omega) (by rintro (z9 | z9 | z9 | z9 | z9) <;> omega)).trans hro
    refine ms_run (pc' := 190) (lv' := [(6, .int 0), (5, .int t9), (0, .ref b), (1, .ref x), (2, .ref m), (3, .ref o), (4, .int (nI i))]) (st' := [.ref m]) _ (ms_deC dL_law_187 (ms_deC dL_law_189 ms_deN)) rfl rfl ?_
    refine ms_callVp (As := []) dL_law_190 (c_X6_thrown hM8) cv_L_93 hM8.1 rfl ⟨Nat.le_of_ble_eq_true rfl, Nat.le_of_ble_eq_true rfl⟩ rfl (Nat.le_of_ble_eq_true rfl) ?_
    refine ms_run (pc' := 195) (lv' := [(6, .int 0), (5, .int t9), (0, .ref b), (1, .ref x), (2, .ref m), (3, .ref o), (4, .int (nI i))]) (st' := [.int t9, .int t9]) _ (ms_deC dL_law_193 ms_deN) rfl rfl ?_
    refine ms_icmp_eq (tgt := 200) dL_law_195 (by decide) (fun h_195 => ?_) (fun h_195 => ?_)
    · skip
      refine ms_run (pc' := 202) (lv' := [(6, .int 0), (5, .int t9), (0, .ref b), (1, .ref x), (2, .ref m), (3, .ref o), (4, .int (nI i))]) (st' := [.int t9]) _ (ms_deC dL_law_200 ms_deN) rfl rfl ?_
      refine ms_if_ne (tgt := 217) dL_law_202 (by decide) (fun h_202 => ?_) (fun h_202 => ?_)
      · skip
        refine ms_goto (tgt := 1736) dL_law_217 (by decide) ?_
        refine ms_W.room (k2 := kr) (z2 := zr) ?_ (by omega) (by omega)
        refine ms_W.sub (lv2 := [(0, _), (1, _), (2, _), (3, _), (4, _)]) ?_ [2, 3, 4, 5, 6] rfl
        exact kk n8 K8 ⟨aw, am, ai, ah, W, H, cnt, _, dr, pa, X, nr, wl, mk, ds, mm, hS8, hM8, ⟨by omega, by omega, by omega, by omega, by omega⟩, hne, hge, hnoe, ⟨hW0, hW, hH0, hH⟩, hc, hL9, hmm, hds, hd, hwl, (hV.mono (by omega)), (hhe.mono (by omega))⟩ ⟨by omega, _, hro8⟩
      · skip
        exact absurd (by first | exact h_202 | exact Decidable.not_not.mp h_202) ht0
    · skip
      exact absurd rfl h_195
  | none =>
    obtain ⟨hn9, hv9, K7, f7, hQ7, hf7, hK9⟩ := hp9.n hth
    subst hv9
    obtain ⟨nr9, hnr9, hS7, hF7⟩ := hQ7
    have hK9o : K9 o = some (oR f7) := by rw [hK9]; exact ms_up_s _ _ _
    have hfr7 : ∀ a, a ≠ o → K9 a = K7 a := fun a h1 => by rw [hK9]; exact ms_up_n _ _ h1
    have hM9 : md_at K9 m aw am ai ah W H th X.2.2.2 dr pa cnt wl mm X.2.1 X.1 := hM6.co (fun a h1 => (hfr7 a (by rcases h1 with z9 | z9 | z9 | z9 | z9 <;> omega)).trans (hF7 a (by rcases h1 with z9 | z9 | z9 | z9 | z9 <;> omega)))
    have hl9 : md_lt n9 m aw am ai ah := ⟨by omega, by omega, by omega, by omega, by omega⟩
    refine ms_run (pc' := 177) (lv' := [(5, .int 0), (0, .ref b), (1, .ref x), (2, .ref m), (3, .ref o), (4, .int (nI i))]) (st' := [.int ((nI i) + 1), .ref b, .ref m]) _ (ms_deC dL_law_169 (ms_deC dL_law_171 (ms_deC dL_law_172 (ms_deC dL_law_173 (ms_deC dL_law_175 (ms_deC dL_law_176 ms_deN)))))) rfl rfl ?_
    refine ms_sld dL_law_177 rfl (sc_in (j := 1) (by omega) (by omega)) ?_
    rw [show (nI i + 1).toNatClampNeg = i + 1 from sc_at (j := 1) (by omega)]
    refine ms_run (pc' := 183) (lv' := [(5, .int 0), (0, .ref b), (1, .ref x), (2, .ref m), (3, .ref o), (4, .int (nI i))]) (st' := [.int ((nI i) + 2), .ref b, .int (xs (i + 1)), .ref m]) _ (ms_deC dL_law_178 (ms_deC dL_law_179 (ms_deC dL_law_181 (ms_deC dL_law_182 ms_deN)))) rfl rfl ?_
    refine ms_sld dL_law_183 rfl (sc_in (j := 2) (by omega) (by omega)) ?_
    rw [show (nI i + 2).toNatClampNeg = i + 2 from sc_at (j := 2) (by omega)]
    refine ms_W.room (k2 := 4 + kr) (z2 := 1368 + zr) ?_ (by omega) (by omega)
    refine ms_callV (As := [.int (xs (i + 1)), .int (xs (i + 2))]) dL_law_184 (c_X6_reset hM9 hl9 hW hH hW0 hc hne hL9 hmm hds hd (xs (i + 1)) (xs (i + 2))) cv_L_92 hM9.1 rfl ⟨Nat.le_of_ble_eq_true rfl, Nat.le_of_ble_eq_true rfl⟩ rfl (Nat.le_of_ble_eq_true rfl) (fun v8 n8 K8 hp8 => ?_)
    obtain ⟨hn8, hF8, hv7, hq8⟩ := hp8.1.n hth
    have hn88 := hp8.2 hth
    subst hv7
    have hWH9 : 0 < (xs (i + 1)).toNatClampNeg ∧ (xs (i + 1)).toNatClampNeg ≤ 14 ∧ 0 < (xs (i + 2)).toNatClampNeg ∧ (xs (i + 2)).toNatClampNeg ≤ 14 := by
      have h7 : ¬ ((xs (i + 1)) < 2 ∨ 14 < (xs (i + 1)) ∨ (xs (i + 2)) < 2 ∨ 14 < (xs (i + 2))) := fun z9 => by unfold th_reset at hth; rw [if_pos z9] at hth; cases hth
      have ha : ∀ v : Int32, ¬ v < 2 → ¬ 14 < v → 0 < v.toNatClampNeg ∧ v.toNatClampNeg ≤ 14 := fun v h1 h2 => by
        obtain ⟨T, hT, hTe⟩ := nI_of2 (M := 14) (n := 14) rfl (fun z9 => h1 (Int32.lt_of_lt_of_le z9 (by decide))) (Int32.not_lt.mp h2)
        rw [hTe] at h1 ⊢
        rw [nI_clamp (by omega)]
        exact ⟨Nat.pos_of_ne_zero (fun z => h1 (by rw [z]; decide)), hT⟩
      have h5 := ha (xs (i + 1)) (fun z => h7 (Or.inl z)) (fun z => h7 (Or.inr (Or.inl z)))
      have h6 := ha (xs (i + 2)) (fun z => h7 (Or.inr (Or.inr (Or.inl z)))) (fun z => h7 (Or.inr (Or.inr (Or.inr z))))
      exact ⟨h5.1, h5.2, h6.1, h6.2⟩
    have hM8 := hq8 (fun _ _ => 0)
    have hS8 := hS7.co ho9 (fun a ha => (hF8 a (by omega) (by rintro (z9 | z9 | z9 | z9 | z9) <;> omega)).trans (hfr7 a (by omega)))
    have hro8 := (hF8 o (by omega) (by rintro (z9 | z9 | z9 | z9 | z9) <;> omega)).trans hK9o
    refine ms_run (pc' := 190) (lv' := [(6, .int (nI ((xs (i + 1)).toNatClampNeg * (xs (i + 2)).toNatClampNeg))), (5, .int 0), (0, .ref b), (1, .ref x), (2, .ref m), (3, .ref o), (4, .int (nI i))]) (st' := [.ref m]) _ (ms_deC dL_law_187 (ms_deC dL_law_189 ms_deN)) rfl rfl ?_
    refine ms_callVp (As := []) dL_law_190 (c_X6_thrown hM8) cv_L_93 hM8.1 rfl ⟨Nat.le_of_ble_eq_true rfl, Nat.le_of_ble_eq_true rfl⟩ rfl (Nat.le_of_ble_eq_true rfl) ?_
    refine ms_run (pc' := 195) (lv' := [(6, .int (nI ((xs (i + 1)).toNatClampNeg * (xs (i + 2)).toNatClampNeg))), (5, .int 0), (0, .ref b), (1, .ref x), (2, .ref m), (3, .ref o), (4, .int (nI i))]) (st' := [.int 0, .int 0]) _ (ms_deC dL_law_193 ms_deN) rfl rfl ?_
    refine ms_icmp_eq (tgt := 200) dL_law_195 (by decide) (fun _ => ?_) (fun h9 => absurd h9 (by decide))
    refine ms_run (pc' := 202) (lv' := [(6, .int (nI ((xs (i + 1)).toNatClampNeg * (xs (i + 2)).toNatClampNeg))), (5, .int 0), (0, .ref b), (1, .ref x), (2, .ref m), (3, .ref o), (4, .int (nI i))]) (st' := [.int 0]) _ (ms_deC dL_law_200 ms_deN) rfl rfl ?_
    refine ms_if_ne (tgt := 217) dL_law_202 (by decide) (fun h9 => absurd h9 (by decide)) (fun _ => ?_)
    refine ms_run (pc' := 207) (lv' := [(6, .int (nI ((xs (i + 1)).toNatClampNeg * (xs (i + 2)).toNatClampNeg))), (5, .int 0), (0, .ref b), (1, .ref x), (2, .ref m), (3, .ref o), (4, .int (nI i))]) (st' := [.int 0, .ref o]) _ (ms_deC dL_law_205 (ms_deC dL_law_206 ms_deN)) rfl rfl ?_
    refine ms_laload dL_law_207 hro8 (by unfold vp_in; decide) ?_
    rw [show f7 (0 : Int32).toNatClampNeg = ((nI ((xs (i + 1)).toNatClampNeg * (xs (i + 2)).toNatClampNeg))).toInt64 from hf7]
    refine ms_run (pc' := 211) (lv' := [(6, .int (nI ((xs (i + 1)).toNatClampNeg * (xs (i + 2)).toNatClampNeg))), (5, .int 0), (0, .ref b), (1, .ref x), (2, .ref m), (3, .ref o), (4, .int (nI i))]) (st' := [.long ((nI ((xs (i + 1)).toNatClampNeg * (xs (i + 2)).toNatClampNeg)).toInt64), .long ((nI ((xs (i + 1)).toNatClampNeg * (xs (i + 2)).toNatClampNeg)).toInt64)]) _ (ms_deC dL_law_208 (ms_deC dL_law_210 ms_deN)) rfl rfl ?_
    refine ms_lcmp dL_law_211 ?_
    rw [lg_same]
    refine ms_if_eq (tgt := 217) dL_law_212 (by decide) (fun _ => ?_) (fun h9 => absurd h9 (by decide))
    refine ms_goto (tgt := 1736) dL_law_217 (by decide) ?_
    refine ms_W.room (k2 := kr) (z2 := zr) ?_ (by omega) (by omega)
    refine ms_W.sub (lv2 := [(0, _), (1, _), (2, _), (3, _), (4, _)]) ?_ [2, 3, 4, 5, 6] rfl
    exact kk n8 K8 ⟨n9, (n9 + 1), (n9 + 2), (n9 + 3), (xs (i + 1)).toNatClampNeg, (xs (i + 2)).toNatClampNeg, 0, _, dr, pa, ((fun _ _ => 0), (fun _ => 0), (fun _ => -1), 0), nr9, (fun _ => 0), (fun _ => 0), (fun _ => -1), (fun _ => 0), hS8, hM8, ⟨by omega, by omega, by omega, by omega, by omega⟩, ⟨by omega, by omega, by omega, by omega, by omega, by omega, by omega, by omega, by omega, by omega⟩, ⟨by omega, by omega, by omega, by omega, by omega⟩, ⟨by omega, by omega, by omega, by omega, by omega⟩, hWH9, (Nat.zero_le 24), hnr9, mmR_new, dsR_new, hd, wl01_new, (wdV_new (fun _ => rfl)), (fun f hf => ⟨0, Nat.zero_le _, rfl⟩)⟩ ⟨by omega, _, hro8⟩
set_option maxHeartbeats 1000000 in
set_option maxRecDepth 20000 in
theorem cs_wall {x g q c j q2 c2 o m b L k i n : Nat} {xs : Nat → Int32} {G : ms_H} {P : ms_P} {kr zr : Nat} (ho : ox x g q c j q2 c2) (hoo : c2 + 29 ≤ o) (hS : lS x g q c j q2 c2 o m k n G) (hO : lo_at o n G) (hk : k < 512) (hi : i + 5 < L) (hL : L ≤ 3072) (kk : ∀ n1 G1, lS x g q c j q2 c2 o m (k + 1) n1 G1 → lo_at o n1 G1 → ms_W false (m_L_lw b L xs) P 1736 [(0, .ref b), (1, .ref x), (2, .ref m), (3, .ref o), (4, .int (nI i))] [] n1 G1 kr zr) : ms_W false (m_L_lw b L xs) P 220 [(0, .ref b), (1, .ref x), (2, .ref m), (3, .ref o), (4, .int (nI i))] [] n G (394 + kr) (12720 + zr) := by
  obtain ⟨aw, am, ai, ah, W, H, cnt, th, dr, pa, X, nr, wl, mk, ds, mm, hS5, hM6, hl, hne, hge, hnoe, hWH, hc, hL9, hmm, hds, hd, hwl, hV, hhe⟩ := hS
  obtain ⟨hW0, hW, hH0, hH⟩ := hWH
  obtain ⟨hon, fo, hro⟩ := hO
  have hp : 0 < W * H := Nat.mul_pos hW0 hH0
  obtain ⟨l1, l2, l3, l4, l5⟩ := id hl
  obtain ⟨g1, g2, g3, g4, g5⟩ := id hge
  obtain ⟨e1, e2, e3, e4, e5⟩ := id hnoe
  have ho9 := ho
  obtain ⟨o1, o2, o3, o4, o5, o6⟩ := ho
  have h196 := fd_196 hW hH
  refine ms_run (pc' := 226) (lv' := [(0, .ref b), (1, .ref x), (2, .ref m), (3, .ref o), (4, .int (nI i))]) (st' := [.int ((nI i) + 1), .ref b, .ref x]) _ (ms_deC dL_law_220 (ms_deC dL_law_221 (ms_deC dL_law_222 (ms_deC dL_law_224 (ms_deC dL_law_225 ms_deN))))) rfl rfl ?_
  refine ms_sld dL_law_226 rfl (sc_in (j := 1) (by omega) (by omega)) ?_
  rw [show (nI i + 1).toNatClampNeg = i + 1 from sc_at (j := 1) (by omega)]
  refine ms_run (pc' := 232) (lv' := [(0, .ref b), (1, .ref x), (2, .ref m), (3, .ref o), (4, .int (nI i))]) (st' := [.int ((nI i) + 2), .ref b, .int (xs (i + 1)), .ref x]) _ (ms_deC dL_law_227 (ms_deC dL_law_228 (ms_deC dL_law_230 (ms_deC dL_law_231 ms_deN)))) rfl rfl ?_
  refine ms_sld dL_law_232 rfl (sc_in (j := 2) (by omega) (by omega)) ?_
  rw [show (nI i + 2).toNatClampNeg = i + 2 from sc_at (j := 2) (by omega)]
  refine ms_run (pc' := 238) (lv' := [(0, .ref b), (1, .ref x), (2, .ref m), (3, .ref o), (4, .int (nI i))]) (st' := [.int ((nI i) + 3), .ref b, .int (xs (i + 2)), .int (xs (i + 1)), .ref x]) _ (ms_deC dL_law_233 (ms_deC dL_law_234 (ms_deC dL_law_236 (ms_deC dL_law_237 ms_deN)))) rfl rfl ?_
  refine ms_sld dL_law_238 rfl (sc_in (j := 3) (by omega) (by omega)) ?_
  rw [show (nI i + 3).toNatClampNeg = i + 3 from sc_at (j := 3) (by omega)]
  refine ms_run (pc' := 244) (lv' := [(0, .ref b), (1, .ref x), (2, .ref m), (3, .ref o), (4, .int (nI i))]) (st' := [.int ((nI i) + 4), .ref b, .int (xs (i + 3)), .int (xs (i + 2)), .int (xs (i + 1)), .ref x]) _ (ms_deC dL_law_239 (ms_deC dL_law_240 (ms_deC dL_law_242 (ms_deC dL_law_243 ms_deN)))) rfl rfl ?_
  refine ms_sld dL_law_244 rfl (sc_in (j := 4) (by omega) (by omega)) ?_
  rw [show (nI i + 4).toNatClampNeg = i + 4 from sc_at (j := 4) (by omega)]
  refine ms_run (pc' := 250) (lv' := [(0, .ref b), (1, .ref x), (2, .ref m), (3, .ref o), (4, .int (nI i))]) (st' := [.int ((nI i) + 5), .ref b, .int (xs (i + 4)), .int (xs (i + 3)), .int (xs (i + 2)), .int (xs (i + 1)), .ref x]) _ (ms_deC dL_law_245 (ms_deC dL_law_246 (ms_deC dL_law_248 (ms_deC dL_law_249 ms_deN)))) rfl rfl ?_
  refine ms_sld dL_law_250 rfl (sc_in (j := 5) (by omega) (by omega)) ?_
  rw [show (nI i + 5).toNatClampNeg = i + 5 from sc_at (j := 5) (by omega)]
  refine ms_if_eq (tgt := 258) dL_law_251 (by decide) (fun h_251 => ?_) (fun h_251 => ?_)
  · skip
    refine ms_run (pc' := 260) (lv' := [(0, .ref b), (1, .ref x), (2, .ref m), (3, .ref o), (4, .int (nI i))]) (st' := [.ref o, .int 0, .int (xs (i + 4)), .int (xs (i + 3)), .int (xs (i + 2)), .int (xs (i + 1)), .ref x]) _ (ms_deC dL_law_258 (ms_deC dL_law_259 ms_deN)) rfl rfl ?_
    refine ms_W.room (k2 := 1 + (393 + kr)) (z2 := 6 + (12714 + zr)) ?_ (by omega) (by omega)
    refine ms_callSX (As := [.ref x, .int (xs (i + 1)), .int (xs (i + 2)), .int (xs (i + 3)), .int (xs (i + 4)), .int 0, .ref o]) dL_law_260 (c_L_wall ho9 hS5 hoo hro hW hH (xs (i + 1)) (xs (i + 2)) (xs (i + 3)) (xs (i + 4)) 0) cs_L_97 (List.cons_ne_nil _ _) rfl ⟨Nat.le_of_ble_eq_true rfl, Nat.le_of_ble_eq_true rfl⟩ rfl (Nat.le_of_ble_eq_true rfl) (fun v9 n9 K9 hp9 => ?_) (fun E9 n9 K9 hp9 => hp9.noX)
    cases hth : (th_wal W H X 0 (xs (i + 1)) (xs (i + 2)) (xs (i + 3)) (xs (i + 4))) with
    | some E9 =>
      obtain ⟨hn9, hv9, hG9⟩ := hp9.t hth
      obtain ⟨t9, ht9, ht0⟩ : ∃ t9 : Int32, (fun e => if e = IOB then 1 else 2) E9 = t9 ∧ ¬ t9 = 0 := ⟨_, rfl, cdb_n E9⟩
      have hv8 : v9 = some (Value.int t9) := hv9.trans (congrArg (fun q => some (Value.int q)) ht9)
      subst hv8
      subst hG9
      have hl9 : md_lt n9 m aw am ai ah := ⟨by omega, by omega, by omega, by omega, by omega⟩
      refine ms_run (pc' := 271) (lv' := [(5, .int t9), (0, .ref b), (1, .ref x), (2, .ref m), (3, .ref o), (4, .int (nI i))]) (st' := [.int ((nI i) + 1), .ref b, .ref m]) _ (ms_deC dL_law_263 (ms_deC dL_law_265 (ms_deC dL_law_266 (ms_deC dL_law_267 (ms_deC dL_law_269 (ms_deC dL_law_270 ms_deN)))))) rfl rfl ?_
      refine ms_sld dL_law_271 rfl (sc_in (j := 1) (by omega) (by omega)) ?_
      rw [show (nI i + 1).toNatClampNeg = i + 1 from sc_at (j := 1) (by omega)]
      refine ms_run (pc' := 277) (lv' := [(5, .int t9), (0, .ref b), (1, .ref x), (2, .ref m), (3, .ref o), (4, .int (nI i))]) (st' := [.int ((nI i) + 2), .ref b, .int (xs (i + 1)), .ref m]) _ (ms_deC dL_law_272 (ms_deC dL_law_273 (ms_deC dL_law_275 (ms_deC dL_law_276 ms_deN)))) rfl rfl ?_
      refine ms_sld dL_law_277 rfl (sc_in (j := 2) (by omega) (by omega)) ?_
      rw [show (nI i + 2).toNatClampNeg = i + 2 from sc_at (j := 2) (by omega)]
      refine ms_run (pc' := 283) (lv' := [(5, .int t9), (0, .ref b), (1, .ref x), (2, .ref m), (3, .ref o), (4, .int (nI i))]) (st' := [.int ((nI i) + 3), .ref b, .int (xs (i + 2)), .int (xs (i + 1)), .ref m]) _ (ms_deC dL_law_278 (ms_deC dL_law_279 (ms_deC dL_law_281 (ms_deC dL_law_282 ms_deN)))) rfl rfl ?_
      refine ms_sld dL_law_283 rfl (sc_in (j := 3) (by omega) (by omega)) ?_
      rw [show (nI i + 3).toNatClampNeg = i + 3 from sc_at (j := 3) (by omega)]
      refine ms_run (pc' := 289) (lv' := [(5, .int t9), (0, .ref b), (1, .ref x), (2, .ref m), (3, .ref o), (4, .int (nI i))]) (st' := [.int ((nI i) + 4), .ref b, .int (xs (i + 3)), .int (xs (i + 2)), .int (xs (i + 1)), .ref m]) _ (ms_deC dL_law_284 (ms_deC dL_law_285 (ms_deC dL_law_287 (ms_deC dL_law_288 ms_deN)))) rfl rfl ?_
      refine ms_sld dL_law_289 rfl (sc_in (j := 4) (by omega) (by omega)) ?_
      rw [show (nI i + 4).toNatClampNeg = i + 4 from sc_at (j := 4) (by omega)]
      refine ms_run (pc' := 295) (lv' := [(5, .int t9), (0, .ref b), (1, .ref x), (2, .ref m), (3, .ref o), (4, .int (nI i))]) (st' := [.int ((nI i) + 5), .ref b, .int (xs (i + 4)), .int (xs (i + 3)), .int (xs (i + 2)), .int (xs (i + 1)), .ref m]) _ (ms_deC dL_law_290 (ms_deC dL_law_291 (ms_deC dL_law_293 (ms_deC dL_law_294 ms_deN)))) rfl rfl ?_
      refine ms_sld dL_law_295 rfl (sc_in (j := 5) (by omega) (by omega)) ?_
      rw [show (nI i + 5).toNatClampNeg = i + 5 from sc_at (j := 5) (by omega)]
      refine ms_if_eq (tgt := 303) dL_law_296 (by decide) (fun h_296 => ?_) (fun h_296 => ?_)
      · skip
        refine ms_run (pc' := 304) (lv' := [(5, .int t9), (0, .ref b), (1, .ref x), (2, .ref m), (3, .ref o), (4, .int (nI i))]) (st' := [.int 0, .int (xs (i + 4)), .int (xs (i + 3)), .int (xs (i + 2)), .int (xs (i + 1)), .ref m]) _ (ms_deC dL_law_303 ms_deN) rfl rfl ?_
        refine ms_W.room (k2 := 0 + kr) (z2 := 0 + zr) ?_ (by omega) (by omega)
        refine ms_callV (As := [.int (xs (i + 1)), .int (xs (i + 2)), .int (xs (i + 3)), .int (xs (i + 4)), .int 0]) dL_law_304 (c_X6_wall hM6 hl9 hW hH hW0 hc hne hL9 hmm hds hd (show 20 * k < 1000000 by omega) hV (xs (i + 1)) (xs (i + 2)) (xs (i + 3)) (xs (i + 4)) 0 (Or.inl rfl)) cv_L_100 hM6.1 rfl ⟨Nat.le_of_ble_eq_true rfl, Nat.le_of_ble_eq_true rfl⟩ rfl (Nat.le_of_ble_eq_true rfl) (fun v8 n8 K8 hp8 => ?_)
        obtain ⟨hn8, hF8, hv7, hq8⟩ := hp8.t hth
        subst hv7
        have hM8 : md_at K8 m aw am ai ah W H t9 X.2.2.2 dr pa cnt wl mm X.2.1 X.1 := by rw [← ht9]; exact hq8
        have hS8 := hS5.co ho9 (fun a ha => hF8 a (by omega) (by rintro (z9 | z9 | z9 | z9 | z9) <;> omega))
        have hro8 := (hF8 o (by omega) (by rintro (z9 | z9 | z9 | z9 | z9) <;> omega)).trans hro
        refine ms_run (pc' := 310) (lv' := [(6, .int 0), (5, .int t9), (0, .ref b), (1, .ref x), (2, .ref m), (3, .ref o), (4, .int (nI i))]) (st' := [.ref m]) _ (ms_deC dL_law_307 (ms_deC dL_law_309 ms_deN)) rfl rfl ?_
        refine ms_callVp (As := []) dL_law_310 (c_X6_thrown hM8) cv_L_93 hM8.1 rfl ⟨Nat.le_of_ble_eq_true rfl, Nat.le_of_ble_eq_true rfl⟩ rfl (Nat.le_of_ble_eq_true rfl) ?_
        refine ms_run (pc' := 315) (lv' := [(6, .int 0), (5, .int t9), (0, .ref b), (1, .ref x), (2, .ref m), (3, .ref o), (4, .int (nI i))]) (st' := [.int t9, .int t9]) _ (ms_deC dL_law_313 ms_deN) rfl rfl ?_
        refine ms_icmp_eq (tgt := 320) dL_law_315 (by decide) (fun h_315 => ?_) (fun h_315 => ?_)
        · skip
          refine ms_run (pc' := 322) (lv' := [(6, .int 0), (5, .int t9), (0, .ref b), (1, .ref x), (2, .ref m), (3, .ref o), (4, .int (nI i))]) (st' := [.int t9]) _ (ms_deC dL_law_320 ms_deN) rfl rfl ?_
          refine ms_if_ne (tgt := 337) dL_law_322 (by decide) (fun h_322 => ?_) (fun h_322 => ?_)
          · skip
            refine ms_goto (tgt := 1736) dL_law_337 (by decide) ?_
            refine ms_W.room (k2 := kr) (z2 := zr) ?_ (by omega) (by omega)
            refine ms_W.sub (lv2 := [(0, _), (1, _), (2, _), (3, _), (4, _)]) ?_ [2, 3, 4, 5, 6] rfl
            exact kk n8 K8 ⟨aw, am, ai, ah, W, H, cnt, _, dr, pa, X, nr, wl, mk, ds, mm, hS8, hM8, ⟨by omega, by omega, by omega, by omega, by omega⟩, hne, hge, hnoe, ⟨hW0, hW, hH0, hH⟩, hc, hL9, hmm, hds, hd, hwl, (hV.mono (by omega)), (hhe.mono (by omega))⟩ ⟨by omega, _, hro8⟩
          · skip
            exact absurd (by first | exact h_322 | exact Decidable.not_not.mp h_322) ht0
        · skip
          exact absurd rfl h_315
      · skip
        exact absurd h_251 h_296
    | none =>
      obtain ⟨hn9, hv9, K7, f7, hQ7, hf7, hK9⟩ := hp9.n hth
      subst hv9
      obtain ⟨hS7, hF7⟩ := hQ7
      have hK9o : K9 o = some (oR f7) := by rw [hK9]; exact ms_up_s _ _ _
      have hfr7 : ∀ a, a ≠ o → K9 a = K7 a := fun a h1 => by rw [hK9]; exact ms_up_n _ _ h1
      have hM9 : md_at K9 m aw am ai ah W H th X.2.2.2 dr pa cnt wl mm X.2.1 X.1 := hM6.co (fun a h1 => (hfr7 a (by rcases h1 with z9 | z9 | z9 | z9 | z9 <;> omega)).trans (hF7 a (by rcases h1 with z9 | z9 | z9 | z9 | z9 <;> omega)))
      have hl9 : md_lt n9 m aw am ai ah := ⟨by omega, by omega, by omega, by omega, by omega⟩
      refine ms_run (pc' := 271) (lv' := [(5, .int 0), (0, .ref b), (1, .ref x), (2, .ref m), (3, .ref o), (4, .int (nI i))]) (st' := [.int ((nI i) + 1), .ref b, .ref m]) _ (ms_deC dL_law_263 (ms_deC dL_law_265 (ms_deC dL_law_266 (ms_deC dL_law_267 (ms_deC dL_law_269 (ms_deC dL_law_270 ms_deN)))))) rfl rfl ?_
      refine ms_sld dL_law_271 rfl (sc_in (j := 1) (by omega) (by omega)) ?_
      rw [show (nI i + 1).toNatClampNeg = i + 1 from sc_at (j := 1) (by omega)]
      refine ms_run (pc' := 277) (lv' := [(5, .int 0), (0, .ref b), (1, .ref x), (2, .ref m), (3, .ref o), (4, .int (nI i))]) (st' := [.int ((nI i) + 2), .ref b, .int (xs (i + 1)), .ref m]) _ (ms_deC dL_law_272 (ms_deC dL_law_273 (ms_deC dL_law_275 (ms_deC dL_law_276 ms_deN)))) rfl rfl ?_
      refine ms_sld dL_law_277 rfl (sc_in (j := 2) (by omega) (by omega)) ?_
      rw [show (nI i + 2).toNatClampNeg = i + 2 from sc_at (j := 2) (by omega)]
      refine ms_run (pc' := 283) (lv' := [(5, .int 0), (0, .ref b), (1, .ref x), (2, .ref m), (3, .ref o), (4, .int (nI i))]) (st' := [.int ((nI i) + 3), .ref b, .int (xs (i + 2)), .int (xs (i + 1)), .ref m]) _ (ms_deC dL_law_278 (ms_deC dL_law_279 (ms_deC dL_law_281 (ms_deC dL_law_282 ms_deN)))) rfl rfl ?_
      refine ms_sld dL_law_283 rfl (sc_in (j := 3) (by omega) (by omega)) ?_
      rw [show (nI i + 3).toNatClampNeg = i + 3 from sc_at (j := 3) (by omega)]
      refine ms_run (pc' := 289) (lv' := [(5, .int 0), (0, .ref b), (1, .ref x), (2, .ref m), (3, .ref o), (4, .int (nI i))]) (st' := [.int ((nI i) + 4), .ref b, .int (xs (i + 3)), .int (xs (i + 2)), .int (xs (i + 1)), .ref m]) _ (ms_deC dL_law_284 (ms_deC dL_law_285 (ms_deC dL_law_287 (ms_deC dL_law_288 ms_deN)))) rfl rfl ?_
      refine ms_sld dL_law_289 rfl (sc_in (j := 4) (by omega) (by omega)) ?_
      rw [show (nI i + 4).toNatClampNeg = i + 4 from sc_at (j := 4) (by omega)]
      refine ms_run (pc' := 295) (lv' := [(5, .int 0), (0, .ref b), (1, .ref x), (2, .ref m), (3, .ref o), (4, .int (nI i))]) (st' := [.int ((nI i) + 5), .ref b, .int (xs (i + 4)), .int (xs (i + 3)), .int (xs (i + 2)), .int (xs (i + 1)), .ref m]) _ (ms_deC dL_law_290 (ms_deC dL_law_291 (ms_deC dL_law_293 (ms_deC dL_law_294 ms_deN)))) rfl rfl ?_
      refine ms_sld dL_law_295 rfl (sc_in (j := 5) (by omega) (by omega)) ?_
      rw [show (nI i + 5).toNatClampNeg = i + 5 from sc_at (j := 5) (by omega)]
      refine ms_if_eq (tgt := 303) dL_law_296 (by decide) (fun h_296 => ?_) (fun h_296 => ?_)
      · skip
        refine ms_run (pc' := 304) (lv' := [(5, .int 0), (0, .ref b), (1, .ref x), (2, .ref m), (3, .ref o), (4, .int (nI i))]) (st' := [.int 0, .int (xs (i + 4)), .int (xs (i + 3)), .int (xs (i + 2)), .int (xs (i + 1)), .ref m]) _ (ms_deC dL_law_303 ms_deN) rfl rfl ?_
        refine ms_W.room (k2 := 0 + kr) (z2 := 0 + zr) ?_ (by omega) (by omega)
        refine ms_callV (As := [.int (xs (i + 1)), .int (xs (i + 2)), .int (xs (i + 3)), .int (xs (i + 4)), .int 0]) dL_law_304 (c_X6_wall hM9 hl9 hW hH hW0 hc hne hL9 hmm hds hd (show 20 * k < 1000000 by omega) hV (xs (i + 1)) (xs (i + 2)) (xs (i + 3)) (xs (i + 4)) 0 (Or.inl rfl)) cv_L_100 hM9.1 rfl ⟨Nat.le_of_ble_eq_true rfl, Nat.le_of_ble_eq_true rfl⟩ rfl (Nat.le_of_ble_eq_true rfl) (fun v8 n8 K8 hp8 => ?_)
        obtain ⟨hn8, hF8, hv7, hq8⟩ := hp8.n hth
        subst hv7
        have hM8 := hq8
        have hS8 := hS7.co ho9 (fun a ha => (hF8 a (by omega) (by rintro (z9 | z9 | z9 | z9 | z9) <;> omega)).trans (hfr7 a (by omega)))
        have hro8 := (hF8 o (by omega) (by rintro (z9 | z9 | z9 | z9 | z9) <;> omega)).trans hK9o
        refine ms_run (pc' := 310) (lv' := [(6, .int (nI (ct (pWall (wlX W 0 (xs (i + 1)).toNatClampNeg (xs (i + 2)).toNatClampNeg (xs (i + 3)).toNatClampNeg (xs (i + 4)).toNatClampNeg wl)) (W * H)))), (5, .int 0), (0, .ref b), (1, .ref x), (2, .ref m), (3, .ref o), (4, .int (nI i))]) (st' := [.ref m]) _ (ms_deC dL_law_307 (ms_deC dL_law_309 ms_deN)) rfl rfl ?_
        refine ms_callVp (As := []) dL_law_310 (c_X6_thrown hM8) cv_L_93 hM8.1 rfl ⟨Nat.le_of_ble_eq_true rfl, Nat.le_of_ble_eq_true rfl⟩ rfl (Nat.le_of_ble_eq_true rfl) ?_
        refine ms_run (pc' := 315) (lv' := [(6, .int (nI (ct (pWall (wlX W 0 (xs (i + 1)).toNatClampNeg (xs (i + 2)).toNatClampNeg (xs (i + 3)).toNatClampNeg (xs (i + 4)).toNatClampNeg wl)) (W * H)))), (5, .int 0), (0, .ref b), (1, .ref x), (2, .ref m), (3, .ref o), (4, .int (nI i))]) (st' := [.int 0, .int 0]) _ (ms_deC dL_law_313 ms_deN) rfl rfl ?_
        refine ms_icmp_eq (tgt := 320) dL_law_315 (by decide) (fun _ => ?_) (fun h9 => absurd h9 (by decide))
        refine ms_run (pc' := 322) (lv' := [(6, .int (nI (ct (pWall (wlX W 0 (xs (i + 1)).toNatClampNeg (xs (i + 2)).toNatClampNeg (xs (i + 3)).toNatClampNeg (xs (i + 4)).toNatClampNeg wl)) (W * H)))), (5, .int 0), (0, .ref b), (1, .ref x), (2, .ref m), (3, .ref o), (4, .int (nI i))]) (st' := [.int 0]) _ (ms_deC dL_law_320 ms_deN) rfl rfl ?_
        refine ms_if_ne (tgt := 337) dL_law_322 (by decide) (fun h9 => absurd h9 (by decide)) (fun _ => ?_)
        refine ms_run (pc' := 327) (lv' := [(6, .int (nI (ct (pWall (wlX W 0 (xs (i + 1)).toNatClampNeg (xs (i + 2)).toNatClampNeg (xs (i + 3)).toNatClampNeg (xs (i + 4)).toNatClampNeg wl)) (W * H)))), (5, .int 0), (0, .ref b), (1, .ref x), (2, .ref m), (3, .ref o), (4, .int (nI i))]) (st' := [.int 0, .ref o]) _ (ms_deC dL_law_325 (ms_deC dL_law_326 ms_deN)) rfl rfl ?_
        refine ms_laload dL_law_327 hro8 (by unfold vp_in; decide) ?_
        rw [show f7 (0 : Int32).toNatClampNeg = ((nI (ct (pWall (wlX W 0 (xs (i + 1)).toNatClampNeg (xs (i + 2)).toNatClampNeg (xs (i + 3)).toNatClampNeg (xs (i + 4)).toNatClampNeg wl)) (W * H)))).toInt64 from hf7]
        refine ms_run (pc' := 331) (lv' := [(6, .int (nI (ct (pWall (wlX W 0 (xs (i + 1)).toNatClampNeg (xs (i + 2)).toNatClampNeg (xs (i + 3)).toNatClampNeg (xs (i + 4)).toNatClampNeg wl)) (W * H)))), (5, .int 0), (0, .ref b), (1, .ref x), (2, .ref m), (3, .ref o), (4, .int (nI i))]) (st' := [.long ((nI (ct (pWall (wlX W 0 (xs (i + 1)).toNatClampNeg (xs (i + 2)).toNatClampNeg (xs (i + 3)).toNatClampNeg (xs (i + 4)).toNatClampNeg wl)) (W * H))).toInt64), .long ((nI (ct (pWall (wlX W 0 (xs (i + 1)).toNatClampNeg (xs (i + 2)).toNatClampNeg (xs (i + 3)).toNatClampNeg (xs (i + 4)).toNatClampNeg wl)) (W * H))).toInt64)]) _ (ms_deC dL_law_328 (ms_deC dL_law_330 ms_deN)) rfl rfl ?_
        refine ms_lcmp dL_law_331 ?_
        rw [lg_same]
        refine ms_if_eq (tgt := 337) dL_law_332 (by decide) (fun _ => ?_) (fun h9 => absurd h9 (by decide))
        refine ms_goto (tgt := 1736) dL_law_337 (by decide) ?_
        refine ms_W.room (k2 := kr) (z2 := zr) ?_ (by omega) (by omega)
        refine ms_W.sub (lv2 := [(0, _), (1, _), (2, _), (3, _), (4, _)]) ?_ [2, 3, 4, 5, 6] rfl
        exact kk n8 K8 ⟨aw, am, ai, ah, W, H, cnt, _, dr, pa, X, nr, (wlX W 0 (xs (i + 1)).toNatClampNeg (xs (i + 2)).toNatClampNeg (xs (i + 3)).toNatClampNeg (xs (i + 4)).toNatClampNeg wl), mk, _, mm, hS8, hM8, ⟨by omega, by omega, by omega, by omega, by omega⟩, hne, hge, hnoe, ⟨hW0, hW, hH0, hH⟩, hc, hL9, hmm, (dsR_all h196), hd, hwl.wlX, (hV.mono (by omega)), (hhe.mono (by omega))⟩ ⟨by omega, _, hro8⟩
      · skip
        exact absurd h_251 h_296
  · skip
    refine ms_run (pc' := 255) (lv' := [(0, .ref b), (1, .ref x), (2, .ref m), (3, .ref o), (4, .int (nI i))]) (st' := [.int 1, .int (xs (i + 4)), .int (xs (i + 3)), .int (xs (i + 2)), .int (xs (i + 1)), .ref x]) _ (ms_deC dL_law_254 ms_deN) rfl rfl ?_
    refine ms_goto (tgt := 259) dL_law_255 (by decide) ?_
    refine ms_run (pc' := 260) (lv' := [(0, .ref b), (1, .ref x), (2, .ref m), (3, .ref o), (4, .int (nI i))]) (st' := [.ref o, .int 1, .int (xs (i + 4)), .int (xs (i + 3)), .int (xs (i + 2)), .int (xs (i + 1)), .ref x]) _ (ms_deC dL_law_259 ms_deN) rfl rfl ?_
    refine ms_W.room (k2 := 1 + (393 + kr)) (z2 := 6 + (12714 + zr)) ?_ (by omega) (by omega)
    refine ms_callSX (As := [.ref x, .int (xs (i + 1)), .int (xs (i + 2)), .int (xs (i + 3)), .int (xs (i + 4)), .int 1, .ref o]) dL_law_260 (c_L_wall ho9 hS5 hoo hro hW hH (xs (i + 1)) (xs (i + 2)) (xs (i + 3)) (xs (i + 4)) 1) cs_L_97 (List.cons_ne_nil _ _) rfl ⟨Nat.le_of_ble_eq_true rfl, Nat.le_of_ble_eq_true rfl⟩ rfl (Nat.le_of_ble_eq_true rfl) (fun v9 n9 K9 hp9 => ?_) (fun E9 n9 K9 hp9 => hp9.noX)
    cases hth : (th_wal W H X 1 (xs (i + 1)) (xs (i + 2)) (xs (i + 3)) (xs (i + 4))) with
    | some E9 =>
      obtain ⟨hn9, hv9, hG9⟩ := hp9.t hth
      obtain ⟨t9, ht9, ht0⟩ : ∃ t9 : Int32, (fun e => if e = IOB then 1 else 2) E9 = t9 ∧ ¬ t9 = 0 := ⟨_, rfl, cdb_n E9⟩
      have hv8 : v9 = some (Value.int t9) := hv9.trans (congrArg (fun q => some (Value.int q)) ht9)
      subst hv8
      subst hG9
      have hl9 : md_lt n9 m aw am ai ah := ⟨by omega, by omega, by omega, by omega, by omega⟩
      refine ms_run (pc' := 271) (lv' := [(5, .int t9), (0, .ref b), (1, .ref x), (2, .ref m), (3, .ref o), (4, .int (nI i))]) (st' := [.int ((nI i) + 1), .ref b, .ref m]) _ (ms_deC dL_law_263 (ms_deC dL_law_265 (ms_deC dL_law_266 (ms_deC dL_law_267 (ms_deC dL_law_269 (ms_deC dL_law_270 ms_deN)))))) rfl rfl ?_
      refine ms_sld dL_law_271 rfl (sc_in (j := 1) (by omega) (by omega)) ?_
      rw [show (nI i + 1).toNatClampNeg = i + 1 from sc_at (j := 1) (by omega)]
      refine ms_run (pc' := 277) (lv' := [(5, .int t9), (0, .ref b), (1, .ref x), (2, .ref m), (3, .ref o), (4, .int (nI i))]) (st' := [.int ((nI i) + 2), .ref b, .int (xs (i + 1)), .ref m]) _ (ms_deC dL_law_272 (ms_deC dL_law_273 (ms_deC dL_law_275 (ms_deC dL_law_276 ms_deN)))) rfl rfl ?_
      refine ms_sld dL_law_277 rfl (sc_in (j := 2) (by omega) (by omega)) ?_
      rw [show (nI i + 2).toNatClampNeg = i + 2 from sc_at (j := 2) (by omega)]
      refine ms_run (pc' := 283) (lv' := [(5, .int t9), (0, .ref b), (1, .ref x), (2, .ref m), (3, .ref o), (4, .int (nI i))]) (st' := [.int ((nI i) + 3), .ref b, .int (xs (i + 2)), .int (xs (i + 1)), .ref m]) _ (ms_deC dL_law_278 (ms_deC dL_law_279 (ms_deC dL_law_281 (ms_deC dL_law_282 ms_deN)))) rfl rfl ?_
      refine ms_sld dL_law_283 rfl (sc_in (j := 3) (by omega) (by omega)) ?_
      rw [show (nI i + 3).toNatClampNeg = i + 3 from sc_at (j := 3) (by omega)]
      refine ms_run (pc' := 289) (lv' := [(5, .int t9), (0, .ref b), (1, .ref x), (2, .ref m), (3, .ref o), (4, .int (nI i))]) (st' := [.int ((nI i) + 4), .ref b, .int (xs (i + 3)), .int (xs (i + 2)), .int (xs (i + 1)), .ref m]) _ (ms_deC dL_law_284 (ms_deC dL_law_285 (ms_deC dL_law_287 (ms_deC dL_law_288 ms_deN)))) rfl rfl ?_
      refine ms_sld dL_law_289 rfl (sc_in (j := 4) (by omega) (by omega)) ?_
      rw [show (nI i + 4).toNatClampNeg = i + 4 from sc_at (j := 4) (by omega)]
      refine ms_run (pc' := 295) (lv' := [(5, .int t9), (0, .ref b), (1, .ref x), (2, .ref m), (3, .ref o), (4, .int (nI i))]) (st' := [.int ((nI i) + 5), .ref b, .int (xs (i + 4)), .int (xs (i + 3)), .int (xs (i + 2)), .int (xs (i + 1)), .ref m]) _ (ms_deC dL_law_290 (ms_deC dL_law_291 (ms_deC dL_law_293 (ms_deC dL_law_294 ms_deN)))) rfl rfl ?_
      refine ms_sld dL_law_295 rfl (sc_in (j := 5) (by omega) (by omega)) ?_
      rw [show (nI i + 5).toNatClampNeg = i + 5 from sc_at (j := 5) (by omega)]
      refine ms_if_eq (tgt := 303) dL_law_296 (by decide) (fun h_296 => ?_) (fun h_296 => ?_)
      · skip
        exact absurd h_296 h_251
      · skip
        refine ms_run (pc' := 300) (lv' := [(5, .int t9), (0, .ref b), (1, .ref x), (2, .ref m), (3, .ref o), (4, .int (nI i))]) (st' := [.int 1, .int (xs (i + 4)), .int (xs (i + 3)), .int (xs (i + 2)), .int (xs (i + 1)), .ref m]) _ (ms_deC dL_law_299 ms_deN) rfl rfl ?_
        refine ms_goto (tgt := 304) dL_law_300 (by decide) ?_
        refine ms_W.room (k2 := 0 + kr) (z2 := 0 + zr) ?_ (by omega) (by omega)
        refine ms_callV (As := [.int (xs (i + 1)), .int (xs (i + 2)), .int (xs (i + 3)), .int (xs (i + 4)), .int 1]) dL_law_304 (c_X6_wall hM6 hl9 hW hH hW0 hc hne hL9 hmm hds hd (show 20 * k < 1000000 by omega) hV (xs (i + 1)) (xs (i + 2)) (xs (i + 3)) (xs (i + 4)) 1 (Or.inr rfl)) cv_L_100 hM6.1 rfl ⟨Nat.le_of_ble_eq_true rfl, Nat.le_of_ble_eq_true rfl⟩ rfl (Nat.le_of_ble_eq_true rfl) (fun v8 n8 K8 hp8 => ?_)
        obtain ⟨hn8, hF8, hv7, hq8⟩ := hp8.t hth
        subst hv7
        have hM8 : md_at K8 m aw am ai ah W H t9 X.2.2.2 dr pa cnt wl mm X.2.1 X.1 := by rw [← ht9]; exact hq8
        have hS8 := hS5.co ho9 (fun a ha => hF8 a (by omega) (by rintro (z9 | z9 | z9 | z9 | z9) <;> omega))
        have hro8 := (hF8 o (by omega) (by rintro (z9 | z9 | z9 | z9 | z9) <;> omega)).trans hro
        refine ms_run (pc' := 310) (lv' := [(6, .int 0), (5, .int t9), (0, .ref b), (1, .ref x), (2, .ref m), (3, .ref o), (4, .int (nI i))]) (st' := [.ref m]) _ (ms_deC dL_law_307 (ms_deC dL_law_309 ms_deN)) rfl rfl ?_
        refine ms_callVp (As := []) dL_law_310 (c_X6_thrown hM8) cv_L_93 hM8.1 rfl ⟨Nat.le_of_ble_eq_true rfl, Nat.le_of_ble_eq_true rfl⟩ rfl (Nat.le_of_ble_eq_true rfl) ?_
        refine ms_run (pc' := 315) (lv' := [(6, .int 0), (5, .int t9), (0, .ref b), (1, .ref x), (2, .ref m), (3, .ref o), (4, .int (nI i))]) (st' := [.int t9, .int t9]) _ (ms_deC dL_law_313 ms_deN) rfl rfl ?_
        refine ms_icmp_eq (tgt := 320) dL_law_315 (by decide) (fun h_315 => ?_) (fun h_315 => ?_)
        · skip
          refine ms_run (pc' := 322) (lv' := [(6, .int 0), (5, .int t9), (0, .ref b), (1, .ref x), (2, .ref m), (3, .ref o), (4, .int (nI i))]) (st' := [.int t9]) _ (ms_deC dL_law_320 ms_deN) rfl rfl ?_
          refine ms_if_ne (tgt := 337) dL_law_322 (by decide) (fun h_322 => ?_) (fun h_322 => ?_)
          · skip
            refine ms_goto (tgt := 1736) dL_law_337 (by decide) ?_
            refine ms_W.room (k2 := kr) (z2 := zr) ?_ (by omega) (by omega)
            refine ms_W.sub (lv2 := [(0, _), (1, _), (2, _), (3, _), (4, _)]) ?_ [2, 3, 4, 5, 6] rfl
            exact kk n8 K8 ⟨aw, am, ai, ah, W, H, cnt, _, dr, pa, X, nr, wl, mk, ds, mm, hS8, hM8, ⟨by omega, by omega, by omega, by omega, by omega⟩, hne, hge, hnoe, ⟨hW0, hW, hH0, hH⟩, hc, hL9, hmm, hds, hd, hwl, (hV.mono (by omega)), (hhe.mono (by omega))⟩ ⟨by omega, _, hro8⟩
          · skip
            exact absurd (by first | exact h_322 | exact Decidable.not_not.mp h_322) ht0
        · skip
          exact absurd rfl h_315
    | none =>
      obtain ⟨hn9, hv9, K7, f7, hQ7, hf7, hK9⟩ := hp9.n hth
      subst hv9
      obtain ⟨hS7, hF7⟩ := hQ7
      have hK9o : K9 o = some (oR f7) := by rw [hK9]; exact ms_up_s _ _ _
      have hfr7 : ∀ a, a ≠ o → K9 a = K7 a := fun a h1 => by rw [hK9]; exact ms_up_n _ _ h1
      have hM9 : md_at K9 m aw am ai ah W H th X.2.2.2 dr pa cnt wl mm X.2.1 X.1 := hM6.co (fun a h1 => (hfr7 a (by rcases h1 with z9 | z9 | z9 | z9 | z9 <;> omega)).trans (hF7 a (by rcases h1 with z9 | z9 | z9 | z9 | z9 <;> omega)))
      have hl9 : md_lt n9 m aw am ai ah := ⟨by omega, by omega, by omega, by omega, by omega⟩
      refine ms_run (pc' := 271) (lv' := [(5, .int 0), (0, .ref b), (1, .ref x), (2, .ref m), (3, .ref o), (4, .int (nI i))]) (st' := [.int ((nI i) + 1), .ref b, .ref m]) _ (ms_deC dL_law_263 (ms_deC dL_law_265 (ms_deC dL_law_266 (ms_deC dL_law_267 (ms_deC dL_law_269 (ms_deC dL_law_270 ms_deN)))))) rfl rfl ?_
      refine ms_sld dL_law_271 rfl (sc_in (j := 1) (by omega) (by omega)) ?_
      rw [show (nI i + 1).toNatClampNeg = i + 1 from sc_at (j := 1) (by omega)]
      refine ms_run (pc' := 277) (lv' := [(5, .int 0), (0, .ref b), (1, .ref x), (2, .ref m), (3, .ref o), (4, .int (nI i))]) (st' := [.int ((nI i) + 2), .ref b, .int (xs (i + 1)), .ref m]) _ (ms_deC dL_law_272 (ms_deC dL_law_273 (ms_deC dL_law_275 (ms_deC dL_law_276 ms_deN)))) rfl rfl ?_
      refine ms_sld dL_law_277 rfl (sc_in (j := 2) (by omega) (by omega)) ?_
      rw [show (nI i + 2).toNatClampNeg = i + 2 from sc_at (j := 2) (by omega)]
      refine ms_run (pc' := 283) (lv' := [(5, .int 0), (0, .ref b), (1, .ref x), (2, .ref m), (3, .ref o), (4, .int (nI i))]) (st' := [.int ((nI i) + 3), .ref b, .int (xs (i + 2)), .int (xs (i + 1)), .ref m]) _ (ms_deC dL_law_278 (ms_deC dL_law_279 (ms_deC dL_law_281 (ms_deC dL_law_282 ms_deN)))) rfl rfl ?_
      refine ms_sld dL_law_283 rfl (sc_in (j := 3) (by omega) (by omega)) ?_
      rw [show (nI i + 3).toNatClampNeg = i + 3 from sc_at (j := 3) (by omega)]
      refine ms_run (pc' := 289) (lv' := [(5, .int 0), (0, .ref b), (1, .ref x), (2, .ref m), (3, .ref o), (4, .int (nI i))]) (st' := [.int ((nI i) + 4), .ref b, .int (xs (i + 3)), .int (xs (i + 2)), .int (xs (i + 1)), .ref m]) _ (ms_deC dL_law_284 (ms_deC dL_law_285 (ms_deC dL_law_287 (ms_deC dL_law_288 ms_deN)))) rfl rfl ?_
      refine ms_sld dL_law_289 rfl (sc_in (j := 4) (by omega) (by omega)) ?_
      rw [show (nI i + 4).toNatClampNeg = i + 4 from sc_at (j := 4) (by omega)]
      refine ms_run (pc' := 295) (lv' := [(5, .int 0), (0, .ref b), (1, .ref x), (2, .ref m), (3, .ref o), (4, .int (nI i))]) (st' := [.int ((nI i) + 5), .ref b, .int (xs (i + 4)), .int (xs (i + 3)), .int (xs (i + 2)), .int (xs (i + 1)), .ref m]) _ (ms_deC dL_law_290 (ms_deC dL_law_291 (ms_deC dL_law_293 (ms_deC dL_law_294 ms_deN)))) rfl rfl ?_
      refine ms_sld dL_law_295 rfl (sc_in (j := 5) (by omega) (by omega)) ?_
      rw [show (nI i + 5).toNatClampNeg = i + 5 from sc_at (j := 5) (by omega)]
      refine ms_if_eq (tgt := 303) dL_law_296 (by decide) (fun h_296 => ?_) (fun h_296 => ?_)
      · skip
        exact absurd h_296 h_251
      · skip
        refine ms_run (pc' := 300) (lv' := [(5, .int 0), (0, .ref b), (1, .ref x), (2, .ref m), (3, .ref o), (4, .int (nI i))]) (st' := [.int 1, .int (xs (i + 4)), .int (xs (i + 3)), .int (xs (i + 2)), .int (xs (i + 1)), .ref m]) _ (ms_deC dL_law_299 ms_deN) rfl rfl ?_
        refine ms_goto (tgt := 304) dL_law_300 (by decide) ?_
        refine ms_W.room (k2 := 0 + kr) (z2 := 0 + zr) ?_ (by omega) (by omega)
        refine ms_callV (As := [.int (xs (i + 1)), .int (xs (i + 2)), .int (xs (i + 3)), .int (xs (i + 4)), .int 1]) dL_law_304 (c_X6_wall hM9 hl9 hW hH hW0 hc hne hL9 hmm hds hd (show 20 * k < 1000000 by omega) hV (xs (i + 1)) (xs (i + 2)) (xs (i + 3)) (xs (i + 4)) 1 (Or.inr rfl)) cv_L_100 hM9.1 rfl ⟨Nat.le_of_ble_eq_true rfl, Nat.le_of_ble_eq_true rfl⟩ rfl (Nat.le_of_ble_eq_true rfl) (fun v8 n8 K8 hp8 => ?_)
        obtain ⟨hn8, hF8, hv7, hq8⟩ := hp8.n hth
        subst hv7
        have hM8 := hq8
        have hS8 := hS7.co ho9 (fun a ha => (hF8 a (by omega) (by rintro (z9 | z9 | z9 | z9 | z9) <;> omega)).trans (hfr7 a (by omega)))
        have hro8 := (hF8 o (by omega) (by rintro (z9 | z9 | z9 | z9 | z9) <;> omega)).trans hK9o
        refine ms_run (pc' := 310) (lv' := [(6, .int (nI (ct (pWall (wlX W 1 (xs (i + 1)).toNatClampNeg (xs (i + 2)).toNatClampNeg (xs (i + 3)).toNatClampNeg (xs (i + 4)).toNatClampNeg wl)) (W * H)))), (5, .int 0), (0, .ref b), (1, .ref x), (2, .ref m), (3, .ref o), (4, .int (nI i))]) (st' := [.ref m]) _ (ms_deC dL_law_307 (ms_deC dL_law_309 ms_deN)) rfl rfl ?_
        refine ms_callVp (As := []) dL_law_310 (c_X6_thrown hM8) cv_L_93 hM8.1 rfl ⟨Nat.le_of_ble_eq_true rfl, Nat.le_of_ble_eq_true rfl⟩ rfl (Nat.le_of_ble_eq_true rfl) ?_
        refine ms_run (pc' := 315) (lv' := [(6, .int (nI (ct (pWall (wlX W 1 (xs (i + 1)).toNatClampNeg (xs (i + 2)).toNatClampNeg (xs (i + 3)).toNatClampNeg (xs (i + 4)).toNatClampNeg wl)) (W * H)))), (5, .int 0), (0, .ref b), (1, .ref x), (2, .ref m), (3, .ref o), (4, .int (nI i))]) (st' := [.int 0, .int 0]) _ (ms_deC dL_law_313 ms_deN) rfl rfl ?_
        refine ms_icmp_eq (tgt := 320) dL_law_315 (by decide) (fun _ => ?_) (fun h9 => absurd h9 (by decide))
        refine ms_run (pc' := 322) (lv' := [(6, .int (nI (ct (pWall (wlX W 1 (xs (i + 1)).toNatClampNeg (xs (i + 2)).toNatClampNeg (xs (i + 3)).toNatClampNeg (xs (i + 4)).toNatClampNeg wl)) (W * H)))), (5, .int 0), (0, .ref b), (1, .ref x), (2, .ref m), (3, .ref o), (4, .int (nI i))]) (st' := [.int 0]) _ (ms_deC dL_law_320 ms_deN) rfl rfl ?_
        refine ms_if_ne (tgt := 337) dL_law_322 (by decide) (fun h9 => absurd h9 (by decide)) (fun _ => ?_)
        refine ms_run (pc' := 327) (lv' := [(6, .int (nI (ct (pWall (wlX W 1 (xs (i + 1)).toNatClampNeg (xs (i + 2)).toNatClampNeg (xs (i + 3)).toNatClampNeg (xs (i + 4)).toNatClampNeg wl)) (W * H)))), (5, .int 0), (0, .ref b), (1, .ref x), (2, .ref m), (3, .ref o), (4, .int (nI i))]) (st' := [.int 0, .ref o]) _ (ms_deC dL_law_325 (ms_deC dL_law_326 ms_deN)) rfl rfl ?_
        refine ms_laload dL_law_327 hro8 (by unfold vp_in; decide) ?_
        rw [show f7 (0 : Int32).toNatClampNeg = ((nI (ct (pWall (wlX W 1 (xs (i + 1)).toNatClampNeg (xs (i + 2)).toNatClampNeg (xs (i + 3)).toNatClampNeg (xs (i + 4)).toNatClampNeg wl)) (W * H)))).toInt64 from hf7]
        refine ms_run (pc' := 331) (lv' := [(6, .int (nI (ct (pWall (wlX W 1 (xs (i + 1)).toNatClampNeg (xs (i + 2)).toNatClampNeg (xs (i + 3)).toNatClampNeg (xs (i + 4)).toNatClampNeg wl)) (W * H)))), (5, .int 0), (0, .ref b), (1, .ref x), (2, .ref m), (3, .ref o), (4, .int (nI i))]) (st' := [.long ((nI (ct (pWall (wlX W 1 (xs (i + 1)).toNatClampNeg (xs (i + 2)).toNatClampNeg (xs (i + 3)).toNatClampNeg (xs (i + 4)).toNatClampNeg wl)) (W * H))).toInt64), .long ((nI (ct (pWall (wlX W 1 (xs (i + 1)).toNatClampNeg (xs (i + 2)).toNatClampNeg (xs (i + 3)).toNatClampNeg (xs (i + 4)).toNatClampNeg wl)) (W * H))).toInt64)]) _ (ms_deC dL_law_328 (ms_deC dL_law_330 ms_deN)) rfl rfl ?_
        refine ms_lcmp dL_law_331 ?_
        rw [lg_same]
        refine ms_if_eq (tgt := 337) dL_law_332 (by decide) (fun _ => ?_) (fun h9 => absurd h9 (by decide))
        refine ms_goto (tgt := 1736) dL_law_337 (by decide) ?_
        refine ms_W.room (k2 := kr) (z2 := zr) ?_ (by omega) (by omega)
        refine ms_W.sub (lv2 := [(0, _), (1, _), (2, _), (3, _), (4, _)]) ?_ [2, 3, 4, 5, 6] rfl
        exact kk n8 K8 ⟨aw, am, ai, ah, W, H, cnt, _, dr, pa, X, nr, (wlX W 1 (xs (i + 1)).toNatClampNeg (xs (i + 2)).toNatClampNeg (xs (i + 3)).toNatClampNeg (xs (i + 4)).toNatClampNeg wl), mk, _, mm, hS8, hM8, ⟨by omega, by omega, by omega, by omega, by omega⟩, hne, hge, hnoe, ⟨hW0, hW, hH0, hH⟩, hc, hL9, hmm, (dsR_all h196), hd, hwl.wlX, (hV.mono (by omega)), (hhe.mono (by omega))⟩ ⟨by omega, _, hro8⟩
set_option maxHeartbeats 1000000 in
set_option maxRecDepth 20000 in
theorem cs_mark {x g q c j q2 c2 o m b L k i n : Nat} {xs : Nat → Int32} {G : ms_H} {P : ms_P} {kr zr : Nat} (ho : ox x g q c j q2 c2) (hoo : c2 + 29 ≤ o) (hS : lS x g q c j q2 c2 o m k n G) (hO : lo_at o n G) (hk : k < 512) (hi : i + 5 < L) (hL : L ≤ 3072) (kk : ∀ n1 G1, lS x g q c j q2 c2 o m (k + 1) n1 G1 → lo_at o n1 G1 → ms_W false (m_L_lw b L xs) P 1736 [(0, .ref b), (1, .ref x), (2, .ref m), (3, .ref o), (4, .int (nI i))] [] n1 G1 kr zr) : ms_W false (m_L_lw b L xs) P 340 [(0, .ref b), (1, .ref x), (2, .ref m), (3, .ref o), (4, .int (nI i))] [] n G (394 + kr) (12720 + zr) := by
  obtain ⟨aw, am, ai, ah, W, H, cnt, th, dr, pa, X, nr, wl, mk, ds, mm, hS5, hM6, hl, hne, hge, hnoe, hWH, hc, hL9, hmm, hds, hd, hwl, hV, hhe⟩ := hS
  obtain ⟨hW0, hW, hH0, hH⟩ := hWH
  obtain ⟨hon, fo, hro⟩ := hO
  have hp : 0 < W * H := Nat.mul_pos hW0 hH0
  obtain ⟨l1, l2, l3, l4, l5⟩ := id hl
  obtain ⟨g1, g2, g3, g4, g5⟩ := id hge
  obtain ⟨e1, e2, e3, e4, e5⟩ := id hnoe
  have ho9 := ho
  obtain ⟨o1, o2, o3, o4, o5, o6⟩ := ho
  have h196 := fd_196 hW hH
  refine ms_run (pc' := 346) (lv' := [(0, .ref b), (1, .ref x), (2, .ref m), (3, .ref o), (4, .int (nI i))]) (st' := [.int ((nI i) + 1), .ref b, .ref x]) _ (ms_deC dL_law_340 (ms_deC dL_law_341 (ms_deC dL_law_342 (ms_deC dL_law_344 (ms_deC dL_law_345 ms_deN))))) rfl rfl ?_
  refine ms_sld dL_law_346 rfl (sc_in (j := 1) (by omega) (by omega)) ?_
  rw [show (nI i + 1).toNatClampNeg = i + 1 from sc_at (j := 1) (by omega)]
  refine ms_run (pc' := 352) (lv' := [(0, .ref b), (1, .ref x), (2, .ref m), (3, .ref o), (4, .int (nI i))]) (st' := [.int ((nI i) + 2), .ref b, .int (xs (i + 1)), .ref x]) _ (ms_deC dL_law_347 (ms_deC dL_law_348 (ms_deC dL_law_350 (ms_deC dL_law_351 ms_deN)))) rfl rfl ?_
  refine ms_sld dL_law_352 rfl (sc_in (j := 2) (by omega) (by omega)) ?_
  rw [show (nI i + 2).toNatClampNeg = i + 2 from sc_at (j := 2) (by omega)]
  refine ms_run (pc' := 358) (lv' := [(0, .ref b), (1, .ref x), (2, .ref m), (3, .ref o), (4, .int (nI i))]) (st' := [.int ((nI i) + 3), .ref b, .int (xs (i + 2)), .int (xs (i + 1)), .ref x]) _ (ms_deC dL_law_353 (ms_deC dL_law_354 (ms_deC dL_law_356 (ms_deC dL_law_357 ms_deN)))) rfl rfl ?_
  refine ms_sld dL_law_358 rfl (sc_in (j := 3) (by omega) (by omega)) ?_
  rw [show (nI i + 3).toNatClampNeg = i + 3 from sc_at (j := 3) (by omega)]
  refine ms_run (pc' := 360) (lv' := [(0, .ref b), (1, .ref x), (2, .ref m), (3, .ref o), (4, .int (nI i))]) (st' := [.ref o, .int (xs (i + 3)), .int (xs (i + 2)), .int (xs (i + 1)), .ref x]) _ (ms_deC dL_law_359 ms_deN) rfl rfl ?_
  refine ms_W.room (k2 := 1 + (393 + kr)) (z2 := 6 + (12714 + zr)) ?_ (by omega) (by omega)
  refine ms_callSX (As := [.ref x, .int (xs (i + 1)), .int (xs (i + 2)), .int (xs (i + 3)), .ref o]) dL_law_360 (c_L_mark ho9 hS5 hoo hro hc hW hH (xs (i + 1)) (xs (i + 2)) (xs (i + 3))) cs_L_101 (List.cons_ne_nil _ _) rfl ⟨Nat.le_of_ble_eq_true rfl, Nat.le_of_ble_eq_true rfl⟩ rfl (Nat.le_of_ble_eq_true rfl) (fun v9 n9 K9 hp9 => ?_) (fun E9 n9 K9 hp9 => hp9.noX)
  cases hth : (th_mrk W H cnt X (xs (i + 1)) (xs (i + 2)) (xs (i + 3))) with
  | some E9 =>
    obtain ⟨hn9, hv9, hG9⟩ := hp9.t hth
    obtain ⟨t9, ht9, ht0⟩ : ∃ t9 : Int32, (fun e => if e = IOB then 1 else 2) E9 = t9 ∧ ¬ t9 = 0 := ⟨_, rfl, cdb_n E9⟩
    have hv8 : v9 = some (Value.int t9) := hv9.trans (congrArg (fun q => some (Value.int q)) ht9)
    subst hv8
    subst hG9
    have hl9 : md_lt n9 m aw am ai ah := ⟨by omega, by omega, by omega, by omega, by omega⟩
    refine ms_run (pc' := 371) (lv' := [(5, .int t9), (0, .ref b), (1, .ref x), (2, .ref m), (3, .ref o), (4, .int (nI i))]) (st' := [.int ((nI i) + 1), .ref b, .ref m]) _ (ms_deC dL_law_363 (ms_deC dL_law_365 (ms_deC dL_law_366 (ms_deC dL_law_367 (ms_deC dL_law_369 (ms_deC dL_law_370 ms_deN)))))) rfl rfl ?_
    refine ms_sld dL_law_371 rfl (sc_in (j := 1) (by omega) (by omega)) ?_
    rw [show (nI i + 1).toNatClampNeg = i + 1 from sc_at (j := 1) (by omega)]
    refine ms_run (pc' := 377) (lv' := [(5, .int t9), (0, .ref b), (1, .ref x), (2, .ref m), (3, .ref o), (4, .int (nI i))]) (st' := [.int ((nI i) + 2), .ref b, .int (xs (i + 1)), .ref m]) _ (ms_deC dL_law_372 (ms_deC dL_law_373 (ms_deC dL_law_375 (ms_deC dL_law_376 ms_deN)))) rfl rfl ?_
    refine ms_sld dL_law_377 rfl (sc_in (j := 2) (by omega) (by omega)) ?_
    rw [show (nI i + 2).toNatClampNeg = i + 2 from sc_at (j := 2) (by omega)]
    refine ms_run (pc' := 383) (lv' := [(5, .int t9), (0, .ref b), (1, .ref x), (2, .ref m), (3, .ref o), (4, .int (nI i))]) (st' := [.int ((nI i) + 3), .ref b, .int (xs (i + 2)), .int (xs (i + 1)), .ref m]) _ (ms_deC dL_law_378 (ms_deC dL_law_379 (ms_deC dL_law_381 (ms_deC dL_law_382 ms_deN)))) rfl rfl ?_
    refine ms_sld dL_law_383 rfl (sc_in (j := 3) (by omega) (by omega)) ?_
    rw [show (nI i + 3).toNatClampNeg = i + 3 from sc_at (j := 3) (by omega)]
    refine ms_W.room (k2 := 0 + kr) (z2 := 0 + zr) ?_ (by omega) (by omega)
    refine ms_callV (As := [.int (xs (i + 1)), .int (xs (i + 2)), .int (xs (i + 3))]) dL_law_384 (c_X6_mark hM6 hl9 hW hH hW0 hc hne hL9 hmm hds hd (show 20 * k < 1000000 by omega) hV (xs (i + 1)) (xs (i + 2)) (xs (i + 3))) cv_L_104 hM6.1 rfl ⟨Nat.le_of_ble_eq_true rfl, Nat.le_of_ble_eq_true rfl⟩ rfl (Nat.le_of_ble_eq_true rfl) (fun v8 n8 K8 hp8 => ?_)
    obtain ⟨hn8, hF8, hv7, hq8⟩ := hp8.t hth
    subst hv7
    have hM8 : md_at K8 m aw am ai ah W H t9 X.2.2.2 dr pa cnt wl mm X.2.1 X.1 := by rw [← ht9]; exact hq8
    have hS8 := hS5.co ho9 (fun a ha => hF8 a (by omega) (by rintro (z9 | z9 | z9 | z9 | z9) <;> omega))
    have hro8 := (hF8 o (by omega) (by rintro (z9 | z9 | z9 | z9 | z9) <;> omega)).trans hro
    refine ms_run (pc' := 390) (lv' := [(6, .int 0), (5, .int t9), (0, .ref b), (1, .ref x), (2, .ref m), (3, .ref o), (4, .int (nI i))]) (st' := [.ref m]) _ (ms_deC dL_law_387 (ms_deC dL_law_389 ms_deN)) rfl rfl ?_
    refine ms_callVp (As := []) dL_law_390 (c_X6_thrown hM8) cv_L_93 hM8.1 rfl ⟨Nat.le_of_ble_eq_true rfl, Nat.le_of_ble_eq_true rfl⟩ rfl (Nat.le_of_ble_eq_true rfl) ?_
    refine ms_run (pc' := 395) (lv' := [(6, .int 0), (5, .int t9), (0, .ref b), (1, .ref x), (2, .ref m), (3, .ref o), (4, .int (nI i))]) (st' := [.int t9, .int t9]) _ (ms_deC dL_law_393 ms_deN) rfl rfl ?_
    refine ms_icmp_eq (tgt := 400) dL_law_395 (by decide) (fun h_395 => ?_) (fun h_395 => ?_)
    · skip
      refine ms_run (pc' := 402) (lv' := [(6, .int 0), (5, .int t9), (0, .ref b), (1, .ref x), (2, .ref m), (3, .ref o), (4, .int (nI i))]) (st' := [.int t9]) _ (ms_deC dL_law_400 ms_deN) rfl rfl ?_
      refine ms_if_ne (tgt := 417) dL_law_402 (by decide) (fun h_402 => ?_) (fun h_402 => ?_)
      · skip
        refine ms_goto (tgt := 1736) dL_law_417 (by decide) ?_
        refine ms_W.room (k2 := kr) (z2 := zr) ?_ (by omega) (by omega)
        refine ms_W.sub (lv2 := [(0, _), (1, _), (2, _), (3, _), (4, _)]) ?_ [2, 3, 4, 5, 6] rfl
        exact kk n8 K8 ⟨aw, am, ai, ah, W, H, cnt, _, dr, pa, X, nr, wl, mk, ds, mm, hS8, hM8, ⟨by omega, by omega, by omega, by omega, by omega⟩, hne, hge, hnoe, ⟨hW0, hW, hH0, hH⟩, hc, hL9, hmm, hds, hd, hwl, (hV.mono (by omega)), (hhe.mono (by omega))⟩ ⟨by omega, _, hro8⟩
      · skip
        exact absurd (by first | exact h_402 | exact Decidable.not_not.mp h_402) ht0
    · skip
      exact absurd rfl h_395
  | none =>
    obtain ⟨hn9, hv9, K7, f7, hQ7, hf7, hK9⟩ := hp9.n hth
    subst hv9
    obtain ⟨hS7, hF7⟩ := hQ7
    have hK9o : K9 o = some (oR f7) := by rw [hK9]; exact ms_up_s _ _ _
    have hfr7 : ∀ a, a ≠ o → K9 a = K7 a := fun a h1 => by rw [hK9]; exact ms_up_n _ _ h1
    have hM9 : md_at K9 m aw am ai ah W H th X.2.2.2 dr pa cnt wl mm X.2.1 X.1 := hM6.co (fun a h1 => (hfr7 a (by rcases h1 with z9 | z9 | z9 | z9 | z9 <;> omega)).trans (hF7 a (by rcases h1 with z9 | z9 | z9 | z9 | z9 <;> omega)))
    have hl9 : md_lt n9 m aw am ai ah := ⟨by omega, by omega, by omega, by omega, by omega⟩
    refine ms_run (pc' := 371) (lv' := [(5, .int 0), (0, .ref b), (1, .ref x), (2, .ref m), (3, .ref o), (4, .int (nI i))]) (st' := [.int ((nI i) + 1), .ref b, .ref m]) _ (ms_deC dL_law_363 (ms_deC dL_law_365 (ms_deC dL_law_366 (ms_deC dL_law_367 (ms_deC dL_law_369 (ms_deC dL_law_370 ms_deN)))))) rfl rfl ?_
    refine ms_sld dL_law_371 rfl (sc_in (j := 1) (by omega) (by omega)) ?_
    rw [show (nI i + 1).toNatClampNeg = i + 1 from sc_at (j := 1) (by omega)]
    refine ms_run (pc' := 377) (lv' := [(5, .int 0), (0, .ref b), (1, .ref x), (2, .ref m), (3, .ref o), (4, .int (nI i))]) (st' := [.int ((nI i) + 2), .ref b, .int (xs (i + 1)), .ref m]) _ (ms_deC dL_law_372 (ms_deC dL_law_373 (ms_deC dL_law_375 (ms_deC dL_law_376 ms_deN)))) rfl rfl ?_
    refine ms_sld dL_law_377 rfl (sc_in (j := 2) (by omega) (by omega)) ?_
    rw [show (nI i + 2).toNatClampNeg = i + 2 from sc_at (j := 2) (by omega)]
    refine ms_run (pc' := 383) (lv' := [(5, .int 0), (0, .ref b), (1, .ref x), (2, .ref m), (3, .ref o), (4, .int (nI i))]) (st' := [.int ((nI i) + 3), .ref b, .int (xs (i + 2)), .int (xs (i + 1)), .ref m]) _ (ms_deC dL_law_378 (ms_deC dL_law_379 (ms_deC dL_law_381 (ms_deC dL_law_382 ms_deN)))) rfl rfl ?_
    refine ms_sld dL_law_383 rfl (sc_in (j := 3) (by omega) (by omega)) ?_
    rw [show (nI i + 3).toNatClampNeg = i + 3 from sc_at (j := 3) (by omega)]
    refine ms_W.room (k2 := 0 + kr) (z2 := 0 + zr) ?_ (by omega) (by omega)
    refine ms_callV (As := [.int (xs (i + 1)), .int (xs (i + 2)), .int (xs (i + 3))]) dL_law_384 (c_X6_mark hM9 hl9 hW hH hW0 hc hne hL9 hmm hds hd (show 20 * k < 1000000 by omega) hV (xs (i + 1)) (xs (i + 2)) (xs (i + 3))) cv_L_104 hM9.1 rfl ⟨Nat.le_of_ble_eq_true rfl, Nat.le_of_ble_eq_true rfl⟩ rfl (Nat.le_of_ble_eq_true rfl) (fun v8 n8 K8 hp8 => ?_)
    obtain ⟨hn8, hF8, hv7, hq8⟩ := hp8.n hth
    subst hv7
    obtain ⟨mm9, hmm9, hM8⟩ := hq8
    have hg9 : (xs (i + 1)).toNatClampNeg < 4 := by
      have h7 : gl_is (xs (i + 1)) := by unfold th_mrk at hth; grind
      obtain ⟨g8, hg8, hge8⟩ := gl_nI h7
      rw [hge8, nI_clamp (by omega)]; exact hg8
    have hS8 := hS7.co ho9 (fun a ha => (hF8 a (by omega) (by rintro (z9 | z9 | z9 | z9 | z9) <;> omega)).trans (hfr7 a (by omega)))
    have hro8 := (hF8 o (by omega) (by rintro (z9 | z9 | z9 | z9 | z9) <;> omega)).trans hK9o
    refine ms_run (pc' := 390) (lv' := [(6, .int (nI (ct (pMark (mkF mk (xs (i + 1)).toNatClampNeg (gr_num (nI W) (nI H) (xs (i + 2)) (xs (i + 3))).toNatClampNeg) (xs (i + 1)).toNatClampNeg) (W * H)))), (5, .int 0), (0, .ref b), (1, .ref x), (2, .ref m), (3, .ref o), (4, .int (nI i))]) (st' := [.ref m]) _ (ms_deC dL_law_387 (ms_deC dL_law_389 ms_deN)) rfl rfl ?_
    refine ms_callVp (As := []) dL_law_390 (c_X6_thrown hM8) cv_L_93 hM8.1 rfl ⟨Nat.le_of_ble_eq_true rfl, Nat.le_of_ble_eq_true rfl⟩ rfl (Nat.le_of_ble_eq_true rfl) ?_
    refine ms_run (pc' := 395) (lv' := [(6, .int (nI (ct (pMark (mkF mk (xs (i + 1)).toNatClampNeg (gr_num (nI W) (nI H) (xs (i + 2)) (xs (i + 3))).toNatClampNeg) (xs (i + 1)).toNatClampNeg) (W * H)))), (5, .int 0), (0, .ref b), (1, .ref x), (2, .ref m), (3, .ref o), (4, .int (nI i))]) (st' := [.int 0, .int 0]) _ (ms_deC dL_law_393 ms_deN) rfl rfl ?_
    refine ms_icmp_eq (tgt := 400) dL_law_395 (by decide) (fun _ => ?_) (fun h9 => absurd h9 (by decide))
    refine ms_run (pc' := 402) (lv' := [(6, .int (nI (ct (pMark (mkF mk (xs (i + 1)).toNatClampNeg (gr_num (nI W) (nI H) (xs (i + 2)) (xs (i + 3))).toNatClampNeg) (xs (i + 1)).toNatClampNeg) (W * H)))), (5, .int 0), (0, .ref b), (1, .ref x), (2, .ref m), (3, .ref o), (4, .int (nI i))]) (st' := [.int 0]) _ (ms_deC dL_law_400 ms_deN) rfl rfl ?_
    refine ms_if_ne (tgt := 417) dL_law_402 (by decide) (fun h9 => absurd h9 (by decide)) (fun _ => ?_)
    refine ms_run (pc' := 407) (lv' := [(6, .int (nI (ct (pMark (mkF mk (xs (i + 1)).toNatClampNeg (gr_num (nI W) (nI H) (xs (i + 2)) (xs (i + 3))).toNatClampNeg) (xs (i + 1)).toNatClampNeg) (W * H)))), (5, .int 0), (0, .ref b), (1, .ref x), (2, .ref m), (3, .ref o), (4, .int (nI i))]) (st' := [.int 0, .ref o]) _ (ms_deC dL_law_405 (ms_deC dL_law_406 ms_deN)) rfl rfl ?_
    refine ms_laload dL_law_407 hro8 (by unfold vp_in; decide) ?_
    rw [show f7 (0 : Int32).toNatClampNeg = ((nI (ct (pMark (mkF mk (xs (i + 1)).toNatClampNeg (gr_num (nI W) (nI H) (xs (i + 2)) (xs (i + 3))).toNatClampNeg) (xs (i + 1)).toNatClampNeg) (W * H)))).toInt64 from hf7]
    refine ms_run (pc' := 411) (lv' := [(6, .int (nI (ct (pMark (mkF mk (xs (i + 1)).toNatClampNeg (gr_num (nI W) (nI H) (xs (i + 2)) (xs (i + 3))).toNatClampNeg) (xs (i + 1)).toNatClampNeg) (W * H)))), (5, .int 0), (0, .ref b), (1, .ref x), (2, .ref m), (3, .ref o), (4, .int (nI i))]) (st' := [.long ((nI (ct (pMark (mkF mk (xs (i + 1)).toNatClampNeg (gr_num (nI W) (nI H) (xs (i + 2)) (xs (i + 3))).toNatClampNeg) (xs (i + 1)).toNatClampNeg) (W * H))).toInt64), .long ((nI (ct (pMark (mkF mk (xs (i + 1)).toNatClampNeg (gr_num (nI W) (nI H) (xs (i + 2)) (xs (i + 3))).toNatClampNeg) (xs (i + 1)).toNatClampNeg) (W * H))).toInt64)]) _ (ms_deC dL_law_408 (ms_deC dL_law_410 ms_deN)) rfl rfl ?_
    refine ms_lcmp dL_law_411 ?_
    rw [lg_same]
    refine ms_if_eq (tgt := 417) dL_law_412 (by decide) (fun _ => ?_) (fun h9 => absurd h9 (by decide))
    refine ms_goto (tgt := 1736) dL_law_417 (by decide) ?_
    refine ms_W.room (k2 := kr) (z2 := zr) ?_ (by omega) (by omega)
    refine ms_W.sub (lv2 := [(0, _), (1, _), (2, _), (3, _), (4, _)]) ?_ [2, 3, 4, 5, 6] rfl
    exact kk n8 K8 ⟨aw, am, ai, ah, W, H, cnt, _, dr, pa, X, nr, wl, (mkF mk (xs (i + 1)).toNatClampNeg (gr_num (nI W) (nI H) (xs (i + 2)) (xs (i + 3))).toNatClampNeg), _, mm9, hS8, hM8, ⟨by omega, by omega, by omega, by omega, by omega⟩, hne, hge, hnoe, ⟨hW0, hW, hH0, hH⟩, hc, hL9, hmm9, (dsR_mark h196 hg9 hds), hd, hwl, (hV.mono (by omega)), (hhe.mono (by omega))⟩ ⟨by omega, _, hro8⟩
set_option maxHeartbeats 1000000 in
set_option maxRecDepth 20000 in
theorem cs_set {x g q c j q2 c2 o m b L k i n : Nat} {xs : Nat → Int32} {G : ms_H} {P : ms_P} {kr zr : Nat} (ho : ox x g q c j q2 c2) (hoo : c2 + 29 ≤ o) (hS : lS x g q c j q2 c2 o m k n G) (hO : lo_at o n G) (hk : k < 512) (hi : i + 5 < L) (hL : L ≤ 3072) (kk : ∀ n1 G1, lS x g q c j q2 c2 o m (k + 1) n1 G1 → lo_at o n1 G1 → ms_W false (m_L_lw b L xs) P 1736 [(0, .ref b), (1, .ref x), (2, .ref m), (3, .ref o), (4, .int (nI i))] [] n1 G1 kr zr) : ms_W false (m_L_lw b L xs) P 420 [(0, .ref b), (1, .ref x), (2, .ref m), (3, .ref o), (4, .int (nI i))] [] n G (394 + kr) (12720 + zr) := by
  obtain ⟨aw, am, ai, ah, W, H, cnt, th, dr, pa, X, nr, wl, mk, ds, mm, hS5, hM6, hl, hne, hge, hnoe, hWH, hc, hL9, hmm, hds, hd, hwl, hV, hhe⟩ := hS
  obtain ⟨hW0, hW, hH0, hH⟩ := hWH
  obtain ⟨hon, fo, hro⟩ := hO
  have hp : 0 < W * H := Nat.mul_pos hW0 hH0
  obtain ⟨l1, l2, l3, l4, l5⟩ := id hl
  obtain ⟨g1, g2, g3, g4, g5⟩ := id hge
  obtain ⟨e1, e2, e3, e4, e5⟩ := id hnoe
  have ho9 := ho
  obtain ⟨o1, o2, o3, o4, o5, o6⟩ := ho
  have h196 := fd_196 hW hH
  refine ms_run (pc' := 426) (lv' := [(0, .ref b), (1, .ref x), (2, .ref m), (3, .ref o), (4, .int (nI i))]) (st' := [.int ((nI i) + 1), .ref b, .ref x]) _ (ms_deC dL_law_420 (ms_deC dL_law_421 (ms_deC dL_law_422 (ms_deC dL_law_424 (ms_deC dL_law_425 ms_deN))))) rfl rfl ?_
  refine ms_sld dL_law_426 rfl (sc_in (j := 1) (by omega) (by omega)) ?_
  rw [show (nI i + 1).toNatClampNeg = i + 1 from sc_at (j := 1) (by omega)]
  refine ms_run (pc' := 432) (lv' := [(0, .ref b), (1, .ref x), (2, .ref m), (3, .ref o), (4, .int (nI i))]) (st' := [.int ((nI i) + 2), .ref b, .int (xs (i + 1)), .ref x]) _ (ms_deC dL_law_427 (ms_deC dL_law_428 (ms_deC dL_law_430 (ms_deC dL_law_431 ms_deN)))) rfl rfl ?_
  refine ms_sld dL_law_432 rfl (sc_in (j := 2) (by omega) (by omega)) ?_
  rw [show (nI i + 2).toNatClampNeg = i + 2 from sc_at (j := 2) (by omega)]
  refine ms_run (pc' := 434) (lv' := [(0, .ref b), (1, .ref x), (2, .ref m), (3, .ref o), (4, .int (nI i))]) (st' := [.ref o, .int (xs (i + 2)), .int (xs (i + 1)), .ref x]) _ (ms_deC dL_law_433 ms_deN) rfl rfl ?_
  refine ms_W.room (k2 := 1 + (393 + kr)) (z2 := 6 + (12714 + zr)) ?_ (by omega) (by omega)
  refine ms_callSX (As := [.ref x, .int (xs (i + 1)), .int (xs (i + 2)), .ref o]) dL_law_434 (c_L_set ho9 hS5 hoo hro (xs (i + 1)) (xs (i + 2))) cs_L_105 (List.cons_ne_nil _ _) rfl ⟨Nat.le_of_ble_eq_true rfl, Nat.le_of_ble_eq_true rfl⟩ rfl (Nat.le_of_ble_eq_true rfl) (fun v9 n9 K9 hp9 => ?_) (fun E9 n9 K9 hp9 => hp9.noX)
  cases hth : (th_set (xs (i + 1)) (xs (i + 2))) with
  | some E9 =>
    obtain ⟨hn9, hv9, hG9⟩ := hp9.t hth
    obtain ⟨t9, ht9, ht0⟩ : ∃ t9 : Int32, (fun _ => 1) E9 = t9 ∧ ¬ t9 = 0 := ⟨_, rfl, cd1_n E9⟩
    have hv8 : v9 = some (Value.int t9) := hv9.trans (congrArg (fun q => some (Value.int q)) ht9)
    subst hv8
    subst hG9
    have hl9 : md_lt n9 m aw am ai ah := ⟨by omega, by omega, by omega, by omega, by omega⟩
    refine ms_run (pc' := 445) (lv' := [(5, .int t9), (0, .ref b), (1, .ref x), (2, .ref m), (3, .ref o), (4, .int (nI i))]) (st' := [.int ((nI i) + 1), .ref b, .ref m]) _ (ms_deC dL_law_437 (ms_deC dL_law_439 (ms_deC dL_law_440 (ms_deC dL_law_441 (ms_deC dL_law_443 (ms_deC dL_law_444 ms_deN)))))) rfl rfl ?_
    refine ms_sld dL_law_445 rfl (sc_in (j := 1) (by omega) (by omega)) ?_
    rw [show (nI i + 1).toNatClampNeg = i + 1 from sc_at (j := 1) (by omega)]
    refine ms_run (pc' := 451) (lv' := [(5, .int t9), (0, .ref b), (1, .ref x), (2, .ref m), (3, .ref o), (4, .int (nI i))]) (st' := [.int ((nI i) + 2), .ref b, .int (xs (i + 1)), .ref m]) _ (ms_deC dL_law_446 (ms_deC dL_law_447 (ms_deC dL_law_449 (ms_deC dL_law_450 ms_deN)))) rfl rfl ?_
    refine ms_sld dL_law_451 rfl (sc_in (j := 2) (by omega) (by omega)) ?_
    rw [show (nI i + 2).toNatClampNeg = i + 2 from sc_at (j := 2) (by omega)]
    refine ms_W.room (k2 := 0 + kr) (z2 := 0 + zr) ?_ (by omega) (by omega)
    refine ms_callV (As := [.int (xs (i + 1)), .int (xs (i + 2))]) dL_law_452 (c_X6_set hM6 hl9 hW hH hW0 hc hne hL9 hmm hds hd (show 20 * k < 1000000 by omega) hV (xs (i + 1)) (xs (i + 2))) cv_L_107 hM6.1 rfl ⟨Nat.le_of_ble_eq_true rfl, Nat.le_of_ble_eq_true rfl⟩ rfl (Nat.le_of_ble_eq_true rfl) (fun v8 n8 K8 hp8 => ?_)
    obtain ⟨hn8, hF8, hv7, hq8⟩ := hp8.t hth
    subst hv7
    have hM8 : md_at K8 m aw am ai ah W H t9 X.2.2.2 dr pa cnt wl mm X.2.1 X.1 := by rw [← ht9]; exact hq8
    have hS8 := hS5.co ho9 (fun a ha => hF8 a (by omega) (by rintro (z9 | z9 | z9 | z9 | z9) <;> omega))
    have hro8 := (hF8 o (by omega) (by rintro (z9 | z9 | z9 | z9 | z9) <;> omega)).trans hro
    refine ms_run (pc' := 458) (lv' := [(6, .int 0), (5, .int t9), (0, .ref b), (1, .ref x), (2, .ref m), (3, .ref o), (4, .int (nI i))]) (st' := [.ref m]) _ (ms_deC dL_law_455 (ms_deC dL_law_457 ms_deN)) rfl rfl ?_
    refine ms_callVp (As := []) dL_law_458 (c_X6_thrown hM8) cv_L_93 hM8.1 rfl ⟨Nat.le_of_ble_eq_true rfl, Nat.le_of_ble_eq_true rfl⟩ rfl (Nat.le_of_ble_eq_true rfl) ?_
    refine ms_run (pc' := 463) (lv' := [(6, .int 0), (5, .int t9), (0, .ref b), (1, .ref x), (2, .ref m), (3, .ref o), (4, .int (nI i))]) (st' := [.int t9, .int t9]) _ (ms_deC dL_law_461 ms_deN) rfl rfl ?_
    refine ms_icmp_eq (tgt := 468) dL_law_463 (by decide) (fun h_463 => ?_) (fun h_463 => ?_)
    · skip
      refine ms_run (pc' := 470) (lv' := [(6, .int 0), (5, .int t9), (0, .ref b), (1, .ref x), (2, .ref m), (3, .ref o), (4, .int (nI i))]) (st' := [.int t9]) _ (ms_deC dL_law_468 ms_deN) rfl rfl ?_
      refine ms_if_ne (tgt := 485) dL_law_470 (by decide) (fun h_470 => ?_) (fun h_470 => ?_)
      · skip
        refine ms_goto (tgt := 1736) dL_law_485 (by decide) ?_
        refine ms_W.room (k2 := kr) (z2 := zr) ?_ (by omega) (by omega)
        refine ms_W.sub (lv2 := [(0, _), (1, _), (2, _), (3, _), (4, _)]) ?_ [2, 3, 4, 5, 6] rfl
        exact kk n8 K8 ⟨aw, am, ai, ah, W, H, cnt, _, dr, pa, X, nr, wl, mk, ds, mm, hS8, hM8, ⟨by omega, by omega, by omega, by omega, by omega⟩, hne, hge, hnoe, ⟨hW0, hW, hH0, hH⟩, hc, hL9, hmm, hds, hd, hwl, (hV.mono (by omega)), (hhe.mono (by omega))⟩ ⟨by omega, _, hro8⟩
      · skip
        exact absurd (by first | exact h_470 | exact Decidable.not_not.mp h_470) ht0
    · skip
      exact absurd rfl h_463
  | none =>
    obtain ⟨hn9, hv9, K7, f7, hQ7, hf7, hK9⟩ := hp9.n hth
    subst hv9
    obtain ⟨hS7, hF7⟩ := hQ7
    have hK9o : K9 o = some (oR f7) := by rw [hK9]; exact ms_up_s _ _ _
    have hfr7 : ∀ a, a ≠ o → K9 a = K7 a := fun a h1 => by rw [hK9]; exact ms_up_n _ _ h1
    have hM9 : md_at K9 m aw am ai ah W H th X.2.2.2 dr pa cnt wl mm X.2.1 X.1 := hM6.co (fun a h1 => (hfr7 a (by rcases h1 with z9 | z9 | z9 | z9 | z9 <;> omega)).trans (hF7 a (by rcases h1 with z9 | z9 | z9 | z9 | z9 <;> omega)))
    have hl9 : md_lt n9 m aw am ai ah := ⟨by omega, by omega, by omega, by omega, by omega⟩
    refine ms_run (pc' := 445) (lv' := [(5, .int 0), (0, .ref b), (1, .ref x), (2, .ref m), (3, .ref o), (4, .int (nI i))]) (st' := [.int ((nI i) + 1), .ref b, .ref m]) _ (ms_deC dL_law_437 (ms_deC dL_law_439 (ms_deC dL_law_440 (ms_deC dL_law_441 (ms_deC dL_law_443 (ms_deC dL_law_444 ms_deN)))))) rfl rfl ?_
    refine ms_sld dL_law_445 rfl (sc_in (j := 1) (by omega) (by omega)) ?_
    rw [show (nI i + 1).toNatClampNeg = i + 1 from sc_at (j := 1) (by omega)]
    refine ms_run (pc' := 451) (lv' := [(5, .int 0), (0, .ref b), (1, .ref x), (2, .ref m), (3, .ref o), (4, .int (nI i))]) (st' := [.int ((nI i) + 2), .ref b, .int (xs (i + 1)), .ref m]) _ (ms_deC dL_law_446 (ms_deC dL_law_447 (ms_deC dL_law_449 (ms_deC dL_law_450 ms_deN)))) rfl rfl ?_
    refine ms_sld dL_law_451 rfl (sc_in (j := 2) (by omega) (by omega)) ?_
    rw [show (nI i + 2).toNatClampNeg = i + 2 from sc_at (j := 2) (by omega)]
    refine ms_W.room (k2 := 0 + kr) (z2 := 0 + zr) ?_ (by omega) (by omega)
    refine ms_callV (As := [.int (xs (i + 1)), .int (xs (i + 2))]) dL_law_452 (c_X6_set hM9 hl9 hW hH hW0 hc hne hL9 hmm hds hd (show 20 * k < 1000000 by omega) hV (xs (i + 1)) (xs (i + 2))) cv_L_107 hM9.1 rfl ⟨Nat.le_of_ble_eq_true rfl, Nat.le_of_ble_eq_true rfl⟩ rfl (Nat.le_of_ble_eq_true rfl) (fun v8 n8 K8 hp8 => ?_)
    obtain ⟨hn8, hF8, hv7, hq8⟩ := hp8.n hth
    subst hv7
    have hM8 := hq8
    have hS8 := hS7.co ho9 (fun a ha => (hF8 a (by omega) (by rintro (z9 | z9 | z9 | z9 | z9) <;> omega)).trans (hfr7 a (by omega)))
    have hro8 := (hF8 o (by omega) (by rintro (z9 | z9 | z9 | z9 | z9) <;> omega)).trans hK9o
    refine ms_run (pc' := 458) (lv' := [(6, .int dr), (5, .int 0), (0, .ref b), (1, .ref x), (2, .ref m), (3, .ref o), (4, .int (nI i))]) (st' := [.ref m]) _ (ms_deC dL_law_455 (ms_deC dL_law_457 ms_deN)) rfl rfl ?_
    refine ms_callVp (As := []) dL_law_458 (c_X6_thrown hM8) cv_L_93 hM8.1 rfl ⟨Nat.le_of_ble_eq_true rfl, Nat.le_of_ble_eq_true rfl⟩ rfl (Nat.le_of_ble_eq_true rfl) ?_
    refine ms_run (pc' := 463) (lv' := [(6, .int dr), (5, .int 0), (0, .ref b), (1, .ref x), (2, .ref m), (3, .ref o), (4, .int (nI i))]) (st' := [.int 0, .int 0]) _ (ms_deC dL_law_461 ms_deN) rfl rfl ?_
    refine ms_icmp_eq (tgt := 468) dL_law_463 (by decide) (fun _ => ?_) (fun h9 => absurd h9 (by decide))
    refine ms_run (pc' := 470) (lv' := [(6, .int dr), (5, .int 0), (0, .ref b), (1, .ref x), (2, .ref m), (3, .ref o), (4, .int (nI i))]) (st' := [.int 0]) _ (ms_deC dL_law_468 ms_deN) rfl rfl ?_
    refine ms_if_ne (tgt := 485) dL_law_470 (by decide) (fun h9 => absurd h9 (by decide)) (fun _ => ?_)
    refine ms_run (pc' := 475) (lv' := [(6, .int dr), (5, .int 0), (0, .ref b), (1, .ref x), (2, .ref m), (3, .ref o), (4, .int (nI i))]) (st' := [.int 0, .ref o]) _ (ms_deC dL_law_473 (ms_deC dL_law_474 ms_deN)) rfl rfl ?_
    refine ms_laload dL_law_475 hro8 (by unfold vp_in; decide) ?_
    rw [show f7 (0 : Int32).toNatClampNeg = (dr).toInt64 from hf7]
    refine ms_run (pc' := 479) (lv' := [(6, .int dr), (5, .int 0), (0, .ref b), (1, .ref x), (2, .ref m), (3, .ref o), (4, .int (nI i))]) (st' := [.long dr.toInt64, .long dr.toInt64]) _ (ms_deC dL_law_476 (ms_deC dL_law_478 ms_deN)) rfl rfl ?_
    refine ms_lcmp dL_law_479 ?_
    rw [lg_same]
    refine ms_if_eq (tgt := 485) dL_law_480 (by decide) (fun _ => ?_) (fun h9 => absurd h9 (by decide))
    refine ms_goto (tgt := 1736) dL_law_485 (by decide) ?_
    refine ms_W.room (k2 := kr) (z2 := zr) ?_ (by omega) (by omega)
    refine ms_W.sub (lv2 := [(0, _), (1, _), (2, _), (3, _), (4, _)]) ?_ [2, 3, 4, 5, 6] rfl
    exact kk n8 K8 ⟨aw, am, ai, ah, W, H, cnt, _, (xs (i + 1)), (xs (i + 2)), X, nr, wl, mk, ds, mm, hS8, hM8, ⟨by omega, by omega, by omega, by omega, by omega⟩, hne, hge, hnoe, ⟨hW0, hW, hH0, hH⟩, hc, hL9, hmm, hds, (by unfold th_set at hth; grind), hwl, (hV.mono (by omega)), (hhe.mono (by omega))⟩ ⟨by omega, _, hro8⟩
set_option maxHeartbeats 1000000 in
set_option maxRecDepth 20000 in
theorem cs_field {x g q c j q2 c2 o m b L k i n : Nat} {xs : Nat → Int32} {G : ms_H} {P : ms_P} {kr zr : Nat} (ho : ox x g q c j q2 c2) (hoo : c2 + 29 ≤ o) (hS : lS x g q c j q2 c2 o m k n G) (hO : lo_at o n G) (hk : k < 512) (hi : i + 5 < L) (hL : L ≤ 3072) (kk : ∀ n1 G1, lS x g q c j q2 c2 o m (k + 1) n1 G1 → lo_at o n1 G1 → ms_W false (m_L_lw b L xs) P 1736 [(0, .ref b), (1, .ref x), (2, .ref m), (3, .ref o), (4, .int (nI i))] [] n1 G1 kr zr) : ms_W false (m_L_lw b L xs) P 488 [(0, .ref b), (1, .ref x), (2, .ref m), (3, .ref o), (4, .int (nI i))] [] n G (394 + kr) (12720 + zr) := by
  obtain ⟨aw, am, ai, ah, W, H, cnt, th, dr, pa, X, nr, wl, mk, ds, mm, hS5, hM6, hl, hne, hge, hnoe, hWH, hc, hL9, hmm, hds, hd, hwl, hV, hhe⟩ := hS
  obtain ⟨hW0, hW, hH0, hH⟩ := hWH
  obtain ⟨hon, fo, hro⟩ := hO
  have hp : 0 < W * H := Nat.mul_pos hW0 hH0
  obtain ⟨l1, l2, l3, l4, l5⟩ := id hl
  obtain ⟨g1, g2, g3, g4, g5⟩ := id hge
  obtain ⟨e1, e2, e3, e4, e5⟩ := id hnoe
  have ho9 := ho
  obtain ⟨o1, o2, o3, o4, o5, o6⟩ := ho
  have h196 := fd_196 hW hH
  refine ms_run (pc' := 494) (lv' := [(0, .ref b), (1, .ref x), (2, .ref m), (3, .ref o), (4, .int (nI i))]) (st' := [.int ((nI i) + 1), .ref b, .ref x]) _ (ms_deC dL_law_488 (ms_deC dL_law_489 (ms_deC dL_law_490 (ms_deC dL_law_492 (ms_deC dL_law_493 ms_deN))))) rfl rfl ?_
  refine ms_sld dL_law_494 rfl (sc_in (j := 1) (by omega) (by omega)) ?_
  rw [show (nI i + 1).toNatClampNeg = i + 1 from sc_at (j := 1) (by omega)]
  refine ms_run (pc' := 500) (lv' := [(0, .ref b), (1, .ref x), (2, .ref m), (3, .ref o), (4, .int (nI i))]) (st' := [.int ((nI i) + 2), .ref b, .int (xs (i + 1)), .ref x]) _ (ms_deC dL_law_495 (ms_deC dL_law_496 (ms_deC dL_law_498 (ms_deC dL_law_499 ms_deN)))) rfl rfl ?_
  refine ms_sld dL_law_500 rfl (sc_in (j := 2) (by omega) (by omega)) ?_
  rw [show (nI i + 2).toNatClampNeg = i + 2 from sc_at (j := 2) (by omega)]
  refine ms_run (pc' := 506) (lv' := [(0, .ref b), (1, .ref x), (2, .ref m), (3, .ref o), (4, .int (nI i))]) (st' := [.int ((nI i) + 3), .ref b, .int (xs (i + 2)), .int (xs (i + 1)), .ref x]) _ (ms_deC dL_law_501 (ms_deC dL_law_502 (ms_deC dL_law_504 (ms_deC dL_law_505 ms_deN)))) rfl rfl ?_
  refine ms_sld dL_law_506 rfl (sc_in (j := 3) (by omega) (by omega)) ?_
  rw [show (nI i + 3).toNatClampNeg = i + 3 from sc_at (j := 3) (by omega)]
  refine ms_run (pc' := 508) (lv' := [(0, .ref b), (1, .ref x), (2, .ref m), (3, .ref o), (4, .int (nI i))]) (st' := [.ref o, .int (xs (i + 3)), .int (xs (i + 2)), .int (xs (i + 1)), .ref x]) _ (ms_deC dL_law_507 ms_deN) rfl rfl ?_
  refine ms_W.room (k2 := 1 + (393 + kr)) (z2 := 6 + (12714 + zr)) ?_ (by omega) (by omega)
  refine ms_callSX (As := [.ref x, .int (xs (i + 1)), .int (xs (i + 2)), .int (xs (i + 3)), .ref o]) dL_law_508 (c_L_field ho9 hS5 hoo hro (xs (i + 1)) (xs (i + 2)) (xs (i + 3))) cs_L_108 (List.cons_ne_nil _ _) rfl ⟨Nat.le_of_ble_eq_true rfl, Nat.le_of_ble_eq_true rfl⟩ rfl (Nat.le_of_ble_eq_true rfl) (fun v9 n9 K9 hp9 => ?_) (fun E9 n9 K9 hp9 => hp9.noX)
  cases hth : (th_fld W H (xs (i + 1)) (xs (i + 2)) (xs (i + 3))) with
  | some E9 =>
    obtain ⟨hn9, hv9, hG9⟩ := hp9.t hth
    obtain ⟨t9, ht9, ht0⟩ : ∃ t9 : Int32, (fun e => if e = IOB then 1 else 2) E9 = t9 ∧ ¬ t9 = 0 := ⟨_, rfl, cdb_n E9⟩
    have hv8 : v9 = some (Value.int t9) := hv9.trans (congrArg (fun q => some (Value.int q)) ht9)
    subst hv8
    subst hG9
    have hl9 : md_lt n9 m aw am ai ah := ⟨by omega, by omega, by omega, by omega, by omega⟩
    refine ms_run (pc' := 519) (lv' := [(5, .int t9), (0, .ref b), (1, .ref x), (2, .ref m), (3, .ref o), (4, .int (nI i))]) (st' := [.int ((nI i) + 1), .ref b, .ref m]) _ (ms_deC dL_law_511 (ms_deC dL_law_513 (ms_deC dL_law_514 (ms_deC dL_law_515 (ms_deC dL_law_517 (ms_deC dL_law_518 ms_deN)))))) rfl rfl ?_
    refine ms_sld dL_law_519 rfl (sc_in (j := 1) (by omega) (by omega)) ?_
    rw [show (nI i + 1).toNatClampNeg = i + 1 from sc_at (j := 1) (by omega)]
    refine ms_run (pc' := 525) (lv' := [(5, .int t9), (0, .ref b), (1, .ref x), (2, .ref m), (3, .ref o), (4, .int (nI i))]) (st' := [.int ((nI i) + 2), .ref b, .int (xs (i + 1)), .ref m]) _ (ms_deC dL_law_520 (ms_deC dL_law_521 (ms_deC dL_law_523 (ms_deC dL_law_524 ms_deN)))) rfl rfl ?_
    refine ms_sld dL_law_525 rfl (sc_in (j := 2) (by omega) (by omega)) ?_
    rw [show (nI i + 2).toNatClampNeg = i + 2 from sc_at (j := 2) (by omega)]
    refine ms_run (pc' := 531) (lv' := [(5, .int t9), (0, .ref b), (1, .ref x), (2, .ref m), (3, .ref o), (4, .int (nI i))]) (st' := [.int ((nI i) + 3), .ref b, .int (xs (i + 2)), .int (xs (i + 1)), .ref m]) _ (ms_deC dL_law_526 (ms_deC dL_law_527 (ms_deC dL_law_529 (ms_deC dL_law_530 ms_deN)))) rfl rfl ?_
    refine ms_sld dL_law_531 rfl (sc_in (j := 3) (by omega) (by omega)) ?_
    rw [show (nI i + 3).toNatClampNeg = i + 3 from sc_at (j := 3) (by omega)]
    refine ms_W.room (k2 := 0 + kr) (z2 := 0 + zr) ?_ (by omega) (by omega)
    refine ms_callV (As := [.int (xs (i + 1)), .int (xs (i + 2)), .int (xs (i + 3))]) dL_law_532 (c_X6_field hM6 hl9 hW hH hW0 hc hne hL9 hmm hds hd (show 20 * k < 1000000 by omega) hV (xs (i + 1)) (xs (i + 2)) (xs (i + 3))) cv_L_110 hM6.1 rfl ⟨Nat.le_of_ble_eq_true rfl, Nat.le_of_ble_eq_true rfl⟩ rfl (Nat.le_of_ble_eq_true rfl) (fun v8 n8 K8 hp8 => ?_)
    obtain ⟨hn8, hF8, hv7, hq8⟩ := hp8.t hth
    subst hv7
    have hM8 : md_at K8 m aw am ai ah W H t9 X.2.2.2 dr pa cnt wl mm X.2.1 X.1 := by rw [← ht9]; exact hq8
    have hS8 := hS5.co ho9 (fun a ha => hF8 a (by omega) (by rintro (z9 | z9 | z9 | z9 | z9) <;> omega))
    have hro8 := (hF8 o (by omega) (by rintro (z9 | z9 | z9 | z9 | z9) <;> omega)).trans hro
    refine ms_run (pc' := 538) (lv' := [(6, .int 0), (5, .int t9), (0, .ref b), (1, .ref x), (2, .ref m), (3, .ref o), (4, .int (nI i))]) (st' := [.ref m]) _ (ms_deC dL_law_535 (ms_deC dL_law_537 ms_deN)) rfl rfl ?_
    refine ms_callVp (As := []) dL_law_538 (c_X6_thrown hM8) cv_L_93 hM8.1 rfl ⟨Nat.le_of_ble_eq_true rfl, Nat.le_of_ble_eq_true rfl⟩ rfl (Nat.le_of_ble_eq_true rfl) ?_
    refine ms_run (pc' := 543) (lv' := [(6, .int 0), (5, .int t9), (0, .ref b), (1, .ref x), (2, .ref m), (3, .ref o), (4, .int (nI i))]) (st' := [.int t9, .int t9]) _ (ms_deC dL_law_541 ms_deN) rfl rfl ?_
    refine ms_icmp_eq (tgt := 548) dL_law_543 (by decide) (fun h_543 => ?_) (fun h_543 => ?_)
    · skip
      refine ms_run (pc' := 550) (lv' := [(6, .int 0), (5, .int t9), (0, .ref b), (1, .ref x), (2, .ref m), (3, .ref o), (4, .int (nI i))]) (st' := [.int t9]) _ (ms_deC dL_law_548 ms_deN) rfl rfl ?_
      refine ms_if_ne (tgt := 565) dL_law_550 (by decide) (fun h_550 => ?_) (fun h_550 => ?_)
      · skip
        refine ms_goto (tgt := 1736) dL_law_565 (by decide) ?_
        refine ms_W.room (k2 := kr) (z2 := zr) ?_ (by omega) (by omega)
        refine ms_W.sub (lv2 := [(0, _), (1, _), (2, _), (3, _), (4, _)]) ?_ [2, 3, 4, 5, 6] rfl
        exact kk n8 K8 ⟨aw, am, ai, ah, W, H, cnt, _, dr, pa, X, nr, wl, mk, ds, mm, hS8, hM8, ⟨by omega, by omega, by omega, by omega, by omega⟩, hne, hge, hnoe, ⟨hW0, hW, hH0, hH⟩, hc, hL9, hmm, hds, hd, hwl, (hV.mono (by omega)), (hhe.mono (by omega))⟩ ⟨by omega, _, hro8⟩
      · skip
        exact absurd (by first | exact h_550 | exact Decidable.not_not.mp h_550) ht0
    · skip
      exact absurd rfl h_543
  | none =>
    obtain ⟨hn9, hv9, K7, f7, hQ7, hf7, hK9⟩ := hp9.n hth
    subst hv9
    obtain ⟨hS7, hF7⟩ := hQ7
    have hK9o : K9 o = some (oR f7) := by rw [hK9]; exact ms_up_s _ _ _
    have hfr7 : ∀ a, a ≠ o → K9 a = K7 a := fun a h1 => by rw [hK9]; exact ms_up_n _ _ h1
    have hM9 : md_at K9 m aw am ai ah W H th X.2.2.2 dr pa cnt wl mm X.2.1 X.1 := hM6.co (fun a h1 => (hfr7 a (by rcases h1 with z9 | z9 | z9 | z9 | z9 <;> omega)).trans (hF7 a (by rcases h1 with z9 | z9 | z9 | z9 | z9 <;> omega)))
    have hl9 : md_lt n9 m aw am ai ah := ⟨by omega, by omega, by omega, by omega, by omega⟩
    refine ms_run (pc' := 519) (lv' := [(5, .int 0), (0, .ref b), (1, .ref x), (2, .ref m), (3, .ref o), (4, .int (nI i))]) (st' := [.int ((nI i) + 1), .ref b, .ref m]) _ (ms_deC dL_law_511 (ms_deC dL_law_513 (ms_deC dL_law_514 (ms_deC dL_law_515 (ms_deC dL_law_517 (ms_deC dL_law_518 ms_deN)))))) rfl rfl ?_
    refine ms_sld dL_law_519 rfl (sc_in (j := 1) (by omega) (by omega)) ?_
    rw [show (nI i + 1).toNatClampNeg = i + 1 from sc_at (j := 1) (by omega)]
    refine ms_run (pc' := 525) (lv' := [(5, .int 0), (0, .ref b), (1, .ref x), (2, .ref m), (3, .ref o), (4, .int (nI i))]) (st' := [.int ((nI i) + 2), .ref b, .int (xs (i + 1)), .ref m]) _ (ms_deC dL_law_520 (ms_deC dL_law_521 (ms_deC dL_law_523 (ms_deC dL_law_524 ms_deN)))) rfl rfl ?_
    refine ms_sld dL_law_525 rfl (sc_in (j := 2) (by omega) (by omega)) ?_
    rw [show (nI i + 2).toNatClampNeg = i + 2 from sc_at (j := 2) (by omega)]
    refine ms_run (pc' := 531) (lv' := [(5, .int 0), (0, .ref b), (1, .ref x), (2, .ref m), (3, .ref o), (4, .int (nI i))]) (st' := [.int ((nI i) + 3), .ref b, .int (xs (i + 2)), .int (xs (i + 1)), .ref m]) _ (ms_deC dL_law_526 (ms_deC dL_law_527 (ms_deC dL_law_529 (ms_deC dL_law_530 ms_deN)))) rfl rfl ?_
    refine ms_sld dL_law_531 rfl (sc_in (j := 3) (by omega) (by omega)) ?_
    rw [show (nI i + 3).toNatClampNeg = i + 3 from sc_at (j := 3) (by omega)]
    refine ms_W.room (k2 := 0 + kr) (z2 := 0 + zr) ?_ (by omega) (by omega)
    refine ms_callV (As := [.int (xs (i + 1)), .int (xs (i + 2)), .int (xs (i + 3))]) dL_law_532 (c_X6_field hM9 hl9 hW hH hW0 hc hne hL9 hmm hds hd (show 20 * k < 1000000 by omega) hV (xs (i + 1)) (xs (i + 2)) (xs (i + 3))) cv_L_110 hM9.1 rfl ⟨Nat.le_of_ble_eq_true rfl, Nat.le_of_ble_eq_true rfl⟩ rfl (Nat.le_of_ble_eq_true rfl) (fun v8 n8 K8 hp8 => ?_)
    obtain ⟨hn8, hF8, hv7, hq8⟩ := hp8.n hth
    subst hv7
    have hM8 := hq8
    have hS8 := hS7.co ho9 (fun a ha => (hF8 a (by omega) (by rintro (z9 | z9 | z9 | z9 | z9) <;> omega)).trans (hfr7 a (by omega)))
    have hro8 := (hF8 o (by omega) (by rintro (z9 | z9 | z9 | z9 | z9) <;> omega)).trans hK9o
    refine ms_run (pc' := 538) (lv' := [(6, .int (ffX (nI (W * H)) nr wl X (gr_num (nI W) (nI H) (xs (i + 1)) (xs (i + 2))) (xs (i + 3)).toNatClampNeg)), (5, .int 0), (0, .ref b), (1, .ref x), (2, .ref m), (3, .ref o), (4, .int (nI i))]) (st' := [.ref m]) _ (ms_deC dL_law_535 (ms_deC dL_law_537 ms_deN)) rfl rfl ?_
    refine ms_callVp (As := []) dL_law_538 (c_X6_thrown hM8) cv_L_93 hM8.1 rfl ⟨Nat.le_of_ble_eq_true rfl, Nat.le_of_ble_eq_true rfl⟩ rfl (Nat.le_of_ble_eq_true rfl) ?_
    refine ms_run (pc' := 543) (lv' := [(6, .int (ffX (nI (W * H)) nr wl X (gr_num (nI W) (nI H) (xs (i + 1)) (xs (i + 2))) (xs (i + 3)).toNatClampNeg)), (5, .int 0), (0, .ref b), (1, .ref x), (2, .ref m), (3, .ref o), (4, .int (nI i))]) (st' := [.int 0, .int 0]) _ (ms_deC dL_law_541 ms_deN) rfl rfl ?_
    refine ms_icmp_eq (tgt := 548) dL_law_543 (by decide) (fun _ => ?_) (fun h9 => absurd h9 (by decide))
    refine ms_run (pc' := 550) (lv' := [(6, .int (ffX (nI (W * H)) nr wl X (gr_num (nI W) (nI H) (xs (i + 1)) (xs (i + 2))) (xs (i + 3)).toNatClampNeg)), (5, .int 0), (0, .ref b), (1, .ref x), (2, .ref m), (3, .ref o), (4, .int (nI i))]) (st' := [.int 0]) _ (ms_deC dL_law_548 ms_deN) rfl rfl ?_
    refine ms_if_ne (tgt := 565) dL_law_550 (by decide) (fun h9 => absurd h9 (by decide)) (fun _ => ?_)
    refine ms_run (pc' := 555) (lv' := [(6, .int (ffX (nI (W * H)) nr wl X (gr_num (nI W) (nI H) (xs (i + 1)) (xs (i + 2))) (xs (i + 3)).toNatClampNeg)), (5, .int 0), (0, .ref b), (1, .ref x), (2, .ref m), (3, .ref o), (4, .int (nI i))]) (st' := [.int 0, .ref o]) _ (ms_deC dL_law_553 (ms_deC dL_law_554 ms_deN)) rfl rfl ?_
    refine ms_laload dL_law_555 hro8 (by unfold vp_in; decide) ?_
    rw [show f7 (0 : Int32).toNatClampNeg = ((ffX (nI (W * H)) nr wl X (gr_num (nI W) (nI H) (xs (i + 1)) (xs (i + 2))) (xs (i + 3)).toNatClampNeg)).toInt64 from hf7]
    refine ms_run (pc' := 559) (lv' := [(6, .int (ffX (nI (W * H)) nr wl X (gr_num (nI W) (nI H) (xs (i + 1)) (xs (i + 2))) (xs (i + 3)).toNatClampNeg)), (5, .int 0), (0, .ref b), (1, .ref x), (2, .ref m), (3, .ref o), (4, .int (nI i))]) (st' := [.long ((ffX (nI (W * H)) nr wl X (gr_num (nI W) (nI H) (xs (i + 1)) (xs (i + 2))) (xs (i + 3)).toNatClampNeg).toInt64), .long ((ffX (nI (W * H)) nr wl X (gr_num (nI W) (nI H) (xs (i + 1)) (xs (i + 2))) (xs (i + 3)).toNatClampNeg).toInt64)]) _ (ms_deC dL_law_556 (ms_deC dL_law_558 ms_deN)) rfl rfl ?_
    refine ms_lcmp dL_law_559 ?_
    rw [lg_same]
    refine ms_if_eq (tgt := 565) dL_law_560 (by decide) (fun _ => ?_) (fun h9 => absurd h9 (by decide))
    refine ms_goto (tgt := 1736) dL_law_565 (by decide) ?_
    refine ms_W.room (k2 := kr) (z2 := zr) ?_ (by omega) (by omega)
    refine ms_W.sub (lv2 := [(0, _), (1, _), (2, _), (3, _), (4, _)]) ?_ [2, 3, 4, 5, 6] rfl
    exact kk n8 K8 ⟨aw, am, ai, ah, W, H, cnt, _, dr, pa, X, nr, wl, mk, ds, mm, hS8, hM8, ⟨by omega, by omega, by omega, by omega, by omega⟩, hne, hge, hnoe, ⟨hW0, hW, hH0, hH⟩, hc, hL9, hmm, hds, hd, hwl, (hV.mono (by omega)), (hhe.mono (by omega))⟩ ⟨by omega, _, hro8⟩
set_option maxHeartbeats 1000000 in
set_option maxRecDepth 20000 in
theorem cs_far {x g q c j q2 c2 o m b L k i n : Nat} {xs : Nat → Int32} {G : ms_H} {P : ms_P} {kr zr : Nat} (ho : ox x g q c j q2 c2) (hoo : c2 + 29 ≤ o) (hS : lS x g q c j q2 c2 o m k n G) (hO : lo_at o n G) (hk : k < 512) (hi : i + 5 < L) (hL : L ≤ 3072) (kk : ∀ n1 G1, lS x g q c j q2 c2 o m (k + 1) n1 G1 → lo_at o n1 G1 → ms_W false (m_L_lw b L xs) P 1736 [(0, .ref b), (1, .ref x), (2, .ref m), (3, .ref o), (4, .int (nI i))] [] n1 G1 kr zr) : ms_W false (m_L_lw b L xs) P 568 [(0, .ref b), (1, .ref x), (2, .ref m), (3, .ref o), (4, .int (nI i))] [] n G (394 + kr) (12720 + zr) := by
  obtain ⟨aw, am, ai, ah, W, H, cnt, th, dr, pa, X, nr, wl, mk, ds, mm, hS5, hM6, hl, hne, hge, hnoe, hWH, hc, hL9, hmm, hds, hd, hwl, hV, hhe⟩ := hS
  obtain ⟨hW0, hW, hH0, hH⟩ := hWH
  obtain ⟨hon, fo, hro⟩ := hO
  have hp : 0 < W * H := Nat.mul_pos hW0 hH0
  obtain ⟨l1, l2, l3, l4, l5⟩ := id hl
  obtain ⟨g1, g2, g3, g4, g5⟩ := id hge
  obtain ⟨e1, e2, e3, e4, e5⟩ := id hnoe
  have ho9 := ho
  obtain ⟨o1, o2, o3, o4, o5, o6⟩ := ho
  have h196 := fd_196 hW hH
  refine ms_run (pc' := 574) (lv' := [(0, .ref b), (1, .ref x), (2, .ref m), (3, .ref o), (4, .int (nI i))]) (st' := [.int ((nI i) + 1), .ref b, .ref x]) _ (ms_deC dL_law_568 (ms_deC dL_law_569 (ms_deC dL_law_570 (ms_deC dL_law_572 (ms_deC dL_law_573 ms_deN))))) rfl rfl ?_
  refine ms_sld dL_law_574 rfl (sc_in (j := 1) (by omega) (by omega)) ?_
  rw [show (nI i + 1).toNatClampNeg = i + 1 from sc_at (j := 1) (by omega)]
  refine ms_run (pc' := 580) (lv' := [(0, .ref b), (1, .ref x), (2, .ref m), (3, .ref o), (4, .int (nI i))]) (st' := [.int ((nI i) + 2), .ref b, .int (xs (i + 1)), .ref x]) _ (ms_deC dL_law_575 (ms_deC dL_law_576 (ms_deC dL_law_578 (ms_deC dL_law_579 ms_deN)))) rfl rfl ?_
  refine ms_sld dL_law_580 rfl (sc_in (j := 2) (by omega) (by omega)) ?_
  rw [show (nI i + 2).toNatClampNeg = i + 2 from sc_at (j := 2) (by omega)]
  refine ms_run (pc' := 586) (lv' := [(0, .ref b), (1, .ref x), (2, .ref m), (3, .ref o), (4, .int (nI i))]) (st' := [.int ((nI i) + 3), .ref b, .int (xs (i + 2)), .int (xs (i + 1)), .ref x]) _ (ms_deC dL_law_581 (ms_deC dL_law_582 (ms_deC dL_law_584 (ms_deC dL_law_585 ms_deN)))) rfl rfl ?_
  refine ms_sld dL_law_586 rfl (sc_in (j := 3) (by omega) (by omega)) ?_
  rw [show (nI i + 3).toNatClampNeg = i + 3 from sc_at (j := 3) (by omega)]
  refine ms_run (pc' := 588) (lv' := [(0, .ref b), (1, .ref x), (2, .ref m), (3, .ref o), (4, .int (nI i))]) (st' := [.ref o, .int (xs (i + 3)), .int (xs (i + 2)), .int (xs (i + 1)), .ref x]) _ (ms_deC dL_law_587 ms_deN) rfl rfl ?_
  refine ms_W.room (k2 := 1 + (393 + kr)) (z2 := 6 + (12714 + zr)) ?_ (by omega) (by omega)
  refine ms_callSX (As := [.ref x, .int (xs (i + 1)), .int (xs (i + 2)), .int (xs (i + 3)), .ref o]) dL_law_588 (c_L_far ho9 hS5 hoo hro hW hH (xs (i + 1)) (xs (i + 2)) (xs (i + 3))) cs_L_111 (List.cons_ne_nil _ _) rfl ⟨Nat.le_of_ble_eq_true rfl, Nat.le_of_ble_eq_true rfl⟩ rfl (Nat.le_of_ble_eq_true rfl) (fun v9 n9 K9 hp9 => ?_) (fun E9 n9 K9 hp9 => hp9.noX)
  cases hth : (th_far W H (xs (i + 1)) (xs (i + 2)) (xs (i + 3))) with
  | some E9 =>
    obtain ⟨hn9, hv9, hG9⟩ := hp9.t hth
    obtain ⟨t9, ht9, ht0⟩ : ∃ t9 : Int32, (fun _ => 1) E9 = t9 ∧ ¬ t9 = 0 := ⟨_, rfl, cd1_n E9⟩
    have hv8 : v9 = some (Value.int t9) := hv9.trans (congrArg (fun q => some (Value.int q)) ht9)
    subst hv8
    subst hG9
    have hl9 : md_lt n9 m aw am ai ah := ⟨by omega, by omega, by omega, by omega, by omega⟩
    refine ms_run (pc' := 599) (lv' := [(5, .int t9), (0, .ref b), (1, .ref x), (2, .ref m), (3, .ref o), (4, .int (nI i))]) (st' := [.int ((nI i) + 1), .ref b, .ref m]) _ (ms_deC dL_law_591 (ms_deC dL_law_593 (ms_deC dL_law_594 (ms_deC dL_law_595 (ms_deC dL_law_597 (ms_deC dL_law_598 ms_deN)))))) rfl rfl ?_
    refine ms_sld dL_law_599 rfl (sc_in (j := 1) (by omega) (by omega)) ?_
    rw [show (nI i + 1).toNatClampNeg = i + 1 from sc_at (j := 1) (by omega)]
    refine ms_run (pc' := 605) (lv' := [(5, .int t9), (0, .ref b), (1, .ref x), (2, .ref m), (3, .ref o), (4, .int (nI i))]) (st' := [.int ((nI i) + 2), .ref b, .int (xs (i + 1)), .ref m]) _ (ms_deC dL_law_600 (ms_deC dL_law_601 (ms_deC dL_law_603 (ms_deC dL_law_604 ms_deN)))) rfl rfl ?_
    refine ms_sld dL_law_605 rfl (sc_in (j := 2) (by omega) (by omega)) ?_
    rw [show (nI i + 2).toNatClampNeg = i + 2 from sc_at (j := 2) (by omega)]
    refine ms_run (pc' := 611) (lv' := [(5, .int t9), (0, .ref b), (1, .ref x), (2, .ref m), (3, .ref o), (4, .int (nI i))]) (st' := [.int ((nI i) + 3), .ref b, .int (xs (i + 2)), .int (xs (i + 1)), .ref m]) _ (ms_deC dL_law_606 (ms_deC dL_law_607 (ms_deC dL_law_609 (ms_deC dL_law_610 ms_deN)))) rfl rfl ?_
    refine ms_sld dL_law_611 rfl (sc_in (j := 3) (by omega) (by omega)) ?_
    rw [show (nI i + 3).toNatClampNeg = i + 3 from sc_at (j := 3) (by omega)]
    refine ms_W.room (k2 := 2 + kr) (z2 := 392 + zr) ?_ (by omega) (by omega)
    refine ms_callV (As := [.int (xs (i + 1)), .int (xs (i + 2)), .int (xs (i + 3))]) dL_law_612 (c_X6_far_ hM6 hl9 hW hH hW0 hc hne hL9 hmm hds hd (show 20 * k < 1000000 by omega) hV (xs (i + 1)) (xs (i + 2)) (xs (i + 3))) cv_L_113 hM6.1 rfl ⟨Nat.le_of_ble_eq_true rfl, Nat.le_of_ble_eq_true rfl⟩ rfl (Nat.le_of_ble_eq_true rfl) (fun v8 n8 K8 hp8 => ?_)
    obtain ⟨hn8, hF8, hv7, hq8⟩ := hp8.t hth
    subst hv7
    have hM8 : md_at K8 m aw am ai ah W H t9 X.2.2.2 dr pa cnt wl mm X.2.1 X.1 := by rw [← ht9]; exact hq8
    have hS8 := hS5.co ho9 (fun a ha => hF8 a (by omega) (by rintro (z9 | z9 | z9 | z9 | z9) <;> omega))
    have hro8 := (hF8 o (by omega) (by rintro (z9 | z9 | z9 | z9 | z9) <;> omega)).trans hro
    refine ms_run (pc' := 618) (lv' := [(6, .int 0), (5, .int t9), (0, .ref b), (1, .ref x), (2, .ref m), (3, .ref o), (4, .int (nI i))]) (st' := [.ref m]) _ (ms_deC dL_law_615 (ms_deC dL_law_617 ms_deN)) rfl rfl ?_
    refine ms_callVp (As := []) dL_law_618 (c_X6_thrown hM8) cv_L_93 hM8.1 rfl ⟨Nat.le_of_ble_eq_true rfl, Nat.le_of_ble_eq_true rfl⟩ rfl (Nat.le_of_ble_eq_true rfl) ?_
    refine ms_run (pc' := 623) (lv' := [(6, .int 0), (5, .int t9), (0, .ref b), (1, .ref x), (2, .ref m), (3, .ref o), (4, .int (nI i))]) (st' := [.int t9, .int t9]) _ (ms_deC dL_law_621 ms_deN) rfl rfl ?_
    refine ms_icmp_eq (tgt := 628) dL_law_623 (by decide) (fun h_623 => ?_) (fun h_623 => ?_)
    · skip
      refine ms_run (pc' := 630) (lv' := [(6, .int 0), (5, .int t9), (0, .ref b), (1, .ref x), (2, .ref m), (3, .ref o), (4, .int (nI i))]) (st' := [.int t9]) _ (ms_deC dL_law_628 ms_deN) rfl rfl ?_
      refine ms_if_ne (tgt := 645) dL_law_630 (by decide) (fun h_630 => ?_) (fun h_630 => ?_)
      · skip
        refine ms_goto (tgt := 1736) dL_law_645 (by decide) ?_
        refine ms_W.room (k2 := kr) (z2 := zr) ?_ (by omega) (by omega)
        refine ms_W.sub (lv2 := [(0, _), (1, _), (2, _), (3, _), (4, _)]) ?_ [2, 3, 4, 5, 6] rfl
        exact kk n8 K8 ⟨aw, am, ai, ah, W, H, cnt, _, dr, pa, X, nr, wl, mk, ds, mm, hS8, hM8, ⟨by omega, by omega, by omega, by omega, by omega⟩, hne, hge, hnoe, ⟨hW0, hW, hH0, hH⟩, hc, hL9, hmm, hds, hd, hwl, (hV.mono (by omega)), (hhe.mono (by omega))⟩ ⟨by omega, _, hro8⟩
      · skip
        exact absurd (by first | exact h_630 | exact Decidable.not_not.mp h_630) ht0
    · skip
      exact absurd rfl h_623
  | none =>
    obtain ⟨hn9, hv9, K7, f7, hQ7, hf7, hK9⟩ := hp9.n hth
    subst hv9
    obtain ⟨hS7, hF7⟩ := hQ7
    have hK9o : K9 o = some (oR f7) := by rw [hK9]; exact ms_up_s _ _ _
    have hfr7 : ∀ a, a ≠ o → K9 a = K7 a := fun a h1 => by rw [hK9]; exact ms_up_n _ _ h1
    have hM9 : md_at K9 m aw am ai ah W H th X.2.2.2 dr pa cnt wl mm X.2.1 X.1 := hM6.co (fun a h1 => (hfr7 a (by rcases h1 with z9 | z9 | z9 | z9 | z9 <;> omega)).trans (hF7 a (by rcases h1 with z9 | z9 | z9 | z9 | z9 <;> omega)))
    have hl9 : md_lt n9 m aw am ai ah := ⟨by omega, by omega, by omega, by omega, by omega⟩
    refine ms_run (pc' := 599) (lv' := [(5, .int 0), (0, .ref b), (1, .ref x), (2, .ref m), (3, .ref o), (4, .int (nI i))]) (st' := [.int ((nI i) + 1), .ref b, .ref m]) _ (ms_deC dL_law_591 (ms_deC dL_law_593 (ms_deC dL_law_594 (ms_deC dL_law_595 (ms_deC dL_law_597 (ms_deC dL_law_598 ms_deN)))))) rfl rfl ?_
    refine ms_sld dL_law_599 rfl (sc_in (j := 1) (by omega) (by omega)) ?_
    rw [show (nI i + 1).toNatClampNeg = i + 1 from sc_at (j := 1) (by omega)]
    refine ms_run (pc' := 605) (lv' := [(5, .int 0), (0, .ref b), (1, .ref x), (2, .ref m), (3, .ref o), (4, .int (nI i))]) (st' := [.int ((nI i) + 2), .ref b, .int (xs (i + 1)), .ref m]) _ (ms_deC dL_law_600 (ms_deC dL_law_601 (ms_deC dL_law_603 (ms_deC dL_law_604 ms_deN)))) rfl rfl ?_
    refine ms_sld dL_law_605 rfl (sc_in (j := 2) (by omega) (by omega)) ?_
    rw [show (nI i + 2).toNatClampNeg = i + 2 from sc_at (j := 2) (by omega)]
    refine ms_run (pc' := 611) (lv' := [(5, .int 0), (0, .ref b), (1, .ref x), (2, .ref m), (3, .ref o), (4, .int (nI i))]) (st' := [.int ((nI i) + 3), .ref b, .int (xs (i + 2)), .int (xs (i + 1)), .ref m]) _ (ms_deC dL_law_606 (ms_deC dL_law_607 (ms_deC dL_law_609 (ms_deC dL_law_610 ms_deN)))) rfl rfl ?_
    refine ms_sld dL_law_611 rfl (sc_in (j := 3) (by omega) (by omega)) ?_
    rw [show (nI i + 3).toNatClampNeg = i + 3 from sc_at (j := 3) (by omega)]
    refine ms_W.room (k2 := 2 + kr) (z2 := 392 + zr) ?_ (by omega) (by omega)
    refine ms_callV (As := [.int (xs (i + 1)), .int (xs (i + 2)), .int (xs (i + 3))]) dL_law_612 (c_X6_far_ hM9 hl9 hW hH hW0 hc hne hL9 hmm hds hd (show 20 * k < 1000000 by omega) hV (xs (i + 1)) (xs (i + 2)) (xs (i + 3))) cv_L_113 hM9.1 rfl ⟨Nat.le_of_ble_eq_true rfl, Nat.le_of_ble_eq_true rfl⟩ rfl (Nat.le_of_ble_eq_true rfl) (fun v8 n8 K8 hp8 => ?_)
    obtain ⟨hn8, hF8, hv7, hq8⟩ := hp8.n hth
    subst hv7
    have hM8 := hq8
    have hS8 := hS7.co ho9 (fun a ha => (hF8 a (by omega) (by rintro (z9 | z9 | z9 | z9 | z9) <;> omega)).trans (hfr7 a (by omega)))
    have hro8 := (hF8 o (by omega) (by rintro (z9 | z9 | z9 | z9 | z9) <;> omega)).trans hK9o
    refine ms_run (pc' := 618) (lv' := [(6, .int (sq_ds (nI (W * H)) ds (xs (i + 1)) (gr_num (nI W) (nI H) (xs (i + 2)) (xs (i + 3))))), (5, .int 0), (0, .ref b), (1, .ref x), (2, .ref m), (3, .ref o), (4, .int (nI i))]) (st' := [.ref m]) _ (ms_deC dL_law_615 (ms_deC dL_law_617 ms_deN)) rfl rfl ?_
    refine ms_callVp (As := []) dL_law_618 (c_X6_thrown hM8) cv_L_93 hM8.1 rfl ⟨Nat.le_of_ble_eq_true rfl, Nat.le_of_ble_eq_true rfl⟩ rfl (Nat.le_of_ble_eq_true rfl) ?_
    refine ms_run (pc' := 623) (lv' := [(6, .int (sq_ds (nI (W * H)) ds (xs (i + 1)) (gr_num (nI W) (nI H) (xs (i + 2)) (xs (i + 3))))), (5, .int 0), (0, .ref b), (1, .ref x), (2, .ref m), (3, .ref o), (4, .int (nI i))]) (st' := [.int 0, .int 0]) _ (ms_deC dL_law_621 ms_deN) rfl rfl ?_
    refine ms_icmp_eq (tgt := 628) dL_law_623 (by decide) (fun _ => ?_) (fun h9 => absurd h9 (by decide))
    refine ms_run (pc' := 630) (lv' := [(6, .int (sq_ds (nI (W * H)) ds (xs (i + 1)) (gr_num (nI W) (nI H) (xs (i + 2)) (xs (i + 3))))), (5, .int 0), (0, .ref b), (1, .ref x), (2, .ref m), (3, .ref o), (4, .int (nI i))]) (st' := [.int 0]) _ (ms_deC dL_law_628 ms_deN) rfl rfl ?_
    refine ms_if_ne (tgt := 645) dL_law_630 (by decide) (fun h9 => absurd h9 (by decide)) (fun _ => ?_)
    refine ms_run (pc' := 635) (lv' := [(6, .int (sq_ds (nI (W * H)) ds (xs (i + 1)) (gr_num (nI W) (nI H) (xs (i + 2)) (xs (i + 3))))), (5, .int 0), (0, .ref b), (1, .ref x), (2, .ref m), (3, .ref o), (4, .int (nI i))]) (st' := [.int 0, .ref o]) _ (ms_deC dL_law_633 (ms_deC dL_law_634 ms_deN)) rfl rfl ?_
    refine ms_laload dL_law_635 hro8 (by unfold vp_in; decide) ?_
    rw [show f7 (0 : Int32).toNatClampNeg = ((sq_ds (nI (W * H)) ds (xs (i + 1)) (gr_num (nI W) (nI H) (xs (i + 2)) (xs (i + 3))))).toInt64 from hf7]
    refine ms_run (pc' := 639) (lv' := [(6, .int (sq_ds (nI (W * H)) ds (xs (i + 1)) (gr_num (nI W) (nI H) (xs (i + 2)) (xs (i + 3))))), (5, .int 0), (0, .ref b), (1, .ref x), (2, .ref m), (3, .ref o), (4, .int (nI i))]) (st' := [.long ((sq_ds (nI (W * H)) ds (xs (i + 1)) (gr_num (nI W) (nI H) (xs (i + 2)) (xs (i + 3)))).toInt64), .long ((sq_ds (nI (W * H)) ds (xs (i + 1)) (gr_num (nI W) (nI H) (xs (i + 2)) (xs (i + 3)))).toInt64)]) _ (ms_deC dL_law_636 (ms_deC dL_law_638 ms_deN)) rfl rfl ?_
    refine ms_lcmp dL_law_639 ?_
    rw [lg_same]
    refine ms_if_eq (tgt := 645) dL_law_640 (by decide) (fun _ => ?_) (fun h9 => absurd h9 (by decide))
    refine ms_goto (tgt := 1736) dL_law_645 (by decide) ?_
    refine ms_W.room (k2 := kr) (z2 := zr) ?_ (by omega) (by omega)
    refine ms_W.sub (lv2 := [(0, _), (1, _), (2, _), (3, _), (4, _)]) ?_ [2, 3, 4, 5, 6] rfl
    exact kk n8 K8 ⟨aw, am, ai, ah, W, H, cnt, _, dr, pa, X, nr, wl, mk, ds, mm, hS8, hM8, ⟨by omega, by omega, by omega, by omega, by omega⟩, hne, hge, hnoe, ⟨hW0, hW, hH0, hH⟩, hc, hL9, hmm, hds, hd, hwl, (hV.mono (by omega)), (hhe.mono (by omega))⟩ ⟨by omega, _, hro8⟩
set_option maxHeartbeats 1000000 in
set_option maxRecDepth 20000 in
theorem cs_farthest {x g q c j q2 c2 o m b L k i n : Nat} {xs : Nat → Int32} {G : ms_H} {P : ms_P} {kr zr : Nat} (ho : ox x g q c j q2 c2) (hoo : c2 + 29 ≤ o) (hS : lS x g q c j q2 c2 o m k n G) (hO : lo_at o n G) (hk : k < 512) (hi : i + 5 < L) (hL : L ≤ 3072) (kk : ∀ n1 G1, lS x g q c j q2 c2 o m (k + 1) n1 G1 → lo_at o n1 G1 → ms_W false (m_L_lw b L xs) P 1736 [(0, .ref b), (1, .ref x), (2, .ref m), (3, .ref o), (4, .int (nI i))] [] n1 G1 kr zr) : ms_W false (m_L_lw b L xs) P 648 [(0, .ref b), (1, .ref x), (2, .ref m), (3, .ref o), (4, .int (nI i))] [] n G (394 + kr) (12720 + zr) := by
  obtain ⟨aw, am, ai, ah, W, H, cnt, th, dr, pa, X, nr, wl, mk, ds, mm, hS5, hM6, hl, hne, hge, hnoe, hWH, hc, hL9, hmm, hds, hd, hwl, hV, hhe⟩ := hS
  obtain ⟨hW0, hW, hH0, hH⟩ := hWH
  obtain ⟨hon, fo, hro⟩ := hO
  have hp : 0 < W * H := Nat.mul_pos hW0 hH0
  obtain ⟨l1, l2, l3, l4, l5⟩ := id hl
  obtain ⟨g1, g2, g3, g4, g5⟩ := id hge
  obtain ⟨e1, e2, e3, e4, e5⟩ := id hnoe
  have ho9 := ho
  obtain ⟨o1, o2, o3, o4, o5, o6⟩ := ho
  have h196 := fd_196 hW hH
  refine ms_run (pc' := 654) (lv' := [(0, .ref b), (1, .ref x), (2, .ref m), (3, .ref o), (4, .int (nI i))]) (st' := [.int ((nI i) + 1), .ref b, .ref x]) _ (ms_deC dL_law_648 (ms_deC dL_law_649 (ms_deC dL_law_650 (ms_deC dL_law_652 (ms_deC dL_law_653 ms_deN))))) rfl rfl ?_
  refine ms_sld dL_law_654 rfl (sc_in (j := 1) (by omega) (by omega)) ?_
  rw [show (nI i + 1).toNatClampNeg = i + 1 from sc_at (j := 1) (by omega)]
  refine ms_run (pc' := 656) (lv' := [(0, .ref b), (1, .ref x), (2, .ref m), (3, .ref o), (4, .int (nI i))]) (st' := [.ref o, .int (xs (i + 1)), .ref x]) _ (ms_deC dL_law_655 ms_deN) rfl rfl ?_
  refine ms_W.room (k2 := 1 + (393 + kr)) (z2 := 6 + (12714 + zr)) ?_ (by omega) (by omega)
  refine ms_callSX (As := [.ref x, .int (xs (i + 1)), .ref o]) dL_law_656 (c_L_farthest ho9 hS5 hoo hro hW hH (xs (i + 1))) cs_L_114 (List.cons_ne_nil _ _) rfl ⟨Nat.le_of_ble_eq_true rfl, Nat.le_of_ble_eq_true rfl⟩ rfl (Nat.le_of_ble_eq_true rfl) (fun v9 n9 K9 hp9 => ?_) (fun E9 n9 K9 hp9 => hp9.noX)
  cases hth : (th_goal (xs (i + 1))) with
  | some E9 =>
    obtain ⟨hn9, hv9, hG9⟩ := hp9.t hth
    obtain ⟨t9, ht9, ht0⟩ : ∃ t9 : Int32, (fun _ => 1) E9 = t9 ∧ ¬ t9 = 0 := ⟨_, rfl, cd1_n E9⟩
    have hv8 : v9 = some (Value.int t9) := hv9.trans (congrArg (fun q => some (Value.int q)) ht9)
    subst hv8
    subst hG9
    have hl9 : md_lt n9 m aw am ai ah := ⟨by omega, by omega, by omega, by omega, by omega⟩
    refine ms_run (pc' := 667) (lv' := [(5, .int t9), (0, .ref b), (1, .ref x), (2, .ref m), (3, .ref o), (4, .int (nI i))]) (st' := [.int ((nI i) + 1), .ref b, .ref m]) _ (ms_deC dL_law_659 (ms_deC dL_law_661 (ms_deC dL_law_662 (ms_deC dL_law_663 (ms_deC dL_law_665 (ms_deC dL_law_666 ms_deN)))))) rfl rfl ?_
    refine ms_sld dL_law_667 rfl (sc_in (j := 1) (by omega) (by omega)) ?_
    rw [show (nI i + 1).toNatClampNeg = i + 1 from sc_at (j := 1) (by omega)]
    refine ms_W.room (k2 := 2 + kr) (z2 := 392 + zr) ?_ (by omega) (by omega)
    refine ms_callV (As := [.int (xs (i + 1))]) dL_law_668 (c_X6_farthest hM6 hl9 hW hH hW0 hc hne hL9 hmm hds hd (show 20 * k < 1000000 by omega) hV (xs (i + 1))) cv_L_117 hM6.1 rfl ⟨Nat.le_of_ble_eq_true rfl, Nat.le_of_ble_eq_true rfl⟩ rfl (Nat.le_of_ble_eq_true rfl) (fun v8 n8 K8 hp8 => ?_)
    obtain ⟨hn8, hF8, hv7, hq8⟩ := hp8.t hth
    subst hv7
    have hM8 : md_at K8 m aw am ai ah W H t9 X.2.2.2 dr pa cnt wl mm X.2.1 X.1 := by rw [← ht9]; exact hq8
    have hS8 := hS5.co ho9 (fun a ha => hF8 a (by omega) (by rintro (z9 | z9 | z9 | z9 | z9) <;> omega))
    have hro8 := (hF8 o (by omega) (by rintro (z9 | z9 | z9 | z9 | z9) <;> omega)).trans hro
    refine ms_run (pc' := 674) (lv' := [(6, .int 0), (5, .int t9), (0, .ref b), (1, .ref x), (2, .ref m), (3, .ref o), (4, .int (nI i))]) (st' := [.ref m]) _ (ms_deC dL_law_671 (ms_deC dL_law_673 ms_deN)) rfl rfl ?_
    refine ms_callVp (As := []) dL_law_674 (c_X6_thrown hM8) cv_L_93 hM8.1 rfl ⟨Nat.le_of_ble_eq_true rfl, Nat.le_of_ble_eq_true rfl⟩ rfl (Nat.le_of_ble_eq_true rfl) ?_
    refine ms_run (pc' := 679) (lv' := [(6, .int 0), (5, .int t9), (0, .ref b), (1, .ref x), (2, .ref m), (3, .ref o), (4, .int (nI i))]) (st' := [.int t9, .int t9]) _ (ms_deC dL_law_677 ms_deN) rfl rfl ?_
    refine ms_icmp_eq (tgt := 684) dL_law_679 (by decide) (fun h_679 => ?_) (fun h_679 => ?_)
    · skip
      refine ms_run (pc' := 686) (lv' := [(6, .int 0), (5, .int t9), (0, .ref b), (1, .ref x), (2, .ref m), (3, .ref o), (4, .int (nI i))]) (st' := [.int t9]) _ (ms_deC dL_law_684 ms_deN) rfl rfl ?_
      refine ms_if_ne (tgt := 701) dL_law_686 (by decide) (fun h_686 => ?_) (fun h_686 => ?_)
      · skip
        refine ms_goto (tgt := 1736) dL_law_701 (by decide) ?_
        refine ms_W.room (k2 := kr) (z2 := zr) ?_ (by omega) (by omega)
        refine ms_W.sub (lv2 := [(0, _), (1, _), (2, _), (3, _), (4, _)]) ?_ [2, 3, 4, 5, 6] rfl
        exact kk n8 K8 ⟨aw, am, ai, ah, W, H, cnt, _, dr, pa, X, nr, wl, mk, ds, mm, hS8, hM8, ⟨by omega, by omega, by omega, by omega, by omega⟩, hne, hge, hnoe, ⟨hW0, hW, hH0, hH⟩, hc, hL9, hmm, hds, hd, hwl, (hV.mono (by omega)), (hhe.mono (by omega))⟩ ⟨by omega, _, hro8⟩
      · skip
        exact absurd (by first | exact h_686 | exact Decidable.not_not.mp h_686) ht0
    · skip
      exact absurd rfl h_679
  | none =>
    obtain ⟨hn9, hv9, K7, f7, hQ7, hf7, hK9⟩ := hp9.n hth
    subst hv9
    obtain ⟨hS7, hF7⟩ := hQ7
    have hK9o : K9 o = some (oR f7) := by rw [hK9]; exact ms_up_s _ _ _
    have hfr7 : ∀ a, a ≠ o → K9 a = K7 a := fun a h1 => by rw [hK9]; exact ms_up_n _ _ h1
    have hM9 : md_at K9 m aw am ai ah W H th X.2.2.2 dr pa cnt wl mm X.2.1 X.1 := hM6.co (fun a h1 => (hfr7 a (by rcases h1 with z9 | z9 | z9 | z9 | z9 <;> omega)).trans (hF7 a (by rcases h1 with z9 | z9 | z9 | z9 | z9 <;> omega)))
    have hl9 : md_lt n9 m aw am ai ah := ⟨by omega, by omega, by omega, by omega, by omega⟩
    refine ms_run (pc' := 667) (lv' := [(5, .int 0), (0, .ref b), (1, .ref x), (2, .ref m), (3, .ref o), (4, .int (nI i))]) (st' := [.int ((nI i) + 1), .ref b, .ref m]) _ (ms_deC dL_law_659 (ms_deC dL_law_661 (ms_deC dL_law_662 (ms_deC dL_law_663 (ms_deC dL_law_665 (ms_deC dL_law_666 ms_deN)))))) rfl rfl ?_
    refine ms_sld dL_law_667 rfl (sc_in (j := 1) (by omega) (by omega)) ?_
    rw [show (nI i + 1).toNatClampNeg = i + 1 from sc_at (j := 1) (by omega)]
    refine ms_W.room (k2 := 2 + kr) (z2 := 392 + zr) ?_ (by omega) (by omega)
    refine ms_callV (As := [.int (xs (i + 1))]) dL_law_668 (c_X6_farthest hM9 hl9 hW hH hW0 hc hne hL9 hmm hds hd (show 20 * k < 1000000 by omega) hV (xs (i + 1))) cv_L_117 hM9.1 rfl ⟨Nat.le_of_ble_eq_true rfl, Nat.le_of_ble_eq_true rfl⟩ rfl (Nat.le_of_ble_eq_true rfl) (fun v8 n8 K8 hp8 => ?_)
    obtain ⟨hn8, hF8, hv7, hq8⟩ := hp8.n hth
    subst hv7
    have hM8 := hq8
    have hS8 := hS7.co ho9 (fun a ha => (hF8 a (by omega) (by rintro (z9 | z9 | z9 | z9 | z9) <;> omega)).trans (hfr7 a (by omega)))
    have hro8 := (hF8 o (by omega) (by rintro (z9 | z9 | z9 | z9 | z9) <;> omega)).trans hK9o
    refine ms_run (pc' := 674) (lv' := [(6, .int (mx (fun j => ds ((xs (i + 1)).toNatClampNeg * 196 + j)) (W * H))), (5, .int 0), (0, .ref b), (1, .ref x), (2, .ref m), (3, .ref o), (4, .int (nI i))]) (st' := [.ref m]) _ (ms_deC dL_law_671 (ms_deC dL_law_673 ms_deN)) rfl rfl ?_
    refine ms_callVp (As := []) dL_law_674 (c_X6_thrown hM8) cv_L_93 hM8.1 rfl ⟨Nat.le_of_ble_eq_true rfl, Nat.le_of_ble_eq_true rfl⟩ rfl (Nat.le_of_ble_eq_true rfl) ?_
    refine ms_run (pc' := 679) (lv' := [(6, .int (mx (fun j => ds ((xs (i + 1)).toNatClampNeg * 196 + j)) (W * H))), (5, .int 0), (0, .ref b), (1, .ref x), (2, .ref m), (3, .ref o), (4, .int (nI i))]) (st' := [.int 0, .int 0]) _ (ms_deC dL_law_677 ms_deN) rfl rfl ?_
    refine ms_icmp_eq (tgt := 684) dL_law_679 (by decide) (fun _ => ?_) (fun h9 => absurd h9 (by decide))
    refine ms_run (pc' := 686) (lv' := [(6, .int (mx (fun j => ds ((xs (i + 1)).toNatClampNeg * 196 + j)) (W * H))), (5, .int 0), (0, .ref b), (1, .ref x), (2, .ref m), (3, .ref o), (4, .int (nI i))]) (st' := [.int 0]) _ (ms_deC dL_law_684 ms_deN) rfl rfl ?_
    refine ms_if_ne (tgt := 701) dL_law_686 (by decide) (fun h9 => absurd h9 (by decide)) (fun _ => ?_)
    refine ms_run (pc' := 691) (lv' := [(6, .int (mx (fun j => ds ((xs (i + 1)).toNatClampNeg * 196 + j)) (W * H))), (5, .int 0), (0, .ref b), (1, .ref x), (2, .ref m), (3, .ref o), (4, .int (nI i))]) (st' := [.int 0, .ref o]) _ (ms_deC dL_law_689 (ms_deC dL_law_690 ms_deN)) rfl rfl ?_
    refine ms_laload dL_law_691 hro8 (by unfold vp_in; decide) ?_
    rw [show f7 (0 : Int32).toNatClampNeg = ((mx (fun j => ds ((xs (i + 1)).toNatClampNeg * 196 + j)) (W * H))).toInt64 from hf7]
    refine ms_run (pc' := 695) (lv' := [(6, .int (mx (fun j => ds ((xs (i + 1)).toNatClampNeg * 196 + j)) (W * H))), (5, .int 0), (0, .ref b), (1, .ref x), (2, .ref m), (3, .ref o), (4, .int (nI i))]) (st' := [.long ((mx (fun j => ds ((xs (i + 1)).toNatClampNeg * 196 + j)) (W * H)).toInt64), .long ((mx (fun j => ds ((xs (i + 1)).toNatClampNeg * 196 + j)) (W * H)).toInt64)]) _ (ms_deC dL_law_692 (ms_deC dL_law_694 ms_deN)) rfl rfl ?_
    refine ms_lcmp dL_law_695 ?_
    rw [lg_same]
    refine ms_if_eq (tgt := 701) dL_law_696 (by decide) (fun _ => ?_) (fun h9 => absurd h9 (by decide))
    refine ms_goto (tgt := 1736) dL_law_701 (by decide) ?_
    refine ms_W.room (k2 := kr) (z2 := zr) ?_ (by omega) (by omega)
    refine ms_W.sub (lv2 := [(0, _), (1, _), (2, _), (3, _), (4, _)]) ?_ [2, 3, 4, 5, 6] rfl
    exact kk n8 K8 ⟨aw, am, ai, ah, W, H, cnt, _, dr, pa, X, nr, wl, mk, ds, mm, hS8, hM8, ⟨by omega, by omega, by omega, by omega, by omega⟩, hne, hge, hnoe, ⟨hW0, hW, hH0, hH⟩, hc, hL9, hmm, hds, hd, hwl, (hV.mono (by omega)), (hhe.mono (by omega))⟩ ⟨by omega, _, hro8⟩
set_option maxHeartbeats 1000000 in
set_option maxRecDepth 20000 in
theorem cs_walker {x g q c j q2 c2 o m b L k i n : Nat} {xs : Nat → Int32} {G : ms_H} {P : ms_P} {kr zr : Nat} (ho : ox x g q c j q2 c2) (hoo : c2 + 29 ≤ o) (hS : lS x g q c j q2 c2 o m k n G) (hO : lo_at o n G) (hk : k < 512) (hi : i + 5 < L) (hL : L ≤ 3072) (kk : ∀ n1 G1, lS x g q c j q2 c2 o m (k + 1) n1 G1 → lo_at o n1 G1 → ms_W false (m_L_lw b L xs) P 1736 [(0, .ref b), (1, .ref x), (2, .ref m), (3, .ref o), (4, .int (nI i))] [] n1 G1 kr zr) : ms_W false (m_L_lw b L xs) P 704 [(0, .ref b), (1, .ref x), (2, .ref m), (3, .ref o), (4, .int (nI i))] [] n G (394 + kr) (12720 + zr) := by
  obtain ⟨aw, am, ai, ah, W, H, cnt, th, dr, pa, X, nr, wl, mk, ds, mm, hS5, hM6, hl, hne, hge, hnoe, hWH, hc, hL9, hmm, hds, hd, hwl, hV, hhe⟩ := hS
  obtain ⟨hW0, hW, hH0, hH⟩ := hWH
  obtain ⟨hon, fo, hro⟩ := hO
  have hp : 0 < W * H := Nat.mul_pos hW0 hH0
  obtain ⟨l1, l2, l3, l4, l5⟩ := id hl
  obtain ⟨g1, g2, g3, g4, g5⟩ := id hge
  obtain ⟨e1, e2, e3, e4, e5⟩ := id hnoe
  have ho9 := ho
  obtain ⟨o1, o2, o3, o4, o5, o6⟩ := ho
  have h196 := fd_196 hW hH
  refine ms_run (pc' := 710) (lv' := [(0, .ref b), (1, .ref x), (2, .ref m), (3, .ref o), (4, .int (nI i))]) (st' := [.int ((nI i) + 1), .ref b, .ref x]) _ (ms_deC dL_law_704 (ms_deC dL_law_705 (ms_deC dL_law_706 (ms_deC dL_law_708 (ms_deC dL_law_709 ms_deN))))) rfl rfl ?_
  refine ms_sld dL_law_710 rfl (sc_in (j := 1) (by omega) (by omega)) ?_
  rw [show (nI i + 1).toNatClampNeg = i + 1 from sc_at (j := 1) (by omega)]
  refine ms_run (pc' := 716) (lv' := [(0, .ref b), (1, .ref x), (2, .ref m), (3, .ref o), (4, .int (nI i))]) (st' := [.int ((nI i) + 2), .ref b, .int (xs (i + 1)), .ref x]) _ (ms_deC dL_law_711 (ms_deC dL_law_712 (ms_deC dL_law_714 (ms_deC dL_law_715 ms_deN)))) rfl rfl ?_
  refine ms_sld dL_law_716 rfl (sc_in (j := 2) (by omega) (by omega)) ?_
  rw [show (nI i + 2).toNatClampNeg = i + 2 from sc_at (j := 2) (by omega)]
  refine ms_run (pc' := 722) (lv' := [(0, .ref b), (1, .ref x), (2, .ref m), (3, .ref o), (4, .int (nI i))]) (st' := [.int ((nI i) + 3), .ref b, .int (xs (i + 2)), .int (xs (i + 1)), .ref x]) _ (ms_deC dL_law_717 (ms_deC dL_law_718 (ms_deC dL_law_720 (ms_deC dL_law_721 ms_deN)))) rfl rfl ?_
  refine ms_sld dL_law_722 rfl (sc_in (j := 3) (by omega) (by omega)) ?_
  rw [show (nI i + 3).toNatClampNeg = i + 3 from sc_at (j := 3) (by omega)]
  refine ms_run (pc' := 728) (lv' := [(0, .ref b), (1, .ref x), (2, .ref m), (3, .ref o), (4, .int (nI i))]) (st' := [.int ((nI i) + 4), .ref b, .int (xs (i + 3)), .int (xs (i + 2)), .int (xs (i + 1)), .ref x]) _ (ms_deC dL_law_723 (ms_deC dL_law_724 (ms_deC dL_law_726 (ms_deC dL_law_727 ms_deN)))) rfl rfl ?_
  refine ms_sld dL_law_728 rfl (sc_in (j := 4) (by omega) (by omega)) ?_
  rw [show (nI i + 4).toNatClampNeg = i + 4 from sc_at (j := 4) (by omega)]
  refine ms_run (pc' := 734) (lv' := [(0, .ref b), (1, .ref x), (2, .ref m), (3, .ref o), (4, .int (nI i))]) (st' := [.int ((nI i) + 5), .ref b, .int (xs (i + 4)), .int (xs (i + 3)), .int (xs (i + 2)), .int (xs (i + 1)), .ref x]) _ (ms_deC dL_law_729 (ms_deC dL_law_730 (ms_deC dL_law_732 (ms_deC dL_law_733 ms_deN)))) rfl rfl ?_
  refine ms_sld dL_law_734 rfl (sc_in (j := 5) (by omega) (by omega)) ?_
  rw [show (nI i + 5).toNatClampNeg = i + 5 from sc_at (j := 5) (by omega)]
  refine ms_run (pc' := 736) (lv' := [(0, .ref b), (1, .ref x), (2, .ref m), (3, .ref o), (4, .int (nI i))]) (st' := [.ref o, .int (xs (i + 5)), .int (xs (i + 4)), .int (xs (i + 3)), .int (xs (i + 2)), .int (xs (i + 1)), .ref x]) _ (ms_deC dL_law_735 ms_deN) rfl rfl ?_
  refine ms_W.room (k2 := 1 + (393 + kr)) (z2 := 6 + (12714 + zr)) ?_ (by omega) (by omega)
  refine ms_callSX (As := [.ref x, .int (xs (i + 1)), .int (xs (i + 2)), .int (xs (i + 3)), .int (xs (i + 4)), .int (xs (i + 5)), .ref o]) dL_law_736 (c_L_walker ho9 hS5 hoo hro (xs (i + 1)) (xs (i + 2)) (xs (i + 3)) (xs (i + 4)) (xs (i + 5)) hc) cs_L_118 (List.cons_ne_nil _ _) rfl ⟨Nat.le_of_ble_eq_true rfl, Nat.le_of_ble_eq_true rfl⟩ rfl (Nat.le_of_ble_eq_true rfl) (fun v9 n9 K9 hp9 => ?_) (fun E9 n9 K9 hp9 => hp9.noX)
  cases hth : (th_wlk W H wl mk cnt X.2.2.1 (xs (i + 1)) (xs (i + 2)) (xs (i + 3)) (xs (i + 4)) (xs (i + 5))) with
  | some E9 =>
    obtain ⟨hn9, hv9, hG9⟩ := hp9.t hth
    obtain ⟨t9, ht9, ht0⟩ : ∃ t9 : Int32, (fun e => if e = IOB then 1 else if e = IAE then 2 else 3) E9 = t9 ∧ ¬ t9 = 0 := ⟨_, rfl, cdm_n E9⟩
    have hv8 : v9 = some (Value.int t9) := hv9.trans (congrArg (fun q => some (Value.int q)) ht9)
    subst hv8
    subst hG9
    have hl9 : md_lt n9 m aw am ai ah := ⟨by omega, by omega, by omega, by omega, by omega⟩
    refine ms_run (pc' := 747) (lv' := [(5, .int t9), (0, .ref b), (1, .ref x), (2, .ref m), (3, .ref o), (4, .int (nI i))]) (st' := [.int ((nI i) + 1), .ref b, .ref m]) _ (ms_deC dL_law_739 (ms_deC dL_law_741 (ms_deC dL_law_742 (ms_deC dL_law_743 (ms_deC dL_law_745 (ms_deC dL_law_746 ms_deN)))))) rfl rfl ?_
    refine ms_sld dL_law_747 rfl (sc_in (j := 1) (by omega) (by omega)) ?_
    rw [show (nI i + 1).toNatClampNeg = i + 1 from sc_at (j := 1) (by omega)]
    refine ms_run (pc' := 753) (lv' := [(5, .int t9), (0, .ref b), (1, .ref x), (2, .ref m), (3, .ref o), (4, .int (nI i))]) (st' := [.int ((nI i) + 2), .ref b, .int (xs (i + 1)), .ref m]) _ (ms_deC dL_law_748 (ms_deC dL_law_749 (ms_deC dL_law_751 (ms_deC dL_law_752 ms_deN)))) rfl rfl ?_
    refine ms_sld dL_law_753 rfl (sc_in (j := 2) (by omega) (by omega)) ?_
    rw [show (nI i + 2).toNatClampNeg = i + 2 from sc_at (j := 2) (by omega)]
    refine ms_run (pc' := 759) (lv' := [(5, .int t9), (0, .ref b), (1, .ref x), (2, .ref m), (3, .ref o), (4, .int (nI i))]) (st' := [.int ((nI i) + 3), .ref b, .int (xs (i + 2)), .int (xs (i + 1)), .ref m]) _ (ms_deC dL_law_754 (ms_deC dL_law_755 (ms_deC dL_law_757 (ms_deC dL_law_758 ms_deN)))) rfl rfl ?_
    refine ms_sld dL_law_759 rfl (sc_in (j := 3) (by omega) (by omega)) ?_
    rw [show (nI i + 3).toNatClampNeg = i + 3 from sc_at (j := 3) (by omega)]
    refine ms_run (pc' := 765) (lv' := [(5, .int t9), (0, .ref b), (1, .ref x), (2, .ref m), (3, .ref o), (4, .int (nI i))]) (st' := [.int ((nI i) + 4), .ref b, .int (xs (i + 3)), .int (xs (i + 2)), .int (xs (i + 1)), .ref m]) _ (ms_deC dL_law_760 (ms_deC dL_law_761 (ms_deC dL_law_763 (ms_deC dL_law_764 ms_deN)))) rfl rfl ?_
    refine ms_sld dL_law_765 rfl (sc_in (j := 4) (by omega) (by omega)) ?_
    rw [show (nI i + 4).toNatClampNeg = i + 4 from sc_at (j := 4) (by omega)]
    refine ms_run (pc' := 771) (lv' := [(5, .int t9), (0, .ref b), (1, .ref x), (2, .ref m), (3, .ref o), (4, .int (nI i))]) (st' := [.int ((nI i) + 5), .ref b, .int (xs (i + 4)), .int (xs (i + 3)), .int (xs (i + 2)), .int (xs (i + 1)), .ref m]) _ (ms_deC dL_law_766 (ms_deC dL_law_767 (ms_deC dL_law_769 (ms_deC dL_law_770 ms_deN)))) rfl rfl ?_
    refine ms_sld dL_law_771 rfl (sc_in (j := 5) (by omega) (by omega)) ?_
    rw [show (nI i + 5).toNatClampNeg = i + 5 from sc_at (j := 5) (by omega)]
    refine ms_W.room (k2 := 1 + kr) (z2 := 8 + zr) ?_ (by omega) (by omega)
    refine ms_callV (As := [.int (xs (i + 1)), .int (xs (i + 2)), .int (xs (i + 3)), .int (xs (i + 4)), .int (xs (i + 5))]) dL_law_772 (c_X6_walker hM6 hl9 hW hH hW0 hc hne hL9 hmm hds hd (show 20 * k < 1000000 by omega) hV (xs (i + 1)) (xs (i + 2)) (xs (i + 3)) (xs (i + 4)) (xs (i + 5))) cv_L_121 hM6.1 rfl ⟨Nat.le_of_ble_eq_true rfl, Nat.le_of_ble_eq_true rfl⟩ rfl (Nat.le_of_ble_eq_true rfl) (fun v8 n8 K8 hp8 => ?_)
    obtain ⟨hn8, hF8, hv7, hq8⟩ := hp8.t hth
    subst hv7
    have hM8 : md_at K8 m aw am ai ah W H t9 X.2.2.2 dr pa cnt wl mm X.2.1 X.1 := by rw [← ht9]; exact hq8
    have hS8 := hS5.co ho9 (fun a ha => hF8 a (by omega) (by rintro (z9 | z9 | z9 | z9 | z9) <;> omega))
    have hro8 := (hF8 o (by omega) (by rintro (z9 | z9 | z9 | z9 | z9) <;> omega)).trans hro
    refine ms_run (pc' := 778) (lv' := [(6, .int 0), (5, .int t9), (0, .ref b), (1, .ref x), (2, .ref m), (3, .ref o), (4, .int (nI i))]) (st' := [.ref m]) _ (ms_deC dL_law_775 (ms_deC dL_law_777 ms_deN)) rfl rfl ?_
    refine ms_callVp (As := []) dL_law_778 (c_X6_thrown hM8) cv_L_93 hM8.1 rfl ⟨Nat.le_of_ble_eq_true rfl, Nat.le_of_ble_eq_true rfl⟩ rfl (Nat.le_of_ble_eq_true rfl) ?_
    refine ms_run (pc' := 783) (lv' := [(6, .int 0), (5, .int t9), (0, .ref b), (1, .ref x), (2, .ref m), (3, .ref o), (4, .int (nI i))]) (st' := [.int t9, .int t9]) _ (ms_deC dL_law_781 ms_deN) rfl rfl ?_
    refine ms_icmp_eq (tgt := 788) dL_law_783 (by decide) (fun h_783 => ?_) (fun h_783 => ?_)
    · skip
      refine ms_run (pc' := 790) (lv' := [(6, .int 0), (5, .int t9), (0, .ref b), (1, .ref x), (2, .ref m), (3, .ref o), (4, .int (nI i))]) (st' := [.int t9]) _ (ms_deC dL_law_788 ms_deN) rfl rfl ?_
      refine ms_if_ne (tgt := 805) dL_law_790 (by decide) (fun h_790 => ?_) (fun h_790 => ?_)
      · skip
        refine ms_goto (tgt := 1736) dL_law_805 (by decide) ?_
        refine ms_W.room (k2 := kr) (z2 := zr) ?_ (by omega) (by omega)
        refine ms_W.sub (lv2 := [(0, _), (1, _), (2, _), (3, _), (4, _)]) ?_ [2, 3, 4, 5, 6] rfl
        exact kk n8 K8 ⟨aw, am, ai, ah, W, H, cnt, _, dr, pa, X, nr, wl, mk, ds, mm, hS8, hM8, ⟨by omega, by omega, by omega, by omega, by omega⟩, hne, hge, hnoe, ⟨hW0, hW, hH0, hH⟩, hc, hL9, hmm, hds, hd, hwl, (hV.mono (by omega)), (hhe.mono (by omega))⟩ ⟨by omega, _, hro8⟩
      · skip
        exact absurd (by first | exact h_790 | exact Decidable.not_not.mp h_790) ht0
    · skip
      exact absurd rfl h_783
  | none =>
    obtain ⟨hn9, hv9, K7, f7, hQ7, hf7, hK9⟩ := hp9.n hth
    subst hv9
    obtain ⟨hS7, hF7⟩ := hQ7
    have hK9o : K9 o = some (oR f7) := by rw [hK9]; exact ms_up_s _ _ _
    have hfr7 : ∀ a, a ≠ o → K9 a = K7 a := fun a h1 => by rw [hK9]; exact ms_up_n _ _ h1
    have hM9 : md_at K9 m aw am ai ah W H th X.2.2.2 dr pa cnt wl mm X.2.1 X.1 := hM6.co (fun a h1 => (hfr7 a (by rcases h1 with z9 | z9 | z9 | z9 | z9 <;> omega)).trans (hF7 a (by rcases h1 with z9 | z9 | z9 | z9 | z9 <;> omega)))
    have hl9 : md_lt n9 m aw am ai ah := ⟨by omega, by omega, by omega, by omega, by omega⟩
    refine ms_run (pc' := 747) (lv' := [(5, .int 0), (0, .ref b), (1, .ref x), (2, .ref m), (3, .ref o), (4, .int (nI i))]) (st' := [.int ((nI i) + 1), .ref b, .ref m]) _ (ms_deC dL_law_739 (ms_deC dL_law_741 (ms_deC dL_law_742 (ms_deC dL_law_743 (ms_deC dL_law_745 (ms_deC dL_law_746 ms_deN)))))) rfl rfl ?_
    refine ms_sld dL_law_747 rfl (sc_in (j := 1) (by omega) (by omega)) ?_
    rw [show (nI i + 1).toNatClampNeg = i + 1 from sc_at (j := 1) (by omega)]
    refine ms_run (pc' := 753) (lv' := [(5, .int 0), (0, .ref b), (1, .ref x), (2, .ref m), (3, .ref o), (4, .int (nI i))]) (st' := [.int ((nI i) + 2), .ref b, .int (xs (i + 1)), .ref m]) _ (ms_deC dL_law_748 (ms_deC dL_law_749 (ms_deC dL_law_751 (ms_deC dL_law_752 ms_deN)))) rfl rfl ?_
    refine ms_sld dL_law_753 rfl (sc_in (j := 2) (by omega) (by omega)) ?_
    rw [show (nI i + 2).toNatClampNeg = i + 2 from sc_at (j := 2) (by omega)]
    refine ms_run (pc' := 759) (lv' := [(5, .int 0), (0, .ref b), (1, .ref x), (2, .ref m), (3, .ref o), (4, .int (nI i))]) (st' := [.int ((nI i) + 3), .ref b, .int (xs (i + 2)), .int (xs (i + 1)), .ref m]) _ (ms_deC dL_law_754 (ms_deC dL_law_755 (ms_deC dL_law_757 (ms_deC dL_law_758 ms_deN)))) rfl rfl ?_
    refine ms_sld dL_law_759 rfl (sc_in (j := 3) (by omega) (by omega)) ?_
    rw [show (nI i + 3).toNatClampNeg = i + 3 from sc_at (j := 3) (by omega)]
    refine ms_run (pc' := 765) (lv' := [(5, .int 0), (0, .ref b), (1, .ref x), (2, .ref m), (3, .ref o), (4, .int (nI i))]) (st' := [.int ((nI i) + 4), .ref b, .int (xs (i + 3)), .int (xs (i + 2)), .int (xs (i + 1)), .ref m]) _ (ms_deC dL_law_760 (ms_deC dL_law_761 (ms_deC dL_law_763 (ms_deC dL_law_764 ms_deN)))) rfl rfl ?_
    refine ms_sld dL_law_765 rfl (sc_in (j := 4) (by omega) (by omega)) ?_
    rw [show (nI i + 4).toNatClampNeg = i + 4 from sc_at (j := 4) (by omega)]
    refine ms_run (pc' := 771) (lv' := [(5, .int 0), (0, .ref b), (1, .ref x), (2, .ref m), (3, .ref o), (4, .int (nI i))]) (st' := [.int ((nI i) + 5), .ref b, .int (xs (i + 4)), .int (xs (i + 3)), .int (xs (i + 2)), .int (xs (i + 1)), .ref m]) _ (ms_deC dL_law_766 (ms_deC dL_law_767 (ms_deC dL_law_769 (ms_deC dL_law_770 ms_deN)))) rfl rfl ?_
    refine ms_sld dL_law_771 rfl (sc_in (j := 5) (by omega) (by omega)) ?_
    rw [show (nI i + 5).toNatClampNeg = i + 5 from sc_at (j := 5) (by omega)]
    refine ms_W.room (k2 := 1 + kr) (z2 := 8 + zr) ?_ (by omega) (by omega)
    refine ms_callV (As := [.int (xs (i + 1)), .int (xs (i + 2)), .int (xs (i + 3)), .int (xs (i + 4)), .int (xs (i + 5))]) dL_law_772 (c_X6_walker hM9 hl9 hW hH hW0 hc hne hL9 hmm hds hd (show 20 * k < 1000000 by omega) hV (xs (i + 1)) (xs (i + 2)) (xs (i + 3)) (xs (i + 4)) (xs (i + 5))) cv_L_121 hM9.1 rfl ⟨Nat.le_of_ble_eq_true rfl, Nat.le_of_ble_eq_true rfl⟩ rfl (Nat.le_of_ble_eq_true rfl) (fun v8 n8 K8 hp8 => ?_)
    obtain ⟨hn8, hF8, hv7, hq8⟩ := hp8.n hth
    subst hv7
    obtain ⟨hgl9, hnu9, hpc9, hmo9, hc8, hfr9⟩ : gl_is (xs (i + 1)) ∧ ¬ gr_num (nI W) (nI H) (xs (i + 4)) (xs (i + 5)) = -1 ∧ (1 ≤ (xs (i + 2)) ∧ (xs (i + 2)) ≤ 3) ∧ (0 ≤ (xs (i + 3)) ∧ (xs (i + 3)) ≤ 9) ∧ cnt < 24 ∧ cr_on X.2.2.1 (gr_num (nI W) (nI H) (xs (i + 4)) (xs (i + 5))) = -1 := by
      unfold th_wlk at hth
      rcases Decidable.em (¬ gl_is (xs (i + 1)) ∨ gr_num (nI W) (nI H) (xs (i + 4)) (xs (i + 5)) = -1) with z9 | z9
      · rw [if_pos z9] at hth; cases hth
      · rw [if_neg z9] at hth
        rcases Decidable.em ((xs (i + 2)) < 1 ∨ 3 < (xs (i + 2)) ∨ ¬ (0 ≤ (xs (i + 3)) ∧ (xs (i + 3)) ≤ 9)) with z8 | z8
        · rw [if_pos z8] at hth; cases hth
        · rw [if_neg z8] at hth
          split at hth
          · cases hth
          · next z7 =>
            exact ⟨Decidable.not_not.mp (fun z => z9 (Or.inl z)), fun z => z9 (Or.inr z), ⟨Int32.not_lt.mp (fun z => z8 (Or.inl z)), Int32.not_lt.mp (fun z => z8 (Or.inr (Or.inl z)))⟩, Decidable.not_not.mp (fun z => z8 (Or.inr (Or.inr z))), Nat.lt_of_not_le (fun z => z7 (Or.inl z)), Decidable.not_not.mp (fun z => z7 (Or.inr (Or.inr (Or.inr z))))⟩
    have hc9 : cnt + 1 ≤ 24 := hc8
    obtain ⟨ax9, ay9, hax9, hay9, -, -, hnm9⟩ := gr_num_has hW hH hnu9
    have hlf9 := fd_lt hax9 hay9
    have hV9 : wdV W H (cnt + 1) (20 * k) (adX cnt X (xs (i + 1)) (xs (i + 2)) (xs (i + 3)) (gr_num (nI W) (nI H) (xs (i + 4)) (xs (i + 5)))) := by
      rw [hnm9]; rw [hnm9, cr_onI X.2.2.1 (by omega)] at hfr9; exact hV.ad hW hH hc hgl9 hpc9 hmo9 hlf9 hfr9
    have hM8 := hq8
    have hS8 := hS7.co ho9 (fun a ha => (hF8 a (by omega) (by rintro (z9 | z9 | z9 | z9 | z9) <;> omega)).trans (hfr7 a (by omega)))
    have hro8 := (hF8 o (by omega) (by rintro (z9 | z9 | z9 | z9 | z9) <;> omega)).trans hK9o
    refine ms_run (pc' := 778) (lv' := [(6, .int (nI cnt)), (5, .int 0), (0, .ref b), (1, .ref x), (2, .ref m), (3, .ref o), (4, .int (nI i))]) (st' := [.ref m]) _ (ms_deC dL_law_775 (ms_deC dL_law_777 ms_deN)) rfl rfl ?_
    refine ms_callVp (As := []) dL_law_778 (c_X6_thrown hM8) cv_L_93 hM8.1 rfl ⟨Nat.le_of_ble_eq_true rfl, Nat.le_of_ble_eq_true rfl⟩ rfl (Nat.le_of_ble_eq_true rfl) ?_
    refine ms_run (pc' := 783) (lv' := [(6, .int (nI cnt)), (5, .int 0), (0, .ref b), (1, .ref x), (2, .ref m), (3, .ref o), (4, .int (nI i))]) (st' := [.int 0, .int 0]) _ (ms_deC dL_law_781 ms_deN) rfl rfl ?_
    refine ms_icmp_eq (tgt := 788) dL_law_783 (by decide) (fun _ => ?_) (fun h9 => absurd h9 (by decide))
    refine ms_run (pc' := 790) (lv' := [(6, .int (nI cnt)), (5, .int 0), (0, .ref b), (1, .ref x), (2, .ref m), (3, .ref o), (4, .int (nI i))]) (st' := [.int 0]) _ (ms_deC dL_law_788 ms_deN) rfl rfl ?_
    refine ms_if_ne (tgt := 805) dL_law_790 (by decide) (fun h9 => absurd h9 (by decide)) (fun _ => ?_)
    refine ms_run (pc' := 795) (lv' := [(6, .int (nI cnt)), (5, .int 0), (0, .ref b), (1, .ref x), (2, .ref m), (3, .ref o), (4, .int (nI i))]) (st' := [.int 0, .ref o]) _ (ms_deC dL_law_793 (ms_deC dL_law_794 ms_deN)) rfl rfl ?_
    refine ms_laload dL_law_795 hro8 (by unfold vp_in; decide) ?_
    rw [show f7 (0 : Int32).toNatClampNeg = ((nI cnt)).toInt64 from hf7]
    refine ms_run (pc' := 799) (lv' := [(6, .int (nI cnt)), (5, .int 0), (0, .ref b), (1, .ref x), (2, .ref m), (3, .ref o), (4, .int (nI i))]) (st' := [.long ((nI cnt).toInt64), .long ((nI cnt).toInt64)]) _ (ms_deC dL_law_796 (ms_deC dL_law_798 ms_deN)) rfl rfl ?_
    refine ms_lcmp dL_law_799 ?_
    rw [lg_same]
    refine ms_if_eq (tgt := 805) dL_law_800 (by decide) (fun _ => ?_) (fun h9 => absurd h9 (by decide))
    refine ms_goto (tgt := 1736) dL_law_805 (by decide) ?_
    refine ms_W.room (k2 := kr) (z2 := zr) ?_ (by omega) (by omega)
    refine ms_W.sub (lv2 := [(0, _), (1, _), (2, _), (3, _), (4, _)]) ?_ [2, 3, 4, 5, 6] rfl
    exact kk n8 K8 ⟨aw, am, ai, ah, W, H, (cnt + 1), _, dr, pa, (adX cnt X (xs (i + 1)) (xs (i + 2)) (xs (i + 3)) (gr_num (nI W) (nI H) (xs (i + 4)) (xs (i + 5)))), nr, wl, mk, ds, mm, hS8, hM8, ⟨by omega, by omega, by omega, by omega, by omega⟩, hne, hge, hnoe, ⟨hW0, hW, hH0, hH⟩, hc9, hL9, hmm, hds, hd, hwl, (hV9.mono (by omega)), (hhe.mono (by omega))⟩ ⟨by omega, _, hro8⟩

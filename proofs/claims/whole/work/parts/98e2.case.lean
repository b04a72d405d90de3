/-! the law: the cases (3) -/
set_option maxHeartbeats 1000000 in
set_option maxRecDepth 20000 in
theorem cs_jam {x g q c j q2 c2 o m b L k i n : Nat} {xs : Nat → Int32} {G : ms_H} {P : ms_P} {kr zr : Nat} (ho : ox x g q c j q2 c2) (hoo : c2 + 29 ≤ o) (hS : lS x g q c j q2 c2 o m k n G) (hO : lo_at o n G) (hk : k < 512) (hi : i + 5 < L) (hL : L ≤ 3072) (kk : ∀ n1 G1, lS x g q c j q2 c2 o m (k + 1) n1 G1 → lo_at o n1 G1 → ms_W false (m_L_lw b L xs) P 1736 [(0, .ref b), (1, .ref x), (2, .ref m), (3, .ref o), (4, .int (nI i))] [] n1 G1 kr zr) : ms_W false (m_L_lw b L xs) P 1273 [(0, .ref b), (1, .ref x), (2, .ref m), (3, .ref o), (4, .int (nI i))] [] n G (394 + kr) (12720 + zr) := by
  obtain ⟨aw, am, ai, ah, W, H, cnt, th, dr, pa, X, nr, wl, mk, ds, mm, hS5, hM6, hl, hne, hge, hnoe, hWH, hc, hL9, hmm, hds, hd, hwl, hV, hhe⟩ := hS
  obtain ⟨hW0, hW, hH0, hH⟩ := hWH
  obtain ⟨hon, fo, hro⟩ := hO
  have hp : 0 < W * H := Nat.mul_pos hW0 hH0
  obtain ⟨l1, l2, l3, l4, l5⟩ := id hl
  obtain ⟨g1, g2, g3, g4, g5⟩ := id hge
  obtain ⟨e1, e2, e3, e4, e5⟩ := id hnoe
  have ho9 := ho
  obtain ⟨o1, o2, o3, o4, o5, o6⟩ := ho
  have h196 := fd_196 hW hH
  refine ms_run (pc' := 1279) (lv' := [(0, .ref b), (1, .ref x), (2, .ref m), (3, .ref o), (4, .int (nI i))]) (st' := [.int ((nI i) + 1), .ref b, .ref x]) _ (ms_deC dL_law_1273 (ms_deC dL_law_1274 (ms_deC dL_law_1275 (ms_deC dL_law_1277 (ms_deC dL_law_1278 ms_deN))))) rfl rfl ?_
  refine ms_sld dL_law_1279 rfl (sc_in (j := 1) (by omega) (by omega)) ?_
  rw [show (nI i + 1).toNatClampNeg = i + 1 from sc_at (j := 1) (by omega)]
  refine ms_run (pc' := 1281) (lv' := [(0, .ref b), (1, .ref x), (2, .ref m), (3, .ref o), (4, .int (nI i))]) (st' := [.ref o, .int (xs (i + 1)), .ref x]) _ (ms_deC dL_law_1280 ms_deN) rfl rfl ?_
  refine ms_W.room (k2 := 1 + (393 + kr)) (z2 := 6 + (12714 + zr)) ?_ (by omega) (by omega)
  refine ms_callSX (As := [.ref x, .int (xs (i + 1)), .ref o]) dL_law_1281 (c_L_jam ho9 hS5 hoo hro hc (xs (i + 1))) cs_L_147 (List.cons_ne_nil _ _) rfl ⟨Nat.le_of_ble_eq_true rfl, Nat.le_of_ble_eq_true rfl⟩ rfl (Nat.le_of_ble_eq_true rfl) (fun v9 n9 K9 hp9 => ?_) (fun E9 n9 K9 hp9 => hp9.noX)
  cases hth : (th_wk cnt (xs (i + 1))) with
  | some E9 =>
    obtain ⟨hn9, hv9, hG9⟩ := hp9.t hth
    obtain ⟨t9, ht9, ht0⟩ : ∃ t9 : Int32, (fun _ => 1) E9 = t9 ∧ ¬ t9 = 0 := ⟨_, rfl, cd1_n E9⟩
    have hv8 : v9 = some (Value.int t9) := hv9.trans (congrArg (fun q => some (Value.int q)) ht9)
    subst hv8
    subst hG9
    have hl9 : md_lt n9 m aw am ai ah := ⟨by omega, by omega, by omega, by omega, by omega⟩
    refine ms_run (pc' := 1292) (lv' := [(5, .int t9), (0, .ref b), (1, .ref x), (2, .ref m), (3, .ref o), (4, .int (nI i))]) (st' := [.int ((nI i) + 1), .ref b, .ref m]) _ (ms_deC dL_law_1284 (ms_deC dL_law_1286 (ms_deC dL_law_1287 (ms_deC dL_law_1288 (ms_deC dL_law_1290 (ms_deC dL_law_1291 ms_deN)))))) rfl rfl ?_
    refine ms_sld dL_law_1292 rfl (sc_in (j := 1) (by omega) (by omega)) ?_
    rw [show (nI i + 1).toNatClampNeg = i + 1 from sc_at (j := 1) (by omega)]
    refine ms_W.room (k2 := 1 + kr) (z2 := 24 + zr) ?_ (by omega) (by omega)
    refine ms_callV (As := [.int (xs (i + 1))]) dL_law_1293 (c_X6_jam hM6 hl9 hW hH hW0 hc hne hL9 hmm hds hd (show 20 * k < 1000000 by omega) hV (xs (i + 1))) cv_L_149 hM6.1 rfl ⟨Nat.le_of_ble_eq_true rfl, Nat.le_of_ble_eq_true rfl⟩ rfl (Nat.le_of_ble_eq_true rfl) (fun v8 n8 K8 hp8 => ?_)
    obtain ⟨hn8, hF8, hv7, hq8⟩ := hp8.t hth
    subst hv7
    have hM8 : md_at K8 m aw am ai ah W H t9 X.2.2.2 dr pa cnt wl mm X.2.1 X.1 := by rw [← ht9]; exact hq8
    have hS8 := hS5.co ho9 (fun a ha => hF8 a (by omega) (by rintro (z9 | z9 | z9 | z9 | z9) <;> omega))
    have hro8 := (hF8 o (by omega) (by rintro (z9 | z9 | z9 | z9 | z9) <;> omega)).trans hro
    refine ms_run (pc' := 1299) (lv' := [(6, .int 0), (5, .int t9), (0, .ref b), (1, .ref x), (2, .ref m), (3, .ref o), (4, .int (nI i))]) (st' := [.ref m]) _ (ms_deC dL_law_1296 (ms_deC dL_law_1298 ms_deN)) rfl rfl ?_
    refine ms_callVp (As := []) dL_law_1299 (c_X6_thrown hM8) cv_L_93 hM8.1 rfl ⟨Nat.le_of_ble_eq_true rfl, Nat.le_of_ble_eq_true rfl⟩ rfl (Nat.le_of_ble_eq_true rfl) ?_
    refine ms_run (pc' := 1304) (lv' := [(6, .int 0), (5, .int t9), (0, .ref b), (1, .ref x), (2, .ref m), (3, .ref o), (4, .int (nI i))]) (st' := [.int t9, .int t9]) _ (ms_deC dL_law_1302 ms_deN) rfl rfl ?_
    refine ms_icmp_eq (tgt := 1309) dL_law_1304 (by decide) (fun h_1304 => ?_) (fun h_1304 => ?_)
    · skip
      refine ms_run (pc' := 1311) (lv' := [(6, .int 0), (5, .int t9), (0, .ref b), (1, .ref x), (2, .ref m), (3, .ref o), (4, .int (nI i))]) (st' := [.int t9]) _ (ms_deC dL_law_1309 ms_deN) rfl rfl ?_
      refine ms_if_ne (tgt := 1326) dL_law_1311 (by decide) (fun h_1311 => ?_) (fun h_1311 => ?_)
      · skip
        refine ms_goto (tgt := 1736) dL_law_1326 (by decide) ?_
        refine ms_W.room (k2 := kr) (z2 := zr) ?_ (by omega) (by omega)
        refine ms_W.sub (lv2 := [(0, _), (1, _), (2, _), (3, _), (4, _)]) ?_ [2, 3, 4, 5, 6] rfl
        exact kk n8 K8 ⟨aw, am, ai, ah, W, H, cnt, _, dr, pa, X, nr, wl, mk, ds, mm, hS8, hM8, ⟨by omega, by omega, by omega, by omega, by omega⟩, hne, hge, hnoe, ⟨hW0, hW, hH0, hH⟩, hc, hL9, hmm, hds, hd, hwl, (hV.mono (by omega)), (hhe.mono (by omega))⟩ ⟨by omega, _, hro8⟩
      · skip
        exact absurd (by first | exact h_1311 | exact Decidable.not_not.mp h_1311) ht0
    · skip
      exact absurd rfl h_1304
  | none =>
    obtain ⟨hn9, hv9, K7, f7, hQ7, hf7, hK9⟩ := hp9.n hth
    subst hv9
    obtain ⟨hS7, hF7⟩ := hQ7
    have hK9o : K9 o = some (oR f7) := by rw [hK9]; exact ms_up_s _ _ _
    have hfr7 : ∀ a, a ≠ o → K9 a = K7 a := fun a h1 => by rw [hK9]; exact ms_up_n _ _ h1
    have hM9 : md_at K9 m aw am ai ah W H th X.2.2.2 dr pa cnt wl mm X.2.1 X.1 := hM6.co (fun a h1 => (hfr7 a (by rcases h1 with z9 | z9 | z9 | z9 | z9 <;> omega)).trans (hF7 a (by rcases h1 with z9 | z9 | z9 | z9 | z9 <;> omega)))
    have hl9 : md_lt n9 m aw am ai ah := ⟨by omega, by omega, by omega, by omega, by omega⟩
    refine ms_run (pc' := 1292) (lv' := [(5, .int 0), (0, .ref b), (1, .ref x), (2, .ref m), (3, .ref o), (4, .int (nI i))]) (st' := [.int ((nI i) + 1), .ref b, .ref m]) _ (ms_deC dL_law_1284 (ms_deC dL_law_1286 (ms_deC dL_law_1287 (ms_deC dL_law_1288 (ms_deC dL_law_1290 (ms_deC dL_law_1291 ms_deN)))))) rfl rfl ?_
    refine ms_sld dL_law_1292 rfl (sc_in (j := 1) (by omega) (by omega)) ?_
    rw [show (nI i + 1).toNatClampNeg = i + 1 from sc_at (j := 1) (by omega)]
    refine ms_W.room (k2 := 1 + kr) (z2 := 24 + zr) ?_ (by omega) (by omega)
    refine ms_callV (As := [.int (xs (i + 1))]) dL_law_1293 (c_X6_jam hM9 hl9 hW hH hW0 hc hne hL9 hmm hds hd (show 20 * k < 1000000 by omega) hV (xs (i + 1))) cv_L_149 hM9.1 rfl ⟨Nat.le_of_ble_eq_true rfl, Nat.le_of_ble_eq_true rfl⟩ rfl (Nat.le_of_ble_eq_true rfl) (fun v8 n8 K8 hp8 => ?_)
    obtain ⟨hn8, hF8, hv7, hq8⟩ := hp8.n hth
    subst hv7
    have hM8 := hq8
    have hS8 := hS7.co ho9 (fun a ha => (hF8 a (by omega) (by rintro (z9 | z9 | z9 | z9 | z9) <;> omega)).trans (hfr7 a (by omega)))
    have hro8 := (hF8 o (by omega) (by rintro (z9 | z9 | z9 | z9 | z9) <;> omega)).trans hK9o
    refine ms_run (pc' := 1299) (lv' := [(6, .int (jm_sz (jxX pa cnt nr X).1 (jxX pa cnt nr X).2.1 (nI (xs (i + 1)).toNatClampNeg))), (5, .int 0), (0, .ref b), (1, .ref x), (2, .ref m), (3, .ref o), (4, .int (nI i))]) (st' := [.ref m]) _ (ms_deC dL_law_1296 (ms_deC dL_law_1298 ms_deN)) rfl rfl ?_
    refine ms_callVp (As := []) dL_law_1299 (c_X6_thrown hM8) cv_L_93 hM8.1 rfl ⟨Nat.le_of_ble_eq_true rfl, Nat.le_of_ble_eq_true rfl⟩ rfl (Nat.le_of_ble_eq_true rfl) ?_
    refine ms_run (pc' := 1304) (lv' := [(6, .int (jm_sz (jxX pa cnt nr X).1 (jxX pa cnt nr X).2.1 (nI (xs (i + 1)).toNatClampNeg))), (5, .int 0), (0, .ref b), (1, .ref x), (2, .ref m), (3, .ref o), (4, .int (nI i))]) (st' := [.int 0, .int 0]) _ (ms_deC dL_law_1302 ms_deN) rfl rfl ?_
    refine ms_icmp_eq (tgt := 1309) dL_law_1304 (by decide) (fun _ => ?_) (fun h9 => absurd h9 (by decide))
    refine ms_run (pc' := 1311) (lv' := [(6, .int (jm_sz (jxX pa cnt nr X).1 (jxX pa cnt nr X).2.1 (nI (xs (i + 1)).toNatClampNeg))), (5, .int 0), (0, .ref b), (1, .ref x), (2, .ref m), (3, .ref o), (4, .int (nI i))]) (st' := [.int 0]) _ (ms_deC dL_law_1309 ms_deN) rfl rfl ?_
    refine ms_if_ne (tgt := 1326) dL_law_1311 (by decide) (fun h9 => absurd h9 (by decide)) (fun _ => ?_)
    refine ms_run (pc' := 1316) (lv' := [(6, .int (jm_sz (jxX pa cnt nr X).1 (jxX pa cnt nr X).2.1 (nI (xs (i + 1)).toNatClampNeg))), (5, .int 0), (0, .ref b), (1, .ref x), (2, .ref m), (3, .ref o), (4, .int (nI i))]) (st' := [.int 0, .ref o]) _ (ms_deC dL_law_1314 (ms_deC dL_law_1315 ms_deN)) rfl rfl ?_
    refine ms_laload dL_law_1316 hro8 (by unfold vp_in; decide) ?_
    rw [show f7 (0 : Int32).toNatClampNeg = ((jm_sz (jxX pa cnt nr X).1 (jxX pa cnt nr X).2.1 (nI (xs (i + 1)).toNatClampNeg))).toInt64 from hf7]
    refine ms_run (pc' := 1320) (lv' := [(6, .int (jm_sz (jxX pa cnt nr X).1 (jxX pa cnt nr X).2.1 (nI (xs (i + 1)).toNatClampNeg))), (5, .int 0), (0, .ref b), (1, .ref x), (2, .ref m), (3, .ref o), (4, .int (nI i))]) (st' := [.long ((jm_sz (jxX pa cnt nr X).1 (jxX pa cnt nr X).2.1 (nI (xs (i + 1)).toNatClampNeg)).toInt64), .long ((jm_sz (jxX pa cnt nr X).1 (jxX pa cnt nr X).2.1 (nI (xs (i + 1)).toNatClampNeg)).toInt64)]) _ (ms_deC dL_law_1317 (ms_deC dL_law_1319 ms_deN)) rfl rfl ?_
    refine ms_lcmp dL_law_1320 ?_
    rw [lg_same]
    refine ms_if_eq (tgt := 1326) dL_law_1321 (by decide) (fun _ => ?_) (fun h9 => absurd h9 (by decide))
    refine ms_goto (tgt := 1736) dL_law_1326 (by decide) ?_
    refine ms_W.room (k2 := kr) (z2 := zr) ?_ (by omega) (by omega)
    refine ms_W.sub (lv2 := [(0, _), (1, _), (2, _), (3, _), (4, _)]) ?_ [2, 3, 4, 5, 6] rfl
    exact kk n8 K8 ⟨aw, am, ai, ah, W, H, cnt, _, dr, pa, X, nr, wl, mk, ds, mm, hS8, hM8, ⟨by omega, by omega, by omega, by omega, by omega⟩, hne, hge, hnoe, ⟨hW0, hW, hH0, hH⟩, hc, hL9, hmm, hds, hd, hwl, (hV.mono (by omega)), (hhe.mono (by omega))⟩ ⟨by omega, _, hro8⟩
set_option maxHeartbeats 1000000 in
set_option maxRecDepth 20000 in
theorem cs_meanSteps {x g q c j q2 c2 o m b L k i n : Nat} {xs : Nat → Int32} {G : ms_H} {P : ms_P} {kr zr : Nat} (ho : ox x g q c j q2 c2) (hoo : c2 + 29 ≤ o) (hS : lS x g q c j q2 c2 o m k n G) (hO : lo_at o n G) (hk : k < 512) (hi : i + 5 < L) (hL : L ≤ 3072) (kk : ∀ n1 G1, lS x g q c j q2 c2 o m (k + 1) n1 G1 → lo_at o n1 G1 → ms_W false (m_L_lw b L xs) P 1736 [(0, .ref b), (1, .ref x), (2, .ref m), (3, .ref o), (4, .int (nI i))] [] n1 G1 kr zr) : ms_W false (m_L_lw b L xs) P 1329 [(0, .ref b), (1, .ref x), (2, .ref m), (3, .ref o), (4, .int (nI i))] [] n G (394 + kr) (12720 + zr) := by
  obtain ⟨aw, am, ai, ah, W, H, cnt, th, dr, pa, X, nr, wl, mk, ds, mm, hS5, hM6, hl, hne, hge, hnoe, hWH, hc, hL9, hmm, hds, hd, hwl, hV, hhe⟩ := hS
  obtain ⟨hW0, hW, hH0, hH⟩ := hWH
  obtain ⟨hon, fo, hro⟩ := hO
  have hp : 0 < W * H := Nat.mul_pos hW0 hH0
  obtain ⟨l1, l2, l3, l4, l5⟩ := id hl
  obtain ⟨g1, g2, g3, g4, g5⟩ := id hge
  obtain ⟨e1, e2, e3, e4, e5⟩ := id hnoe
  have ho9 := ho
  obtain ⟨o1, o2, o3, o4, o5, o6⟩ := ho
  have h196 := fd_196 hW hH
  refine ms_run (pc' := 1330) (lv' := [(0, .ref b), (1, .ref x), (2, .ref m), (3, .ref o), (4, .int (nI i))]) (st' := [.ref x]) _ (ms_deC dL_law_1329 ms_deN) rfl rfl ?_
  refine ms_callV0 (As := []) dL_law_1330 (c_X5_meanSteps ho9 hS5 hc) cv_L_150 hS5.1 rfl ⟨Nat.le_of_ble_eq_true rfl, Nat.le_of_ble_eq_true rfl⟩ rfl (Nat.le_of_ble_eq_true rfl) (fun v9 n9 K9 hp9 => ?_)
  obtain ⟨hv9, hn9, hS7, hF7⟩ := hp9
  cases hv9
  have hK9o : K9 o = some (oR fo) := (hF7 o (by omega)).trans hro
  have hM9 : md_at K9 m aw am ai ah W H th X.2.2.2 dr pa cnt wl mm X.2.1 X.1 := hM6.co (fun a h1 => hF7 a (by rcases h1 with z9 | z9 | z9 | z9 | z9 <;> omega))
  have hl9 : md_lt n9 m aw am ai ah := ⟨by omega, by omega, by omega, by omega, by omega⟩
  refine ms_dstore (lv' := [(5, .double (mnX cnt X)), (0, .ref b), (1, .ref x), (2, .ref m), (3, .ref o), (4, .int (nI i))]) dL_law_1333 (show 5 + 1 < 9 by decide) rfl ?_
  refine ms_run (pc' := 1336) (lv' := [(5, .double (mnX cnt X)), (0, .ref b), (1, .ref x), (2, .ref m), (3, .ref o), (4, .int (nI i))]) (st' := [.ref m]) _ (ms_deC dL_law_1335 ms_deN) rfl rfl ?_
  refine ms_W.room (k2 := 0 + kr) (z2 := 0 + zr) ?_ (by omega) (by omega)
  refine ms_callV (As := []) dL_law_1336 (c_X6_meanSteps hM9 hl9 hW hH hW0 hc hne hL9 hmm hds hd (show 20 * k < 1000000 by omega) hV ) cv_L_154 hM9.1 rfl ⟨Nat.le_of_ble_eq_true rfl, Nat.le_of_ble_eq_true rfl⟩ rfl (Nat.le_of_ble_eq_true rfl) (fun v8 n8 K8 hp8 => ?_)
  obtain ⟨hn8, hF8, hv7, hM8⟩ := hp8.n rfl
  subst hv7
  have hS8 := hS7.co ho9 (fun a ha => hF8 a (by omega) (by rintro (z9 | z9 | z9 | z9 | z9) <;> omega))
  have hro8 := (hF8 o (by omega) (by rintro (z9 | z9 | z9 | z9 | z9) <;> omega)).trans hK9o
  refine ms_dstore (lv' := [(7, .double (mnX cnt X)), (5, .double (mnX cnt X)), (0, .ref b), (1, .ref x), (2, .ref m), (3, .ref o), (4, .int (nI i))]) dL_law_1339 (show 7 + 1 < 9 by decide) rfl ?_
  refine ms_dload dL_law_1341 rfl ?_
  refine ms_dload dL_law_1343 rfl ?_
  refine ms_dcmp dL_law_1345 ?_
  generalize hcv : Op.cmpValue (FP.dcmp (mnX cnt X) (mnX cnt X)) _ = cv
  refine ms_if_eq (tgt := 1367) dL_law_1346 (by decide) (fun h_1346 => ?_) (fun h_1346 => ?_)
  · skip
    refine ms_goto (tgt := 1736) dL_law_1367 (by decide) ?_
    refine ms_W.room (k2 := kr) (z2 := zr) ?_ (by omega) (by omega)
    refine ms_W.sub (lv2 := [(0, _), (1, _), (2, _), (3, _), (4, _)]) ?_ [2, 3, 4, 5, 6] rfl
    exact kk n8 K8 ⟨aw, am, ai, ah, W, H, cnt, _, dr, pa, X, nr, wl, mk, ds, mm, hS8, hM8, ⟨by omega, by omega, by omega, by omega, by omega⟩, hne, hge, hnoe, ⟨hW0, hW, hH0, hH⟩, hc, hL9, hmm, hds, hd, hwl, (hV.mono (by omega)), (hhe.mono (by omega))⟩ ⟨by omega, _, hro8⟩
  · skip
    refine ms_dload dL_law_1349 rfl ?_
    refine ms_dload dL_law_1351 rfl ?_
    refine ms_dcmp dL_law_1353 ?_
    rw [hcv]
    refine ms_if_eq (tgt := 1365) dL_law_1354 (by decide) (fun h_1354 => ?_) (fun h_1354 => ?_)
    · skip
      exact absurd h_1354 h_1346
    · skip
      refine ms_dload dL_law_1357 rfl ?_
      refine ms_dload dL_law_1359 rfl ?_
      refine ms_dcmp dL_law_1361 ?_
      rw [hcv]
      refine ms_if_ne (tgt := 1367) dL_law_1362 (by decide) (fun h_1362 => ?_) (fun h_1362 => ?_)
      · skip
        refine ms_goto (tgt := 1736) dL_law_1367 (by decide) ?_
        refine ms_W.room (k2 := kr) (z2 := zr) ?_ (by omega) (by omega)
        refine ms_W.sub (lv2 := [(0, _), (1, _), (2, _), (3, _), (4, _)]) ?_ [2, 3, 4, 5, 6] rfl
        exact kk n8 K8 ⟨aw, am, ai, ah, W, H, cnt, _, dr, pa, X, nr, wl, mk, ds, mm, hS8, hM8, ⟨by omega, by omega, by omega, by omega, by omega⟩, hne, hge, hnoe, ⟨hW0, hW, hH0, hH⟩, hc, hL9, hmm, hds, hd, hwl, (hV.mono (by omega)), (hhe.mono (by omega))⟩ ⟨by omega, _, hro8⟩
      · skip
        exact absurd (by first | exact h_1362 | exact Decidable.not_not.mp h_1362) h_1346
set_option maxHeartbeats 1000000 in
set_option maxRecDepth 20000 in
theorem cs_outIn {x g q c j q2 c2 o m b L k i n : Nat} {xs : Nat → Int32} {G : ms_H} {P : ms_P} {kr zr : Nat} (ho : ox x g q c j q2 c2) (hoo : c2 + 29 ≤ o) (hS : lS x g q c j q2 c2 o m k n G) (hO : lo_at o n G) (hk : k < 512) (hi : i + 5 < L) (hL : L ≤ 3072) (kk : ∀ n1 G1, lS x g q c j q2 c2 o m (k + 1) n1 G1 → lo_at o n1 G1 → ms_W false (m_L_lw b L xs) P 1736 [(0, .ref b), (1, .ref x), (2, .ref m), (3, .ref o), (4, .int (nI i))] [] n1 G1 kr zr) : ms_W false (m_L_lw b L xs) P 1370 [(0, .ref b), (1, .ref x), (2, .ref m), (3, .ref o), (4, .int (nI i))] [] n G (394 + kr) (12720 + zr) := by
  obtain ⟨aw, am, ai, ah, W, H, cnt, th, dr, pa, X, nr, wl, mk, ds, mm, hS5, hM6, hl, hne, hge, hnoe, hWH, hc, hL9, hmm, hds, hd, hwl, hV, hhe⟩ := hS
  obtain ⟨hW0, hW, hH0, hH⟩ := hWH
  obtain ⟨hon, fo, hro⟩ := hO
  have hp : 0 < W * H := Nat.mul_pos hW0 hH0
  obtain ⟨l1, l2, l3, l4, l5⟩ := id hl
  obtain ⟨g1, g2, g3, g4, g5⟩ := id hge
  obtain ⟨e1, e2, e3, e4, e5⟩ := id hnoe
  have ho9 := ho
  obtain ⟨o1, o2, o3, o4, o5, o6⟩ := ho
  have h196 := fd_196 hW hH
  refine ms_run (pc' := 1376) (lv' := [(0, .ref b), (1, .ref x), (2, .ref m), (3, .ref o), (4, .int (nI i))]) (st' := [.int ((nI i) + 1), .ref b, .ref x]) _ (ms_deC dL_law_1370 (ms_deC dL_law_1371 (ms_deC dL_law_1372 (ms_deC dL_law_1374 (ms_deC dL_law_1375 ms_deN))))) rfl rfl ?_
  refine ms_sld dL_law_1376 rfl (sc_in (j := 1) (by omega) (by omega)) ?_
  rw [show (nI i + 1).toNatClampNeg = i + 1 from sc_at (j := 1) (by omega)]
  refine ms_run (pc' := 1382) (lv' := [(0, .ref b), (1, .ref x), (2, .ref m), (3, .ref o), (4, .int (nI i))]) (st' := [.int ((nI i) + 2), .ref b, .int (xs (i + 1)), .ref x]) _ (ms_deC dL_law_1377 (ms_deC dL_law_1378 (ms_deC dL_law_1380 (ms_deC dL_law_1381 ms_deN)))) rfl rfl ?_
  refine ms_sld dL_law_1382 rfl (sc_in (j := 2) (by omega) (by omega)) ?_
  rw [show (nI i + 2).toNatClampNeg = i + 2 from sc_at (j := 2) (by omega)]
  refine ms_run (pc' := 1384) (lv' := [(0, .ref b), (1, .ref x), (2, .ref m), (3, .ref o), (4, .int (nI i))]) (st' := [.ref o, .int (xs (i + 2)), .int (xs (i + 1)), .ref x]) _ (ms_deC dL_law_1383 ms_deN) rfl rfl ?_
  refine ms_W.room (k2 := 1 + (393 + kr)) (z2 := 6 + (12714 + zr)) ?_ (by omega) (by omega)
  refine ms_callSX (As := [.ref x, .int (xs (i + 1)), .int (xs (i + 2)), .ref o]) dL_law_1384 (c_L_outIn ho9 hS5 hoo hro hc hV.2.1 (xs (i + 1)) (xs (i + 2))) cs_L_155 (List.cons_ne_nil _ _) rfl ⟨Nat.le_of_ble_eq_true rfl, Nat.le_of_ble_eq_true rfl⟩ rfl (Nat.le_of_ble_eq_true rfl) (fun v9 n9 K9 hp9 => ?_) (fun E9 n9 K9 hp9 => hp9.noX)
  cases hth : (th_ahw cnt (xs (i + 1)) (xs (i + 2))) with
  | some E9 =>
    obtain ⟨hn9, hv9, hG9⟩ := hp9.t hth
    obtain ⟨t9, ht9, ht0⟩ : ∃ t9 : Int32, (fun e => if e = IOB then 1 else 2) E9 = t9 ∧ ¬ t9 = 0 := ⟨_, rfl, cdb_n E9⟩
    have hv8 : v9 = some (Value.int t9) := hv9.trans (congrArg (fun q => some (Value.int q)) ht9)
    subst hv8
    subst hG9
    have hl9 : md_lt n9 m aw am ai ah := ⟨by omega, by omega, by omega, by omega, by omega⟩
    refine ms_run (pc' := 1395) (lv' := [(5, .int t9), (0, .ref b), (1, .ref x), (2, .ref m), (3, .ref o), (4, .int (nI i))]) (st' := [.int ((nI i) + 1), .ref b, .ref m]) _ (ms_deC dL_law_1387 (ms_deC dL_law_1389 (ms_deC dL_law_1390 (ms_deC dL_law_1391 (ms_deC dL_law_1393 (ms_deC dL_law_1394 ms_deN)))))) rfl rfl ?_
    refine ms_sld dL_law_1395 rfl (sc_in (j := 1) (by omega) (by omega)) ?_
    rw [show (nI i + 1).toNatClampNeg = i + 1 from sc_at (j := 1) (by omega)]
    refine ms_run (pc' := 1401) (lv' := [(5, .int t9), (0, .ref b), (1, .ref x), (2, .ref m), (3, .ref o), (4, .int (nI i))]) (st' := [.int ((nI i) + 2), .ref b, .int (xs (i + 1)), .ref m]) _ (ms_deC dL_law_1396 (ms_deC dL_law_1397 (ms_deC dL_law_1399 (ms_deC dL_law_1400 ms_deN)))) rfl rfl ?_
    refine ms_sld dL_law_1401 rfl (sc_in (j := 2) (by omega) (by omega)) ?_
    rw [show (nI i + 2).toNatClampNeg = i + 2 from sc_at (j := 2) (by omega)]
    refine ms_W.room (k2 := 196 + kr) (z2 := 6357 + zr) ?_ (by omega) (by omega)
    refine ms_callV (As := [.int (xs (i + 1)), .int (xs (i + 2))]) dL_law_1402 (c_X6_outIn hM6 hl9 hW hH hW0 hc hne hL9 hmm hds hd (show 20 * k < 1000000 by omega) hV (show _ < _ by omega) (xs (i + 1)) (xs (i + 2))) cv_L_157 hM6.1 rfl ⟨Nat.le_of_ble_eq_true rfl, Nat.le_of_ble_eq_true rfl⟩ rfl (Nat.le_of_ble_eq_true rfl) (fun v8 n8 K8 hp8 => ?_)
    obtain ⟨hn8, hF8, hv7, hq8⟩ := hp8.t hth
    subst hv7
    have hM8 : md_at K8 m aw am ai ah W H t9 X.2.2.2 dr pa cnt wl mm X.2.1 X.1 := by rw [← ht9]; exact hq8
    have hS8 := hS5.co ho9 (fun a ha => hF8 a (by omega) (by rintro (z9 | z9 | z9 | z9 | z9) <;> omega))
    have hro8 := (hF8 o (by omega) (by rintro (z9 | z9 | z9 | z9 | z9) <;> omega)).trans hro
    refine ms_run (pc' := 1408) (lv' := [(6, .int 0), (5, .int t9), (0, .ref b), (1, .ref x), (2, .ref m), (3, .ref o), (4, .int (nI i))]) (st' := [.ref m]) _ (ms_deC dL_law_1405 (ms_deC dL_law_1407 ms_deN)) rfl rfl ?_
    refine ms_callVp (As := []) dL_law_1408 (c_X6_thrown hM8) cv_L_93 hM8.1 rfl ⟨Nat.le_of_ble_eq_true rfl, Nat.le_of_ble_eq_true rfl⟩ rfl (Nat.le_of_ble_eq_true rfl) ?_
    refine ms_run (pc' := 1413) (lv' := [(6, .int 0), (5, .int t9), (0, .ref b), (1, .ref x), (2, .ref m), (3, .ref o), (4, .int (nI i))]) (st' := [.int t9, .int t9]) _ (ms_deC dL_law_1411 ms_deN) rfl rfl ?_
    refine ms_icmp_eq (tgt := 1418) dL_law_1413 (by decide) (fun h_1413 => ?_) (fun h_1413 => ?_)
    · skip
      refine ms_run (pc' := 1420) (lv' := [(6, .int 0), (5, .int t9), (0, .ref b), (1, .ref x), (2, .ref m), (3, .ref o), (4, .int (nI i))]) (st' := [.int t9]) _ (ms_deC dL_law_1418 ms_deN) rfl rfl ?_
      refine ms_if_ne (tgt := 1435) dL_law_1420 (by decide) (fun h_1420 => ?_) (fun h_1420 => ?_)
      · skip
        refine ms_goto (tgt := 1736) dL_law_1435 (by decide) ?_
        refine ms_W.room (k2 := kr) (z2 := zr) ?_ (by omega) (by omega)
        refine ms_W.sub (lv2 := [(0, _), (1, _), (2, _), (3, _), (4, _)]) ?_ [2, 3, 4, 5, 6] rfl
        exact kk n8 K8 ⟨aw, am, ai, ah, W, H, cnt, _, dr, pa, X, nr, wl, mk, ds, mm, hS8, hM8, ⟨by omega, by omega, by omega, by omega, by omega⟩, hne, hge, hnoe, ⟨hW0, hW, hH0, hH⟩, hc, hL9, hmm, hds, hd, hwl, (hV.mono (by omega)), (hhe.mono (by omega))⟩ ⟨by omega, _, hro8⟩
      · skip
        exact absurd (by first | exact h_1420 | exact Decidable.not_not.mp h_1420) ht0
    · skip
      exact absurd rfl h_1413
  | none =>
    obtain ⟨hn9, hv9, K7, f7, hQ7, hf7, hK9⟩ := hp9.n hth
    subst hv9
    obtain ⟨hS7, hF7⟩ := hQ7
    have hK9o : K9 o = some (oR f7) := by rw [hK9]; exact ms_up_s _ _ _
    have hfr7 : ∀ a, a ≠ o → K9 a = K7 a := fun a h1 => by rw [hK9]; exact ms_up_n _ _ h1
    have hM9 : md_at K9 m aw am ai ah W H th X.2.2.2 dr pa cnt wl mm X.2.1 X.1 := hM6.co (fun a h1 => (hfr7 a (by rcases h1 with z9 | z9 | z9 | z9 | z9 <;> omega)).trans (hF7 a (by rcases h1 with z9 | z9 | z9 | z9 | z9 <;> omega)))
    have hl9 : md_lt n9 m aw am ai ah := ⟨by omega, by omega, by omega, by omega, by omega⟩
    refine ms_run (pc' := 1395) (lv' := [(5, .int 0), (0, .ref b), (1, .ref x), (2, .ref m), (3, .ref o), (4, .int (nI i))]) (st' := [.int ((nI i) + 1), .ref b, .ref m]) _ (ms_deC dL_law_1387 (ms_deC dL_law_1389 (ms_deC dL_law_1390 (ms_deC dL_law_1391 (ms_deC dL_law_1393 (ms_deC dL_law_1394 ms_deN)))))) rfl rfl ?_
    refine ms_sld dL_law_1395 rfl (sc_in (j := 1) (by omega) (by omega)) ?_
    rw [show (nI i + 1).toNatClampNeg = i + 1 from sc_at (j := 1) (by omega)]
    refine ms_run (pc' := 1401) (lv' := [(5, .int 0), (0, .ref b), (1, .ref x), (2, .ref m), (3, .ref o), (4, .int (nI i))]) (st' := [.int ((nI i) + 2), .ref b, .int (xs (i + 1)), .ref m]) _ (ms_deC dL_law_1396 (ms_deC dL_law_1397 (ms_deC dL_law_1399 (ms_deC dL_law_1400 ms_deN)))) rfl rfl ?_
    refine ms_sld dL_law_1401 rfl (sc_in (j := 2) (by omega) (by omega)) ?_
    rw [show (nI i + 2).toNatClampNeg = i + 2 from sc_at (j := 2) (by omega)]
    refine ms_W.room (k2 := 196 + kr) (z2 := 6357 + zr) ?_ (by omega) (by omega)
    refine ms_callV (As := [.int (xs (i + 1)), .int (xs (i + 2))]) dL_law_1402 (c_X6_outIn hM9 hl9 hW hH hW0 hc hne hL9 hmm hds hd (show 20 * k < 1000000 by omega) hV (show _ < _ by omega) (xs (i + 1)) (xs (i + 2))) cv_L_157 hM9.1 rfl ⟨Nat.le_of_ble_eq_true rfl, Nat.le_of_ble_eq_true rfl⟩ rfl (Nat.le_of_ble_eq_true rfl) (fun v8 n8 K8 hp8 => ?_)
    obtain ⟨hn8, hF8, hv7, hq8⟩ := hp8.n hth
    subst hv7
    have hM8 := hq8
    have hS8 := hS7.co ho9 (fun a ha => (hF8 a (by omega) (by rintro (z9 | z9 | z9 | z9 | z9) <;> omega)).trans (hfr7 a (by omega)))
    have hro8 := (hF8 o (by omega) (by rintro (z9 | z9 | z9 | z9 | z9) <;> omega)).trans hK9o
    refine ms_run (pc' := 1408) (lv' := [(6, .int (fst1 (fun t => decide ((stXn (nI (W * H)) nr mk ds cnt dr X t).1 (xs (i + 1)).toNatClampNeg 3 = -1)) (fun t => nI t) 0 ((xs (i + 2)).toNatClampNeg + 1))), (5, .int 0), (0, .ref b), (1, .ref x), (2, .ref m), (3, .ref o), (4, .int (nI i))]) (st' := [.ref m]) _ (ms_deC dL_law_1405 (ms_deC dL_law_1407 ms_deN)) rfl rfl ?_
    refine ms_callVp (As := []) dL_law_1408 (c_X6_thrown hM8) cv_L_93 hM8.1 rfl ⟨Nat.le_of_ble_eq_true rfl, Nat.le_of_ble_eq_true rfl⟩ rfl (Nat.le_of_ble_eq_true rfl) ?_
    refine ms_run (pc' := 1413) (lv' := [(6, .int (fst1 (fun t => decide ((stXn (nI (W * H)) nr mk ds cnt dr X t).1 (xs (i + 1)).toNatClampNeg 3 = -1)) (fun t => nI t) 0 ((xs (i + 2)).toNatClampNeg + 1))), (5, .int 0), (0, .ref b), (1, .ref x), (2, .ref m), (3, .ref o), (4, .int (nI i))]) (st' := [.int 0, .int 0]) _ (ms_deC dL_law_1411 ms_deN) rfl rfl ?_
    refine ms_icmp_eq (tgt := 1418) dL_law_1413 (by decide) (fun _ => ?_) (fun h9 => absurd h9 (by decide))
    refine ms_run (pc' := 1420) (lv' := [(6, .int (fst1 (fun t => decide ((stXn (nI (W * H)) nr mk ds cnt dr X t).1 (xs (i + 1)).toNatClampNeg 3 = -1)) (fun t => nI t) 0 ((xs (i + 2)).toNatClampNeg + 1))), (5, .int 0), (0, .ref b), (1, .ref x), (2, .ref m), (3, .ref o), (4, .int (nI i))]) (st' := [.int 0]) _ (ms_deC dL_law_1418 ms_deN) rfl rfl ?_
    refine ms_if_ne (tgt := 1435) dL_law_1420 (by decide) (fun h9 => absurd h9 (by decide)) (fun _ => ?_)
    refine ms_run (pc' := 1425) (lv' := [(6, .int (fst1 (fun t => decide ((stXn (nI (W * H)) nr mk ds cnt dr X t).1 (xs (i + 1)).toNatClampNeg 3 = -1)) (fun t => nI t) 0 ((xs (i + 2)).toNatClampNeg + 1))), (5, .int 0), (0, .ref b), (1, .ref x), (2, .ref m), (3, .ref o), (4, .int (nI i))]) (st' := [.int 0, .ref o]) _ (ms_deC dL_law_1423 (ms_deC dL_law_1424 ms_deN)) rfl rfl ?_
    refine ms_laload dL_law_1425 hro8 (by unfold vp_in; decide) ?_
    rw [show f7 (0 : Int32).toNatClampNeg = ((fst1 (fun t => decide ((stXn (nI (W * H)) nr mk ds cnt dr X t).1 (xs (i + 1)).toNatClampNeg 3 = -1)) (fun t => nI t) 0 ((xs (i + 2)).toNatClampNeg + 1))).toInt64 from hf7]
    refine ms_run (pc' := 1429) (lv' := [(6, .int (fst1 (fun t => decide ((stXn (nI (W * H)) nr mk ds cnt dr X t).1 (xs (i + 1)).toNatClampNeg 3 = -1)) (fun t => nI t) 0 ((xs (i + 2)).toNatClampNeg + 1))), (5, .int 0), (0, .ref b), (1, .ref x), (2, .ref m), (3, .ref o), (4, .int (nI i))]) (st' := [.long ((fst1 (fun t => decide ((stXn (nI (W * H)) nr mk ds cnt dr X t).1 (xs (i + 1)).toNatClampNeg 3 = -1)) (fun t => nI t) 0 ((xs (i + 2)).toNatClampNeg + 1)).toInt64), .long ((fst1 (fun t => decide ((stXn (nI (W * H)) nr mk ds cnt dr X t).1 (xs (i + 1)).toNatClampNeg 3 = -1)) (fun t => nI t) 0 ((xs (i + 2)).toNatClampNeg + 1)).toInt64)]) _ (ms_deC dL_law_1426 (ms_deC dL_law_1428 ms_deN)) rfl rfl ?_
    refine ms_lcmp dL_law_1429 ?_
    rw [lg_same]
    refine ms_if_eq (tgt := 1435) dL_law_1430 (by decide) (fun _ => ?_) (fun h9 => absurd h9 (by decide))
    refine ms_goto (tgt := 1736) dL_law_1435 (by decide) ?_
    refine ms_W.room (k2 := kr) (z2 := zr) ?_ (by omega) (by omega)
    refine ms_W.sub (lv2 := [(0, _), (1, _), (2, _), (3, _), (4, _)]) ?_ [2, 3, 4, 5, 6] rfl
    exact kk n8 K8 ⟨aw, am, ai, ah, W, H, cnt, _, dr, pa, X, nr, wl, mk, ds, mm, hS8, hM8, ⟨by omega, by omega, by omega, by omega, by omega⟩, hne, hge, hnoe, ⟨hW0, hW, hH0, hH⟩, hc, hL9, hmm, hds, hd, hwl, (hV.mono (by omega)), (hhe.mono (by omega))⟩ ⟨by omega, _, hro8⟩
set_option maxHeartbeats 1000000 in
set_option maxRecDepth 20000 in
theorem cs_outWith {x g q c j q2 c2 o m b L k i n : Nat} {xs : Nat → Int32} {G : ms_H} {P : ms_P} {kr zr : Nat} (ho : ox x g q c j q2 c2) (hoo : c2 + 29 ≤ o) (hS : lS x g q c j q2 c2 o m k n G) (hO : lo_at o n G) (hk : k < 512) (hi : i + 5 < L) (hL : L ≤ 3072) (kk : ∀ n1 G1, lS x g q c j q2 c2 o m (k + 1) n1 G1 → lo_at o n1 G1 → ms_W false (m_L_lw b L xs) P 1736 [(0, .ref b), (1, .ref x), (2, .ref m), (3, .ref o), (4, .int (nI i))] [] n1 G1 kr zr) : ms_W false (m_L_lw b L xs) P 1438 [(0, .ref b), (1, .ref x), (2, .ref m), (3, .ref o), (4, .int (nI i))] [] n G (394 + kr) (12720 + zr) := by
  obtain ⟨aw, am, ai, ah, W, H, cnt, th, dr, pa, X, nr, wl, mk, ds, mm, hS5, hM6, hl, hne, hge, hnoe, hWH, hc, hL9, hmm, hds, hd, hwl, hV, hhe⟩ := hS
  obtain ⟨hW0, hW, hH0, hH⟩ := hWH
  obtain ⟨hon, fo, hro⟩ := hO
  have hp : 0 < W * H := Nat.mul_pos hW0 hH0
  obtain ⟨l1, l2, l3, l4, l5⟩ := id hl
  obtain ⟨g1, g2, g3, g4, g5⟩ := id hge
  obtain ⟨e1, e2, e3, e4, e5⟩ := id hnoe
  have ho9 := ho
  obtain ⟨o1, o2, o3, o4, o5, o6⟩ := ho
  have h196 := fd_196 hW hH
  refine ms_run (pc' := 1444) (lv' := [(0, .ref b), (1, .ref x), (2, .ref m), (3, .ref o), (4, .int (nI i))]) (st' := [.int ((nI i) + 1), .ref b, .ref x]) _ (ms_deC dL_law_1438 (ms_deC dL_law_1439 (ms_deC dL_law_1440 (ms_deC dL_law_1442 (ms_deC dL_law_1443 ms_deN))))) rfl rfl ?_
  refine ms_sld dL_law_1444 rfl (sc_in (j := 1) (by omega) (by omega)) ?_
  rw [show (nI i + 1).toNatClampNeg = i + 1 from sc_at (j := 1) (by omega)]
  refine ms_run (pc' := 1450) (lv' := [(0, .ref b), (1, .ref x), (2, .ref m), (3, .ref o), (4, .int (nI i))]) (st' := [.int ((nI i) + 2), .ref b, .int (xs (i + 1)), .ref x]) _ (ms_deC dL_law_1445 (ms_deC dL_law_1446 (ms_deC dL_law_1448 (ms_deC dL_law_1449 ms_deN)))) rfl rfl ?_
  refine ms_sld dL_law_1450 rfl (sc_in (j := 2) (by omega) (by omega)) ?_
  rw [show (nI i + 2).toNatClampNeg = i + 2 from sc_at (j := 2) (by omega)]
  refine ms_run (pc' := 1452) (lv' := [(0, .ref b), (1, .ref x), (2, .ref m), (3, .ref o), (4, .int (nI i))]) (st' := [.ref o, .int (xs (i + 2)), .int (xs (i + 1)), .ref x]) _ (ms_deC dL_law_1451 ms_deN) rfl rfl ?_
  refine ms_W.room (k2 := 1 + (393 + kr)) (z2 := 6 + (12714 + zr)) ?_ (by omega) (by omega)
  refine ms_callSX (As := [.ref x, .int (xs (i + 1)), .int (xs (i + 2)), .ref o]) dL_law_1452 (c_L_outWith ho9 hS5 hoo hro hc hV.2.1 (xs (i + 1)) (xs (i + 2))) cs_L_158 (List.cons_ne_nil _ _) rfl ⟨Nat.le_of_ble_eq_true rfl, Nat.le_of_ble_eq_true rfl⟩ rfl (Nat.le_of_ble_eq_true rfl) (fun v9 n9 K9 hp9 => ?_) (fun E9 n9 K9 hp9 => hp9.noX)
  cases hth : (th_ahd (xs (i + 1)) (xs (i + 2))) with
  | some E9 =>
    obtain ⟨hn9, hv9, hG9⟩ := hp9.t hth
    obtain ⟨t9, ht9, ht0⟩ : ∃ t9 : Int32, (fun _ => 1) E9 = t9 ∧ ¬ t9 = 0 := ⟨_, rfl, cd1_n E9⟩
    have hv8 : v9 = some (Value.int t9) := hv9.trans (congrArg (fun q => some (Value.int q)) ht9)
    subst hv8
    subst hG9
    have hl9 : md_lt n9 m aw am ai ah := ⟨by omega, by omega, by omega, by omega, by omega⟩
    refine ms_run (pc' := 1463) (lv' := [(5, .int t9), (0, .ref b), (1, .ref x), (2, .ref m), (3, .ref o), (4, .int (nI i))]) (st' := [.int ((nI i) + 1), .ref b, .ref m]) _ (ms_deC dL_law_1455 (ms_deC dL_law_1457 (ms_deC dL_law_1458 (ms_deC dL_law_1459 (ms_deC dL_law_1461 (ms_deC dL_law_1462 ms_deN)))))) rfl rfl ?_
    refine ms_sld dL_law_1463 rfl (sc_in (j := 1) (by omega) (by omega)) ?_
    rw [show (nI i + 1).toNatClampNeg = i + 1 from sc_at (j := 1) (by omega)]
    refine ms_run (pc' := 1469) (lv' := [(5, .int t9), (0, .ref b), (1, .ref x), (2, .ref m), (3, .ref o), (4, .int (nI i))]) (st' := [.int ((nI i) + 2), .ref b, .int (xs (i + 1)), .ref m]) _ (ms_deC dL_law_1464 (ms_deC dL_law_1465 (ms_deC dL_law_1467 (ms_deC dL_law_1468 ms_deN)))) rfl rfl ?_
    refine ms_sld dL_law_1469 rfl (sc_in (j := 2) (by omega) (by omega)) ?_
    rw [show (nI i + 2).toNatClampNeg = i + 2 from sc_at (j := 2) (by omega)]
    refine ms_W.room (k2 := 193 + kr) (z2 := 6285 + zr) ?_ (by omega) (by omega)
    refine ms_callV (As := [.int (xs (i + 1)), .int (xs (i + 2))]) dL_law_1470 (c_X6_outWith hM6 hl9 hW hH hW0 hc hne hL9 hmm hds hd (show 20 * k < 1000000 by omega) hV (show _ < _ by omega) (xs (i + 1)) (xs (i + 2))) cv_L_160 hM6.1 rfl ⟨Nat.le_of_ble_eq_true rfl, Nat.le_of_ble_eq_true rfl⟩ rfl (Nat.le_of_ble_eq_true rfl) (fun v8 n8 K8 hp8 => ?_)
    obtain ⟨hn8, hF8, hv7, hq8⟩ := hp8.t hth
    subst hv7
    have hM8 : md_at K8 m aw am ai ah W H t9 X.2.2.2 dr pa cnt wl mm X.2.1 X.1 := by rw [← ht9]; exact hq8
    have hS8 := hS5.co ho9 (fun a ha => hF8 a (by omega) (by rintro (z9 | z9 | z9 | z9 | z9) <;> omega))
    have hro8 := (hF8 o (by omega) (by rintro (z9 | z9 | z9 | z9 | z9) <;> omega)).trans hro
    refine ms_run (pc' := 1476) (lv' := [(6, .int 0), (5, .int t9), (0, .ref b), (1, .ref x), (2, .ref m), (3, .ref o), (4, .int (nI i))]) (st' := [.ref m]) _ (ms_deC dL_law_1473 (ms_deC dL_law_1475 ms_deN)) rfl rfl ?_
    refine ms_callVp (As := []) dL_law_1476 (c_X6_thrown hM8) cv_L_93 hM8.1 rfl ⟨Nat.le_of_ble_eq_true rfl, Nat.le_of_ble_eq_true rfl⟩ rfl (Nat.le_of_ble_eq_true rfl) ?_
    refine ms_run (pc' := 1481) (lv' := [(6, .int 0), (5, .int t9), (0, .ref b), (1, .ref x), (2, .ref m), (3, .ref o), (4, .int (nI i))]) (st' := [.int t9, .int t9]) _ (ms_deC dL_law_1479 ms_deN) rfl rfl ?_
    refine ms_icmp_eq (tgt := 1486) dL_law_1481 (by decide) (fun h_1481 => ?_) (fun h_1481 => ?_)
    · skip
      refine ms_run (pc' := 1488) (lv' := [(6, .int 0), (5, .int t9), (0, .ref b), (1, .ref x), (2, .ref m), (3, .ref o), (4, .int (nI i))]) (st' := [.int t9]) _ (ms_deC dL_law_1486 ms_deN) rfl rfl ?_
      refine ms_if_ne (tgt := 1503) dL_law_1488 (by decide) (fun h_1488 => ?_) (fun h_1488 => ?_)
      · skip
        refine ms_goto (tgt := 1736) dL_law_1503 (by decide) ?_
        refine ms_W.room (k2 := kr) (z2 := zr) ?_ (by omega) (by omega)
        refine ms_W.sub (lv2 := [(0, _), (1, _), (2, _), (3, _), (4, _)]) ?_ [2, 3, 4, 5, 6] rfl
        exact kk n8 K8 ⟨aw, am, ai, ah, W, H, cnt, _, dr, pa, X, nr, wl, mk, ds, mm, hS8, hM8, ⟨by omega, by omega, by omega, by omega, by omega⟩, hne, hge, hnoe, ⟨hW0, hW, hH0, hH⟩, hc, hL9, hmm, hds, hd, hwl, (hV.mono (by omega)), (hhe.mono (by omega))⟩ ⟨by omega, _, hro8⟩
      · skip
        exact absurd (by first | exact h_1488 | exact Decidable.not_not.mp h_1488) ht0
    · skip
      exact absurd rfl h_1481
  | none =>
    obtain ⟨hn9, hv9, K7, f7, hQ7, hf7, hK9⟩ := hp9.n hth
    subst hv9
    obtain ⟨hS7, hF7⟩ := hQ7
    have hK9o : K9 o = some (oR f7) := by rw [hK9]; exact ms_up_s _ _ _
    have hfr7 : ∀ a, a ≠ o → K9 a = K7 a := fun a h1 => by rw [hK9]; exact ms_up_n _ _ h1
    have hM9 : md_at K9 m aw am ai ah W H th X.2.2.2 dr pa cnt wl mm X.2.1 X.1 := hM6.co (fun a h1 => (hfr7 a (by rcases h1 with z9 | z9 | z9 | z9 | z9 <;> omega)).trans (hF7 a (by rcases h1 with z9 | z9 | z9 | z9 | z9 <;> omega)))
    have hl9 : md_lt n9 m aw am ai ah := ⟨by omega, by omega, by omega, by omega, by omega⟩
    refine ms_run (pc' := 1463) (lv' := [(5, .int 0), (0, .ref b), (1, .ref x), (2, .ref m), (3, .ref o), (4, .int (nI i))]) (st' := [.int ((nI i) + 1), .ref b, .ref m]) _ (ms_deC dL_law_1455 (ms_deC dL_law_1457 (ms_deC dL_law_1458 (ms_deC dL_law_1459 (ms_deC dL_law_1461 (ms_deC dL_law_1462 ms_deN)))))) rfl rfl ?_
    refine ms_sld dL_law_1463 rfl (sc_in (j := 1) (by omega) (by omega)) ?_
    rw [show (nI i + 1).toNatClampNeg = i + 1 from sc_at (j := 1) (by omega)]
    refine ms_run (pc' := 1469) (lv' := [(5, .int 0), (0, .ref b), (1, .ref x), (2, .ref m), (3, .ref o), (4, .int (nI i))]) (st' := [.int ((nI i) + 2), .ref b, .int (xs (i + 1)), .ref m]) _ (ms_deC dL_law_1464 (ms_deC dL_law_1465 (ms_deC dL_law_1467 (ms_deC dL_law_1468 ms_deN)))) rfl rfl ?_
    refine ms_sld dL_law_1469 rfl (sc_in (j := 2) (by omega) (by omega)) ?_
    rw [show (nI i + 2).toNatClampNeg = i + 2 from sc_at (j := 2) (by omega)]
    refine ms_W.room (k2 := 193 + kr) (z2 := 6285 + zr) ?_ (by omega) (by omega)
    refine ms_callV (As := [.int (xs (i + 1)), .int (xs (i + 2))]) dL_law_1470 (c_X6_outWith hM9 hl9 hW hH hW0 hc hne hL9 hmm hds hd (show 20 * k < 1000000 by omega) hV (show _ < _ by omega) (xs (i + 1)) (xs (i + 2))) cv_L_160 hM9.1 rfl ⟨Nat.le_of_ble_eq_true rfl, Nat.le_of_ble_eq_true rfl⟩ rfl (Nat.le_of_ble_eq_true rfl) (fun v8 n8 K8 hp8 => ?_)
    obtain ⟨hn8, hF8, hv7, hq8⟩ := hp8.n hth
    subst hv7
    have hM8 := hq8
    have hS8 := hS7.co ho9 (fun a ha => (hF8 a (by omega) (by rintro (z9 | z9 | z9 | z9 | z9) <;> omega)).trans (hfr7 a (by omega)))
    have hro8 := (hF8 o (by omega) (by rintro (z9 | z9 | z9 | z9 | z9) <;> omega)).trans hK9o
    refine ms_run (pc' := 1476) (lv' := [(6, .int (nI (ct (pOut (stXn (nI (W * H)) nr mk ds cnt (xs (i + 2)) X (xs (i + 1)).toNatClampNeg).1) cnt))), (5, .int 0), (0, .ref b), (1, .ref x), (2, .ref m), (3, .ref o), (4, .int (nI i))]) (st' := [.ref m]) _ (ms_deC dL_law_1473 (ms_deC dL_law_1475 ms_deN)) rfl rfl ?_
    refine ms_callVp (As := []) dL_law_1476 (c_X6_thrown hM8) cv_L_93 hM8.1 rfl ⟨Nat.le_of_ble_eq_true rfl, Nat.le_of_ble_eq_true rfl⟩ rfl (Nat.le_of_ble_eq_true rfl) ?_
    refine ms_run (pc' := 1481) (lv' := [(6, .int (nI (ct (pOut (stXn (nI (W * H)) nr mk ds cnt (xs (i + 2)) X (xs (i + 1)).toNatClampNeg).1) cnt))), (5, .int 0), (0, .ref b), (1, .ref x), (2, .ref m), (3, .ref o), (4, .int (nI i))]) (st' := [.int 0, .int 0]) _ (ms_deC dL_law_1479 ms_deN) rfl rfl ?_
    refine ms_icmp_eq (tgt := 1486) dL_law_1481 (by decide) (fun _ => ?_) (fun h9 => absurd h9 (by decide))
    refine ms_run (pc' := 1488) (lv' := [(6, .int (nI (ct (pOut (stXn (nI (W * H)) nr mk ds cnt (xs (i + 2)) X (xs (i + 1)).toNatClampNeg).1) cnt))), (5, .int 0), (0, .ref b), (1, .ref x), (2, .ref m), (3, .ref o), (4, .int (nI i))]) (st' := [.int 0]) _ (ms_deC dL_law_1486 ms_deN) rfl rfl ?_
    refine ms_if_ne (tgt := 1503) dL_law_1488 (by decide) (fun h9 => absurd h9 (by decide)) (fun _ => ?_)
    refine ms_run (pc' := 1493) (lv' := [(6, .int (nI (ct (pOut (stXn (nI (W * H)) nr mk ds cnt (xs (i + 2)) X (xs (i + 1)).toNatClampNeg).1) cnt))), (5, .int 0), (0, .ref b), (1, .ref x), (2, .ref m), (3, .ref o), (4, .int (nI i))]) (st' := [.int 0, .ref o]) _ (ms_deC dL_law_1491 (ms_deC dL_law_1492 ms_deN)) rfl rfl ?_
    refine ms_laload dL_law_1493 hro8 (by unfold vp_in; decide) ?_
    rw [show f7 (0 : Int32).toNatClampNeg = ((nI (ct (pOut (stXn (nI (W * H)) nr mk ds cnt (xs (i + 2)) X (xs (i + 1)).toNatClampNeg).1) cnt))).toInt64 from hf7]
    refine ms_run (pc' := 1497) (lv' := [(6, .int (nI (ct (pOut (stXn (nI (W * H)) nr mk ds cnt (xs (i + 2)) X (xs (i + 1)).toNatClampNeg).1) cnt))), (5, .int 0), (0, .ref b), (1, .ref x), (2, .ref m), (3, .ref o), (4, .int (nI i))]) (st' := [.long ((nI (ct (pOut (stXn (nI (W * H)) nr mk ds cnt (xs (i + 2)) X (xs (i + 1)).toNatClampNeg).1) cnt)).toInt64), .long ((nI (ct (pOut (stXn (nI (W * H)) nr mk ds cnt (xs (i + 2)) X (xs (i + 1)).toNatClampNeg).1) cnt)).toInt64)]) _ (ms_deC dL_law_1494 (ms_deC dL_law_1496 ms_deN)) rfl rfl ?_
    refine ms_lcmp dL_law_1497 ?_
    rw [lg_same]
    refine ms_if_eq (tgt := 1503) dL_law_1498 (by decide) (fun _ => ?_) (fun h9 => absurd h9 (by decide))
    refine ms_goto (tgt := 1736) dL_law_1503 (by decide) ?_
    refine ms_W.room (k2 := kr) (z2 := zr) ?_ (by omega) (by omega)
    refine ms_W.sub (lv2 := [(0, _), (1, _), (2, _), (3, _), (4, _)]) ?_ [2, 3, 4, 5, 6] rfl
    exact kk n8 K8 ⟨aw, am, ai, ah, W, H, cnt, _, dr, pa, X, nr, wl, mk, ds, mm, hS8, hM8, ⟨by omega, by omega, by omega, by omega, by omega⟩, hne, hge, hnoe, ⟨hW0, hW, hH0, hH⟩, hc, hL9, hmm, hds, hd, hwl, (hV.mono (by omega)), (hhe.mono (by omega))⟩ ⟨by omega, _, hro8⟩
set_option maxHeartbeats 1000000 in
set_option maxRecDepth 20000 in
theorem cs_outBy {x g q c j q2 c2 o m b L k i n : Nat} {xs : Nat → Int32} {G : ms_H} {P : ms_P} {kr zr : Nat} (ho : ox x g q c j q2 c2) (hoo : c2 + 29 ≤ o) (hS : lS x g q c j q2 c2 o m k n G) (hO : lo_at o n G) (hk : k < 512) (hi : i + 5 < L) (hL : L ≤ 3072) (kk : ∀ n1 G1, lS x g q c j q2 c2 o m (k + 1) n1 G1 → lo_at o n1 G1 → ms_W false (m_L_lw b L xs) P 1736 [(0, .ref b), (1, .ref x), (2, .ref m), (3, .ref o), (4, .int (nI i))] [] n1 G1 kr zr) : ms_W false (m_L_lw b L xs) P 1506 [(0, .ref b), (1, .ref x), (2, .ref m), (3, .ref o), (4, .int (nI i))] [] n G (394 + kr) (12720 + zr) := by
  obtain ⟨aw, am, ai, ah, W, H, cnt, th, dr, pa, X, nr, wl, mk, ds, mm, hS5, hM6, hl, hne, hge, hnoe, hWH, hc, hL9, hmm, hds, hd, hwl, hV, hhe⟩ := hS
  obtain ⟨hW0, hW, hH0, hH⟩ := hWH
  obtain ⟨hon, fo, hro⟩ := hO
  have hp : 0 < W * H := Nat.mul_pos hW0 hH0
  obtain ⟨l1, l2, l3, l4, l5⟩ := id hl
  obtain ⟨g1, g2, g3, g4, g5⟩ := id hge
  obtain ⟨e1, e2, e3, e4, e5⟩ := id hnoe
  have ho9 := ho
  obtain ⟨o1, o2, o3, o4, o5, o6⟩ := ho
  have h196 := fd_196 hW hH
  refine ms_run (pc' := 1512) (lv' := [(0, .ref b), (1, .ref x), (2, .ref m), (3, .ref o), (4, .int (nI i))]) (st' := [.int ((nI i) + 1), .ref b, .ref x]) _ (ms_deC dL_law_1506 (ms_deC dL_law_1507 (ms_deC dL_law_1508 (ms_deC dL_law_1510 (ms_deC dL_law_1511 ms_deN))))) rfl rfl ?_
  refine ms_sld dL_law_1512 rfl (sc_in (j := 1) (by omega) (by omega)) ?_
  rw [show (nI i + 1).toNatClampNeg = i + 1 from sc_at (j := 1) (by omega)]
  refine ms_run (pc' := 1518) (lv' := [(0, .ref b), (1, .ref x), (2, .ref m), (3, .ref o), (4, .int (nI i))]) (st' := [.int ((nI i) + 2), .ref b, .int (xs (i + 1)), .ref x]) _ (ms_deC dL_law_1513 (ms_deC dL_law_1514 (ms_deC dL_law_1516 (ms_deC dL_law_1517 ms_deN)))) rfl rfl ?_
  refine ms_sld dL_law_1518 rfl (sc_in (j := 2) (by omega) (by omega)) ?_
  rw [show (nI i + 2).toNatClampNeg = i + 2 from sc_at (j := 2) (by omega)]
  refine ms_run (pc' := 1524) (lv' := [(0, .ref b), (1, .ref x), (2, .ref m), (3, .ref o), (4, .int (nI i))]) (st' := [.int ((nI i) + 3), .ref b, .int (xs (i + 2)), .int (xs (i + 1)), .ref x]) _ (ms_deC dL_law_1519 (ms_deC dL_law_1520 (ms_deC dL_law_1522 (ms_deC dL_law_1523 ms_deN)))) rfl rfl ?_
  refine ms_sld dL_law_1524 rfl (sc_in (j := 3) (by omega) (by omega)) ?_
  rw [show (nI i + 3).toNatClampNeg = i + 3 from sc_at (j := 3) (by omega)]
  refine ms_run (pc' := 1526) (lv' := [(0, .ref b), (1, .ref x), (2, .ref m), (3, .ref o), (4, .int (nI i))]) (st' := [.ref o, .int (xs (i + 3)), .int (xs (i + 2)), .int (xs (i + 1)), .ref x]) _ (ms_deC dL_law_1525 ms_deN) rfl rfl ?_
  refine ms_W.room (k2 := 1 + (393 + kr)) (z2 := 6 + (12714 + zr)) ?_ (by omega) (by omega)
  refine ms_callSX (As := [.ref x, .int (xs (i + 1)), .int (xs (i + 2)), .int (xs (i + 3)), .ref o]) dL_law_1526 (c_L_outBy ho9 hS5 hoo hro hc hV.2.1 hW hH (xs (i + 1)) (xs (i + 2)) (xs (i + 3))) cs_L_161 (List.cons_ne_nil _ _) rfl ⟨Nat.le_of_ble_eq_true rfl, Nat.le_of_ble_eq_true rfl⟩ rfl (Nat.le_of_ble_eq_true rfl) (fun v9 n9 K9 hp9 => ?_) (fun E9 n9 K9 hp9 => hp9.noX)
  cases hth : (th_oby W H X.2.2.1 (xs (i + 1)) (xs (i + 2)) (xs (i + 3))) with
  | some E9 =>
    obtain ⟨hn9, hv9, hG9⟩ := hp9.t hth
    obtain ⟨t9, ht9, ht0⟩ : ∃ t9 : Int32, (fun e => if e = IOB then 1 else if e = IAE then 2 else 3) E9 = t9 ∧ ¬ t9 = 0 := ⟨_, rfl, cdm_n E9⟩
    have hv8 : v9 = some (Value.int t9) := hv9.trans (congrArg (fun q => some (Value.int q)) ht9)
    subst hv8
    subst hG9
    have hl9 : md_lt n9 m aw am ai ah := ⟨by omega, by omega, by omega, by omega, by omega⟩
    refine ms_run (pc' := 1537) (lv' := [(5, .int t9), (0, .ref b), (1, .ref x), (2, .ref m), (3, .ref o), (4, .int (nI i))]) (st' := [.int ((nI i) + 1), .ref b, .ref m]) _ (ms_deC dL_law_1529 (ms_deC dL_law_1531 (ms_deC dL_law_1532 (ms_deC dL_law_1533 (ms_deC dL_law_1535 (ms_deC dL_law_1536 ms_deN)))))) rfl rfl ?_
    refine ms_sld dL_law_1537 rfl (sc_in (j := 1) (by omega) (by omega)) ?_
    rw [show (nI i + 1).toNatClampNeg = i + 1 from sc_at (j := 1) (by omega)]
    refine ms_run (pc' := 1543) (lv' := [(5, .int t9), (0, .ref b), (1, .ref x), (2, .ref m), (3, .ref o), (4, .int (nI i))]) (st' := [.int ((nI i) + 2), .ref b, .int (xs (i + 1)), .ref m]) _ (ms_deC dL_law_1538 (ms_deC dL_law_1539 (ms_deC dL_law_1541 (ms_deC dL_law_1542 ms_deN)))) rfl rfl ?_
    refine ms_sld dL_law_1543 rfl (sc_in (j := 2) (by omega) (by omega)) ?_
    rw [show (nI i + 2).toNatClampNeg = i + 2 from sc_at (j := 2) (by omega)]
    refine ms_run (pc' := 1549) (lv' := [(5, .int t9), (0, .ref b), (1, .ref x), (2, .ref m), (3, .ref o), (4, .int (nI i))]) (st' := [.int ((nI i) + 3), .ref b, .int (xs (i + 2)), .int (xs (i + 1)), .ref m]) _ (ms_deC dL_law_1544 (ms_deC dL_law_1545 (ms_deC dL_law_1547 (ms_deC dL_law_1548 ms_deN)))) rfl rfl ?_
    refine ms_sld dL_law_1549 rfl (sc_in (j := 3) (by omega) (by omega)) ?_
    rw [show (nI i + 3).toNatClampNeg = i + 3 from sc_at (j := 3) (by omega)]
    refine ms_W.room (k2 := 386 + kr) (z2 := 12570 + zr) ?_ (by omega) (by omega)
    refine ms_callV (As := [.int (xs (i + 1)), .int (xs (i + 2)), .int (xs (i + 3))]) dL_law_1550 (c_X6_outBy hM6 hl9 hW hH hW0 hc hne hL9 hmm hds hd (show 20 * k < 1000000 by omega) hV (show _ < _ by omega) hwl (xs (i + 1)) (xs (i + 2)) (xs (i + 3))) cv_L_163 hM6.1 rfl ⟨Nat.le_of_ble_eq_true rfl, Nat.le_of_ble_eq_true rfl⟩ rfl (Nat.le_of_ble_eq_true rfl) (fun v8 n8 K8 hp8 => ?_)
    obtain ⟨hn8, hF8, hv7, hq8⟩ := hp8.t hth
    subst hv7
    have hM8 : md_at K8 m aw am ai ah W H t9 X.2.2.2 dr pa cnt wl mm X.2.1 X.1 := by rw [← ht9]; exact hq8
    have hS8 := hS5.co ho9 (fun a ha => hF8 a (by omega) (by rintro (z9 | z9 | z9 | z9 | z9) <;> omega))
    have hro8 := (hF8 o (by omega) (by rintro (z9 | z9 | z9 | z9 | z9) <;> omega)).trans hro
    refine ms_run (pc' := 1556) (lv' := [(6, .int 0), (5, .int t9), (0, .ref b), (1, .ref x), (2, .ref m), (3, .ref o), (4, .int (nI i))]) (st' := [.ref m]) _ (ms_deC dL_law_1553 (ms_deC dL_law_1555 ms_deN)) rfl rfl ?_
    refine ms_callVp (As := []) dL_law_1556 (c_X6_thrown hM8) cv_L_93 hM8.1 rfl ⟨Nat.le_of_ble_eq_true rfl, Nat.le_of_ble_eq_true rfl⟩ rfl (Nat.le_of_ble_eq_true rfl) ?_
    refine ms_run (pc' := 1561) (lv' := [(6, .int 0), (5, .int t9), (0, .ref b), (1, .ref x), (2, .ref m), (3, .ref o), (4, .int (nI i))]) (st' := [.int t9, .int t9]) _ (ms_deC dL_law_1559 ms_deN) rfl rfl ?_
    refine ms_icmp_eq (tgt := 1566) dL_law_1561 (by decide) (fun h_1561 => ?_) (fun h_1561 => ?_)
    · skip
      refine ms_run (pc' := 1568) (lv' := [(6, .int 0), (5, .int t9), (0, .ref b), (1, .ref x), (2, .ref m), (3, .ref o), (4, .int (nI i))]) (st' := [.int t9]) _ (ms_deC dL_law_1566 ms_deN) rfl rfl ?_
      refine ms_if_ne (tgt := 1583) dL_law_1568 (by decide) (fun h_1568 => ?_) (fun h_1568 => ?_)
      · skip
        refine ms_goto (tgt := 1736) dL_law_1583 (by decide) ?_
        refine ms_W.room (k2 := kr) (z2 := zr) ?_ (by omega) (by omega)
        refine ms_W.sub (lv2 := [(0, _), (1, _), (2, _), (3, _), (4, _)]) ?_ [2, 3, 4, 5, 6] rfl
        exact kk n8 K8 ⟨aw, am, ai, ah, W, H, cnt, _, dr, pa, X, nr, wl, mk, ds, mm, hS8, hM8, ⟨by omega, by omega, by omega, by omega, by omega⟩, hne, hge, hnoe, ⟨hW0, hW, hH0, hH⟩, hc, hL9, hmm, hds, hd, hwl, (hV.mono (by omega)), (hhe.mono (by omega))⟩ ⟨by omega, _, hro8⟩
      · skip
        exact absurd (by first | exact h_1568 | exact Decidable.not_not.mp h_1568) ht0
    · skip
      exact absurd rfl h_1561
  | none =>
    obtain ⟨hn9, hv9, K7, f7, hQ7, hf7, hK9⟩ := hp9.n hth
    subst hv9
    obtain ⟨hS7, hF7⟩ := hQ7
    have hK9o : K9 o = some (oR f7) := by rw [hK9]; exact ms_up_s _ _ _
    have hfr7 : ∀ a, a ≠ o → K9 a = K7 a := fun a h1 => by rw [hK9]; exact ms_up_n _ _ h1
    have hM9 : md_at K9 m aw am ai ah W H th X.2.2.2 dr pa cnt wl mm X.2.1 X.1 := hM6.co (fun a h1 => (hfr7 a (by rcases h1 with z9 | z9 | z9 | z9 | z9 <;> omega)).trans (hF7 a (by rcases h1 with z9 | z9 | z9 | z9 | z9 <;> omega)))
    have hl9 : md_lt n9 m aw am ai ah := ⟨by omega, by omega, by omega, by omega, by omega⟩
    refine ms_run (pc' := 1537) (lv' := [(5, .int 0), (0, .ref b), (1, .ref x), (2, .ref m), (3, .ref o), (4, .int (nI i))]) (st' := [.int ((nI i) + 1), .ref b, .ref m]) _ (ms_deC dL_law_1529 (ms_deC dL_law_1531 (ms_deC dL_law_1532 (ms_deC dL_law_1533 (ms_deC dL_law_1535 (ms_deC dL_law_1536 ms_deN)))))) rfl rfl ?_
    refine ms_sld dL_law_1537 rfl (sc_in (j := 1) (by omega) (by omega)) ?_
    rw [show (nI i + 1).toNatClampNeg = i + 1 from sc_at (j := 1) (by omega)]
    refine ms_run (pc' := 1543) (lv' := [(5, .int 0), (0, .ref b), (1, .ref x), (2, .ref m), (3, .ref o), (4, .int (nI i))]) (st' := [.int ((nI i) + 2), .ref b, .int (xs (i + 1)), .ref m]) _ (ms_deC dL_law_1538 (ms_deC dL_law_1539 (ms_deC dL_law_1541 (ms_deC dL_law_1542 ms_deN)))) rfl rfl ?_
    refine ms_sld dL_law_1543 rfl (sc_in (j := 2) (by omega) (by omega)) ?_
    rw [show (nI i + 2).toNatClampNeg = i + 2 from sc_at (j := 2) (by omega)]
    refine ms_run (pc' := 1549) (lv' := [(5, .int 0), (0, .ref b), (1, .ref x), (2, .ref m), (3, .ref o), (4, .int (nI i))]) (st' := [.int ((nI i) + 3), .ref b, .int (xs (i + 2)), .int (xs (i + 1)), .ref m]) _ (ms_deC dL_law_1544 (ms_deC dL_law_1545 (ms_deC dL_law_1547 (ms_deC dL_law_1548 ms_deN)))) rfl rfl ?_
    refine ms_sld dL_law_1549 rfl (sc_in (j := 3) (by omega) (by omega)) ?_
    rw [show (nI i + 3).toNatClampNeg = i + 3 from sc_at (j := 3) (by omega)]
    refine ms_W.room (k2 := 386 + kr) (z2 := 12570 + zr) ?_ (by omega) (by omega)
    refine ms_callV (As := [.int (xs (i + 1)), .int (xs (i + 2)), .int (xs (i + 3))]) dL_law_1550 (c_X6_outBy hM9 hl9 hW hH hW0 hc hne hL9 hmm hds hd (show 20 * k < 1000000 by omega) hV (show _ < _ by omega) hwl (xs (i + 1)) (xs (i + 2)) (xs (i + 3))) cv_L_163 hM9.1 rfl ⟨Nat.le_of_ble_eq_true rfl, Nat.le_of_ble_eq_true rfl⟩ rfl (Nat.le_of_ble_eq_true rfl) (fun v8 n8 K8 hp8 => ?_)
    obtain ⟨hn8, hF8, hv7, hq8⟩ := hp8.n hth
    subst hv7
    have hM8 := hq8
    have hS8 := hS7.co ho9 (fun a ha => (hF8 a (by omega) (by rintro (z9 | z9 | z9 | z9 | z9) <;> omega)).trans (hfr7 a (by omega)))
    have hro8 := (hF8 o (by omega) (by rintro (z9 | z9 | z9 | z9 | z9) <;> omega)).trans hK9o
    refine ms_run (pc' := 1556) (lv' := [(6, .int (nI (ct (pOut (stXn (nI (W * H)) nr mk (dXa (W * H) nr (wlF wl (gr_num (nI W) (nI H) (xs (i + 1)) (xs (i + 2))).toNatClampNeg) mk ds 4) cnt dr X (xs (i + 3)).toNatClampNeg).1) cnt) - nI (ct (pOut (stXn (nI (W * H)) nr mk ds cnt dr X (xs (i + 3)).toNatClampNeg).1) cnt))), (5, .int 0), (0, .ref b), (1, .ref x), (2, .ref m), (3, .ref o), (4, .int (nI i))]) (st' := [.ref m]) _ (ms_deC dL_law_1553 (ms_deC dL_law_1555 ms_deN)) rfl rfl ?_
    refine ms_callVp (As := []) dL_law_1556 (c_X6_thrown hM8) cv_L_93 hM8.1 rfl ⟨Nat.le_of_ble_eq_true rfl, Nat.le_of_ble_eq_true rfl⟩ rfl (Nat.le_of_ble_eq_true rfl) ?_
    refine ms_run (pc' := 1561) (lv' := [(6, .int (nI (ct (pOut (stXn (nI (W * H)) nr mk (dXa (W * H) nr (wlF wl (gr_num (nI W) (nI H) (xs (i + 1)) (xs (i + 2))).toNatClampNeg) mk ds 4) cnt dr X (xs (i + 3)).toNatClampNeg).1) cnt) - nI (ct (pOut (stXn (nI (W * H)) nr mk ds cnt dr X (xs (i + 3)).toNatClampNeg).1) cnt))), (5, .int 0), (0, .ref b), (1, .ref x), (2, .ref m), (3, .ref o), (4, .int (nI i))]) (st' := [.int 0, .int 0]) _ (ms_deC dL_law_1559 ms_deN) rfl rfl ?_
    refine ms_icmp_eq (tgt := 1566) dL_law_1561 (by decide) (fun _ => ?_) (fun h9 => absurd h9 (by decide))
    refine ms_run (pc' := 1568) (lv' := [(6, .int (nI (ct (pOut (stXn (nI (W * H)) nr mk (dXa (W * H) nr (wlF wl (gr_num (nI W) (nI H) (xs (i + 1)) (xs (i + 2))).toNatClampNeg) mk ds 4) cnt dr X (xs (i + 3)).toNatClampNeg).1) cnt) - nI (ct (pOut (stXn (nI (W * H)) nr mk ds cnt dr X (xs (i + 3)).toNatClampNeg).1) cnt))), (5, .int 0), (0, .ref b), (1, .ref x), (2, .ref m), (3, .ref o), (4, .int (nI i))]) (st' := [.int 0]) _ (ms_deC dL_law_1566 ms_deN) rfl rfl ?_
    refine ms_if_ne (tgt := 1583) dL_law_1568 (by decide) (fun h9 => absurd h9 (by decide)) (fun _ => ?_)
    refine ms_run (pc' := 1573) (lv' := [(6, .int (nI (ct (pOut (stXn (nI (W * H)) nr mk (dXa (W * H) nr (wlF wl (gr_num (nI W) (nI H) (xs (i + 1)) (xs (i + 2))).toNatClampNeg) mk ds 4) cnt dr X (xs (i + 3)).toNatClampNeg).1) cnt) - nI (ct (pOut (stXn (nI (W * H)) nr mk ds cnt dr X (xs (i + 3)).toNatClampNeg).1) cnt))), (5, .int 0), (0, .ref b), (1, .ref x), (2, .ref m), (3, .ref o), (4, .int (nI i))]) (st' := [.int 0, .ref o]) _ (ms_deC dL_law_1571 (ms_deC dL_law_1572 ms_deN)) rfl rfl ?_
    refine ms_laload dL_law_1573 hro8 (by unfold vp_in; decide) ?_
    rw [show f7 (0 : Int32).toNatClampNeg = ((nI (ct (pOut (stXn (nI (W * H)) nr mk (dXa (W * H) nr (wlF wl (gr_num (nI W) (nI H) (xs (i + 1)) (xs (i + 2))).toNatClampNeg) mk ds 4) cnt dr X (xs (i + 3)).toNatClampNeg).1) cnt) - nI (ct (pOut (stXn (nI (W * H)) nr mk ds cnt dr X (xs (i + 3)).toNatClampNeg).1) cnt))).toInt64 from hf7]
    refine ms_run (pc' := 1577) (lv' := [(6, .int (nI (ct (pOut (stXn (nI (W * H)) nr mk (dXa (W * H) nr (wlF wl (gr_num (nI W) (nI H) (xs (i + 1)) (xs (i + 2))).toNatClampNeg) mk ds 4) cnt dr X (xs (i + 3)).toNatClampNeg).1) cnt) - nI (ct (pOut (stXn (nI (W * H)) nr mk ds cnt dr X (xs (i + 3)).toNatClampNeg).1) cnt))), (5, .int 0), (0, .ref b), (1, .ref x), (2, .ref m), (3, .ref o), (4, .int (nI i))]) (st' := [.long ((nI (ct (pOut (stXn (nI (W * H)) nr mk (dXa (W * H) nr (wlF wl (gr_num (nI W) (nI H) (xs (i + 1)) (xs (i + 2))).toNatClampNeg) mk ds 4) cnt dr X (xs (i + 3)).toNatClampNeg).1) cnt) - nI (ct (pOut (stXn (nI (W * H)) nr mk ds cnt dr X (xs (i + 3)).toNatClampNeg).1) cnt)).toInt64), .long ((nI (ct (pOut (stXn (nI (W * H)) nr mk (dXa (W * H) nr (wlF wl (gr_num (nI W) (nI H) (xs (i + 1)) (xs (i + 2))).toNatClampNeg) mk ds 4) cnt dr X (xs (i + 3)).toNatClampNeg).1) cnt) - nI (ct (pOut (stXn (nI (W * H)) nr mk ds cnt dr X (xs (i + 3)).toNatClampNeg).1) cnt)).toInt64)]) _ (ms_deC dL_law_1574 (ms_deC dL_law_1576 ms_deN)) rfl rfl ?_
    refine ms_lcmp dL_law_1577 ?_
    rw [lg_same]
    refine ms_if_eq (tgt := 1583) dL_law_1578 (by decide) (fun _ => ?_) (fun h9 => absurd h9 (by decide))
    refine ms_goto (tgt := 1736) dL_law_1583 (by decide) ?_
    refine ms_W.room (k2 := kr) (z2 := zr) ?_ (by omega) (by omega)
    refine ms_W.sub (lv2 := [(0, _), (1, _), (2, _), (3, _), (4, _)]) ?_ [2, 3, 4, 5, 6] rfl
    exact kk n8 K8 ⟨aw, am, ai, ah, W, H, cnt, _, dr, pa, X, nr, wl, mk, ds, mm, hS8, hM8, ⟨by omega, by omega, by omega, by omega, by omega⟩, hne, hge, hnoe, ⟨hW0, hW, hH0, hH⟩, hc, hL9, hmm, hds, hd, hwl, (hV.mono (by omega)), (hhe.mono (by omega))⟩ ⟨by omega, _, hro8⟩
set_option maxHeartbeats 1000000 in
set_option maxRecDepth 20000 in
theorem cs_jamIn {x g q c j q2 c2 o m b L k i n : Nat} {xs : Nat → Int32} {G : ms_H} {P : ms_P} {kr zr : Nat} (ho : ox x g q c j q2 c2) (hoo : c2 + 29 ≤ o) (hS : lS x g q c j q2 c2 o m k n G) (hO : lo_at o n G) (hk : k < 512) (hi : i + 5 < L) (hL : L ≤ 3072) (kk : ∀ n1 G1, lS x g q c j q2 c2 o m (k + 1) n1 G1 → lo_at o n1 G1 → ms_W false (m_L_lw b L xs) P 1736 [(0, .ref b), (1, .ref x), (2, .ref m), (3, .ref o), (4, .int (nI i))] [] n1 G1 kr zr) : ms_W false (m_L_lw b L xs) P 1586 [(0, .ref b), (1, .ref x), (2, .ref m), (3, .ref o), (4, .int (nI i))] [] n G (394 + kr) (12720 + zr) := by
  obtain ⟨aw, am, ai, ah, W, H, cnt, th, dr, pa, X, nr, wl, mk, ds, mm, hS5, hM6, hl, hne, hge, hnoe, hWH, hc, hL9, hmm, hds, hd, hwl, hV, hhe⟩ := hS
  obtain ⟨hW0, hW, hH0, hH⟩ := hWH
  obtain ⟨hon, fo, hro⟩ := hO
  have hp : 0 < W * H := Nat.mul_pos hW0 hH0
  obtain ⟨l1, l2, l3, l4, l5⟩ := id hl
  obtain ⟨g1, g2, g3, g4, g5⟩ := id hge
  obtain ⟨e1, e2, e3, e4, e5⟩ := id hnoe
  have ho9 := ho
  obtain ⟨o1, o2, o3, o4, o5, o6⟩ := ho
  have h196 := fd_196 hW hH
  refine ms_run (pc' := 1592) (lv' := [(0, .ref b), (1, .ref x), (2, .ref m), (3, .ref o), (4, .int (nI i))]) (st' := [.int ((nI i) + 1), .ref b, .ref x]) _ (ms_deC dL_law_1586 (ms_deC dL_law_1587 (ms_deC dL_law_1588 (ms_deC dL_law_1590 (ms_deC dL_law_1591 ms_deN))))) rfl rfl ?_
  refine ms_sld dL_law_1592 rfl (sc_in (j := 1) (by omega) (by omega)) ?_
  rw [show (nI i + 1).toNatClampNeg = i + 1 from sc_at (j := 1) (by omega)]
  refine ms_run (pc' := 1594) (lv' := [(0, .ref b), (1, .ref x), (2, .ref m), (3, .ref o), (4, .int (nI i))]) (st' := [.ref o, .int (xs (i + 1)), .ref x]) _ (ms_deC dL_law_1593 ms_deN) rfl rfl ?_
  refine ms_W.room (k2 := 1 + (393 + kr)) (z2 := 6 + (12714 + zr)) ?_ (by omega) (by omega)
  refine ms_callSX (As := [.ref x, .int (xs (i + 1)), .ref o]) dL_law_1594 (c_L_jamIn ho9 hS5 hoo hro hc hV.2.1 (xs (i + 1))) cs_L_164 (List.cons_ne_nil _ _) rfl ⟨Nat.le_of_ble_eq_true rfl, Nat.le_of_ble_eq_true rfl⟩ rfl (Nat.le_of_ble_eq_true rfl) (fun v9 n9 K9 hp9 => ?_) (fun E9 n9 K9 hp9 => hp9.noX)
  cases hth : (th_ah (xs (i + 1))) with
  | some E9 =>
    obtain ⟨hn9, hv9, hG9⟩ := hp9.t hth
    obtain ⟨t9, ht9, ht0⟩ : ∃ t9 : Int32, (fun _ => 1) E9 = t9 ∧ ¬ t9 = 0 := ⟨_, rfl, cd1_n E9⟩
    have hv8 : v9 = some (Value.int t9) := hv9.trans (congrArg (fun q => some (Value.int q)) ht9)
    subst hv8
    subst hG9
    have hl9 : md_lt n9 m aw am ai ah := ⟨by omega, by omega, by omega, by omega, by omega⟩
    refine ms_run (pc' := 1605) (lv' := [(5, .int t9), (0, .ref b), (1, .ref x), (2, .ref m), (3, .ref o), (4, .int (nI i))]) (st' := [.int ((nI i) + 1), .ref b, .ref m]) _ (ms_deC dL_law_1597 (ms_deC dL_law_1599 (ms_deC dL_law_1600 (ms_deC dL_law_1601 (ms_deC dL_law_1603 (ms_deC dL_law_1604 ms_deN)))))) rfl rfl ?_
    refine ms_sld dL_law_1605 rfl (sc_in (j := 1) (by omega) (by omega)) ?_
    rw [show (nI i + 1).toNatClampNeg = i + 1 from sc_at (j := 1) (by omega)]
    refine ms_W.room (k2 := 258 + kr) (z2 := 7845 + zr) ?_ (by omega) (by omega)
    refine ms_callV (As := [.int (xs (i + 1))]) dL_law_1606 (c_X6_jamIn hM6 hl9 hW hH hW0 hc hne hL9 hmm hds hd (show 20 * k < 1000000 by omega) hV (show _ < _ by omega) (xs (i + 1))) cv_L_166 hM6.1 rfl ⟨Nat.le_of_ble_eq_true rfl, Nat.le_of_ble_eq_true rfl⟩ rfl (Nat.le_of_ble_eq_true rfl) (fun v8 n8 K8 hp8 => ?_)
    obtain ⟨hn8, hF8, hv7, hq8⟩ := hp8.t hth
    subst hv7
    have hM8 : md_at K8 m aw am ai ah W H t9 X.2.2.2 dr pa cnt wl mm X.2.1 X.1 := by rw [← ht9]; exact hq8
    have hS8 := hS5.co ho9 (fun a ha => hF8 a (by omega) (by rintro (z9 | z9 | z9 | z9 | z9) <;> omega))
    have hro8 := (hF8 o (by omega) (by rintro (z9 | z9 | z9 | z9 | z9) <;> omega)).trans hro
    refine ms_run (pc' := 1612) (lv' := [(6, .int 0), (5, .int t9), (0, .ref b), (1, .ref x), (2, .ref m), (3, .ref o), (4, .int (nI i))]) (st' := [.ref m]) _ (ms_deC dL_law_1609 (ms_deC dL_law_1611 ms_deN)) rfl rfl ?_
    refine ms_callVp (As := []) dL_law_1612 (c_X6_thrown hM8) cv_L_93 hM8.1 rfl ⟨Nat.le_of_ble_eq_true rfl, Nat.le_of_ble_eq_true rfl⟩ rfl (Nat.le_of_ble_eq_true rfl) ?_
    refine ms_run (pc' := 1617) (lv' := [(6, .int 0), (5, .int t9), (0, .ref b), (1, .ref x), (2, .ref m), (3, .ref o), (4, .int (nI i))]) (st' := [.int t9, .int t9]) _ (ms_deC dL_law_1615 ms_deN) rfl rfl ?_
    refine ms_icmp_eq (tgt := 1622) dL_law_1617 (by decide) (fun h_1617 => ?_) (fun h_1617 => ?_)
    · skip
      refine ms_run (pc' := 1624) (lv' := [(6, .int 0), (5, .int t9), (0, .ref b), (1, .ref x), (2, .ref m), (3, .ref o), (4, .int (nI i))]) (st' := [.int t9]) _ (ms_deC dL_law_1622 ms_deN) rfl rfl ?_
      refine ms_if_ne (tgt := 1639) dL_law_1624 (by decide) (fun h_1624 => ?_) (fun h_1624 => ?_)
      · skip
        refine ms_goto (tgt := 1736) dL_law_1639 (by decide) ?_
        refine ms_W.room (k2 := kr) (z2 := zr) ?_ (by omega) (by omega)
        refine ms_W.sub (lv2 := [(0, _), (1, _), (2, _), (3, _), (4, _)]) ?_ [2, 3, 4, 5, 6] rfl
        exact kk n8 K8 ⟨aw, am, ai, ah, W, H, cnt, _, dr, pa, X, nr, wl, mk, ds, mm, hS8, hM8, ⟨by omega, by omega, by omega, by omega, by omega⟩, hne, hge, hnoe, ⟨hW0, hW, hH0, hH⟩, hc, hL9, hmm, hds, hd, hwl, (hV.mono (by omega)), (hhe.mono (by omega))⟩ ⟨by omega, _, hro8⟩
      · skip
        exact absurd (by first | exact h_1624 | exact Decidable.not_not.mp h_1624) ht0
    · skip
      exact absurd rfl h_1617
  | none =>
    obtain ⟨hn9, hv9, K7, f7, hQ7, hf7, hK9⟩ := hp9.n hth
    subst hv9
    obtain ⟨hS7, hF7⟩ := hQ7
    have hK9o : K9 o = some (oR f7) := by rw [hK9]; exact ms_up_s _ _ _
    have hfr7 : ∀ a, a ≠ o → K9 a = K7 a := fun a h1 => by rw [hK9]; exact ms_up_n _ _ h1
    have hM9 : md_at K9 m aw am ai ah W H th X.2.2.2 dr pa cnt wl mm X.2.1 X.1 := hM6.co (fun a h1 => (hfr7 a (by rcases h1 with z9 | z9 | z9 | z9 | z9 <;> omega)).trans (hF7 a (by rcases h1 with z9 | z9 | z9 | z9 | z9 <;> omega)))
    have hl9 : md_lt n9 m aw am ai ah := ⟨by omega, by omega, by omega, by omega, by omega⟩
    refine ms_run (pc' := 1605) (lv' := [(5, .int 0), (0, .ref b), (1, .ref x), (2, .ref m), (3, .ref o), (4, .int (nI i))]) (st' := [.int ((nI i) + 1), .ref b, .ref m]) _ (ms_deC dL_law_1597 (ms_deC dL_law_1599 (ms_deC dL_law_1600 (ms_deC dL_law_1601 (ms_deC dL_law_1603 (ms_deC dL_law_1604 ms_deN)))))) rfl rfl ?_
    refine ms_sld dL_law_1605 rfl (sc_in (j := 1) (by omega) (by omega)) ?_
    rw [show (nI i + 1).toNatClampNeg = i + 1 from sc_at (j := 1) (by omega)]
    refine ms_W.room (k2 := 258 + kr) (z2 := 7845 + zr) ?_ (by omega) (by omega)
    refine ms_callV (As := [.int (xs (i + 1))]) dL_law_1606 (c_X6_jamIn hM9 hl9 hW hH hW0 hc hne hL9 hmm hds hd (show 20 * k < 1000000 by omega) hV (show _ < _ by omega) (xs (i + 1))) cv_L_166 hM9.1 rfl ⟨Nat.le_of_ble_eq_true rfl, Nat.le_of_ble_eq_true rfl⟩ rfl (Nat.le_of_ble_eq_true rfl) (fun v8 n8 K8 hp8 => ?_)
    obtain ⟨hn8, hF8, hv7, hq8⟩ := hp8.n hth
    subst hv7
    have hM8 := hq8
    have hS8 := hS7.co ho9 (fun a ha => (hF8 a (by omega) (by rintro (z9 | z9 | z9 | z9 | z9) <;> omega)).trans (hfr7 a (by omega)))
    have hro8 := (hF8 o (by omega) (by rintro (z9 | z9 | z9 | z9 | z9) <;> omega)).trans hK9o
    refine ms_run (pc' := 1612) (lv' := [(6, .int (fst1 (fun t => decide (an (fun j => decide (pJam pa ((stXn (nI (W * H)) nr mk ds cnt dr X t).1 j))) cnt = true)) (fun t => nI t) 0 ((xs (i + 1)).toNatClampNeg + 1))), (5, .int 0), (0, .ref b), (1, .ref x), (2, .ref m), (3, .ref o), (4, .int (nI i))]) (st' := [.ref m]) _ (ms_deC dL_law_1609 (ms_deC dL_law_1611 ms_deN)) rfl rfl ?_
    refine ms_callVp (As := []) dL_law_1612 (c_X6_thrown hM8) cv_L_93 hM8.1 rfl ⟨Nat.le_of_ble_eq_true rfl, Nat.le_of_ble_eq_true rfl⟩ rfl (Nat.le_of_ble_eq_true rfl) ?_
    refine ms_run (pc' := 1617) (lv' := [(6, .int (fst1 (fun t => decide (an (fun j => decide (pJam pa ((stXn (nI (W * H)) nr mk ds cnt dr X t).1 j))) cnt = true)) (fun t => nI t) 0 ((xs (i + 1)).toNatClampNeg + 1))), (5, .int 0), (0, .ref b), (1, .ref x), (2, .ref m), (3, .ref o), (4, .int (nI i))]) (st' := [.int 0, .int 0]) _ (ms_deC dL_law_1615 ms_deN) rfl rfl ?_
    refine ms_icmp_eq (tgt := 1622) dL_law_1617 (by decide) (fun _ => ?_) (fun h9 => absurd h9 (by decide))
    refine ms_run (pc' := 1624) (lv' := [(6, .int (fst1 (fun t => decide (an (fun j => decide (pJam pa ((stXn (nI (W * H)) nr mk ds cnt dr X t).1 j))) cnt = true)) (fun t => nI t) 0 ((xs (i + 1)).toNatClampNeg + 1))), (5, .int 0), (0, .ref b), (1, .ref x), (2, .ref m), (3, .ref o), (4, .int (nI i))]) (st' := [.int 0]) _ (ms_deC dL_law_1622 ms_deN) rfl rfl ?_
    refine ms_if_ne (tgt := 1639) dL_law_1624 (by decide) (fun h9 => absurd h9 (by decide)) (fun _ => ?_)
    refine ms_run (pc' := 1629) (lv' := [(6, .int (fst1 (fun t => decide (an (fun j => decide (pJam pa ((stXn (nI (W * H)) nr mk ds cnt dr X t).1 j))) cnt = true)) (fun t => nI t) 0 ((xs (i + 1)).toNatClampNeg + 1))), (5, .int 0), (0, .ref b), (1, .ref x), (2, .ref m), (3, .ref o), (4, .int (nI i))]) (st' := [.int 0, .ref o]) _ (ms_deC dL_law_1627 (ms_deC dL_law_1628 ms_deN)) rfl rfl ?_
    refine ms_laload dL_law_1629 hro8 (by unfold vp_in; decide) ?_
    rw [show f7 (0 : Int32).toNatClampNeg = ((fst1 (fun t => decide (an (fun j => decide (pJam pa ((stXn (nI (W * H)) nr mk ds cnt dr X t).1 j))) cnt = true)) (fun t => nI t) 0 ((xs (i + 1)).toNatClampNeg + 1))).toInt64 from hf7]
    refine ms_run (pc' := 1633) (lv' := [(6, .int (fst1 (fun t => decide (an (fun j => decide (pJam pa ((stXn (nI (W * H)) nr mk ds cnt dr X t).1 j))) cnt = true)) (fun t => nI t) 0 ((xs (i + 1)).toNatClampNeg + 1))), (5, .int 0), (0, .ref b), (1, .ref x), (2, .ref m), (3, .ref o), (4, .int (nI i))]) (st' := [.long ((fst1 (fun t => decide (an (fun j => decide (pJam pa ((stXn (nI (W * H)) nr mk ds cnt dr X t).1 j))) cnt = true)) (fun t => nI t) 0 ((xs (i + 1)).toNatClampNeg + 1)).toInt64), .long ((fst1 (fun t => decide (an (fun j => decide (pJam pa ((stXn (nI (W * H)) nr mk ds cnt dr X t).1 j))) cnt = true)) (fun t => nI t) 0 ((xs (i + 1)).toNatClampNeg + 1)).toInt64)]) _ (ms_deC dL_law_1630 (ms_deC dL_law_1632 ms_deN)) rfl rfl ?_
    refine ms_lcmp dL_law_1633 ?_
    rw [lg_same]
    refine ms_if_eq (tgt := 1639) dL_law_1634 (by decide) (fun _ => ?_) (fun h9 => absurd h9 (by decide))
    refine ms_goto (tgt := 1736) dL_law_1639 (by decide) ?_
    refine ms_W.room (k2 := kr) (z2 := zr) ?_ (by omega) (by omega)
    refine ms_W.sub (lv2 := [(0, _), (1, _), (2, _), (3, _), (4, _)]) ?_ [2, 3, 4, 5, 6] rfl
    exact kk n8 K8 ⟨aw, am, ai, ah, W, H, cnt, _, dr, pa, X, nr, wl, mk, ds, mm, hS8, hM8, ⟨by omega, by omega, by omega, by omega, by omega⟩, hne, hge, hnoe, ⟨hW0, hW, hH0, hH⟩, hc, hL9, hmm, hds, hd, hwl, (hV.mono (by omega)), (hhe.mono (by omega))⟩ ⟨by omega, _, hro8⟩
set_option maxHeartbeats 1000000 in
set_option maxRecDepth 20000 in
theorem cs_farWith {x g q c j q2 c2 o m b L k i n : Nat} {xs : Nat → Int32} {G : ms_H} {P : ms_P} {kr zr : Nat} (ho : ox x g q c j q2 c2) (hoo : c2 + 29 ≤ o) (hS : lS x g q c j q2 c2 o m k n G) (hO : lo_at o n G) (hk : k < 512) (hi : i + 5 < L) (hL : L ≤ 3072) (kk : ∀ n1 G1, lS x g q c j q2 c2 o m (k + 1) n1 G1 → lo_at o n1 G1 → ms_W false (m_L_lw b L xs) P 1736 [(0, .ref b), (1, .ref x), (2, .ref m), (3, .ref o), (4, .int (nI i))] [] n1 G1 kr zr) : ms_W false (m_L_lw b L xs) P 1642 [(0, .ref b), (1, .ref x), (2, .ref m), (3, .ref o), (4, .int (nI i))] [] n G (394 + kr) (12720 + zr) := by
  obtain ⟨aw, am, ai, ah, W, H, cnt, th, dr, pa, X, nr, wl, mk, ds, mm, hS5, hM6, hl, hne, hge, hnoe, hWH, hc, hL9, hmm, hds, hd, hwl, hV, hhe⟩ := hS
  obtain ⟨hW0, hW, hH0, hH⟩ := hWH
  obtain ⟨hon, fo, hro⟩ := hO
  have hp : 0 < W * H := Nat.mul_pos hW0 hH0
  obtain ⟨l1, l2, l3, l4, l5⟩ := id hl
  obtain ⟨g1, g2, g3, g4, g5⟩ := id hge
  obtain ⟨e1, e2, e3, e4, e5⟩ := id hnoe
  have ho9 := ho
  obtain ⟨o1, o2, o3, o4, o5, o6⟩ := ho
  have h196 := fd_196 hW hH
  refine ms_run (pc' := 1648) (lv' := [(0, .ref b), (1, .ref x), (2, .ref m), (3, .ref o), (4, .int (nI i))]) (st' := [.int ((nI i) + 1), .ref b, .ref x]) _ (ms_deC dL_law_1642 (ms_deC dL_law_1643 (ms_deC dL_law_1644 (ms_deC dL_law_1646 (ms_deC dL_law_1647 ms_deN))))) rfl rfl ?_
  refine ms_sld dL_law_1648 rfl (sc_in (j := 1) (by omega) (by omega)) ?_
  rw [show (nI i + 1).toNatClampNeg = i + 1 from sc_at (j := 1) (by omega)]
  refine ms_run (pc' := 1654) (lv' := [(0, .ref b), (1, .ref x), (2, .ref m), (3, .ref o), (4, .int (nI i))]) (st' := [.int ((nI i) + 2), .ref b, .int (xs (i + 1)), .ref x]) _ (ms_deC dL_law_1649 (ms_deC dL_law_1650 (ms_deC dL_law_1652 (ms_deC dL_law_1653 ms_deN)))) rfl rfl ?_
  refine ms_sld dL_law_1654 rfl (sc_in (j := 2) (by omega) (by omega)) ?_
  rw [show (nI i + 2).toNatClampNeg = i + 2 from sc_at (j := 2) (by omega)]
  refine ms_run (pc' := 1660) (lv' := [(0, .ref b), (1, .ref x), (2, .ref m), (3, .ref o), (4, .int (nI i))]) (st' := [.int ((nI i) + 3), .ref b, .int (xs (i + 2)), .int (xs (i + 1)), .ref x]) _ (ms_deC dL_law_1655 (ms_deC dL_law_1656 (ms_deC dL_law_1658 (ms_deC dL_law_1659 ms_deN)))) rfl rfl ?_
  refine ms_sld dL_law_1660 rfl (sc_in (j := 3) (by omega) (by omega)) ?_
  rw [show (nI i + 3).toNatClampNeg = i + 3 from sc_at (j := 3) (by omega)]
  refine ms_run (pc' := 1662) (lv' := [(0, .ref b), (1, .ref x), (2, .ref m), (3, .ref o), (4, .int (nI i))]) (st' := [.ref o, .int (xs (i + 3)), .int (xs (i + 2)), .int (xs (i + 1)), .ref x]) _ (ms_deC dL_law_1661 ms_deN) rfl rfl ?_
  refine ms_W.room (k2 := 1 + (393 + kr)) (z2 := 6 + (12714 + zr)) ?_ (by omega) (by omega)
  refine ms_callSX (As := [.ref x, .int (xs (i + 1)), .int (xs (i + 2)), .int (xs (i + 3)), .ref o]) dL_law_1662 (c_L_farWith ho9 hS5 hoo hro hW hH (xs (i + 1)) (xs (i + 2)) (xs (i + 3))) cs_L_167 (List.cons_ne_nil _ _) rfl ⟨Nat.le_of_ble_eq_true rfl, Nat.le_of_ble_eq_true rfl⟩ rfl (Nat.le_of_ble_eq_true rfl) (fun v9 n9 K9 hp9 => ?_) (fun E9 n9 K9 hp9 => hp9.noX)
  cases hth : (th_far W H (xs (i + 1)) (xs (i + 2)) (xs (i + 3))) with
  | some E9 =>
    obtain ⟨hn9, hv9, hG9⟩ := hp9.t hth
    obtain ⟨t9, ht9, ht0⟩ : ∃ t9 : Int32, (fun _ => 1) E9 = t9 ∧ ¬ t9 = 0 := ⟨_, rfl, cd1_n E9⟩
    have hv8 : v9 = some (Value.int t9) := hv9.trans (congrArg (fun q => some (Value.int q)) ht9)
    subst hv8
    subst hG9
    have hl9 : md_lt n9 m aw am ai ah := ⟨by omega, by omega, by omega, by omega, by omega⟩
    refine ms_run (pc' := 1673) (lv' := [(5, .int t9), (0, .ref b), (1, .ref x), (2, .ref m), (3, .ref o), (4, .int (nI i))]) (st' := [.int ((nI i) + 1), .ref b, .ref m]) _ (ms_deC dL_law_1665 (ms_deC dL_law_1667 (ms_deC dL_law_1668 (ms_deC dL_law_1669 (ms_deC dL_law_1671 (ms_deC dL_law_1672 ms_deN)))))) rfl rfl ?_
    refine ms_sld dL_law_1673 rfl (sc_in (j := 1) (by omega) (by omega)) ?_
    rw [show (nI i + 1).toNatClampNeg = i + 1 from sc_at (j := 1) (by omega)]
    refine ms_run (pc' := 1679) (lv' := [(5, .int t9), (0, .ref b), (1, .ref x), (2, .ref m), (3, .ref o), (4, .int (nI i))]) (st' := [.int ((nI i) + 2), .ref b, .int (xs (i + 1)), .ref m]) _ (ms_deC dL_law_1674 (ms_deC dL_law_1675 (ms_deC dL_law_1677 (ms_deC dL_law_1678 ms_deN)))) rfl rfl ?_
    refine ms_sld dL_law_1679 rfl (sc_in (j := 2) (by omega) (by omega)) ?_
    rw [show (nI i + 2).toNatClampNeg = i + 2 from sc_at (j := 2) (by omega)]
    refine ms_run (pc' := 1685) (lv' := [(5, .int t9), (0, .ref b), (1, .ref x), (2, .ref m), (3, .ref o), (4, .int (nI i))]) (st' := [.int ((nI i) + 3), .ref b, .int (xs (i + 2)), .int (xs (i + 1)), .ref m]) _ (ms_deC dL_law_1680 (ms_deC dL_law_1681 (ms_deC dL_law_1683 (ms_deC dL_law_1684 ms_deN)))) rfl rfl ?_
    refine ms_sld dL_law_1685 rfl (sc_in (j := 3) (by omega) (by omega)) ?_
    rw [show (nI i + 3).toNatClampNeg = i + 3 from sc_at (j := 3) (by omega)]
    refine ms_W.room (k2 := 4 + kr) (z2 := 784 + zr) ?_ (by omega) (by omega)
    refine ms_callV (As := [.int (xs (i + 1)), .int (xs (i + 2)), .int (xs (i + 3))]) dL_law_1686 (c_X6_farWith hM6 hl9 hW hH hW0 hc hne hL9 hmm hds hd (show 20 * k < 1000000 by omega) hV hwl (xs (i + 1)) (xs (i + 2)) (xs (i + 3))) cv_L_169 hM6.1 rfl ⟨Nat.le_of_ble_eq_true rfl, Nat.le_of_ble_eq_true rfl⟩ rfl (Nat.le_of_ble_eq_true rfl) (fun v8 n8 K8 hp8 => ?_)
    obtain ⟨hn8, hF8, hv7, hq8⟩ := hp8.t hth
    subst hv7
    have hM8 : md_at K8 m aw am ai ah W H t9 X.2.2.2 dr pa cnt wl mm X.2.1 X.1 := by rw [← ht9]; exact hq8
    have hS8 := hS5.co ho9 (fun a ha => hF8 a (by omega) (by rintro (z9 | z9 | z9 | z9 | z9) <;> omega))
    have hro8 := (hF8 o (by omega) (by rintro (z9 | z9 | z9 | z9 | z9) <;> omega)).trans hro
    refine ms_run (pc' := 1692) (lv' := [(6, .int 0), (5, .int t9), (0, .ref b), (1, .ref x), (2, .ref m), (3, .ref o), (4, .int (nI i))]) (st' := [.ref m]) _ (ms_deC dL_law_1689 (ms_deC dL_law_1691 ms_deN)) rfl rfl ?_
    refine ms_callVp (As := []) dL_law_1692 (c_X6_thrown hM8) cv_L_93 hM8.1 rfl ⟨Nat.le_of_ble_eq_true rfl, Nat.le_of_ble_eq_true rfl⟩ rfl (Nat.le_of_ble_eq_true rfl) ?_
    refine ms_run (pc' := 1697) (lv' := [(6, .int 0), (5, .int t9), (0, .ref b), (1, .ref x), (2, .ref m), (3, .ref o), (4, .int (nI i))]) (st' := [.int t9, .int t9]) _ (ms_deC dL_law_1695 ms_deN) rfl rfl ?_
    refine ms_icmp_eq (tgt := 1702) dL_law_1697 (by decide) (fun h_1697 => ?_) (fun h_1697 => ?_)
    · skip
      refine ms_run (pc' := 1704) (lv' := [(6, .int 0), (5, .int t9), (0, .ref b), (1, .ref x), (2, .ref m), (3, .ref o), (4, .int (nI i))]) (st' := [.int t9]) _ (ms_deC dL_law_1702 ms_deN) rfl rfl ?_
      refine ms_if_ne (tgt := 1719) dL_law_1704 (by decide) (fun h_1704 => ?_) (fun h_1704 => ?_)
      · skip
        refine ms_goto (tgt := 1736) dL_law_1719 (by decide) ?_
        refine ms_W.room (k2 := kr) (z2 := zr) ?_ (by omega) (by omega)
        refine ms_W.sub (lv2 := [(0, _), (1, _), (2, _), (3, _), (4, _)]) ?_ [2, 3, 4, 5, 6] rfl
        exact kk n8 K8 ⟨aw, am, ai, ah, W, H, cnt, _, dr, pa, X, nr, wl, mk, ds, mm, hS8, hM8, ⟨by omega, by omega, by omega, by omega, by omega⟩, hne, hge, hnoe, ⟨hW0, hW, hH0, hH⟩, hc, hL9, hmm, hds, hd, hwl, (hV.mono (by omega)), (hhe.mono (by omega))⟩ ⟨by omega, _, hro8⟩
      · skip
        exact absurd (by first | exact h_1704 | exact Decidable.not_not.mp h_1704) ht0
    · skip
      exact absurd rfl h_1697
  | none =>
    obtain ⟨hn9, hv9, K7, f7, hQ7, hf7, hK9⟩ := hp9.n hth
    subst hv9
    obtain ⟨hS7, hF7⟩ := hQ7
    have hK9o : K9 o = some (oR f7) := by rw [hK9]; exact ms_up_s _ _ _
    have hfr7 : ∀ a, a ≠ o → K9 a = K7 a := fun a h1 => by rw [hK9]; exact ms_up_n _ _ h1
    have hM9 : md_at K9 m aw am ai ah W H th X.2.2.2 dr pa cnt wl mm X.2.1 X.1 := hM6.co (fun a h1 => (hfr7 a (by rcases h1 with z9 | z9 | z9 | z9 | z9 <;> omega)).trans (hF7 a (by rcases h1 with z9 | z9 | z9 | z9 | z9 <;> omega)))
    have hl9 : md_lt n9 m aw am ai ah := ⟨by omega, by omega, by omega, by omega, by omega⟩
    refine ms_run (pc' := 1673) (lv' := [(5, .int 0), (0, .ref b), (1, .ref x), (2, .ref m), (3, .ref o), (4, .int (nI i))]) (st' := [.int ((nI i) + 1), .ref b, .ref m]) _ (ms_deC dL_law_1665 (ms_deC dL_law_1667 (ms_deC dL_law_1668 (ms_deC dL_law_1669 (ms_deC dL_law_1671 (ms_deC dL_law_1672 ms_deN)))))) rfl rfl ?_
    refine ms_sld dL_law_1673 rfl (sc_in (j := 1) (by omega) (by omega)) ?_
    rw [show (nI i + 1).toNatClampNeg = i + 1 from sc_at (j := 1) (by omega)]
    refine ms_run (pc' := 1679) (lv' := [(5, .int 0), (0, .ref b), (1, .ref x), (2, .ref m), (3, .ref o), (4, .int (nI i))]) (st' := [.int ((nI i) + 2), .ref b, .int (xs (i + 1)), .ref m]) _ (ms_deC dL_law_1674 (ms_deC dL_law_1675 (ms_deC dL_law_1677 (ms_deC dL_law_1678 ms_deN)))) rfl rfl ?_
    refine ms_sld dL_law_1679 rfl (sc_in (j := 2) (by omega) (by omega)) ?_
    rw [show (nI i + 2).toNatClampNeg = i + 2 from sc_at (j := 2) (by omega)]
    refine ms_run (pc' := 1685) (lv' := [(5, .int 0), (0, .ref b), (1, .ref x), (2, .ref m), (3, .ref o), (4, .int (nI i))]) (st' := [.int ((nI i) + 3), .ref b, .int (xs (i + 2)), .int (xs (i + 1)), .ref m]) _ (ms_deC dL_law_1680 (ms_deC dL_law_1681 (ms_deC dL_law_1683 (ms_deC dL_law_1684 ms_deN)))) rfl rfl ?_
    refine ms_sld dL_law_1685 rfl (sc_in (j := 3) (by omega) (by omega)) ?_
    rw [show (nI i + 3).toNatClampNeg = i + 3 from sc_at (j := 3) (by omega)]
    refine ms_W.room (k2 := 4 + kr) (z2 := 784 + zr) ?_ (by omega) (by omega)
    refine ms_callV (As := [.int (xs (i + 1)), .int (xs (i + 2)), .int (xs (i + 3))]) dL_law_1686 (c_X6_farWith hM9 hl9 hW hH hW0 hc hne hL9 hmm hds hd (show 20 * k < 1000000 by omega) hV hwl (xs (i + 1)) (xs (i + 2)) (xs (i + 3))) cv_L_169 hM9.1 rfl ⟨Nat.le_of_ble_eq_true rfl, Nat.le_of_ble_eq_true rfl⟩ rfl (Nat.le_of_ble_eq_true rfl) (fun v8 n8 K8 hp8 => ?_)
    obtain ⟨hn8, hF8, hv7, hq8⟩ := hp8.n hth
    subst hv7
    have hM8 := hq8
    have hS8 := hS7.co ho9 (fun a ha => (hF8 a (by omega) (by rintro (z9 | z9 | z9 | z9 | z9) <;> omega)).trans (hfr7 a (by omega)))
    have hro8 := (hF8 o (by omega) (by rintro (z9 | z9 | z9 | z9 | z9) <;> omega)).trans hK9o
    refine ms_run (pc' := 1692) (lv' := [(6, .int (nI (ct (pOth wl (fun k => ds ((xs (i + 1)).toNatClampNeg * 196 + k)) (fun k => (rq (W * H) ds (xs (i + 1)).toNatClampNeg (dXg (W * H) nr (wlF wl (gr_num (nI W) (nI H) (xs (i + 2)) (xs (i + 3))).toNatClampNeg) mk (xs (i + 1)).toNatClampNeg)) ((xs (i + 1)).toNatClampNeg * 196 + k)) (gr_num (nI W) (nI H) (xs (i + 2)) (xs (i + 3))).toNatClampNeg) (W * H)))), (5, .int 0), (0, .ref b), (1, .ref x), (2, .ref m), (3, .ref o), (4, .int (nI i))]) (st' := [.ref m]) _ (ms_deC dL_law_1689 (ms_deC dL_law_1691 ms_deN)) rfl rfl ?_
    refine ms_callVp (As := []) dL_law_1692 (c_X6_thrown hM8) cv_L_93 hM8.1 rfl ⟨Nat.le_of_ble_eq_true rfl, Nat.le_of_ble_eq_true rfl⟩ rfl (Nat.le_of_ble_eq_true rfl) ?_
    refine ms_run (pc' := 1697) (lv' := [(6, .int (nI (ct (pOth wl (fun k => ds ((xs (i + 1)).toNatClampNeg * 196 + k)) (fun k => (rq (W * H) ds (xs (i + 1)).toNatClampNeg (dXg (W * H) nr (wlF wl (gr_num (nI W) (nI H) (xs (i + 2)) (xs (i + 3))).toNatClampNeg) mk (xs (i + 1)).toNatClampNeg)) ((xs (i + 1)).toNatClampNeg * 196 + k)) (gr_num (nI W) (nI H) (xs (i + 2)) (xs (i + 3))).toNatClampNeg) (W * H)))), (5, .int 0), (0, .ref b), (1, .ref x), (2, .ref m), (3, .ref o), (4, .int (nI i))]) (st' := [.int 0, .int 0]) _ (ms_deC dL_law_1695 ms_deN) rfl rfl ?_
    refine ms_icmp_eq (tgt := 1702) dL_law_1697 (by decide) (fun _ => ?_) (fun h9 => absurd h9 (by decide))
    refine ms_run (pc' := 1704) (lv' := [(6, .int (nI (ct (pOth wl (fun k => ds ((xs (i + 1)).toNatClampNeg * 196 + k)) (fun k => (rq (W * H) ds (xs (i + 1)).toNatClampNeg (dXg (W * H) nr (wlF wl (gr_num (nI W) (nI H) (xs (i + 2)) (xs (i + 3))).toNatClampNeg) mk (xs (i + 1)).toNatClampNeg)) ((xs (i + 1)).toNatClampNeg * 196 + k)) (gr_num (nI W) (nI H) (xs (i + 2)) (xs (i + 3))).toNatClampNeg) (W * H)))), (5, .int 0), (0, .ref b), (1, .ref x), (2, .ref m), (3, .ref o), (4, .int (nI i))]) (st' := [.int 0]) _ (ms_deC dL_law_1702 ms_deN) rfl rfl ?_
    refine ms_if_ne (tgt := 1719) dL_law_1704 (by decide) (fun h9 => absurd h9 (by decide)) (fun _ => ?_)
    refine ms_run (pc' := 1709) (lv' := [(6, .int (nI (ct (pOth wl (fun k => ds ((xs (i + 1)).toNatClampNeg * 196 + k)) (fun k => (rq (W * H) ds (xs (i + 1)).toNatClampNeg (dXg (W * H) nr (wlF wl (gr_num (nI W) (nI H) (xs (i + 2)) (xs (i + 3))).toNatClampNeg) mk (xs (i + 1)).toNatClampNeg)) ((xs (i + 1)).toNatClampNeg * 196 + k)) (gr_num (nI W) (nI H) (xs (i + 2)) (xs (i + 3))).toNatClampNeg) (W * H)))), (5, .int 0), (0, .ref b), (1, .ref x), (2, .ref m), (3, .ref o), (4, .int (nI i))]) (st' := [.int 0, .ref o]) _ (ms_deC dL_law_1707 (ms_deC dL_law_1708 ms_deN)) rfl rfl ?_
    refine ms_laload dL_law_1709 hro8 (by unfold vp_in; decide) ?_
    rw [show f7 (0 : Int32).toNatClampNeg = ((nI (ct (pOth wl (fun k => ds ((xs (i + 1)).toNatClampNeg * 196 + k)) (fun k => (rq (W * H) ds (xs (i + 1)).toNatClampNeg (dXg (W * H) nr (wlF wl (gr_num (nI W) (nI H) (xs (i + 2)) (xs (i + 3))).toNatClampNeg) mk (xs (i + 1)).toNatClampNeg)) ((xs (i + 1)).toNatClampNeg * 196 + k)) (gr_num (nI W) (nI H) (xs (i + 2)) (xs (i + 3))).toNatClampNeg) (W * H)))).toInt64 from hf7]
    refine ms_run (pc' := 1713) (lv' := [(6, .int (nI (ct (pOth wl (fun k => ds ((xs (i + 1)).toNatClampNeg * 196 + k)) (fun k => (rq (W * H) ds (xs (i + 1)).toNatClampNeg (dXg (W * H) nr (wlF wl (gr_num (nI W) (nI H) (xs (i + 2)) (xs (i + 3))).toNatClampNeg) mk (xs (i + 1)).toNatClampNeg)) ((xs (i + 1)).toNatClampNeg * 196 + k)) (gr_num (nI W) (nI H) (xs (i + 2)) (xs (i + 3))).toNatClampNeg) (W * H)))), (5, .int 0), (0, .ref b), (1, .ref x), (2, .ref m), (3, .ref o), (4, .int (nI i))]) (st' := [.long ((nI (ct (pOth wl (fun k => ds ((xs (i + 1)).toNatClampNeg * 196 + k)) (fun k => (rq (W * H) ds (xs (i + 1)).toNatClampNeg (dXg (W * H) nr (wlF wl (gr_num (nI W) (nI H) (xs (i + 2)) (xs (i + 3))).toNatClampNeg) mk (xs (i + 1)).toNatClampNeg)) ((xs (i + 1)).toNatClampNeg * 196 + k)) (gr_num (nI W) (nI H) (xs (i + 2)) (xs (i + 3))).toNatClampNeg) (W * H))).toInt64), .long ((nI (ct (pOth wl (fun k => ds ((xs (i + 1)).toNatClampNeg * 196 + k)) (fun k => (rq (W * H) ds (xs (i + 1)).toNatClampNeg (dXg (W * H) nr (wlF wl (gr_num (nI W) (nI H) (xs (i + 2)) (xs (i + 3))).toNatClampNeg) mk (xs (i + 1)).toNatClampNeg)) ((xs (i + 1)).toNatClampNeg * 196 + k)) (gr_num (nI W) (nI H) (xs (i + 2)) (xs (i + 3))).toNatClampNeg) (W * H))).toInt64)]) _ (ms_deC dL_law_1710 (ms_deC dL_law_1712 ms_deN)) rfl rfl ?_
    refine ms_lcmp dL_law_1713 ?_
    rw [lg_same]
    refine ms_if_eq (tgt := 1719) dL_law_1714 (by decide) (fun _ => ?_) (fun h9 => absurd h9 (by decide))
    refine ms_goto (tgt := 1736) dL_law_1719 (by decide) ?_
    refine ms_W.room (k2 := kr) (z2 := zr) ?_ (by omega) (by omega)
    refine ms_W.sub (lv2 := [(0, _), (1, _), (2, _), (3, _), (4, _)]) ?_ [2, 3, 4, 5, 6] rfl
    exact kk n8 K8 ⟨aw, am, ai, ah, W, H, cnt, _, dr, pa, X, nr, wl, mk, ds, mm, hS8, hM8, ⟨by omega, by omega, by omega, by omega, by omega⟩, hne, hge, hnoe, ⟨hW0, hW, hH0, hH⟩, hc, hL9, hmm, hds, hd, hwl, (hV.mono (by omega)), (hhe.mono (by omega))⟩ ⟨by omega, _, hro8⟩
set_option maxHeartbeats 1000000 in
set_option maxRecDepth 20000 in
theorem cs_digest {x g q c j q2 c2 o m b L k i n : Nat} {xs : Nat → Int32} {G : ms_H} {P : ms_P} {kr zr : Nat} (ho : ox x g q c j q2 c2) (hoo : c2 + 29 ≤ o) (hS : lS x g q c j q2 c2 o m k n G) (hO : lo_at o n G) (hk : k < 512) (hi : i + 5 < L) (hL : L ≤ 3072) (kk : ∀ n1 G1, lS x g q c j q2 c2 o m (k + 1) n1 G1 → lo_at o n1 G1 → ms_W false (m_L_lw b L xs) P 1736 [(0, .ref b), (1, .ref x), (2, .ref m), (3, .ref o), (4, .int (nI i))] [] n1 G1 kr zr) : ms_W false (m_L_lw b L xs) P 1722 [(0, .ref b), (1, .ref x), (2, .ref m), (3, .ref o), (4, .int (nI i))] [] n G (394 + kr) (12720 + zr) := by
  obtain ⟨aw, am, ai, ah, W, H, cnt, th, dr, pa, X, nr, wl, mk, ds, mm, hS5, hM6, hl, hne, hge, hnoe, hWH, hc, hL9, hmm, hds, hd, hwl, hV, hhe⟩ := hS
  obtain ⟨hW0, hW, hH0, hH⟩ := hWH
  obtain ⟨hon, fo, hro⟩ := hO
  have hp : 0 < W * H := Nat.mul_pos hW0 hH0
  obtain ⟨l1, l2, l3, l4, l5⟩ := id hl
  obtain ⟨g1, g2, g3, g4, g5⟩ := id hge
  obtain ⟨e1, e2, e3, e4, e5⟩ := id hnoe
  have ho9 := ho
  obtain ⟨o1, o2, o3, o4, o5, o6⟩ := ho
  have h196 := fd_196 hW hH
  refine ms_run (pc' := 1723) (lv' := [(0, .ref b), (1, .ref x), (2, .ref m), (3, .ref o), (4, .int (nI i))]) (st' := [.ref x]) _ (ms_deC dL_law_1722 ms_deN) rfl rfl ?_
  refine ms_callV0 (As := []) dL_law_1723 (c_X5_digest ho9 hS5 hc hW hH hp) cv_L_170 hS5.1 rfl ⟨Nat.le_of_ble_eq_true rfl, Nat.le_of_ble_eq_true rfl⟩ rfl (Nat.le_of_ble_eq_true rfl) (fun v9 n9 K9 hp9 => ?_)
  obtain ⟨hv9, hn9, hS7, hF7⟩ := hp9
  cases hv9
  have hK9o : K9 o = some (oR fo) := (hF7 o (by omega)).trans hro
  have hM9 : md_at K9 m aw am ai ah W H th X.2.2.2 dr pa cnt wl mm X.2.1 X.1 := hM6.co (fun a h1 => hF7 a (by rcases h1 with z9 | z9 | z9 | z9 | z9 <;> omega))
  have hl9 : md_lt n9 m aw am ai ah := ⟨by omega, by omega, by omega, by omega, by omega⟩
  refine ms_run (pc' := 1727) (lv' := [(0, .ref b), (1, .ref x), (2, .ref m), (3, .ref o), (4, .int (nI i))]) (st' := [.ref m, .long (dgX (W * H) nr wl ds cnt dr X (jxX pa cnt nr X))]) _ (ms_deC dL_law_1726 ms_deN) rfl rfl ?_
  refine ms_W.room (k2 := 10 + kr) (z2 := 1596 + zr) ?_ (by omega) (by omega)
  refine ms_callV (As := []) dL_law_1727 (c_X6_digest hM9 hl9 hW hH hW0 hc hne hL9 hmm hds hd (show 20 * k < 1000000 by omega) hV (show _ < _ by omega) hhe hp) cv_L_174 hM9.1 rfl ⟨Nat.le_of_ble_eq_true rfl, Nat.le_of_ble_eq_true rfl⟩ rfl (Nat.le_of_ble_eq_true rfl) (fun v8 n8 K8 hp8 => ?_)
  obtain ⟨hn8, hF8, hv7, hM8⟩ := hp8.n rfl
  subst hv7
  have hS8 := hS7.co ho9 (fun a ha => hF8 a (by omega) (by rintro (z9 | z9 | z9 | z9 | z9) <;> omega))
  have hro8 := (hF8 o (by omega) (by rintro (z9 | z9 | z9 | z9 | z9) <;> omega)).trans hK9o
  refine ms_lcmp dL_law_1730 ?_
  rw [lg_same]
  refine ms_if_eq (tgt := 1736) dL_law_1731 (by decide) (fun _ => ?_) (fun h9 => absurd h9 (by decide))
  refine ms_W.room (k2 := kr) (z2 := zr) ?_ (by omega) (by omega)
  refine ms_W.sub (lv2 := [(0, _), (1, _), (2, _), (3, _), (4, _)]) ?_ [0, 1, 2, 3, 4] rfl
  exact kk n8 K8 ⟨aw, am, ai, ah, W, H, cnt, _, dr, pa, X, nr, wl, mk, ds, mm, hS8, hM8, ⟨by omega, by omega, by omega, by omega, by omega⟩, hne, hge, hnoe, ⟨hW0, hW, hH0, hH⟩, hc, hL9, hmm, hds, hd, hwl, (hV.mono (by omega)), (hhe.mono (by omega))⟩ ⟨by omega, _, hro8⟩

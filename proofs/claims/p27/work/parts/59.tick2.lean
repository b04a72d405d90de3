/-! Flock: tick, who goes and the whole -/
theorem wv_eq {W : Nat} {u v : Nat → Int32} (h : ∀ i, i < 8 → u i = v i) : ∀ c, c < 9 → wvX W u c = wvX W v c := fun c hc => by
  match c, hc with
  | 0, _ => exact h 0 (by omega)
  | 1, _ => exact h 1 (by omega)
  | 2, _ => exact h 2 (by omega)
  | 3, _ => exact congrArg (xX W) (h 3 (by omega))
  | 4, _ => exact congrArg (yX W) (h 3 (by omega))
  | 5, _ => exact h 4 (by omega)
  | 6, _ => exact h 5 (by omega)
  | 7, _ => exact h 6 (by omega)
  | 8, _ => exact h 7 (by omega)
  | c + 9, hc => omega
theorem wv_wait {W : Nat} {u : Nat → Int32} : ∀ c, c < 9 → upd (wvX W u) 6 (u 5 + 1) c = wvX W (fun j => upd u 5 (u 5 + 1) j) c := fun c hc => by
  match c, hc with
  | 0, _ | 1, _ | 2, _ | 3, _ | 4, _ | 5, _ | 6, _ | 7, _ | 8, _ => rfl
  | c + 9, hc => omega
theorem wv_in {W t : Nat} {u : Nat → Int32} {s : Int32} (ht : t < 1000) : ∀ c, c < 9 → upd (upd (upd (upd (upd (wvX W u) 3 (nI (t % W))) 4 (nI (t / W))) 5 s) 6 0) 7 (u 6 + 1) c = wvX W (fun j => (upd (upd (upd (upd u 4 s) 5 0) 6 (u 6 + 1)) 3 (nI t)) j) c := fun c hc => by
  have h := xX_n (W := W) (o := t) ht rfl
  match c, hc with
  | 0, _ | 1, _ | 2, _ | 5, _ | 6, _ | 7, _ | 8, _ => rfl
  | 3, _ => exact h.1.symm
  | 4, _ => exact h.2.symm
  | c + 9, hc => omega
theorem wv_out {W t : Nat} {u : Nat → Int32} {s T : Int32} : ∀ c, c < 9 → upd (upd (upd (upd (upd (upd (upd (upd (wvX W u) 3 (nI (t % W))) 4 (nI (t / W))) 5 s) 6 0) 7 (u 6 + 1)) 3 (-1)) 4 (-1)) 8 T c = wvX W (fun j => (upd (upd (upd (upd (upd u 4 s) 5 0) 6 (u 6 + 1)) 3 (-1)) 7 T) j) c := fun c hc => by
  match c, hc with
  | 0, _ | 1, _ | 2, _ | 5, _ | 6, _ | 7, _ | 8, _ => rfl
  | 3, _ => exact (xX_m rfl).1.symm
  | 4, _ => exact (xX_m rfl).2.symm
  | c + 9, hc => omega
set_option maxHeartbeats 1000000 in
set_option maxRecDepth 20000 in
theorem l3_X6_tick {n o x sb fa wa W H cnt N t0 : Nat} {G : ms_H} {dw dr pa : Int32} {wr : Nat → Nat} {fv : Nat → Nat → Int32} {X : cX} {nr wl mk ds : Nat → Int32} (fl : fk_lt n o fa W H wa cnt wr) (ly : fk_ly o fa W H wa cnt wr) (hW : W ≤ 14) (hH : H ≤ 14) (hc : cnt ≤ 24) (hW0 : 0 < W) (hL : lk_ok W H (W * H) nr) (hfv : fvR (W * H) wl mk fv) (hht : ∀ f, f < W * H → fv f 1 = X.2.1 f) (hds : dsR (W * H) nr wl mk ds) (hd9 : 0 ≤ dr ∧ dr ≤ 9) (hN : N < 1000000) (hV9 : wdV W H cnt N X) (ht0 : X.2.2.2 = nI t0) (ht9 : t0 < 900) {go : Nat → Int32} (hgo : ∀ j, j < cnt → (go j = 1 ∧ goB (W * H) nr ds cnt dr X j) ∨ (go j = 0 ∧ ¬ goB (W * H) nr ds cnt dr X j)) : ∀ (r k : Nat), k + r = cnt → ∀ (K : ms_H), fk_O K o x sb dw W H (X.2.2.2 + 1) dr pa fa wa → fk_F K fa W H (fvh fv (hoK (W * H) nr mk ds cnt dr X k)) → fk_V K wa cnt wr (fun j => wvX W ((uw (stX1 (nI (W * H)) nr mk ds cnt dr X).1 X.1 k) j)) → K (n + 1 + 1 + W + 1 + W + 1 + W + 1 + W) = some (.inl (0, cnt, .inl (fl2 (wfX (W * H) nr ds cnt dr X) cnt))) → K (n + 1 + 1 + W + 1 + W + 1 + W + 1 + W + 1) = some (.inl (1, cnt, .inl go)) → (∀ a, a < fa → ¬ a = o → K a = G a) → ms_W false m_X6_tick (fun r n1 G1 => r = .inl (some (.int (nI (ct (pGf (W * H) nr mk ds cnt dr X) cnt)))) ∧ n ≤ n1 ∧ (∀ a, a < fa → ¬ a = o → G1 a = G a) ∧ ∃ fv1, fk_at G1 o x sb dw W H (X.2.2.2 + 1) dr pa fa wa cnt wr fv1 (stX1 (nI (W * H)) nr mk ds cnt dr X).1 ∧ fvR (W * H) wl mk fv1 ∧ ∀ f, f < W * H → fv1 f 1 = (stX1 (nI (W * H)) nr mk ds cnt dr X).2.1 f) 301 [(0, .ref o), (2, .int (nI cnt)), (3, .ref (n + 1 + 1 + W + 1 + W + 1 + W + 1 + W)), (4, .ref (n + 1 + 1 + W + 1 + W + 1 + W + 1 + W + 1)), (5, .int (nI (ct (pGf (W * H) nr mk ds cnt dr X) k))), (6, .int (nI k))] [] (n + 1 + 1 + W + 1 + W + 1 + W + 1 + W + 1 + 1) K 0 0 := by
  have h9 : W * H ≤ 196 := Nat.mul_le_mul hW hH
  obtain ⟨l1, l2, l3, l4⟩ := fl
  obtain ⟨y1, y2, y3⟩ := ly
  have had := ad_fa (fa := fa) (H := H) (i := W)
  intro r
  induction r with
  | zero =>
    intro k hk K hOK hFK hVK hwK hgK hFR
    have hkN : k = cnt := by omega
    refine ms_run (pc' := 304) (lv' := [(0, .ref o), (2, .int (nI cnt)), (3, .ref (n + 1 + 1 + W + 1 + W + 1 + W + 1 + W)), (4, .ref (n + 1 + 1 + W + 1 + W + 1 + W + 1 + W + 1)), (5, .int (nI (ct (pGf (W * H) nr mk ds cnt dr X) k))), (6, .int (nI k))]) (st' := [.int (nI cnt), .int (nI k)]) _ (ms_deC dX6_tick_301 (ms_deC dX6_tick_303 ms_deN)) rfl rfl ?_
    refine ms_icmp_ge (tgt := 477) dX6_tick_304 (by decide) (fun h_304 => ?_) (fun h_304 => ?_)
    · skip
      refine ms_run (pc' := 479) (lv' := [(0, .ref o), (2, .int (nI cnt)), (3, .ref (n + 1 + 1 + W + 1 + W + 1 + W + 1 + W)), (4, .ref (n + 1 + 1 + W + 1 + W + 1 + W + 1 + W + 1)), (5, .int (nI (ct (pGf (W * H) nr mk ds cnt dr X) k))), (6, .int (nI k))]) (st' := [.int (nI (ct (pGf (W * H) nr mk ds cnt dr X) k))]) _ (ms_deC dX6_tick_477 ms_deN) rfl rfl ?_
      refine ms_reti (st := []) (ty := .int) dX6_tick_479 rfl rfl ?_
      refine ⟨by rw [hkN], by omega, hFR, fvh fv (hoK (W * H) nr mk ds cnt dr X cnt), ⟨hOK, by rw [hkN] at hFK; exact hFK, hVK.W (fun j hj c hc9 => ?_)⟩, fun f hf => ⟨(hfv f hf).1, fun g hg => (if_neg (by omega)).trans ((hfv f hf).2 g hg)⟩, fun f hf => rfl⟩
      exact congrFun (congrArg (wvX W) (if_pos (by omega))) c
    · skip
      exact absurd (by exact nI_le (b := k) (by omega) (by omega)) h_304
  | succ r ih =>
    intro k hk K hOK hFK hVK hwK hgK hFR
    have hlt : k < cnt := by omega
    refine ms_run (pc' := 304) (lv' := [(0, .ref o), (2, .int (nI cnt)), (3, .ref (n + 1 + 1 + W + 1 + W + 1 + W + 1 + W)), (4, .ref (n + 1 + 1 + W + 1 + W + 1 + W + 1 + W + 1)), (5, .int (nI (ct (pGf (W * H) nr mk ds cnt dr X) k))), (6, .int (nI k))]) (st' := [.int (nI cnt), .int (nI k)]) _ (ms_deC dX6_tick_301 (ms_deC dX6_tick_303 ms_deN)) rfl rfl ?_
    refine ms_icmp_ge (tgt := 477) dX6_tick_304 (by decide) (fun h_304 => ?_) (fun h_304 => ?_)
    · skip
      exact absurd h_304 (by exact nI_ge (b := cnt) (by omega) (by omega))
    · skip
      have y3k := y3 k hlt
      have l4k := l4 k hlt
      have hVK0 : fk_V K wa cnt wr (va_up (fun j => wvX W ((uw (stX1 (nI (W * H)) nr mk ds cnt dr X).1 X.1 k) j)) k (wvX W (X.1 k))) := by
        have h5 := hVK.wide k
        rw [show wvX W ((uw (stX1 (nI (W * H)) nr mk ds cnt dr X).1 X.1 k) k) = wvX W (X.1 k) from congrArg (wvX W) (if_neg (Nat.lt_irrefl k))] at h5
        exact h5
      rcases hgo k hlt with ⟨hgv, hgo9⟩ | ⟨hgv, hgo9⟩
      · skip
        obtain ⟨htn, s9, own, t9, hs9, hown, ht9b, hpo, hnb, hsd9, hwv, htg, honf, -⟩ := goB_of hL hW hH hc hV9 hlt hgo9
        have hxy := xX_n (W := W) (o := own) (by omega) hpo
        have hd1 := fd_div hown
        have hsd := (side_at hL hW hH hown hs9).2 t9 ht9b hnb
        have hd2 := fd_div ht9b
        have hend := ad_end (fa := fa) hd2.1 hd2.2.1
        have hlo9 := ad_fa (fa := fa) (H := H) (i := t9 % W)
        have hnn9 : 0 ≤ t9 / W := Nat.zero_le _
        obtain ⟨g9, hg9, eg⟩ := nI_of2 (M := 3) (n := 3) rfl (Int32.not_lt.mpr (hV9.2.2.1 k hlt).1.1) (by have h5 := (hV9.2.2.1 k hlt).1.2; rw [nb_lt] at h5; rw [nb_le]; have e4 : (4 : Int32).toInt = 4 := rfl; have e3 : (3 : Int32).toInt = 3 := rfl; omega)
        have hnu := nu_go (mk := mk) hL hW hH hc hV9 hlt hgo9 (show g9 < 4 by omega) eg ht9b hsd9 htg
        have hho := ho_go (mk := mk) hL hW hH hc hV9 hlt hgo9 ht9b htg
        refine ms_run (pc' := 308) (lv' := [(0, .ref o), (2, .int (nI cnt)), (3, .ref (n + 1 + 1 + W + 1 + W + 1 + W + 1 + W)), (4, .ref (n + 1 + 1 + W + 1 + W + 1 + W + 1 + W + 1)), (5, .int (nI (ct (pGf (W * H) nr mk ds cnt dr X) k))), (6, .int (nI k))]) (st' := [.ref o]) _ (ms_deC dX6_tick_307 ms_deN) rfl rfl ?_
        refine ms_getf dX6_tick_308 fg_X6_36 hOK rfl ?_
        refine ms_run (pc' := 313) (lv' := [(0, .ref o), (2, .int (nI cnt)), (3, .ref (n + 1 + 1 + W + 1 + W + 1 + W + 1 + W)), (4, .ref (n + 1 + 1 + W + 1 + W + 1 + W + 1 + W + 1)), (5, .int (nI (ct (pGf (W * H) nr mk ds cnt dr X) k))), (6, .int (nI k))]) (st' := [.int (nI k), .ref wa]) _ (ms_deC dX6_tick_311 ms_deN) rfl rfl ?_
        refine fk_ldv (i := k) dX6_tick_313 hVK0 hlt hc ?_
        refine ms_run (pc' := 319) (lv' := [(7, .ref (wr k)), (0, .ref o), (2, .int (nI cnt)), (3, .ref (n + 1 + 1 + W + 1 + W + 1 + W + 1 + W)), (4, .ref (n + 1 + 1 + W + 1 + W + 1 + W + 1 + W + 1)), (5, .int (nI (ct (pGf (W * H) nr mk ds cnt dr X) k))), (6, .int (nI k))]) (st' := [.int (nI k), .ref (n + 1 + 1 + W + 1 + W + 1 + W + 1 + W)]) _ (ms_deC dX6_tick_314 (ms_deC dX6_tick_316 (ms_deC dX6_tick_317 ms_deN))) rfl rfl ?_
        refine ms_iaload dX6_tick_319 hwK (vp_in_nI hlt (by omega)) ?_
        rw [nI_clamp (n := k) (by omega), fl2_at hlt, hwv]
        refine ms_if_lt (tgt := 340) dX6_tick_320 (by decide) (fun h_320 => ?_) (fun h_320 => ?_)
        · skip
          exact absurd h_320 (nI_pos (by omega))
        · skip
          refine ms_run (pc' := 327) (lv' := [(7, .ref (wr k)), (0, .ref o), (2, .int (nI cnt)), (3, .ref (n + 1 + 1 + W + 1 + W + 1 + W + 1 + W)), (4, .ref (n + 1 + 1 + W + 1 + W + 1 + W + 1 + W + 1)), (5, .int (nI (ct (pGf (W * H) nr mk ds cnt dr X) k))), (6, .int (nI k))]) (st' := [.int (nI k), .ref (n + 1 + 1 + W + 1 + W + 1 + W + 1 + W + 1)]) _ (ms_deC dX6_tick_323 (ms_deC dX6_tick_325 ms_deN)) rfl rfl ?_
          refine ms_zaload dX6_tick_327 hgK (vp_in_nI hlt (by omega)) ?_
          rw [nI_clamp (n := k) (by omega), hgv]
          refine ms_if_ne (tgt := 340) dX6_tick_328 (by decide) (fun _ => ?_) (fun h9 => absurd h9 (by decide))
          refine ms_run (pc' := 344) (lv' := [(7, .ref (wr k)), (0, .ref o), (2, .int (nI cnt)), (3, .ref (n + 1 + 1 + W + 1 + W + 1 + W + 1 + W)), (4, .ref (n + 1 + 1 + W + 1 + W + 1 + W + 1 + W + 1)), (5, .int (nI (ct (pGf (W * H) nr mk ds cnt dr X) k))), (6, .int (nI k))]) (st' := [.int (nI k), .ref (n + 1 + 1 + W + 1 + W + 1 + W + 1 + W + 1)]) _ (ms_deC dX6_tick_340 (ms_deC dX6_tick_342 ms_deN)) rfl rfl ?_
          refine ms_zaload dX6_tick_344 hgK (vp_in_nI hlt (by omega)) ?_
          rw [nI_clamp (n := k) (by omega), hgv]
          refine ms_if_ne (tgt := 351) dX6_tick_345 (by decide) (fun _ => ?_) (fun h9 => absurd h9 (by decide))
          refine ms_run (pc' := 355) (lv' := [(7, .ref (wr k)), (0, .ref o), (2, .int (nI cnt)), (3, .ref (n + 1 + 1 + W + 1 + W + 1 + W + 1 + W)), (4, .ref (n + 1 + 1 + W + 1 + W + 1 + W + 1 + W + 1)), (5, .int (nI (ct (pGf (W * H) nr mk ds cnt dr X) k))), (6, .int (nI k))]) (st' := [.int 3, .ref (wr k), .int 3, .ref (wr k)]) _ (ms_deC dX6_tick_351 (ms_deC dX6_tick_353 (ms_deC dX6_tick_354 ms_deN))) rfl rfl ?_
          refine fk_ldU (c := 3) (v := nI (own % W)) dX6_tick_355 hVK0 hlt (by decide) rfl (hxy.1) ?_
          refine ms_run (pc' := 359) (lv' := [(7, .ref (wr k)), (0, .ref o), (2, .int (nI cnt)), (3, .ref (n + 1 + 1 + W + 1 + W + 1 + W + 1 + W)), (4, .ref (n + 1 + 1 + W + 1 + W + 1 + W + 1 + W + 1)), (5, .int (nI (ct (pGf (W * H) nr mk ds cnt dr X) k))), (6, .int (nI k))]) (st' := [.int (nI k), .ref (n + 1 + 1 + W + 1 + W + 1 + W + 1 + W), .int (nI (own % W)), .int 3, .ref (wr k)]) _ (ms_deC dX6_tick_356 (ms_deC dX6_tick_357 ms_deN)) rfl rfl ?_
          refine ms_iaload dX6_tick_359 hwK (vp_in_nI hlt (by omega)) ?_
          rw [nI_clamp (n := k) (by omega), fl2_at hlt, hwv]
          refine ms_callSp (As := [.int (nI s9)]) dX6_tick_360 (c_X6_sideX (nI s9)) cs_X6_112 rfl ⟨Nat.le_of_ble_eq_true rfl, Nat.le_of_ble_eq_true rfl⟩ rfl (Nat.le_of_ble_eq_true rfl) ?_
          refine ms_run (pc' := 364) (lv' := [(7, .ref (wr k)), (0, .ref o), (2, .int (nI cnt)), (3, .ref (n + 1 + 1 + W + 1 + W + 1 + W + 1 + W)), (4, .ref (n + 1 + 1 + W + 1 + W + 1 + W + 1 + W + 1)), (5, .int (nI (ct (pGf (W * H) nr mk ds cnt dr X) k))), (6, .int (nI k))]) (st' := [.int ((nI (own % W)) + (fsx (nI s9))), .int 3, .ref (wr k)]) _ (ms_deC dX6_tick_363 ms_deN) rfl rfl ?_
          rw [hsd.1]
          refine fk_stU (c := 3) dX6_tick_364 hVK0 hlt (by decide) rfl (fun Ka0 hKa0 hVa0 => ?_)
          have hOb1 : fk_O Ka0 o x sb dw W H (X.2.2.2 + 1) dr pa fa wa := (hKa0 o (by omega)).trans hOK
          have hFb1 := hFK.fr (G1 := Ka0) (fun a h1 h2 => hKa0 a (by omega)) hW0
          have hwb1 := (hKa0 (n + 1 + 1 + W + 1 + W + 1 + W + 1 + W) (by omega)).trans hwK
          have hgb1 := (hKa0 (n + 1 + 1 + W + 1 + W + 1 + W + 1 + W + 1) (by omega)).trans hgK
          have hFRb1 : (∀ a, a < fa → ¬ a = o → Ka0 a = G a) := fun a h1 h2 => (hKa0 a (by omega)).trans (hFR a h1 h2)
          refine ms_run (pc' := 369) (lv' := [(7, .ref (wr k)), (0, .ref o), (2, .int (nI cnt)), (3, .ref (n + 1 + 1 + W + 1 + W + 1 + W + 1 + W)), (4, .ref (n + 1 + 1 + W + 1 + W + 1 + W + 1 + W + 1)), (5, .int (nI (ct (pGf (W * H) nr mk ds cnt dr X) k))), (6, .int (nI k))]) (st' := [.int 4, .ref (wr k), .int 4, .ref (wr k)]) _ (ms_deC dX6_tick_365 (ms_deC dX6_tick_367 (ms_deC dX6_tick_368 ms_deN))) rfl rfl ?_
          refine fk_ldU (c := 4) (v := nI (own / W)) dX6_tick_369 hVa0 hlt (by decide) rfl (hxy.2) ?_
          refine ms_run (pc' := 373) (lv' := [(7, .ref (wr k)), (0, .ref o), (2, .int (nI cnt)), (3, .ref (n + 1 + 1 + W + 1 + W + 1 + W + 1 + W)), (4, .ref (n + 1 + 1 + W + 1 + W + 1 + W + 1 + W + 1)), (5, .int (nI (ct (pGf (W * H) nr mk ds cnt dr X) k))), (6, .int (nI k))]) (st' := [.int (nI k), .ref (n + 1 + 1 + W + 1 + W + 1 + W + 1 + W), .int (nI (own / W)), .int 4, .ref (wr k)]) _ (ms_deC dX6_tick_370 (ms_deC dX6_tick_371 ms_deN)) rfl rfl ?_
          refine ms_iaload dX6_tick_373 hwb1 (vp_in_nI hlt (by omega)) ?_
          rw [nI_clamp (n := k) (by omega), fl2_at hlt, hwv]
          refine ms_callSp (As := [.int (nI s9)]) dX6_tick_374 (c_X6_sideY (nI s9)) cs_X6_115 rfl ⟨Nat.le_of_ble_eq_true rfl, Nat.le_of_ble_eq_true rfl⟩ rfl (Nat.le_of_ble_eq_true rfl) ?_
          refine ms_run (pc' := 378) (lv' := [(7, .ref (wr k)), (0, .ref o), (2, .int (nI cnt)), (3, .ref (n + 1 + 1 + W + 1 + W + 1 + W + 1 + W)), (4, .ref (n + 1 + 1 + W + 1 + W + 1 + W + 1 + W + 1)), (5, .int (nI (ct (pGf (W * H) nr mk ds cnt dr X) k))), (6, .int (nI k))]) (st' := [.int ((nI (own / W)) + (fsy (nI s9))), .int 4, .ref (wr k)]) _ (ms_deC dX6_tick_377 ms_deN) rfl rfl ?_
          rw [hsd.2]
          refine fk_stU (c := 4) dX6_tick_378 hVa0 hlt (by decide) rfl (fun Ka1 hKa1 hVa1 => ?_)
          have hOb2 : fk_O Ka1 o x sb dw W H (X.2.2.2 + 1) dr pa fa wa := (hKa1 o (by omega)).trans hOb1
          have hFb2 := hFb1.fr (G1 := Ka1) (fun a h1 h2 => hKa1 a (by omega)) hW0
          have hwb2 := (hKa1 (n + 1 + 1 + W + 1 + W + 1 + W + 1 + W) (by omega)).trans hwb1
          have hgb2 := (hKa1 (n + 1 + 1 + W + 1 + W + 1 + W + 1 + W + 1) (by omega)).trans hgb1
          have hFRb2 : (∀ a, a < fa → ¬ a = o → Ka1 a = G a) := fun a h1 h2 => (hKa1 a (by omega)).trans (hFRb1 a h1 h2)
          refine ms_run (pc' := 385) (lv' := [(7, .ref (wr k)), (0, .ref o), (2, .int (nI cnt)), (3, .ref (n + 1 + 1 + W + 1 + W + 1 + W + 1 + W)), (4, .ref (n + 1 + 1 + W + 1 + W + 1 + W + 1 + W + 1)), (5, .int (nI (ct (pGf (W * H) nr mk ds cnt dr X) k))), (6, .int (nI k))]) (st' := [.int (nI k), .ref (n + 1 + 1 + W + 1 + W + 1 + W + 1 + W), .int 5, .ref (wr k)]) _ (ms_deC dX6_tick_379 (ms_deC dX6_tick_381 (ms_deC dX6_tick_382 (ms_deC dX6_tick_383 ms_deN)))) rfl rfl ?_
          refine ms_iaload dX6_tick_385 hwb2 (vp_in_nI hlt (by omega)) ?_
          rw [nI_clamp (n := k) (by omega), fl2_at hlt, hwv]
          refine fk_stU (c := 5) dX6_tick_386 hVa1 hlt (by decide) rfl (fun Ka2 hKa2 hVa2 => ?_)
          have hOb3 : fk_O Ka2 o x sb dw W H (X.2.2.2 + 1) dr pa fa wa := (hKa2 o (by omega)).trans hOb2
          have hFb3 := hFb2.fr (G1 := Ka2) (fun a h1 h2 => hKa2 a (by omega)) hW0
          have hwb3 := (hKa2 (n + 1 + 1 + W + 1 + W + 1 + W + 1 + W) (by omega)).trans hwb2
          have hgb3 := (hKa2 (n + 1 + 1 + W + 1 + W + 1 + W + 1 + W + 1) (by omega)).trans hgb2
          have hFRb3 : (∀ a, a < fa → ¬ a = o → Ka2 a = G a) := fun a h1 h2 => (hKa2 a (by omega)).trans (hFRb2 a h1 h2)
          refine ms_run (pc' := 392) (lv' := [(7, .ref (wr k)), (0, .ref o), (2, .int (nI cnt)), (3, .ref (n + 1 + 1 + W + 1 + W + 1 + W + 1 + W)), (4, .ref (n + 1 + 1 + W + 1 + W + 1 + W + 1 + W + 1)), (5, .int (nI (ct (pGf (W * H) nr mk ds cnt dr X) k))), (6, .int (nI k))]) (st' := [.int 0, .int 6, .ref (wr k)]) _ (ms_deC dX6_tick_387 (ms_deC dX6_tick_389 (ms_deC dX6_tick_391 ms_deN))) rfl rfl ?_
          refine fk_stU (c := 6) dX6_tick_392 hVa2 hlt (by decide) rfl (fun Ka3 hKa3 hVa3 => ?_)
          have hOb4 : fk_O Ka3 o x sb dw W H (X.2.2.2 + 1) dr pa fa wa := (hKa3 o (by omega)).trans hOb3
          have hFb4 := hFb3.fr (G1 := Ka3) (fun a h1 h2 => hKa3 a (by omega)) hW0
          have hwb4 := (hKa3 (n + 1 + 1 + W + 1 + W + 1 + W + 1 + W) (by omega)).trans hwb3
          have hgb4 := (hKa3 (n + 1 + 1 + W + 1 + W + 1 + W + 1 + W + 1) (by omega)).trans hgb3
          have hFRb4 : (∀ a, a < fa → ¬ a = o → Ka3 a = G a) := fun a h1 h2 => (hKa3 a (by omega)).trans (hFRb3 a h1 h2)
          refine ms_run (pc' := 398) (lv' := [(7, .ref (wr k)), (0, .ref o), (2, .int (nI cnt)), (3, .ref (n + 1 + 1 + W + 1 + W + 1 + W + 1 + W)), (4, .ref (n + 1 + 1 + W + 1 + W + 1 + W + 1 + W + 1)), (5, .int (nI (ct (pGf (W * H) nr mk ds cnt dr X) k))), (6, .int (nI k))]) (st' := [.int 7, .ref (wr k), .int 7, .ref (wr k)]) _ (ms_deC dX6_tick_393 (ms_deC dX6_tick_395 (ms_deC dX6_tick_397 ms_deN))) rfl rfl ?_
          refine fk_ldU (c := 7) (v := (X.1 k 6)) dX6_tick_398 hVa3 hlt (by decide) rfl (rfl) ?_
          refine ms_run (pc' := 401) (lv' := [(7, .ref (wr k)), (0, .ref o), (2, .int (nI cnt)), (3, .ref (n + 1 + 1 + W + 1 + W + 1 + W + 1 + W)), (4, .ref (n + 1 + 1 + W + 1 + W + 1 + W + 1 + W + 1)), (5, .int (nI (ct (pGf (W * H) nr mk ds cnt dr X) k))), (6, .int (nI k))]) (st' := [.int ((X.1 k 6) + 1), .int 7, .ref (wr k)]) _ (ms_deC dX6_tick_399 (ms_deC dX6_tick_400 ms_deN)) rfl rfl ?_
          refine fk_stU (c := 7) dX6_tick_401 hVa3 hlt (by decide) rfl (fun Ka4 hKa4 hVa4 => ?_)
          have hOb5 : fk_O Ka4 o x sb dw W H (X.2.2.2 + 1) dr pa fa wa := (hKa4 o (by omega)).trans hOb4
          have hFb5 := hFb4.fr (G1 := Ka4) (fun a h1 h2 => hKa4 a (by omega)) hW0
          have hwb5 := (hKa4 (n + 1 + 1 + W + 1 + W + 1 + W + 1 + W) (by omega)).trans hwb4
          have hgb5 := (hKa4 (n + 1 + 1 + W + 1 + W + 1 + W + 1 + W + 1) (by omega)).trans hgb4
          have hFRb5 : (∀ a, a < fa → ¬ a = o → Ka4 a = G a) := fun a h1 h2 => (hKa4 a (by omega)).trans (hFRb4 a h1 h2)
          refine ms_run (pc' := 403) (lv' := [(7, .ref (wr k)), (0, .ref o), (2, .int (nI cnt)), (3, .ref (n + 1 + 1 + W + 1 + W + 1 + W + 1 + W)), (4, .ref (n + 1 + 1 + W + 1 + W + 1 + W + 1 + W + 1)), (5, .int (nI (ct (pGf (W * H) nr mk ds cnt dr X) k))), (6, .int (nI k))]) (st' := [.ref o]) _ (ms_deC dX6_tick_402 ms_deN) rfl rfl ?_
          refine ms_getf dX6_tick_403 fg_X6_31 hOb5 rfl ?_
          refine ms_run (pc' := 409) (lv' := [(7, .ref (wr k)), (0, .ref o), (2, .int (nI cnt)), (3, .ref (n + 1 + 1 + W + 1 + W + 1 + W + 1 + W)), (4, .ref (n + 1 + 1 + W + 1 + W + 1 + W + 1 + W + 1)), (5, .int (nI (ct (pGf (W * H) nr mk ds cnt dr X) k))), (6, .int (nI k))]) (st' := [.int 3, .ref (wr k), .ref fa]) _ (ms_deC dX6_tick_406 (ms_deC dX6_tick_408 ms_deN)) rfl rfl ?_
          refine fk_ldU (c := 3) (v := nI (t9 % W)) dX6_tick_409 hVa4 hlt (by decide) rfl (rfl) ?_
          refine fk_ldA (i := (t9 % W)) dX6_tick_410 hFb5 (by first | assumption | omega) hW ?_
          refine ms_run (pc' := 414) (lv' := [(7, .ref (wr k)), (0, .ref o), (2, .int (nI cnt)), (3, .ref (n + 1 + 1 + W + 1 + W + 1 + W + 1 + W)), (4, .ref (n + 1 + 1 + W + 1 + W + 1 + W + 1 + W + 1)), (5, .int (nI (ct (pGf (W * H) nr mk ds cnt dr X) k))), (6, .int (nI k))]) (st' := [.int 4, .ref (wr k), .ref (mn_ad fa H (t9 % W))]) _ (ms_deC dX6_tick_411 (ms_deC dX6_tick_413 ms_deN)) rfl rfl ?_
          refine fk_ldU (c := 4) (v := nI (t9 / W)) dX6_tick_414 hVa4 hlt (by decide) rfl (rfl) ?_
          refine fk_ldB (j := (t9 / W)) dX6_tick_415 hFb5 (by first | assumption | omega) (by first | assumption | omega) hH ?_
          refine ms_run (pc' := 418) (lv' := [(7, .ref (wr k)), (0, .ref o), (2, .int (nI cnt)), (3, .ref (n + 1 + 1 + W + 1 + W + 1 + W + 1 + W)), (4, .ref (n + 1 + 1 + W + 1 + W + 1 + W + 1 + W + 1)), (5, .int (nI (ct (pGf (W * H) nr mk ds cnt dr X) k))), (6, .int (nI k))]) (st' := [.int 1, .ref (mn_ad fa H (t9 % W) + 1 + (t9 / W)), .int 1, .ref (mn_ad fa H (t9 % W) + 1 + (t9 / W))]) _ (ms_deC dX6_tick_416 (ms_deC dX6_tick_417 ms_deN)) rfl rfl ?_
          refine fk_ldC (c := 1) dX6_tick_418 hFb5 (by first | assumption | omega) (by first | assumption | omega) (by decide) rfl ?_
          refine ms_run (pc' := 421) (lv' := [(7, .ref (wr k)), (0, .ref o), (2, .int (nI cnt)), (3, .ref (n + 1 + 1 + W + 1 + W + 1 + W + 1 + W)), (4, .ref (n + 1 + 1 + W + 1 + W + 1 + W + 1 + W + 1)), (5, .int (nI (ct (pGf (W * H) nr mk ds cnt dr X) k))), (6, .int (nI k))]) (st' := [.int (((fvh fv (hoK (W * H) nr mk ds cnt dr X k)) ((t9 / W) * W + (t9 % W)) 1) + 1), .int 1, .ref (mn_ad fa H (t9 % W) + 1 + (t9 / W))]) _ (ms_deC dX6_tick_419 (ms_deC dX6_tick_420 ms_deN)) rfl rfl ?_
          refine fk_stC (c := 1) dX6_tick_421 hFb5 (by first | assumption | omega) (by first | assumption | omega) (by decide) rfl (fun Ka5 hKa5 hFa5 => ?_)
          rw [fvh_up, hd2.2.2] at hFa5
          rw [show upd (hoK (W * H) nr mk ds cnt dr X k) t9 (fvh fv (hoK (W * H) nr mk ds cnt dr X k) t9 1 + 1) = (hoK (W * H) nr mk ds cnt dr X (k + 1)) from hho.symm] at hFa5
          have hOb6 : fk_O Ka5 o x sb dw W H (X.2.2.2 + 1) dr pa fa wa := (hKa5 o (by omega)).trans hOb5
          have hVb6 := hVa4.fr (G1 := Ka5) (hKa5 wa (by omega)) (fun j hj => hKa5 (wr j) (by have := y3 j hj; omega))
          have hwb6 := (hKa5 (n + 1 + 1 + W + 1 + W + 1 + W + 1 + W) (by omega)).trans hwb5
          have hgb6 := (hKa5 (n + 1 + 1 + W + 1 + W + 1 + W + 1 + W + 1) (by omega)).trans hgb5
          have hFRb6 : (∀ a, a < fa → ¬ a = o → Ka5 a = G a) := fun a h1 h2 => (hKa5 a (by omega)).trans (hFRb5 a h1 h2)
          refine ms_run (pc' := 423) (lv' := [(7, .ref (wr k)), (0, .ref o), (2, .int (nI cnt)), (3, .ref (n + 1 + 1 + W + 1 + W + 1 + W + 1 + W)), (4, .ref (n + 1 + 1 + W + 1 + W + 1 + W + 1 + W + 1)), (5, .int (nI (ct (pGf (W * H) nr mk ds cnt dr X) k))), (6, .int (nI k))]) (st' := [.ref o]) _ (ms_deC dX6_tick_422 ms_deN) rfl rfl ?_
          refine ms_getf dX6_tick_423 fg_X6_31 hOb6 rfl ?_
          refine ms_run (pc' := 429) (lv' := [(7, .ref (wr k)), (0, .ref o), (2, .int (nI cnt)), (3, .ref (n + 1 + 1 + W + 1 + W + 1 + W + 1 + W)), (4, .ref (n + 1 + 1 + W + 1 + W + 1 + W + 1 + W + 1)), (5, .int (nI (ct (pGf (W * H) nr mk ds cnt dr X) k))), (6, .int (nI k))]) (st' := [.int 3, .ref (wr k), .ref fa]) _ (ms_deC dX6_tick_426 (ms_deC dX6_tick_428 ms_deN)) rfl rfl ?_
          refine fk_ldU (c := 3) (v := nI (t9 % W)) dX6_tick_429 hVb6 hlt (by decide) rfl (rfl) ?_
          refine fk_ldA (i := (t9 % W)) dX6_tick_430 hFa5 (by first | assumption | omega) hW ?_
          refine ms_run (pc' := 434) (lv' := [(7, .ref (wr k)), (0, .ref o), (2, .int (nI cnt)), (3, .ref (n + 1 + 1 + W + 1 + W + 1 + W + 1 + W)), (4, .ref (n + 1 + 1 + W + 1 + W + 1 + W + 1 + W + 1)), (5, .int (nI (ct (pGf (W * H) nr mk ds cnt dr X) k))), (6, .int (nI k))]) (st' := [.int 4, .ref (wr k), .ref (mn_ad fa H (t9 % W))]) _ (ms_deC dX6_tick_431 (ms_deC dX6_tick_433 ms_deN)) rfl rfl ?_
          refine fk_ldU (c := 4) (v := nI (t9 / W)) dX6_tick_434 hVb6 hlt (by decide) rfl (rfl) ?_
          refine fk_ldB (j := (t9 / W)) dX6_tick_435 hFa5 (by first | assumption | omega) (by first | assumption | omega) hH ?_
          refine ms_run (pc' := 440) (lv' := [(7, .ref (wr k)), (0, .ref o), (2, .int (nI cnt)), (3, .ref (n + 1 + 1 + W + 1 + W + 1 + W + 1 + W)), (4, .ref (n + 1 + 1 + W + 1 + W + 1 + W + 1 + W + 1)), (5, .int (nI (ct (pGf (W * H) nr mk ds cnt dr X) k))), (6, .int (nI k))]) (st' := [.int 0, .ref (wr k), .int 2, .ref (mn_ad fa H (t9 % W) + 1 + (t9 / W))]) _ (ms_deC dX6_tick_436 (ms_deC dX6_tick_437 (ms_deC dX6_tick_439 ms_deN))) rfl rfl ?_
          refine fk_ldU (c := 0) (v := nI g9) dX6_tick_440 hVb6 hlt (by decide) rfl (eg) ?_
          refine ms_run (pc' := 442) (lv' := [(7, .ref (wr k)), (0, .ref o), (2, .int (nI cnt)), (3, .ref (n + 1 + 1 + W + 1 + W + 1 + W + 1 + W)), (4, .ref (n + 1 + 1 + W + 1 + W + 1 + W + 1 + W + 1)), (5, .int (nI (ct (pGf (W * H) nr mk ds cnt dr X) k))), (6, .int (nI k))]) (st' := [.int (2 + (nI g9)), .ref (mn_ad fa H (t9 % W) + 1 + (t9 / W))]) _ (ms_deC dX6_tick_441 ms_deN) rfl rfl ?_
          refine fk_ldC (c := (2 + g9)) dX6_tick_442 hFa5 (by first | assumption | omega) (by first | assumption | omega) (by omega) (nI_add 2 g9) ?_
          rw [show fvh fv (hoK (W * H) nr mk ds cnt dr X (k + 1)) (t9 / W * W + t9 % W) (2 + g9) = ms_b (¬ mk t9 &&& (1 <<< (nI g9 &&& 31)) = 0) from by rw [hd2.2.2]; exact (if_neg (by omega)).trans ((hfv t9 ht9b).2 g9 (by omega))]
          refine ms_if_ne (tgt := 449) dX6_tick_443 (by decide) (fun h_443 => ?_) (fun h_443 => ?_)
          · skip
            have hmk : ¬ mk t9 &&& (1 <<< (nI g9 &&& 31)) = 0 := Decidable.byContradiction (fun z => h_443 (if_neg z))
            refine ms_run (pc' := 453) (lv' := [(7, .ref (wr k)), (0, .ref o), (2, .int (nI cnt)), (3, .ref (n + 1 + 1 + W + 1 + W + 1 + W + 1 + W)), (4, .ref (n + 1 + 1 + W + 1 + W + 1 + W + 1 + W + 1)), (5, .int (nI (ct (pGf (W * H) nr mk ds cnt dr X) k))), (6, .int (nI k))]) (st' := [.int (-1), .int 3, .ref (wr k)]) _ (ms_deC dX6_tick_449 (ms_deC dX6_tick_451 (ms_deC dX6_tick_452 ms_deN))) rfl rfl ?_
            refine fk_stU (c := 3) dX6_tick_453 hVb6 hlt (by decide) rfl (fun Ka6 hKa6 hVa6 => ?_)
            have hOb7 : fk_O Ka6 o x sb dw W H (X.2.2.2 + 1) dr pa fa wa := (hKa6 o (by omega)).trans hOb6
            have hFb7 := hFa5.fr (G1 := Ka6) (fun a h1 h2 => hKa6 a (by omega)) hW0
            have hwb7 := (hKa6 (n + 1 + 1 + W + 1 + W + 1 + W + 1 + W) (by omega)).trans hwb6
            have hgb7 := (hKa6 (n + 1 + 1 + W + 1 + W + 1 + W + 1 + W + 1) (by omega)).trans hgb6
            have hFRb7 : (∀ a, a < fa → ¬ a = o → Ka6 a = G a) := fun a h1 h2 => (hKa6 a (by omega)).trans (hFRb6 a h1 h2)
            refine ms_run (pc' := 458) (lv' := [(7, .ref (wr k)), (0, .ref o), (2, .int (nI cnt)), (3, .ref (n + 1 + 1 + W + 1 + W + 1 + W + 1 + W)), (4, .ref (n + 1 + 1 + W + 1 + W + 1 + W + 1 + W + 1)), (5, .int (nI (ct (pGf (W * H) nr mk ds cnt dr X) k))), (6, .int (nI k))]) (st' := [.int (-1), .int 4, .ref (wr k)]) _ (ms_deC dX6_tick_454 (ms_deC dX6_tick_456 (ms_deC dX6_tick_457 ms_deN))) rfl rfl ?_
            refine fk_stU (c := 4) dX6_tick_458 hVa6 hlt (by decide) rfl (fun Ka7 hKa7 hVa7 => ?_)
            have hOb8 : fk_O Ka7 o x sb dw W H (X.2.2.2 + 1) dr pa fa wa := (hKa7 o (by omega)).trans hOb7
            have hFb8 := hFb7.fr (G1 := Ka7) (fun a h1 h2 => hKa7 a (by omega)) hW0
            have hwb8 := (hKa7 (n + 1 + 1 + W + 1 + W + 1 + W + 1 + W) (by omega)).trans hwb7
            have hgb8 := (hKa7 (n + 1 + 1 + W + 1 + W + 1 + W + 1 + W + 1) (by omega)).trans hgb7
            have hFRb8 : (∀ a, a < fa → ¬ a = o → Ka7 a = G a) := fun a h1 h2 => (hKa7 a (by omega)).trans (hFRb7 a h1 h2)
            refine ms_run (pc' := 464) (lv' := [(7, .ref (wr k)), (0, .ref o), (2, .int (nI cnt)), (3, .ref (n + 1 + 1 + W + 1 + W + 1 + W + 1 + W)), (4, .ref (n + 1 + 1 + W + 1 + W + 1 + W + 1 + W + 1)), (5, .int (nI (ct (pGf (W * H) nr mk ds cnt dr X) k))), (6, .int (nI k))]) (st' := [.ref o, .int 8, .ref (wr k)]) _ (ms_deC dX6_tick_459 (ms_deC dX6_tick_461 (ms_deC dX6_tick_463 ms_deN))) rfl rfl ?_
            refine ms_getf dX6_tick_464 fg_X6_60 hOb8 rfl ?_
            refine fk_stU (c := 8) dX6_tick_467 hVa7 hlt (by decide) rfl (fun Ka8 hKa8 hVa8 => ?_)
            have hOb9 : fk_O Ka8 o x sb dw W H (X.2.2.2 + 1) dr pa fa wa := (hKa8 o (by omega)).trans hOb8
            have hFb9 := hFb8.fr (G1 := Ka8) (fun a h1 h2 => hKa8 a (by omega)) hW0
            have hwb9 := (hKa8 (n + 1 + 1 + W + 1 + W + 1 + W + 1 + W) (by omega)).trans hwb8
            have hgb9 := (hKa8 (n + 1 + 1 + W + 1 + W + 1 + W + 1 + W + 1) (by omega)).trans hgb8
            have hFRb9 : (∀ a, a < fa → ¬ a = o → Ka8 a = G a) := fun a h1 h2 => (hKa8 a (by omega)).trans (hFRb8 a h1 h2)
            refine ms_run (pc' := 474) (lv' := [(6, .int ((nI k) + 1)), (5, .int ((nI (ct (pGf (W * H) nr mk ds cnt dr X) k)) + 1)), (7, .ref (wr k)), (0, .ref o), (2, .int (nI cnt)), (3, .ref (n + 1 + 1 + W + 1 + W + 1 + W + 1 + W)), (4, .ref (n + 1 + 1 + W + 1 + W + 1 + W + 1 + W + 1))]) (st' := []) _ (ms_deC dX6_tick_468 (ms_deC dX6_tick_471 ms_deN)) rfl rfl ?_
            refine ms_goto (tgt := 301) dX6_tick_474 (by decide) ?_
            have hV2 : fk_V Ka8 wa cnt wr (fun j => wvX W ((uw (stX1 (nI (W * H)) nr mk ds cnt dr X).1 X.1 (k + 1)) j)) := by
              refine ⟨hVa8.1, fun j hj => ?_, hVa8.2.2⟩
              obtain ⟨r9, a9, b9⟩ := hVa8.2.1 j hj
              refine ⟨r9, fun c hc9 => (a9 c hc9).trans ?_, b9⟩
              by_cases ej : j = k
              · subst ej
                refine (congrFun (show va_up _ j _ j = _ from if_pos rfl) c).trans ?_
                show _ = wvX W (uw (stX1 (nI (W * H)) nr mk ds cnt dr X).1 X.1 (j + 1) j) c
                rw [show uw (stX1 (nI (W * H)) nr mk ds cnt dr X).1 X.1 (j + 1) j = (stX1 (nI (W * H)) nr mk ds cnt dr X).1 j from if_pos (Nat.lt_succ_self j)]
                refine Eq.trans ?_ (wv_eq (v := (stX1 (nI (W * H)) nr mk ds cnt dr X).1 j) (fun i hi => ((hnu i hi).trans (if_pos hmk)).symm) c hc9)
                exact wv_out c hc9
              · refine (congrFun (show va_up _ k _ j = _ from if_neg ej) c).trans ?_
                exact congrFun (congrArg (wvX W) (by unfold uw; split <;> split <;> first | rfl | omega)) c
            have hp : (pGf (W * H) nr mk ds cnt dr X) k = true := decide_eq_true ⟨htn.1, (hnu 3 (by omega)).trans (if_pos hmk)⟩
            rw [ct_t (p := (pGf (W * H) nr mk ds cnt dr X)) hp]
            rw [nI_1 k]
            refine ms_W.sub (lv2 := [(0, _), (2, _), (3, _), (4, _), (5, _), (6, _)]) ?_ [3, 4, 5, 6, 1, 0] rfl
            exact ih (k + 1) (by omega) Ka8 hOb9 hFb9 hV2 hwb9 hgb9 hFRb9
          · skip
            have hmk : ¬ ¬ mk t9 &&& (1 <<< (nI g9 &&& 31)) = 0 := fun z => by rw [show ms_b (¬ mk t9 &&& (1 <<< (nI g9 &&& 31)) = 0) = 1 from if_pos z] at h_443; exact absurd h_443 (by decide)
            refine ms_goto (tgt := 471) dX6_tick_446 (by decide) ?_
            refine ms_run (pc' := 474) (lv' := [(6, .int ((nI k) + 1)), (7, .ref (wr k)), (0, .ref o), (2, .int (nI cnt)), (3, .ref (n + 1 + 1 + W + 1 + W + 1 + W + 1 + W)), (4, .ref (n + 1 + 1 + W + 1 + W + 1 + W + 1 + W + 1)), (5, .int (nI (ct (pGf (W * H) nr mk ds cnt dr X) k)))]) (st' := []) _ (ms_deC dX6_tick_471 ms_deN) rfl rfl ?_
            refine ms_goto (tgt := 301) dX6_tick_474 (by decide) ?_
            have hV2 : fk_V Ka5 wa cnt wr (fun j => wvX W ((uw (stX1 (nI (W * H)) nr mk ds cnt dr X).1 X.1 (k + 1)) j)) := by
              refine ⟨hVb6.1, fun j hj => ?_, hVb6.2.2⟩
              obtain ⟨r9, a9, b9⟩ := hVb6.2.1 j hj
              refine ⟨r9, fun c hc9 => (a9 c hc9).trans ?_, b9⟩
              by_cases ej : j = k
              · subst ej
                refine (congrFun (show va_up _ j _ j = _ from if_pos rfl) c).trans ?_
                show _ = wvX W (uw (stX1 (nI (W * H)) nr mk ds cnt dr X).1 X.1 (j + 1) j) c
                rw [show uw (stX1 (nI (W * H)) nr mk ds cnt dr X).1 X.1 (j + 1) j = (stX1 (nI (W * H)) nr mk ds cnt dr X).1 j from if_pos (Nat.lt_succ_self j)]
                refine Eq.trans ?_ (wv_eq (v := (stX1 (nI (W * H)) nr mk ds cnt dr X).1 j) (fun i hi => ((hnu i hi).trans (if_neg hmk)).symm) c hc9)
                exact wv_in (by omega) c hc9
              · refine (congrFun (show va_up _ k _ j = _ from if_neg ej) c).trans ?_
                exact congrFun (congrArg (wvX W) (by unfold uw; split <;> split <;> first | rfl | omega)) c
            have hp : (pGf (W * H) nr mk ds cnt dr X) k = false := decide_eq_false (fun z => nI_m1 (v := t9) (by omega) (((hnu 3 (by omega)).trans (if_neg hmk)).symm.trans z.2))
            rw [ct_f (p := (pGf (W * H) nr mk ds cnt dr X)) hp]
            rw [nI_1 k]
            refine ms_W.sub (lv2 := [(0, _), (2, _), (3, _), (4, _), (5, _), (6, _)]) ?_ [2, 3, 4, 5, 6, 0] rfl
            exact ih (k + 1) (by omega) Ka5 hOb6 hFa5 hV2 hwb6 hgb6 hFRb6
      · skip
        have hnu := nu_stay (mk := mk) hL hW hH hc hV9 hlt hgo9
        have hho := ho_stay (mk := mk) hL hW hH hc hV9 hlt hgo9
        by_cases htn : wk_turn (X.1 k) (X.2.2.2 + 1)
        · skip
          obtain ⟨v9, hwv, hv9⟩ : ∃ v9, (wfX (W * H) nr ds cnt dr X) k = v9 ∧ ¬ v9 < 0 := by
            rcases tk3 (dr := dr) (ds := ds) hL hW hH hV9 hlt with ⟨z, -⟩ | ⟨-, -, -, z⟩ | ⟨-, s9, own, t9, hs9, -, -, -, -, -, z, -⟩
            · exact absurd htn z
            · exact ⟨4, z, by decide⟩
            · exact ⟨nI s9, z, nI_pos (by omega)⟩
          refine ms_run (pc' := 308) (lv' := [(0, .ref o), (2, .int (nI cnt)), (3, .ref (n + 1 + 1 + W + 1 + W + 1 + W + 1 + W)), (4, .ref (n + 1 + 1 + W + 1 + W + 1 + W + 1 + W + 1)), (5, .int (nI (ct (pGf (W * H) nr mk ds cnt dr X) k))), (6, .int (nI k))]) (st' := [.ref o]) _ (ms_deC dX6_tick_307 ms_deN) rfl rfl ?_
          refine ms_getf dX6_tick_308 fg_X6_36 hOK rfl ?_
          refine ms_run (pc' := 313) (lv' := [(0, .ref o), (2, .int (nI cnt)), (3, .ref (n + 1 + 1 + W + 1 + W + 1 + W + 1 + W)), (4, .ref (n + 1 + 1 + W + 1 + W + 1 + W + 1 + W + 1)), (5, .int (nI (ct (pGf (W * H) nr mk ds cnt dr X) k))), (6, .int (nI k))]) (st' := [.int (nI k), .ref wa]) _ (ms_deC dX6_tick_311 ms_deN) rfl rfl ?_
          refine fk_ldv (i := k) dX6_tick_313 hVK0 hlt hc ?_
          refine ms_run (pc' := 319) (lv' := [(7, .ref (wr k)), (0, .ref o), (2, .int (nI cnt)), (3, .ref (n + 1 + 1 + W + 1 + W + 1 + W + 1 + W)), (4, .ref (n + 1 + 1 + W + 1 + W + 1 + W + 1 + W + 1)), (5, .int (nI (ct (pGf (W * H) nr mk ds cnt dr X) k))), (6, .int (nI k))]) (st' := [.int (nI k), .ref (n + 1 + 1 + W + 1 + W + 1 + W + 1 + W)]) _ (ms_deC dX6_tick_314 (ms_deC dX6_tick_316 (ms_deC dX6_tick_317 ms_deN))) rfl rfl ?_
          refine ms_iaload dX6_tick_319 hwK (vp_in_nI hlt (by omega)) ?_
          rw [nI_clamp (n := k) (by omega), fl2_at hlt, hwv]
          refine ms_if_lt (tgt := 340) dX6_tick_320 (by decide) (fun h_320 => ?_) (fun h_320 => ?_)
          · skip
            exact absurd h_320 hv9
          · skip
            refine ms_run (pc' := 327) (lv' := [(7, .ref (wr k)), (0, .ref o), (2, .int (nI cnt)), (3, .ref (n + 1 + 1 + W + 1 + W + 1 + W + 1 + W)), (4, .ref (n + 1 + 1 + W + 1 + W + 1 + W + 1 + W + 1)), (5, .int (nI (ct (pGf (W * H) nr mk ds cnt dr X) k))), (6, .int (nI k))]) (st' := [.int (nI k), .ref (n + 1 + 1 + W + 1 + W + 1 + W + 1 + W + 1)]) _ (ms_deC dX6_tick_323 (ms_deC dX6_tick_325 ms_deN)) rfl rfl ?_
            refine ms_zaload dX6_tick_327 hgK (vp_in_nI hlt (by omega)) ?_
            rw [nI_clamp (n := k) (by omega), hgv]
            refine ms_if_ne (tgt := 340) dX6_tick_328 (by decide) (fun h9 => absurd h9 (by decide)) (fun _ => ?_)
            refine ms_run (pc' := 336) (lv' := [(7, .ref (wr k)), (0, .ref o), (2, .int (nI cnt)), (3, .ref (n + 1 + 1 + W + 1 + W + 1 + W + 1 + W)), (4, .ref (n + 1 + 1 + W + 1 + W + 1 + W + 1 + W + 1)), (5, .int (nI (ct (pGf (W * H) nr mk ds cnt dr X) k))), (6, .int (nI k))]) (st' := [.int 6, .ref (wr k), .int 6, .ref (wr k)]) _ (ms_deC dX6_tick_331 (ms_deC dX6_tick_333 (ms_deC dX6_tick_335 ms_deN))) rfl rfl ?_
            refine fk_ldU (c := 6) (v := (X.1 k 5)) dX6_tick_336 hVK0 hlt (by decide) rfl (rfl) ?_
            refine ms_run (pc' := 339) (lv' := [(7, .ref (wr k)), (0, .ref o), (2, .int (nI cnt)), (3, .ref (n + 1 + 1 + W + 1 + W + 1 + W + 1 + W)), (4, .ref (n + 1 + 1 + W + 1 + W + 1 + W + 1 + W + 1)), (5, .int (nI (ct (pGf (W * H) nr mk ds cnt dr X) k))), (6, .int (nI k))]) (st' := [.int ((X.1 k 5) + 1), .int 6, .ref (wr k)]) _ (ms_deC dX6_tick_337 (ms_deC dX6_tick_338 ms_deN)) rfl rfl ?_
            refine fk_stU (c := 6) dX6_tick_339 hVK0 hlt (by decide) rfl (fun Ka0 hKa0 hVa0 => ?_)
            have hOb1 : fk_O Ka0 o x sb dw W H (X.2.2.2 + 1) dr pa fa wa := (hKa0 o (by omega)).trans hOK
            have hFb1 := hFK.fr (G1 := Ka0) (fun a h1 h2 => hKa0 a (by omega)) hW0
            have hwb1 := (hKa0 (n + 1 + 1 + W + 1 + W + 1 + W + 1 + W) (by omega)).trans hwK
            have hgb1 := (hKa0 (n + 1 + 1 + W + 1 + W + 1 + W + 1 + W + 1) (by omega)).trans hgK
            have hFRb1 : (∀ a, a < fa → ¬ a = o → Ka0 a = G a) := fun a h1 h2 => (hKa0 a (by omega)).trans (hFR a h1 h2)
            refine ms_run (pc' := 344) (lv' := [(7, .ref (wr k)), (0, .ref o), (2, .int (nI cnt)), (3, .ref (n + 1 + 1 + W + 1 + W + 1 + W + 1 + W)), (4, .ref (n + 1 + 1 + W + 1 + W + 1 + W + 1 + W + 1)), (5, .int (nI (ct (pGf (W * H) nr mk ds cnt dr X) k))), (6, .int (nI k))]) (st' := [.int (nI k), .ref (n + 1 + 1 + W + 1 + W + 1 + W + 1 + W + 1)]) _ (ms_deC dX6_tick_340 (ms_deC dX6_tick_342 ms_deN)) rfl rfl ?_
            refine ms_zaload dX6_tick_344 hgb1 (vp_in_nI hlt (by omega)) ?_
            rw [nI_clamp (n := k) (by omega), hgv]
            refine ms_if_ne (tgt := 351) dX6_tick_345 (by decide) (fun h9 => absurd h9 (by decide)) (fun _ => ?_)
            refine ms_goto (tgt := 471) dX6_tick_348 (by decide) ?_
            refine ms_run (pc' := 474) (lv' := [(6, .int ((nI k) + 1)), (7, .ref (wr k)), (0, .ref o), (2, .int (nI cnt)), (3, .ref (n + 1 + 1 + W + 1 + W + 1 + W + 1 + W)), (4, .ref (n + 1 + 1 + W + 1 + W + 1 + W + 1 + W + 1)), (5, .int (nI (ct (pGf (W * H) nr mk ds cnt dr X) k)))]) (st' := []) _ (ms_deC dX6_tick_471 ms_deN) rfl rfl ?_
            refine ms_goto (tgt := 301) dX6_tick_474 (by decide) ?_
            have hV2 : fk_V Ka0 wa cnt wr (fun j => wvX W ((uw (stX1 (nI (W * H)) nr mk ds cnt dr X).1 X.1 (k + 1)) j)) := by
              refine ⟨hVa0.1, fun j hj => ?_, hVa0.2.2⟩
              obtain ⟨r9, a9, b9⟩ := hVa0.2.1 j hj
              refine ⟨r9, fun c hc9 => (a9 c hc9).trans ?_, b9⟩
              by_cases ej : j = k
              · subst ej
                refine (congrFun (show va_up _ j _ j = _ from if_pos rfl) c).trans ?_
                show _ = wvX W (uw (stX1 (nI (W * H)) nr mk ds cnt dr X).1 X.1 (j + 1) j) c
                rw [show uw (stX1 (nI (W * H)) nr mk ds cnt dr X).1 X.1 (j + 1) j = (stX1 (nI (W * H)) nr mk ds cnt dr X).1 j from if_pos (Nat.lt_succ_self j)]
                refine Eq.trans ?_ (wv_eq (v := (stX1 (nI (W * H)) nr mk ds cnt dr X).1 j) (fun i hi => ((hnu i hi).trans (if_pos htn)).symm) c hc9)
                exact wv_wait c hc9
              · refine (congrFun (show va_up _ k _ j = _ from if_neg ej) c).trans ?_
                exact congrFun (congrArg (wvX W) (by unfold uw; split <;> split <;> first | rfl | omega)) c
            have hp : (pGf (W * H) nr mk ds cnt dr X) k = false := decide_eq_false (fun z => z.1 (by have h5 := hnu 3 (by omega); rw [z.2] at h5; first | (rw [if_neg htn] at h5; exact h5.symm) | (rw [if_pos htn] at h5; exact h5.symm)))
            rw [ct_f (p := (pGf (W * H) nr mk ds cnt dr X)) hp]
            rw [nI_1 k]
            refine ms_W.sub (lv2 := [(0, _), (2, _), (3, _), (4, _), (5, _), (6, _)]) ?_ [2, 3, 4, 5, 6, 0] rfl
            exact ih (k + 1) (by omega) Ka0 hOb1 (by rw [hho]; exact hFb1) hV2 hwb1 hgb1 hFRb1
        · skip
          have hwv : (wfX (W * H) nr ds cnt dr X) k = -1 := if_neg htn
          refine ms_run (pc' := 308) (lv' := [(0, .ref o), (2, .int (nI cnt)), (3, .ref (n + 1 + 1 + W + 1 + W + 1 + W + 1 + W)), (4, .ref (n + 1 + 1 + W + 1 + W + 1 + W + 1 + W + 1)), (5, .int (nI (ct (pGf (W * H) nr mk ds cnt dr X) k))), (6, .int (nI k))]) (st' := [.ref o]) _ (ms_deC dX6_tick_307 ms_deN) rfl rfl ?_
          refine ms_getf dX6_tick_308 fg_X6_36 hOK rfl ?_
          refine ms_run (pc' := 313) (lv' := [(0, .ref o), (2, .int (nI cnt)), (3, .ref (n + 1 + 1 + W + 1 + W + 1 + W + 1 + W)), (4, .ref (n + 1 + 1 + W + 1 + W + 1 + W + 1 + W + 1)), (5, .int (nI (ct (pGf (W * H) nr mk ds cnt dr X) k))), (6, .int (nI k))]) (st' := [.int (nI k), .ref wa]) _ (ms_deC dX6_tick_311 ms_deN) rfl rfl ?_
          refine fk_ldv (i := k) dX6_tick_313 hVK0 hlt hc ?_
          refine ms_run (pc' := 319) (lv' := [(7, .ref (wr k)), (0, .ref o), (2, .int (nI cnt)), (3, .ref (n + 1 + 1 + W + 1 + W + 1 + W + 1 + W)), (4, .ref (n + 1 + 1 + W + 1 + W + 1 + W + 1 + W + 1)), (5, .int (nI (ct (pGf (W * H) nr mk ds cnt dr X) k))), (6, .int (nI k))]) (st' := [.int (nI k), .ref (n + 1 + 1 + W + 1 + W + 1 + W + 1 + W)]) _ (ms_deC dX6_tick_314 (ms_deC dX6_tick_316 (ms_deC dX6_tick_317 ms_deN))) rfl rfl ?_
          refine ms_iaload dX6_tick_319 hwK (vp_in_nI hlt (by omega)) ?_
          rw [nI_clamp (n := k) (by omega), fl2_at hlt, hwv]
          refine ms_if_lt (tgt := 340) dX6_tick_320 (by decide) (fun _ => ?_) (fun h9 => absurd h9 (by decide))
          refine ms_run (pc' := 344) (lv' := [(7, .ref (wr k)), (0, .ref o), (2, .int (nI cnt)), (3, .ref (n + 1 + 1 + W + 1 + W + 1 + W + 1 + W)), (4, .ref (n + 1 + 1 + W + 1 + W + 1 + W + 1 + W + 1)), (5, .int (nI (ct (pGf (W * H) nr mk ds cnt dr X) k))), (6, .int (nI k))]) (st' := [.int (nI k), .ref (n + 1 + 1 + W + 1 + W + 1 + W + 1 + W + 1)]) _ (ms_deC dX6_tick_340 (ms_deC dX6_tick_342 ms_deN)) rfl rfl ?_
          refine ms_zaload dX6_tick_344 hgK (vp_in_nI hlt (by omega)) ?_
          rw [nI_clamp (n := k) (by omega), hgv]
          refine ms_if_ne (tgt := 351) dX6_tick_345 (by decide) (fun h9 => absurd h9 (by decide)) (fun _ => ?_)
          refine ms_goto (tgt := 471) dX6_tick_348 (by decide) ?_
          refine ms_run (pc' := 474) (lv' := [(6, .int ((nI k) + 1)), (7, .ref (wr k)), (0, .ref o), (2, .int (nI cnt)), (3, .ref (n + 1 + 1 + W + 1 + W + 1 + W + 1 + W)), (4, .ref (n + 1 + 1 + W + 1 + W + 1 + W + 1 + W + 1)), (5, .int (nI (ct (pGf (W * H) nr mk ds cnt dr X) k)))]) (st' := []) _ (ms_deC dX6_tick_471 ms_deN) rfl rfl ?_
          refine ms_goto (tgt := 301) dX6_tick_474 (by decide) ?_
          have hV2 : fk_V K wa cnt wr (fun j => wvX W ((uw (stX1 (nI (W * H)) nr mk ds cnt dr X).1 X.1 (k + 1)) j)) := by
            refine ⟨hVK0.1, fun j hj => ?_, hVK0.2.2⟩
            obtain ⟨r9, a9, b9⟩ := hVK0.2.1 j hj
            refine ⟨r9, fun c hc9 => (a9 c hc9).trans ?_, b9⟩
            by_cases ej : j = k
            · subst ej
              refine (congrFun (show va_up _ j _ j = _ from if_pos rfl) c).trans ?_
              show _ = wvX W (uw (stX1 (nI (W * H)) nr mk ds cnt dr X).1 X.1 (j + 1) j) c
              rw [show uw (stX1 (nI (W * H)) nr mk ds cnt dr X).1 X.1 (j + 1) j = (stX1 (nI (W * H)) nr mk ds cnt dr X).1 j from if_pos (Nat.lt_succ_self j)]
              exact wv_eq (fun i hi => ((hnu i hi).trans (if_neg htn)).symm) c hc9
            · refine (congrFun (show va_up _ k _ j = _ from if_neg ej) c).trans ?_
              exact congrFun (congrArg (wvX W) (by unfold uw; split <;> split <;> first | rfl | omega)) c
          have hp : (pGf (W * H) nr mk ds cnt dr X) k = false := decide_eq_false (fun z => z.1 (by have h5 := hnu 3 (by omega); rw [z.2] at h5; first | (rw [if_neg htn] at h5; exact h5.symm) | (rw [if_pos htn] at h5; exact h5.symm)))
          rw [ct_f (p := (pGf (W * H) nr mk ds cnt dr X)) hp]
          rw [nI_1 k]
          refine ms_W.sub (lv2 := [(0, _), (2, _), (3, _), (4, _), (5, _), (6, _)]) ?_ [2, 3, 4, 5, 6, 0] rfl
          exact ih (k + 1) (by omega) K hOK (by rw [hho]; exact hFK) hV2 hwK hgK hFR

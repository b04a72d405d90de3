/-! the law: its fields -/
theorem lip_abs {v w : Nat} (hv : v < 1000) (hw : w < 1000) (h1 : w ≤ v + 1) (h2 : v ≤ w + 1) : (if 0 ≤ nI v - nI w then nI v - nI w else 0 - (nI v - nI w)) ≤ 1 := by
  have h : v = w ∨ v = w + 1 ∨ w = v + 1 := by omega
  rcases h with h | h | h
  · subst h
    rw [Int32.sub_self]
    decide
  · subst h
    rw [nI_sub (b := w) (by omega) (by omega), show w + 1 - w = 1 by omega]
    decide
  · subst h
    rw [show nI v - nI (v + 1) = -1 from by rw [← nI_1 v]; grind]
    decide
theorem lip2 {W H g f o v s s2 : Nat} {nr wl mk : Nat → Int32} (h9 : W * H ≤ 196) (hf : f < W * H) (ho : o < W * H) (hs : s < 4) (hs2 : s2 < 4) (h1 : nbX nr f s = nI o) (h2 : nbX nr o s2 = nI f) (hw : wl o = 0) (hv : v ≤ 196) (h : dXg (W * H) nr wl mk g f = nI v) : ∃ w, w ≤ 196 ∧ dXg (W * H) nr wl mk g o = nI w ∧ w ≤ v + 1 ∧ v ≤ w + 1 := by
  obtain ⟨w, hw1, e1⟩ := dX_lip h9 hs ho hw h1 (by omega) h
  have hwf : wl f = 0 := (dX_free (g := g) (nr := nr) (mk := mk) h9 (by rw [h]; exact nI_m1 (by omega))).2
  obtain ⟨v2, hv2, e2⟩ := dX_lip h9 hs2 hf hwf h2 (by omega) e1
  have e3 : v = v2 := (nI_eq (by omega) (by omega)).mp (h.symm.trans e2)
  have hw9 : w ≤ 196 := by
    rcases dX_val (g := g) (nr := nr) (wl := wl) (mk := mk) h9 o with z | ⟨y, hy, z⟩
    · rw [z] at e1
      exact absurd e1.symm (nI_m1 (by omega))
    · rw [(nI_eq (by omega) (by omega)).mp (e1.symm.trans z)]
      exact hy
  exact ⟨w, hw9, e1, hw1, by omega⟩
theorem nb_left {W H a b : Nat} {nr : Nat → Int32} (hL : lk_ok W H (W * H) nr) (hW : W ≤ 14) (hH : H ≤ 14) (ha : a < W) (hb : b < H) (h0 : 0 < a) : nbX nr (b * W + a) 2 = nI (b * W + (a - 1)) ∧ nbX nr (b * W + (a - 1)) 0 = nI (b * W + a) := by
  have m1 := fd_mod (y := b) ha
  have m2 := fd_mod (y := b) (show a - 1 < W by omega)
  have e2 : (ms_sx 2).toInt = -1 ∧ (ms_sy 2).toInt = 0 ∧ (ms_sx 0).toInt = 1 ∧ (ms_sy 0).toInt = 0 := by decide +kernel
  exact ⟨(nbX_iff hL hW hH (fij ha hb) (fij (by omega) hb) (by omega)).mpr (by rw [m1.1, m1.2, m2.1, m2.2, e2.1, e2.2.1]; omega), (nbX_iff hL hW hH (fij (by omega) hb) (fij ha hb) (by omega)).mpr (by rw [m1.1, m1.2, m2.1, m2.2, e2.2.2.1, e2.2.2.2]; omega)⟩
theorem nb_up {W H a b : Nat} {nr : Nat → Int32} (hL : lk_ok W H (W * H) nr) (hW : W ≤ 14) (hH : H ≤ 14) (ha : a < W) (hb : b < H) (h0 : 0 < b) : nbX nr (b * W + a) 3 = nI ((b - 1) * W + a) ∧ nbX nr ((b - 1) * W + a) 1 = nI (b * W + a) := by
  have m1 := fd_mod (y := b) ha
  have m2 := fd_mod (y := b - 1) ha
  have e2 : (ms_sx 3).toInt = 0 ∧ (ms_sy 3).toInt = -1 ∧ (ms_sx 1).toInt = 0 ∧ (ms_sy 1).toInt = 1 := by decide +kernel
  exact ⟨(nbX_iff hL hW hH (fij ha hb) (fij ha (by omega)) (by omega)).mpr (by rw [m1.1, m1.2, m2.1, m2.2, e2.1, e2.2.1]; omega), (nbX_iff hL hW hH (fij ha (by omega)) (fij ha hb) (by omega)).mpr (by rw [m1.1, m1.2, m2.1, m2.2, e2.2.2.1, e2.2.2.2]; omega)⟩
def pO (X : cX) (f : Nat) : Bool := decide (¬ X.2.2.1 f = -1)
theorem sn_1 {f : Nat → Nat} : ∀ {n j : Nat}, j < n → f j ≤ sn f n
  | 0, _, h => absurd h (Nat.not_lt_zero _)
  | n + 1, j, h => by
    show f j ≤ sn f n + f n
    rcases Nat.lt_succ_iff_lt_or_eq.mp h with h1 | h1
    · have := sn_1 (f := f) h1
      omega
    · rw [h1]
      omega
theorem sn_le {f : Nat → Nat} {b : Nat} : ∀ {n : Nat}, (∀ j, j < n → f j ≤ b) → sn f n ≤ n * b
  | 0, _ => Nat.zero_le _
  | n + 1, h => by
    show sn f n + f n ≤ (n + 1) * b
    have h1 := sn_le (n := n) (fun j hj => h j (by omega))
    have h2 := h n (by omega)
    rw [Nat.succ_mul]
    omega
theorem fH.he {n cnt t : Nat} {X : cX} (h : fH n cnt t X) (hc : cnt ≤ 24) (ht : t < 800) : heB 19200 n X.2.1 := by
  obtain ⟨hN, sN, a, b, e⟩ := h
  intro f hf
  have h1 := sn_1 (f := hN) hf
  have h2 := sn_le (f := sN) (b := 800) (n := cnt) (fun k hk => by have := (b k hk).2; omega)
  have h3 : cnt * 800 ≤ 24 * 800 := Nat.mul_le_mul_right _ hc
  exact ⟨hN f, by omega, a f hf⟩
set_option maxHeartbeats 1000000 in
set_option maxRecDepth 20000 in
theorem g3_law {n o x g q c j q2 c2 sb L d t W H cnt fa wa : Nat} {xs : Nat → Int32} {G : ms_H} {dr pa : Int32} {X : cX} {nr wl mk ds : Nat → Int32} {wr : Nat → Nat} {fv : Nat → Nat → Int32} {P : ms_P} {kr zr : Nat} {tm sp : Int32} {bf : Int64} (ho : ox x g q c j q2 c2) (hox : o < x) (hS : fS o x g q c j q2 c2 sb n d t G W H cnt fa wa dr pa X nr wl mk ds wr fv) {k a b : Nat} (ha : a < W) (hb : b < H) (he : b * W + a = k) {he7 oc8 : Int32} (kk : ∀ (n1 : Nat) (G1 : ms_H), n ≤ n1 → fS o x g q c j q2 c2 sb n1 d t G1 W H cnt fa wa dr pa X nr wl mk ds wr fv → ms_W false (ms_S (sb, L, xs) m_L_law) P 317 [(0, .ref sb), (1, .int tm), (2, .ref o), (3, .ref x), (4, .int sp), (5, .long bf), (7, .int he7), (8, .int oc8), (9, .int (nI k)), (10, .int (nI a)), (11, .int (nI b))] [] n1 G1 kr zr) : ms_W false (ms_S (sb, L, xs) m_L_law) (P) 256 [(0, .ref sb), (1, .int tm), (2, .ref o), (3, .ref x), (4, .int sp), (5, .long bf), (7, .int he7), (8, .int oc8), (9, .int (nI k)), (10, .int (nI a)), (11, .int (nI b))] [] n G (4 + kr) (24 + zr) := by
  have hS0 := hS
  obtain ⟨-, -, -, -, -, hK⟩ := hS0
  have hK0 := hK
  obtain ⟨⟨pb1, pb2, pb3, pb4⟩, hc, hL, hfv, hht, hds, hdr, ⟨p9, hp91, hp92, hpa⟩, hwl, ⟨hcl, ht9⟩, hV, hI, hHt⟩ := hK0
  have hW : W ≤ 14 := by omega
  have hH : H ≤ 14 := by omega
  have hW0 : 0 < W := by omega
  have h9 : W * H ≤ 196 := Nat.mul_le_mul hW hH
  have h35 : W * H ≤ 7 * 5 := Nat.mul_le_mul pb2 pb4
  refine ms_run (pc' := 258) (lv' := [(0, .ref sb), (1, .int tm), (2, .ref o), (3, .ref x), (4, .int sp), (5, .long bf), (7, .int he7), (8, .int oc8), (9, .int (nI k)), (10, .int (nI a)), (11, .int (nI b))]) (st' := [.int (nI a)]) _ (ms_deC dL_law_256 ms_deN) rfl rfl ?_
  refine ms_if_le (tgt := 317) dL_law_258 (by decide) (fun h_258 => ?_) (fun h_258 => ?_)
  · skip
    exact ms_W.room (k2 := kr) (z2 := zr) (by refine ms_W.sub (lv2 := [(0, _), (1, _), (2, _), (3, _), (4, _), (5, _), (7, _), (8, _), (9, _), (10, _), (11, _)]) ?_ [0, 1, 2, 3, 4, 5, 6, 7, 8, 9, 10] rfl; exact kk n G (by omega) hS) (by omega) (by omega)
  · skip
    have hpos : 0 < a := by
      rcases Nat.eq_zero_or_pos a with z | z
      · exact absurd (by rw [z]; decide) h_258
      · exact z
    have hk2 : (b * W + (a - 1)) < W * H := fij (by omega) hb
    have hkf : k < W * H := by rw [← he]; exact fij ha hb
    have hnb := nb_left hL hW hH ha hb hpos
    rw [he] at hnb
    rcases dX_val (g := 1) (nr := nr) (wl := wl) (mk := mk) h9 k with e1 | ⟨v1, hv1, e1⟩
    · skip
      refine ms_run (pc' := 267) (lv' := [(0, .ref sb), (1, .int tm), (2, .ref o), (3, .ref x), (4, .int sp), (5, .long bf), (7, .int he7), (8, .int oc8), (9, .int (nI k)), (10, .int (nI a)), (11, .int (nI b))]) (st' := [.int (nI b), .int (nI a), .int 1, .ref x]) _ (ms_deC dL_law_261 (ms_deC dL_law_262 (ms_deC dL_law_263 (ms_deC dL_law_265 ms_deN)))) rfl rfl ?_
      refine lw_ask (As := [.int 1, .int (nI a), .int (nI b)]) (v2 := .int (-1)) (kr1 := 3 + kr) (zr1 := 18 + zr) dL_law_267 ho hox hS (c_X5_far ho hS.1 hW hH 1 (nI a) (nI b)) (th_far_n (g := 1) hW hH (by decide) ha hb) (congrArg Value.int ((vf_d (g := 1) hW hH ha hb he hds (by decide)).trans e1)) cv_L_54 rfl ⟨Nat.le_of_ble_eq_true rfl, Nat.le_of_ble_eq_true rfl⟩ rfl (Nat.le_of_ble_eq_true rfl) (by omega) (by omega) (fun n1 K1 hn1 hS1 => ?_)
      refine ms_if_lt (tgt := 317) dL_law_270 (by decide) (fun _ => ?_) (fun h9 => absurd h9 (by decide))
      exact ms_W.room (k2 := kr) (z2 := zr) (by refine ms_W.sub (lv2 := [(0, _), (1, _), (2, _), (3, _), (4, _), (5, _), (7, _), (8, _), (9, _), (10, _), (11, _)]) ?_ [0, 1, 2, 3, 4, 5, 6, 7, 8, 9, 10] rfl; exact kk n1 K1 (by omega) hS1) (by omega) (by omega)
    · skip
      refine ms_run (pc' := 267) (lv' := [(0, .ref sb), (1, .int tm), (2, .ref o), (3, .ref x), (4, .int sp), (5, .long bf), (7, .int he7), (8, .int oc8), (9, .int (nI k)), (10, .int (nI a)), (11, .int (nI b))]) (st' := [.int (nI b), .int (nI a), .int 1, .ref x]) _ (ms_deC dL_law_261 (ms_deC dL_law_262 (ms_deC dL_law_263 (ms_deC dL_law_265 ms_deN)))) rfl rfl ?_
      refine lw_ask (As := [.int 1, .int (nI a), .int (nI b)]) (v2 := .int (nI v1)) (kr1 := 3 + kr) (zr1 := 18 + zr) dL_law_267 ho hox hS (c_X5_far ho hS.1 hW hH 1 (nI a) (nI b)) (th_far_n (g := 1) hW hH (by decide) ha hb) (congrArg Value.int ((vf_d (g := 1) hW hH ha hb he hds (by decide)).trans e1)) cv_L_54 rfl ⟨Nat.le_of_ble_eq_true rfl, Nat.le_of_ble_eq_true rfl⟩ rfl (Nat.le_of_ble_eq_true rfl) (by omega) (by omega) (fun n1 K1 hn1 hS1 => ?_)
      refine ms_if_lt (tgt := 317) dL_law_270 (by decide) (fun h_270 => ?_) (fun h_270 => ?_)
      · skip
        exact absurd h_270 (nI_pos (by omega))
      · skip
        rcases hwl (b * W + (a - 1)) with ew | ew
        · skip
          obtain ⟨w1, hw1, ew1, hle1, hle2⟩ := lip2 h9 hkf hk2 (by omega) (by omega) hnb.1 hnb.2 ew hv1 e1
          refine ms_run (pc' := 278) (lv' := [(0, .ref sb), (1, .int tm), (2, .ref o), (3, .ref x), (4, .int sp), (5, .long bf), (7, .int he7), (8, .int oc8), (9, .int (nI k)), (10, .int (nI a)), (11, .int (nI b))]) (st' := [.int ((nI a) - 1), .ref x]) _ (ms_deC dL_law_273 (ms_deC dL_law_274 (ms_deC dL_law_276 (ms_deC dL_law_277 ms_deN)))) rfl rfl ?_
          rw [show nI a - 1 = nI (a - 1) from nI_sub (b := 1) (by omega) (by omega)]
          refine ms_run (pc' := 281) (lv' := [(0, .ref sb), (1, .int tm), (2, .ref o), (3, .ref x), (4, .int sp), (5, .long bf), (7, .int he7), (8, .int oc8), (9, .int (nI k)), (10, .int (nI a)), (11, .int (nI b))]) (st' := [.int 0, .int (nI b), .int (nI (a - 1)), .ref x]) _ (ms_deC dL_law_278 (ms_deC dL_law_280 ms_deN)) rfl rfl ?_
          refine lw_ask (As := [.int (nI (a - 1)), .int (nI b), .int 0]) (v2 := .int 0) (kr1 := 2 + kr) (zr1 := 12 + zr) dL_law_281 ho hox hS1 (c_X5_field ho hS1.1 (nI (a - 1)) (nI b) 0) (th_fld_n (w := 0) hW hH (show a - 1 < W by omega) hb (by decide)) (congrArg Value.int ((vf_0 hW hH (show a - 1 < W by omega) hb rfl hwl).trans ew)) cv_L_42 rfl ⟨Nat.le_of_ble_eq_true rfl, Nat.le_of_ble_eq_true rfl⟩ rfl (Nat.le_of_ble_eq_true rfl) (by omega) (by omega) (fun n2 K2 hn2 hS2 => ?_)
          refine ms_if_ne (tgt := 317) dL_law_284 (by decide) (fun h9 => absurd h9 (by decide)) (fun _ => ?_)
          refine ms_run (pc' := 293) (lv' := [(0, .ref sb), (1, .int tm), (2, .ref o), (3, .ref x), (4, .int sp), (5, .long bf), (7, .int he7), (8, .int oc8), (9, .int (nI k)), (10, .int (nI a)), (11, .int (nI b))]) (st' := [.int (nI b), .int (nI a), .int 1, .ref x]) _ (ms_deC dL_law_287 (ms_deC dL_law_288 (ms_deC dL_law_289 (ms_deC dL_law_291 ms_deN)))) rfl rfl ?_
          refine lw_ask (As := [.int 1, .int (nI a), .int (nI b)]) (v2 := .int (nI v1)) (kr1 := 1 + kr) (zr1 := 6 + zr) dL_law_293 ho hox hS2 (c_X5_far ho hS2.1 hW hH 1 (nI a) (nI b)) (th_far_n (g := 1) hW hH (by decide) ha hb) (congrArg Value.int ((vf_d (g := 1) hW hH ha hb he hds (by decide)).trans e1)) cv_L_54 rfl ⟨Nat.le_of_ble_eq_true rfl, Nat.le_of_ble_eq_true rfl⟩ rfl (Nat.le_of_ble_eq_true rfl) (by omega) (by omega) (fun n3 K3 hn3 hS3 => ?_)
          refine ms_run (pc' := 302) (lv' := [(0, .ref sb), (1, .int tm), (2, .ref o), (3, .ref x), (4, .int sp), (5, .long bf), (7, .int he7), (8, .int oc8), (9, .int (nI k)), (10, .int (nI a)), (11, .int (nI b))]) (st' := [.int ((nI a) - 1), .int 1, .ref x, .int (nI v1)]) _ (ms_deC dL_law_296 (ms_deC dL_law_297 (ms_deC dL_law_298 (ms_deC dL_law_300 (ms_deC dL_law_301 ms_deN))))) rfl rfl ?_
          rw [show nI a - 1 = nI (a - 1) from nI_sub (b := 1) (by omega) (by omega)]
          refine ms_run (pc' := 304) (lv' := [(0, .ref sb), (1, .int tm), (2, .ref o), (3, .ref x), (4, .int sp), (5, .long bf), (7, .int he7), (8, .int oc8), (9, .int (nI k)), (10, .int (nI a)), (11, .int (nI b))]) (st' := [.int (nI b), .int (nI (a - 1)), .int 1, .ref x, .int (nI v1)]) _ (ms_deC dL_law_302 ms_deN) rfl rfl ?_
          refine lw_ask (As := [.int 1, .int (nI (a - 1)), .int (nI b)]) (v2 := .int (nI w1)) (kr1 := 0 + kr) (zr1 := 0 + zr) dL_law_304 ho hox hS3 (c_X5_far ho hS3.1 hW hH 1 (nI (a - 1)) (nI b)) (th_far_n (g := 1) hW hH (by decide) (show a - 1 < W by omega) hb) (congrArg Value.int ((vf_d (g := 1) hW hH (show a - 1 < W by omega) hb rfl hds (by decide)).trans ew1)) cv_L_54 rfl ⟨Nat.le_of_ble_eq_true rfl, Nat.le_of_ble_eq_true rfl⟩ rfl (Nat.le_of_ble_eq_true rfl) (by omega) (by omega) (fun n4 K4 hn4 hS4 => ?_)
          refine ms_run (pc' := 308) (lv' := [(0, .ref sb), (1, .int tm), (2, .ref o), (3, .ref x), (4, .int sp), (5, .long bf), (7, .int he7), (8, .int oc8), (9, .int (nI k)), (10, .int (nI a)), (11, .int (nI b))]) (st' := [.int ((nI v1) - (nI w1))]) _ (ms_deC dL_law_307 ms_deN) rfl rfl ?_
          refine ms_abs dL_law_308 mm_L_60 ⟨Nat.le_of_ble_eq_true rfl, Nat.le_of_ble_eq_true rfl⟩ (Nat.le_of_ble_eq_true rfl) ?_
          refine ms_run (pc' := 312) (lv' := [(0, .ref sb), (1, .int tm), (2, .ref o), (3, .ref x), (4, .int sp), (5, .long bf), (7, .int he7), (8, .int oc8), (9, .int (nI k)), (10, .int (nI a)), (11, .int (nI b))]) (st' := [.int 1, .int (if 0 ≤ (nI v1) - (nI w1) then (nI v1) - (nI w1) else 0 - ((nI v1) - (nI w1)))]) _ (ms_deC dL_law_311 ms_deN) rfl rfl ?_
          refine ms_icmp_le (tgt := 317) dL_law_312 (by decide) (fun h_312 => ?_) (fun h_312 => ?_)
          · skip
            exact ms_W.room (k2 := kr) (z2 := zr) (by refine ms_W.sub (lv2 := [(0, _), (1, _), (2, _), (3, _), (4, _), (5, _), (7, _), (8, _), (9, _), (10, _), (11, _)]) ?_ [0, 1, 2, 3, 4, 5, 6, 7, 8, 9, 10] rfl; exact kk n4 K4 (by omega) hS4) (by omega) (by omega)
          · skip
            exact absurd (lip_abs (by omega) (by omega) hle1 hle2) h_312
        · skip
          refine ms_run (pc' := 278) (lv' := [(0, .ref sb), (1, .int tm), (2, .ref o), (3, .ref x), (4, .int sp), (5, .long bf), (7, .int he7), (8, .int oc8), (9, .int (nI k)), (10, .int (nI a)), (11, .int (nI b))]) (st' := [.int ((nI a) - 1), .ref x]) _ (ms_deC dL_law_273 (ms_deC dL_law_274 (ms_deC dL_law_276 (ms_deC dL_law_277 ms_deN)))) rfl rfl ?_
          rw [show nI a - 1 = nI (a - 1) from nI_sub (b := 1) (by omega) (by omega)]
          refine ms_run (pc' := 281) (lv' := [(0, .ref sb), (1, .int tm), (2, .ref o), (3, .ref x), (4, .int sp), (5, .long bf), (7, .int he7), (8, .int oc8), (9, .int (nI k)), (10, .int (nI a)), (11, .int (nI b))]) (st' := [.int 0, .int (nI b), .int (nI (a - 1)), .ref x]) _ (ms_deC dL_law_278 (ms_deC dL_law_280 ms_deN)) rfl rfl ?_
          refine lw_ask (As := [.int (nI (a - 1)), .int (nI b), .int 0]) (v2 := .int 1) (kr1 := 2 + kr) (zr1 := 12 + zr) dL_law_281 ho hox hS1 (c_X5_field ho hS1.1 (nI (a - 1)) (nI b) 0) (th_fld_n (w := 0) hW hH (show a - 1 < W by omega) hb (by decide)) (congrArg Value.int ((vf_0 hW hH (show a - 1 < W by omega) hb rfl hwl).trans ew)) cv_L_42 rfl ⟨Nat.le_of_ble_eq_true rfl, Nat.le_of_ble_eq_true rfl⟩ rfl (Nat.le_of_ble_eq_true rfl) (by omega) (by omega) (fun n2 K2 hn2 hS2 => ?_)
          refine ms_if_ne (tgt := 317) dL_law_284 (by decide) (fun _ => ?_) (fun h9 => absurd h9 (by decide))
          exact ms_W.room (k2 := kr) (z2 := zr) (by refine ms_W.sub (lv2 := [(0, _), (1, _), (2, _), (3, _), (4, _), (5, _), (7, _), (8, _), (9, _), (10, _), (11, _)]) ?_ [0, 1, 2, 3, 4, 5, 6, 7, 8, 9, 10] rfl; exact kk n2 K2 (by omega) hS2) (by omega) (by omega)
set_option maxHeartbeats 1000000 in
set_option maxRecDepth 20000 in
theorem g4_law {n o x g q c j q2 c2 sb L d t W H cnt fa wa : Nat} {xs : Nat → Int32} {G : ms_H} {dr pa : Int32} {X : cX} {nr wl mk ds : Nat → Int32} {wr : Nat → Nat} {fv : Nat → Nat → Int32} {P : ms_P} {kr zr : Nat} {tm sp : Int32} {bf : Int64} (ho : ox x g q c j q2 c2) (hox : o < x) (hS : fS o x g q c j q2 c2 sb n d t G W H cnt fa wa dr pa X nr wl mk ds wr fv) {k a b : Nat} (ha : a < W) (hb : b < H) (he : b * W + a = k) {he7 oc8 : Int32} (kk : ∀ (n1 : Nat) (G1 : ms_H), n ≤ n1 → fS o x g q c j q2 c2 sb n1 d t G1 W H cnt fa wa dr pa X nr wl mk ds wr fv → ms_W false (ms_S (sb, L, xs) m_L_law) P 378 [(0, .ref sb), (1, .int tm), (2, .ref o), (3, .ref x), (4, .int sp), (5, .long bf), (7, .int he7), (8, .int oc8), (9, .int (nI k)), (10, .int (nI a)), (11, .int (nI b))] [] n1 G1 kr zr) : ms_W false (ms_S (sb, L, xs) m_L_law) (P) 317 [(0, .ref sb), (1, .int tm), (2, .ref o), (3, .ref x), (4, .int sp), (5, .long bf), (7, .int he7), (8, .int oc8), (9, .int (nI k)), (10, .int (nI a)), (11, .int (nI b))] [] n G (4 + kr) (24 + zr) := by
  have hS0 := hS
  obtain ⟨-, -, -, -, -, hK⟩ := hS0
  have hK0 := hK
  obtain ⟨⟨pb1, pb2, pb3, pb4⟩, hc, hL, hfv, hht, hds, hdr, ⟨p9, hp91, hp92, hpa⟩, hwl, ⟨hcl, ht9⟩, hV, hI, hHt⟩ := hK0
  have hW : W ≤ 14 := by omega
  have hH : H ≤ 14 := by omega
  have hW0 : 0 < W := by omega
  have h9 : W * H ≤ 196 := Nat.mul_le_mul hW hH
  have h35 : W * H ≤ 7 * 5 := Nat.mul_le_mul pb2 pb4
  refine ms_run (pc' := 319) (lv' := [(0, .ref sb), (1, .int tm), (2, .ref o), (3, .ref x), (4, .int sp), (5, .long bf), (7, .int he7), (8, .int oc8), (9, .int (nI k)), (10, .int (nI a)), (11, .int (nI b))]) (st' := [.int (nI b)]) _ (ms_deC dL_law_317 ms_deN) rfl rfl ?_
  refine ms_if_le (tgt := 378) dL_law_319 (by decide) (fun h_319 => ?_) (fun h_319 => ?_)
  · skip
    exact ms_W.room (k2 := kr) (z2 := zr) (by refine ms_W.sub (lv2 := [(0, _), (1, _), (2, _), (3, _), (4, _), (5, _), (7, _), (8, _), (9, _), (10, _), (11, _)]) ?_ [0, 1, 2, 3, 4, 5, 6, 7, 8, 9, 10] rfl; exact kk n G (by omega) hS) (by omega) (by omega)
  · skip
    have hpos : 0 < b := by
      rcases Nat.eq_zero_or_pos b with z | z
      · exact absurd (by rw [z]; decide) h_319
      · exact z
    have hk2 : ((b - 1) * W + a) < W * H := fij ha (by omega)
    have hkf : k < W * H := by rw [← he]; exact fij ha hb
    have hnb := nb_up hL hW hH ha hb hpos
    rw [he] at hnb
    rcases dX_val (g := 1) (nr := nr) (wl := wl) (mk := mk) h9 k with e1 | ⟨v1, hv1, e1⟩
    · skip
      refine ms_run (pc' := 328) (lv' := [(0, .ref sb), (1, .int tm), (2, .ref o), (3, .ref x), (4, .int sp), (5, .long bf), (7, .int he7), (8, .int oc8), (9, .int (nI k)), (10, .int (nI a)), (11, .int (nI b))]) (st' := [.int (nI b), .int (nI a), .int 1, .ref x]) _ (ms_deC dL_law_322 (ms_deC dL_law_323 (ms_deC dL_law_324 (ms_deC dL_law_326 ms_deN)))) rfl rfl ?_
      refine lw_ask (As := [.int 1, .int (nI a), .int (nI b)]) (v2 := .int (-1)) (kr1 := 3 + kr) (zr1 := 18 + zr) dL_law_328 ho hox hS (c_X5_far ho hS.1 hW hH 1 (nI a) (nI b)) (th_far_n (g := 1) hW hH (by decide) ha hb) (congrArg Value.int ((vf_d (g := 1) hW hH ha hb he hds (by decide)).trans e1)) cv_L_54 rfl ⟨Nat.le_of_ble_eq_true rfl, Nat.le_of_ble_eq_true rfl⟩ rfl (Nat.le_of_ble_eq_true rfl) (by omega) (by omega) (fun n1 K1 hn1 hS1 => ?_)
      refine ms_if_lt (tgt := 378) dL_law_331 (by decide) (fun _ => ?_) (fun h9 => absurd h9 (by decide))
      exact ms_W.room (k2 := kr) (z2 := zr) (by refine ms_W.sub (lv2 := [(0, _), (1, _), (2, _), (3, _), (4, _), (5, _), (7, _), (8, _), (9, _), (10, _), (11, _)]) ?_ [0, 1, 2, 3, 4, 5, 6, 7, 8, 9, 10] rfl; exact kk n1 K1 (by omega) hS1) (by omega) (by omega)
    · skip
      refine ms_run (pc' := 328) (lv' := [(0, .ref sb), (1, .int tm), (2, .ref o), (3, .ref x), (4, .int sp), (5, .long bf), (7, .int he7), (8, .int oc8), (9, .int (nI k)), (10, .int (nI a)), (11, .int (nI b))]) (st' := [.int (nI b), .int (nI a), .int 1, .ref x]) _ (ms_deC dL_law_322 (ms_deC dL_law_323 (ms_deC dL_law_324 (ms_deC dL_law_326 ms_deN)))) rfl rfl ?_
      refine lw_ask (As := [.int 1, .int (nI a), .int (nI b)]) (v2 := .int (nI v1)) (kr1 := 3 + kr) (zr1 := 18 + zr) dL_law_328 ho hox hS (c_X5_far ho hS.1 hW hH 1 (nI a) (nI b)) (th_far_n (g := 1) hW hH (by decide) ha hb) (congrArg Value.int ((vf_d (g := 1) hW hH ha hb he hds (by decide)).trans e1)) cv_L_54 rfl ⟨Nat.le_of_ble_eq_true rfl, Nat.le_of_ble_eq_true rfl⟩ rfl (Nat.le_of_ble_eq_true rfl) (by omega) (by omega) (fun n1 K1 hn1 hS1 => ?_)
      refine ms_if_lt (tgt := 378) dL_law_331 (by decide) (fun h_331 => ?_) (fun h_331 => ?_)
      · skip
        exact absurd h_331 (nI_pos (by omega))
      · skip
        rcases hwl ((b - 1) * W + a) with ew | ew
        · skip
          obtain ⟨w1, hw1, ew1, hle1, hle2⟩ := lip2 h9 hkf hk2 (by omega) (by omega) hnb.1 hnb.2 ew hv1 e1
          refine ms_run (pc' := 341) (lv' := [(0, .ref sb), (1, .int tm), (2, .ref o), (3, .ref x), (4, .int sp), (5, .long bf), (7, .int he7), (8, .int oc8), (9, .int (nI k)), (10, .int (nI a)), (11, .int (nI b))]) (st' := [.int ((nI b) - 1), .int (nI a), .ref x]) _ (ms_deC dL_law_334 (ms_deC dL_law_335 (ms_deC dL_law_337 (ms_deC dL_law_339 (ms_deC dL_law_340 ms_deN))))) rfl rfl ?_
          rw [show nI b - 1 = nI (b - 1) from nI_sub (b := 1) (by omega) (by omega)]
          refine ms_run (pc' := 342) (lv' := [(0, .ref sb), (1, .int tm), (2, .ref o), (3, .ref x), (4, .int sp), (5, .long bf), (7, .int he7), (8, .int oc8), (9, .int (nI k)), (10, .int (nI a)), (11, .int (nI b))]) (st' := [.int 0, .int (nI (b - 1)), .int (nI a), .ref x]) _ (ms_deC dL_law_341 ms_deN) rfl rfl ?_
          refine lw_ask (As := [.int (nI a), .int (nI (b - 1)), .int 0]) (v2 := .int 0) (kr1 := 2 + kr) (zr1 := 12 + zr) dL_law_342 ho hox hS1 (c_X5_field ho hS1.1 (nI a) (nI (b - 1)) 0) (th_fld_n (w := 0) hW hH ha (show b - 1 < H by omega) (by decide)) (congrArg Value.int ((vf_0 hW hH ha (show b - 1 < H by omega) rfl hwl).trans ew)) cv_L_42 rfl ⟨Nat.le_of_ble_eq_true rfl, Nat.le_of_ble_eq_true rfl⟩ rfl (Nat.le_of_ble_eq_true rfl) (by omega) (by omega) (fun n2 K2 hn2 hS2 => ?_)
          refine ms_if_ne (tgt := 378) dL_law_345 (by decide) (fun h9 => absurd h9 (by decide)) (fun _ => ?_)
          refine ms_run (pc' := 354) (lv' := [(0, .ref sb), (1, .int tm), (2, .ref o), (3, .ref x), (4, .int sp), (5, .long bf), (7, .int he7), (8, .int oc8), (9, .int (nI k)), (10, .int (nI a)), (11, .int (nI b))]) (st' := [.int (nI b), .int (nI a), .int 1, .ref x]) _ (ms_deC dL_law_348 (ms_deC dL_law_349 (ms_deC dL_law_350 (ms_deC dL_law_352 ms_deN)))) rfl rfl ?_
          refine lw_ask (As := [.int 1, .int (nI a), .int (nI b)]) (v2 := .int (nI v1)) (kr1 := 1 + kr) (zr1 := 6 + zr) dL_law_354 ho hox hS2 (c_X5_far ho hS2.1 hW hH 1 (nI a) (nI b)) (th_far_n (g := 1) hW hH (by decide) ha hb) (congrArg Value.int ((vf_d (g := 1) hW hH ha hb he hds (by decide)).trans e1)) cv_L_54 rfl ⟨Nat.le_of_ble_eq_true rfl, Nat.le_of_ble_eq_true rfl⟩ rfl (Nat.le_of_ble_eq_true rfl) (by omega) (by omega) (fun n3 K3 hn3 hS3 => ?_)
          refine ms_run (pc' := 365) (lv' := [(0, .ref sb), (1, .int tm), (2, .ref o), (3, .ref x), (4, .int sp), (5, .long bf), (7, .int he7), (8, .int oc8), (9, .int (nI k)), (10, .int (nI a)), (11, .int (nI b))]) (st' := [.int ((nI b) - 1), .int (nI a), .int 1, .ref x, .int (nI v1)]) _ (ms_deC dL_law_357 (ms_deC dL_law_358 (ms_deC dL_law_359 (ms_deC dL_law_361 (ms_deC dL_law_363 (ms_deC dL_law_364 ms_deN)))))) rfl rfl ?_
          rw [show nI b - 1 = nI (b - 1) from nI_sub (b := 1) (by omega) (by omega)]
          refine lw_ask (As := [.int 1, .int (nI a), .int (nI (b - 1))]) (v2 := .int (nI w1)) (kr1 := 0 + kr) (zr1 := 0 + zr) dL_law_365 ho hox hS3 (c_X5_far ho hS3.1 hW hH 1 (nI a) (nI (b - 1))) (th_far_n (g := 1) hW hH (by decide) ha (show b - 1 < H by omega)) (congrArg Value.int ((vf_d (g := 1) hW hH ha (show b - 1 < H by omega) rfl hds (by decide)).trans ew1)) cv_L_54 rfl ⟨Nat.le_of_ble_eq_true rfl, Nat.le_of_ble_eq_true rfl⟩ rfl (Nat.le_of_ble_eq_true rfl) (by omega) (by omega) (fun n4 K4 hn4 hS4 => ?_)
          refine ms_run (pc' := 369) (lv' := [(0, .ref sb), (1, .int tm), (2, .ref o), (3, .ref x), (4, .int sp), (5, .long bf), (7, .int he7), (8, .int oc8), (9, .int (nI k)), (10, .int (nI a)), (11, .int (nI b))]) (st' := [.int ((nI v1) - (nI w1))]) _ (ms_deC dL_law_368 ms_deN) rfl rfl ?_
          refine ms_abs dL_law_369 mm_L_60 ⟨Nat.le_of_ble_eq_true rfl, Nat.le_of_ble_eq_true rfl⟩ (Nat.le_of_ble_eq_true rfl) ?_
          refine ms_run (pc' := 373) (lv' := [(0, .ref sb), (1, .int tm), (2, .ref o), (3, .ref x), (4, .int sp), (5, .long bf), (7, .int he7), (8, .int oc8), (9, .int (nI k)), (10, .int (nI a)), (11, .int (nI b))]) (st' := [.int 1, .int (if 0 ≤ (nI v1) - (nI w1) then (nI v1) - (nI w1) else 0 - ((nI v1) - (nI w1)))]) _ (ms_deC dL_law_372 ms_deN) rfl rfl ?_
          refine ms_icmp_le (tgt := 378) dL_law_373 (by decide) (fun h_373 => ?_) (fun h_373 => ?_)
          · skip
            exact ms_W.room (k2 := kr) (z2 := zr) (by refine ms_W.sub (lv2 := [(0, _), (1, _), (2, _), (3, _), (4, _), (5, _), (7, _), (8, _), (9, _), (10, _), (11, _)]) ?_ [0, 1, 2, 3, 4, 5, 6, 7, 8, 9, 10] rfl; exact kk n4 K4 (by omega) hS4) (by omega) (by omega)
          · skip
            exact absurd (lip_abs (by omega) (by omega) hle1 hle2) h_373
        · skip
          refine ms_run (pc' := 341) (lv' := [(0, .ref sb), (1, .int tm), (2, .ref o), (3, .ref x), (4, .int sp), (5, .long bf), (7, .int he7), (8, .int oc8), (9, .int (nI k)), (10, .int (nI a)), (11, .int (nI b))]) (st' := [.int ((nI b) - 1), .int (nI a), .ref x]) _ (ms_deC dL_law_334 (ms_deC dL_law_335 (ms_deC dL_law_337 (ms_deC dL_law_339 (ms_deC dL_law_340 ms_deN))))) rfl rfl ?_
          rw [show nI b - 1 = nI (b - 1) from nI_sub (b := 1) (by omega) (by omega)]
          refine ms_run (pc' := 342) (lv' := [(0, .ref sb), (1, .int tm), (2, .ref o), (3, .ref x), (4, .int sp), (5, .long bf), (7, .int he7), (8, .int oc8), (9, .int (nI k)), (10, .int (nI a)), (11, .int (nI b))]) (st' := [.int 0, .int (nI (b - 1)), .int (nI a), .ref x]) _ (ms_deC dL_law_341 ms_deN) rfl rfl ?_
          refine lw_ask (As := [.int (nI a), .int (nI (b - 1)), .int 0]) (v2 := .int 1) (kr1 := 2 + kr) (zr1 := 12 + zr) dL_law_342 ho hox hS1 (c_X5_field ho hS1.1 (nI a) (nI (b - 1)) 0) (th_fld_n (w := 0) hW hH ha (show b - 1 < H by omega) (by decide)) (congrArg Value.int ((vf_0 hW hH ha (show b - 1 < H by omega) rfl hwl).trans ew)) cv_L_42 rfl ⟨Nat.le_of_ble_eq_true rfl, Nat.le_of_ble_eq_true rfl⟩ rfl (Nat.le_of_ble_eq_true rfl) (by omega) (by omega) (fun n2 K2 hn2 hS2 => ?_)
          refine ms_if_ne (tgt := 378) dL_law_345 (by decide) (fun _ => ?_) (fun h9 => absurd h9 (by decide))
          exact ms_W.room (k2 := kr) (z2 := zr) (by refine ms_W.sub (lv2 := [(0, _), (1, _), (2, _), (3, _), (4, _), (5, _), (7, _), (8, _), (9, _), (10, _), (11, _)]) ?_ [0, 1, 2, 3, 4, 5, 6, 7, 8, 9, 10] rfl; exact kk n2 K2 (by omega) hS2) (by omega) (by omega)
set_option maxHeartbeats 1000000 in
set_option maxRecDepth 20000 in
theorem g2_law {n o x g q c j q2 c2 sb L d t W H cnt fa wa : Nat} {xs : Nat → Int32} {G : ms_H} {dr pa : Int32} {X : cX} {nr wl mk ds : Nat → Int32} {wr : Nat → Nat} {fv : Nat → Nat → Int32} {P : ms_P} {kr zr : Nat} {tm sp : Int32} {bf : Int64} (ho : ox x g q c j q2 c2) (hox : o < x) (hS : fS o x g q c j q2 c2 sb n d t G W H cnt fa wa dr pa X nr wl mk ds wr fv) {k a b : Nat} (ha : a < W) (hb : b < H) (he : b * W + a = k) {he7 oc8 : Int32} (kk : ∀ (n1 : Nat) (G1 : ms_H), n ≤ n1 → fS o x g q c j q2 c2 sb n1 d t G1 W H cnt fa wa dr pa X nr wl mk ds wr fv → ms_W false (ms_S (sb, L, xs) m_L_law) P 256 [(0, .ref sb), (1, .int tm), (2, .ref o), (3, .ref x), (4, .int sp), (5, .long bf), (7, .int he7), (8, .int oc8), (9, .int (nI k)), (10, .int (nI a)), (11, .int (nI b))] [] n1 G1 kr zr) : ms_W false (ms_S (sb, L, xs) m_L_law) (P) 180 [(0, .ref sb), (1, .int tm), (2, .ref o), (3, .ref x), (4, .int sp), (5, .long bf), (7, .int he7), (8, .int oc8), (9, .int (nI k)), (10, .int (nI a)), (11, .int (nI b))] [] n G (7 + kr) (42 + zr) := by
  have hS0 := hS
  obtain ⟨-, -, -, -, -, hK⟩ := hS0
  have hK0 := hK
  obtain ⟨⟨pb1, pb2, pb3, pb4⟩, hc, hL, hfv, hht, hds, hdr, ⟨p9, hp91, hp92, hpa⟩, hwl, ⟨hcl, ht9⟩, hV, hI, hHt⟩ := hK0
  have hW : W ≤ 14 := by omega
  have hH : H ≤ 14 := by omega
  have hW0 : 0 < W := by omega
  have h9 : W * H ≤ 196 := Nat.mul_le_mul hW hH
  have h35 : W * H ≤ 7 * 5 := Nat.mul_le_mul pb2 pb4
  have hkf : k < W * H := by rw [← he]; exact fij ha hb
  have hmx : X.2.1 k ≤ X.2.1 (hx X.2.1 (W * H - 1)) := (mx_hx (M := 19200) (by omega) (W * H - 1) (by rw [show W * H - 1 + 1 = W * H by omega]; exact hHt.he hc ht9)).2.1 k (by omega)
  have hfar : dXg (W * H) nr wl mk 0 k ≤ mx (fun j => ds ((0 : Int32).toNatClampNeg * 196 + j)) (W * H) := by
    have h5 := mx_ge (f := fun j => ds ((0 : Int32).toNatClampNeg * 196 + j)) hkf
    rw [← hds 0 (by decide) k hkf]
    exact h5
  rcases dX_val (g := 0) (nr := nr) (wl := wl) (mk := mk) h9 k with e1 | ⟨v1, hv1, e1⟩
  · skip
    refine ms_run (pc' := 186) (lv' := [(0, .ref sb), (1, .int tm), (2, .ref o), (3, .ref x), (4, .int sp), (5, .long bf), (7, .int he7), (8, .int oc8), (9, .int (nI k)), (10, .int (nI a)), (11, .int (nI b))]) (st' := [.int 3, .int (nI b), .int (nI a), .ref x]) _ (ms_deC dL_law_180 (ms_deC dL_law_181 (ms_deC dL_law_183 (ms_deC dL_law_185 ms_deN)))) rfl rfl ?_
    refine lw_ask (As := [.int (nI a), .int (nI b), .int 3]) (v2 := .int (nI (ct (pRound nr X.2.2.1 (nI k)) 8))) (kr1 := 6 + kr) (zr1 := 36 + zr) dL_law_186 ho hox hS (c_X5_field ho hS.1 (nI a) (nI b) 3) (th_fld_n (w := 3) hW hH ha hb (by decide)) (congrArg Value.int (vf_3 hW hH ha hb he)) cv_L_42 rfl ⟨Nat.le_of_ble_eq_true rfl, Nat.le_of_ble_eq_true rfl⟩ rfl (Nat.le_of_ble_eq_true rfl) (by omega) (by omega) (fun n1 K1 hn1 hS1 => ?_)
    refine ms_run (pc' := 191) (lv' := [(0, .ref sb), (1, .int tm), (2, .ref o), (3, .ref x), (4, .int sp), (5, .long bf), (7, .int he7), (8, .int oc8), (9, .int (nI k)), (10, .int (nI a)), (11, .int (nI b))]) (st' := [.int 8, .int (nI (ct (pRound nr X.2.2.1 (nI k)) 8))]) _ (ms_deC dL_law_189 ms_deN) rfl rfl ?_
    refine ms_icmp_gt (tgt := 254) dL_law_191 (by decide) (fun h_191 => ?_) (fun h_191 => ?_)
    · skip
      exact absurd ((nI_ltI (a := 8) (b := ct (pRound nr X.2.2.1 (nI k)) 8) (by omega) (by have := ct_le (pRound nr X.2.2.1 (nI k)) 8; omega)).mp h_191) (by have := ct_le (pRound nr X.2.2.1 (nI k)) 8; omega)
    · skip
      refine ms_run (pc' := 200) (lv' := [(0, .ref sb), (1, .int tm), (2, .ref o), (3, .ref x), (4, .int sp), (5, .long bf), (7, .int he7), (8, .int oc8), (9, .int (nI k)), (10, .int (nI a)), (11, .int (nI b))]) (st' := [.int 2, .int (nI b), .int (nI a), .ref x]) _ (ms_deC dL_law_194 (ms_deC dL_law_195 (ms_deC dL_law_197 (ms_deC dL_law_199 ms_deN)))) rfl rfl ?_
      refine lw_ask (As := [.int (nI a), .int (nI b), .int 2]) (v2 := .int (X.2.1 k)) (kr1 := 5 + kr) (zr1 := 30 + zr) dL_law_200 ho hox hS1 (c_X5_field ho hS1.1 (nI a) (nI b) 2) (th_fld_n (w := 2) hW hH ha hb (by decide)) (congrArg Value.int (vf_2 hW hH ha hb he)) cv_L_42 rfl ⟨Nat.le_of_ble_eq_true rfl, Nat.le_of_ble_eq_true rfl⟩ rfl (Nat.le_of_ble_eq_true rfl) (by omega) (by omega) (fun n2 K2 hn2 hS2 => ?_)
      refine ms_run (pc' := 206) (lv' := [(0, .ref sb), (1, .int tm), (2, .ref o), (3, .ref x), (4, .int sp), (5, .long bf), (7, .int he7), (8, .int oc8), (9, .int (nI k)), (10, .int (nI a)), (11, .int (nI b))]) (st' := [.int 7, .ref x, .int (X.2.1 k)]) _ (ms_deC dL_law_203 (ms_deC dL_law_204 ms_deN)) rfl rfl ?_
      refine lw_ask (As := [.int 7]) (v2 := .int (X.2.1 (hx X.2.1 (W * H - 1)))) (kr1 := 4 + kr) (zr1 := 24 + zr) dL_law_206 ho hox hS2 (c_X5_many ho hS2.1 hc hW hH (by omega) 7) (rfl) (rfl) cv_L_50 rfl ⟨Nat.le_of_ble_eq_true rfl, Nat.le_of_ble_eq_true rfl⟩ rfl (Nat.le_of_ble_eq_true rfl) (by omega) (by omega) (fun n3 K3 hn3 hS3 => ?_)
      refine ms_icmp_gt (tgt := 254) dL_law_209 (by decide) (fun h_209 => ?_) (fun h_209 => ?_)
      · skip
        exact absurd h_209 (Int32.not_lt.mpr hmx)
      · skip
        refine ms_run (pc' := 218) (lv' := [(0, .ref sb), (1, .int tm), (2, .ref o), (3, .ref x), (4, .int sp), (5, .long bf), (7, .int he7), (8, .int oc8), (9, .int (nI k)), (10, .int (nI a)), (11, .int (nI b))]) (st' := [.int (nI b), .int (nI a), .int 0, .ref x]) _ (ms_deC dL_law_212 (ms_deC dL_law_213 (ms_deC dL_law_214 (ms_deC dL_law_216 ms_deN)))) rfl rfl ?_
        refine lw_ask (As := [.int 0, .int (nI a), .int (nI b)]) (v2 := .int (-1)) (kr1 := 3 + kr) (zr1 := 18 + zr) dL_law_218 ho hox hS3 (c_X5_far ho hS3.1 hW hH 0 (nI a) (nI b)) (th_far_n (g := 0) hW hH (by decide) ha hb) (congrArg Value.int ((vf_d (g := 0) hW hH ha hb he hds (by decide)).trans e1)) cv_L_54 rfl ⟨Nat.le_of_ble_eq_true rfl, Nat.le_of_ble_eq_true rfl⟩ rfl (Nat.le_of_ble_eq_true rfl) (by omega) (by omega) (fun n4 K4 hn4 hS4 => ?_)
        refine ms_if_lt (tgt := 237) dL_law_221 (by decide) (fun _ => ?_) (fun h9 => absurd h9 (by decide))
        refine ms_run (pc' := 243) (lv' := [(0, .ref sb), (1, .int tm), (2, .ref o), (3, .ref x), (4, .int sp), (5, .long bf), (7, .int he7), (8, .int oc8), (9, .int (nI k)), (10, .int (nI a)), (11, .int (nI b))]) (st' := [.int (nI b), .int (nI a), .int 0, .ref x]) _ (ms_deC dL_law_237 (ms_deC dL_law_238 (ms_deC dL_law_239 (ms_deC dL_law_241 ms_deN)))) rfl rfl ?_
        refine lw_ask (As := [.int 0, .int (nI a), .int (nI b)]) (v2 := .int (-1)) (kr1 := 2 + kr) (zr1 := 12 + zr) dL_law_243 ho hox hS4 (c_X5_far ho hS4.1 hW hH 0 (nI a) (nI b)) (th_far_n (g := 0) hW hH (by decide) ha hb) (congrArg Value.int ((vf_d (g := 0) hW hH ha hb he hds (by decide)).trans e1)) cv_L_54 rfl ⟨Nat.le_of_ble_eq_true rfl, Nat.le_of_ble_eq_true rfl⟩ rfl (Nat.le_of_ble_eq_true rfl) (by omega) (by omega) (fun n5 K5 hn5 hS5 => ?_)
        refine ms_run (pc' := 248) (lv' := [(0, .ref sb), (1, .int tm), (2, .ref o), (3, .ref x), (4, .int sp), (5, .long bf), (7, .int he7), (8, .int oc8), (9, .int (nI k)), (10, .int (nI a)), (11, .int (nI b))]) (st' := [.int 0, .ref x, .int (-1)]) _ (ms_deC dL_law_246 (ms_deC dL_law_247 ms_deN)) rfl rfl ?_
        refine lw_ask (As := [.int 0]) (v2 := .int (mx (fun j => ds ((0 : Int32).toNatClampNeg * 196 + j)) (W * H))) (kr1 := 1 + kr) (zr1 := 6 + zr) dL_law_248 ho hox hS5 (c_X5_farthest ho hS5.1 hW hH 0) (th_goal_n (g := 0) (by decide)) (rfl) cv_L_57 rfl ⟨Nat.le_of_ble_eq_true rfl, Nat.le_of_ble_eq_true rfl⟩ rfl (Nat.le_of_ble_eq_true rfl) (by omega) (by omega) (fun n6 K6 hn6 hS6 => ?_)
        refine ms_icmp_le (tgt := 256) dL_law_251 (by decide) (fun h_251 => ?_) (fun h_251 => ?_)
        · skip
          exact ms_W.room (k2 := kr) (z2 := zr) (by refine ms_W.sub (lv2 := [(0, _), (1, _), (2, _), (3, _), (4, _), (5, _), (7, _), (8, _), (9, _), (10, _), (11, _)]) ?_ [0, 1, 2, 3, 4, 5, 6, 7, 8, 9, 10] rfl; exact kk n6 K6 (by omega) hS6) (by omega) (by omega)
        · skip
          exact absurd (by rw [e1] at hfar; exact hfar) h_251
  · skip
    refine ms_run (pc' := 186) (lv' := [(0, .ref sb), (1, .int tm), (2, .ref o), (3, .ref x), (4, .int sp), (5, .long bf), (7, .int he7), (8, .int oc8), (9, .int (nI k)), (10, .int (nI a)), (11, .int (nI b))]) (st' := [.int 3, .int (nI b), .int (nI a), .ref x]) _ (ms_deC dL_law_180 (ms_deC dL_law_181 (ms_deC dL_law_183 (ms_deC dL_law_185 ms_deN)))) rfl rfl ?_
    refine lw_ask (As := [.int (nI a), .int (nI b), .int 3]) (v2 := .int (nI (ct (pRound nr X.2.2.1 (nI k)) 8))) (kr1 := 6 + kr) (zr1 := 36 + zr) dL_law_186 ho hox hS (c_X5_field ho hS.1 (nI a) (nI b) 3) (th_fld_n (w := 3) hW hH ha hb (by decide)) (congrArg Value.int (vf_3 hW hH ha hb he)) cv_L_42 rfl ⟨Nat.le_of_ble_eq_true rfl, Nat.le_of_ble_eq_true rfl⟩ rfl (Nat.le_of_ble_eq_true rfl) (by omega) (by omega) (fun n1 K1 hn1 hS1 => ?_)
    refine ms_run (pc' := 191) (lv' := [(0, .ref sb), (1, .int tm), (2, .ref o), (3, .ref x), (4, .int sp), (5, .long bf), (7, .int he7), (8, .int oc8), (9, .int (nI k)), (10, .int (nI a)), (11, .int (nI b))]) (st' := [.int 8, .int (nI (ct (pRound nr X.2.2.1 (nI k)) 8))]) _ (ms_deC dL_law_189 ms_deN) rfl rfl ?_
    refine ms_icmp_gt (tgt := 254) dL_law_191 (by decide) (fun h_191 => ?_) (fun h_191 => ?_)
    · skip
      exact absurd ((nI_ltI (a := 8) (b := ct (pRound nr X.2.2.1 (nI k)) 8) (by omega) (by have := ct_le (pRound nr X.2.2.1 (nI k)) 8; omega)).mp h_191) (by have := ct_le (pRound nr X.2.2.1 (nI k)) 8; omega)
    · skip
      refine ms_run (pc' := 200) (lv' := [(0, .ref sb), (1, .int tm), (2, .ref o), (3, .ref x), (4, .int sp), (5, .long bf), (7, .int he7), (8, .int oc8), (9, .int (nI k)), (10, .int (nI a)), (11, .int (nI b))]) (st' := [.int 2, .int (nI b), .int (nI a), .ref x]) _ (ms_deC dL_law_194 (ms_deC dL_law_195 (ms_deC dL_law_197 (ms_deC dL_law_199 ms_deN)))) rfl rfl ?_
      refine lw_ask (As := [.int (nI a), .int (nI b), .int 2]) (v2 := .int (X.2.1 k)) (kr1 := 5 + kr) (zr1 := 30 + zr) dL_law_200 ho hox hS1 (c_X5_field ho hS1.1 (nI a) (nI b) 2) (th_fld_n (w := 2) hW hH ha hb (by decide)) (congrArg Value.int (vf_2 hW hH ha hb he)) cv_L_42 rfl ⟨Nat.le_of_ble_eq_true rfl, Nat.le_of_ble_eq_true rfl⟩ rfl (Nat.le_of_ble_eq_true rfl) (by omega) (by omega) (fun n2 K2 hn2 hS2 => ?_)
      refine ms_run (pc' := 206) (lv' := [(0, .ref sb), (1, .int tm), (2, .ref o), (3, .ref x), (4, .int sp), (5, .long bf), (7, .int he7), (8, .int oc8), (9, .int (nI k)), (10, .int (nI a)), (11, .int (nI b))]) (st' := [.int 7, .ref x, .int (X.2.1 k)]) _ (ms_deC dL_law_203 (ms_deC dL_law_204 ms_deN)) rfl rfl ?_
      refine lw_ask (As := [.int 7]) (v2 := .int (X.2.1 (hx X.2.1 (W * H - 1)))) (kr1 := 4 + kr) (zr1 := 24 + zr) dL_law_206 ho hox hS2 (c_X5_many ho hS2.1 hc hW hH (by omega) 7) (rfl) (rfl) cv_L_50 rfl ⟨Nat.le_of_ble_eq_true rfl, Nat.le_of_ble_eq_true rfl⟩ rfl (Nat.le_of_ble_eq_true rfl) (by omega) (by omega) (fun n3 K3 hn3 hS3 => ?_)
      refine ms_icmp_gt (tgt := 254) dL_law_209 (by decide) (fun h_209 => ?_) (fun h_209 => ?_)
      · skip
        exact absurd h_209 (Int32.not_lt.mpr hmx)
      · skip
        refine ms_run (pc' := 218) (lv' := [(0, .ref sb), (1, .int tm), (2, .ref o), (3, .ref x), (4, .int sp), (5, .long bf), (7, .int he7), (8, .int oc8), (9, .int (nI k)), (10, .int (nI a)), (11, .int (nI b))]) (st' := [.int (nI b), .int (nI a), .int 0, .ref x]) _ (ms_deC dL_law_212 (ms_deC dL_law_213 (ms_deC dL_law_214 (ms_deC dL_law_216 ms_deN)))) rfl rfl ?_
        refine lw_ask (As := [.int 0, .int (nI a), .int (nI b)]) (v2 := .int (nI v1)) (kr1 := 3 + kr) (zr1 := 18 + zr) dL_law_218 ho hox hS3 (c_X5_far ho hS3.1 hW hH 0 (nI a) (nI b)) (th_far_n (g := 0) hW hH (by decide) ha hb) (congrArg Value.int ((vf_d (g := 0) hW hH ha hb he hds (by decide)).trans e1)) cv_L_54 rfl ⟨Nat.le_of_ble_eq_true rfl, Nat.le_of_ble_eq_true rfl⟩ rfl (Nat.le_of_ble_eq_true rfl) (by omega) (by omega) (fun n4 K4 hn4 hS4 => ?_)
        refine ms_if_lt (tgt := 237) dL_law_221 (by decide) (fun h_221 => ?_) (fun h_221 => ?_)
        · skip
          exact absurd h_221 (nI_pos (by omega))
        · skip
          refine ms_run (pc' := 230) (lv' := [(0, .ref sb), (1, .int tm), (2, .ref o), (3, .ref x), (4, .int sp), (5, .long bf), (7, .int he7), (8, .int oc8), (9, .int (nI k)), (10, .int (nI a)), (11, .int (nI b))]) (st' := [.int 0, .int (nI b), .int (nI a), .ref x]) _ (ms_deC dL_law_224 (ms_deC dL_law_225 (ms_deC dL_law_227 (ms_deC dL_law_229 ms_deN)))) rfl rfl ?_
          refine lw_ask (As := [.int (nI a), .int (nI b), .int 0]) (v2 := .int 0) (kr1 := 2 + kr) (zr1 := 12 + zr) dL_law_230 ho hox hS4 (c_X5_field ho hS4.1 (nI a) (nI b) 0) (th_fld_n (w := 0) hW hH ha hb (by decide)) (congrArg Value.int ((vf_0 hW hH ha hb he hwl).trans (dX_free (g := 0) (nr := nr) (mk := mk) h9 (by rw [e1]; exact nI_m1 (by omega))).2)) cv_L_42 rfl ⟨Nat.le_of_ble_eq_true rfl, Nat.le_of_ble_eq_true rfl⟩ rfl (Nat.le_of_ble_eq_true rfl) (by omega) (by omega) (fun n5 K5 hn5 hS5 => ?_)
          refine ms_run (pc' := 234) (lv' := [(0, .ref sb), (1, .int tm), (2, .ref o), (3, .ref x), (4, .int sp), (5, .long bf), (7, .int he7), (8, .int oc8), (9, .int (nI k)), (10, .int (nI a)), (11, .int (nI b))]) (st' := [.int 1, .int 0]) _ (ms_deC dL_law_233 ms_deN) rfl rfl ?_
          refine ms_icmp_eq (tgt := 254) dL_law_234 (by decide) (fun h9 => absurd h9 (by decide)) (fun _ => ?_)
          refine ms_run (pc' := 243) (lv' := [(0, .ref sb), (1, .int tm), (2, .ref o), (3, .ref x), (4, .int sp), (5, .long bf), (7, .int he7), (8, .int oc8), (9, .int (nI k)), (10, .int (nI a)), (11, .int (nI b))]) (st' := [.int (nI b), .int (nI a), .int 0, .ref x]) _ (ms_deC dL_law_237 (ms_deC dL_law_238 (ms_deC dL_law_239 (ms_deC dL_law_241 ms_deN)))) rfl rfl ?_
          refine lw_ask (As := [.int 0, .int (nI a), .int (nI b)]) (v2 := .int (nI v1)) (kr1 := 1 + kr) (zr1 := 6 + zr) dL_law_243 ho hox hS5 (c_X5_far ho hS5.1 hW hH 0 (nI a) (nI b)) (th_far_n (g := 0) hW hH (by decide) ha hb) (congrArg Value.int ((vf_d (g := 0) hW hH ha hb he hds (by decide)).trans e1)) cv_L_54 rfl ⟨Nat.le_of_ble_eq_true rfl, Nat.le_of_ble_eq_true rfl⟩ rfl (Nat.le_of_ble_eq_true rfl) (by omega) (by omega) (fun n6 K6 hn6 hS6 => ?_)
          refine ms_run (pc' := 248) (lv' := [(0, .ref sb), (1, .int tm), (2, .ref o), (3, .ref x), (4, .int sp), (5, .long bf), (7, .int he7), (8, .int oc8), (9, .int (nI k)), (10, .int (nI a)), (11, .int (nI b))]) (st' := [.int 0, .ref x, .int (nI v1)]) _ (ms_deC dL_law_246 (ms_deC dL_law_247 ms_deN)) rfl rfl ?_
          refine lw_ask (As := [.int 0]) (v2 := .int (mx (fun j => ds ((0 : Int32).toNatClampNeg * 196 + j)) (W * H))) (kr1 := 0 + kr) (zr1 := 0 + zr) dL_law_248 ho hox hS6 (c_X5_farthest ho hS6.1 hW hH 0) (th_goal_n (g := 0) (by decide)) (rfl) cv_L_57 rfl ⟨Nat.le_of_ble_eq_true rfl, Nat.le_of_ble_eq_true rfl⟩ rfl (Nat.le_of_ble_eq_true rfl) (by omega) (by omega) (fun n7 K7 hn7 hS7 => ?_)
          refine ms_icmp_le (tgt := 256) dL_law_251 (by decide) (fun h_251 => ?_) (fun h_251 => ?_)
          · skip
            exact ms_W.room (k2 := kr) (z2 := zr) (by refine ms_W.sub (lv2 := [(0, _), (1, _), (2, _), (3, _), (4, _), (5, _), (7, _), (8, _), (9, _), (10, _), (11, _)]) ?_ [0, 1, 2, 3, 4, 5, 6, 7, 8, 9, 10] rfl; exact kk n7 K7 (by omega) hS7) (by omega) (by omega)
          · skip
            exact absurd (by rw [e1] at hfar; exact hfar) h_251
set_option maxHeartbeats 1000000 in
set_option maxRecDepth 20000 in
theorem g1_law {n o x g q c j q2 c2 sb L d t W H cnt fa wa : Nat} {xs : Nat → Int32} {G : ms_H} {dr pa : Int32} {X : cX} {nr wl mk ds : Nat → Int32} {wr : Nat → Nat} {fv : Nat → Nat → Int32} {P : ms_P} {kr zr : Nat} {tm sp : Int32} {bf : Int64} (ho : ox x g q c j q2 c2) (hox : o < x) (hS : fS o x g q c j q2 c2 sb n d t G W H cnt fa wa dr pa X nr wl mk ds wr fv) {k a b : Nat} (ha : a < W) (hb : b < H) (he : b * W + a = k) {hN : Nat → Nat} (hhN : ∀ f, f < W * H → X.2.1 f = nI (hN f)) (kk : ∀ (n1 : Nat) (G1 : ms_H), n ≤ n1 → fS o x g q c j q2 c2 sb n1 d t G1 W H cnt fa wa dr pa X nr wl mk ds wr fv → ms_W false (ms_S (sb, L, xs) m_L_law) P 180 [(0, .ref sb), (1, .int tm), (2, .ref o), (3, .ref x), (4, .int sp), (5, .long bf), (7, .int (nI (sn hN (k + 1)))), (8, .int (nI (ct (pO X) (k + 1)))), (9, .int (nI k)), (10, .int (nI a)), (11, .int (nI b))] [] n1 G1 kr zr) : ms_W false (ms_S (sb, L, xs) m_L_law) (P) 92 [(0, .ref sb), (1, .int tm), (2, .ref o), (3, .ref x), (4, .int sp), (5, .long bf), (7, .int (nI (sn hN k))), (8, .int (nI (ct (pO X) k))), (9, .int (nI k))] [] n G (4 + kr) (24 + zr) := by
  have hS0 := hS
  obtain ⟨-, -, -, -, -, hK⟩ := hS0
  have hK0 := hK
  obtain ⟨⟨pb1, pb2, pb3, pb4⟩, hc, hL, hfv, hht, hds, hdr, ⟨p9, hp91, hp92, hpa⟩, hwl, ⟨hcl, ht9⟩, hV, hI, hHt⟩ := hK0
  have hW : W ≤ 14 := by omega
  have hH : H ≤ 14 := by omega
  have hW0 : 0 < W := by omega
  have h9 : W * H ≤ 196 := Nat.mul_le_mul hW hH
  have h35 : W * H ≤ 7 * 5 := Nat.mul_le_mul pb2 pb4
  have hkf : k < W * H := by rw [← he]; exact fij ha hb
  have hmd := fd_mod (y := b) ha
  rw [he] at hmd
  rcases hV.1 k hkf with ⟨eo, -⟩ | ⟨j9, hj9, eo, eu, -⟩
  · skip
    have hct : nI (ct (pO X) k) + 0 = nI (ct (pO X) (k + 1)) := by
      show _ = nI (ct (pO X) k + (if decide (¬ X.2.2.1 k = -1) = true then 1 else 0))
      rw [eo, if_neg (by decide), Int32.add_zero]
      rfl
    refine ms_run (pc' := 95) (lv' := [(0, .ref sb), (1, .int tm), (2, .ref o), (3, .ref x), (4, .int sp), (5, .long bf), (7, .int (nI (sn hN k))), (8, .int (nI (ct (pO X) k))), (9, .int (nI k))]) (st' := [.ref o, .int (nI k)]) _ (ms_deC dL_law_92 (ms_deC dL_law_94 ms_deN)) rfl rfl ?_
    refine ms_getf dL_law_95 fg_L_35 hS.2.1.1 rfl ?_
    refine ms_irem dL_law_98 ((fun z => by have := (nI_eq (b := 0) (by omega) (by omega)).mp z; omega)) ?_
    rw [show nI k - nI k / nI W * nI W = nI a from (nI_rem (by omega) (by omega)).trans (congrArg nI hmd.1)]
    refine ms_run (pc' := 104) (lv' := [(10, .int (nI a)), (0, .ref sb), (1, .int tm), (2, .ref o), (3, .ref x), (4, .int sp), (5, .long bf), (7, .int (nI (sn hN k))), (8, .int (nI (ct (pO X) k))), (9, .int (nI k))]) (st' := [.ref o, .int (nI k)]) _ (ms_deC dL_law_99 (ms_deC dL_law_101 (ms_deC dL_law_103 ms_deN))) rfl rfl ?_
    refine ms_getf dL_law_104 fg_L_35 hS.2.1.1 rfl ?_
    refine ms_idiv dL_law_107 ((fun z => by have := (nI_eq (b := 0) (by omega) (by omega)).mp z; omega)) ?_
    rw [show nI k / nI W = nI b from (nI_div (by omega) (by omega)).trans (congrArg nI hmd.2)]
    refine ms_run (pc' := 116) (lv' := [(11, .int (nI b)), (10, .int (nI a)), (0, .ref sb), (1, .int tm), (2, .ref o), (3, .ref x), (4, .int sp), (5, .long bf), (7, .int (nI (sn hN k))), (8, .int (nI (ct (pO X) k))), (9, .int (nI k))]) (st' := [.int 1, .int (nI b), .int (nI a), .ref x]) _ (ms_deC dL_law_108 (ms_deC dL_law_110 (ms_deC dL_law_111 (ms_deC dL_law_113 (ms_deC dL_law_115 ms_deN))))) rfl rfl ?_
    refine lw_ask (As := [.int (nI a), .int (nI b), .int 1]) (v2 := .int (-1)) (kr1 := 3 + kr) (zr1 := 18 + zr) dL_law_116 ho hox hS (c_X5_field ho hS.1 (nI a) (nI b) 1) (th_fld_n (w := 1) hW hH ha hb (by decide)) (congrArg Value.int ((vf_1 hW hH ha hb he).trans eo)) cv_L_42 rfl ⟨Nat.le_of_ble_eq_true rfl, Nat.le_of_ble_eq_true rfl⟩ rfl (Nat.le_of_ble_eq_true rfl) (by omega) (by omega) (fun n1 K1 hn1 hS1 => ?_)
    refine ms_run (pc' := 129) (lv' := [(12, .int (-1)), (11, .int (nI b)), (10, .int (nI a)), (0, .ref sb), (1, .int tm), (2, .ref o), (3, .ref x), (4, .int sp), (5, .long bf), (7, .int (nI (sn hN k))), (8, .int (nI (ct (pO X) k))), (9, .int (nI k))]) (st' := [.int 2, .int (nI b), .int (nI a), .ref x, .int (nI (sn hN k))]) _ (ms_deC dL_law_119 (ms_deC dL_law_121 (ms_deC dL_law_123 (ms_deC dL_law_124 (ms_deC dL_law_126 (ms_deC dL_law_128 ms_deN)))))) rfl rfl ?_
    refine lw_ask (As := [.int (nI a), .int (nI b), .int 2]) (v2 := .int (nI (hN k))) (kr1 := 2 + kr) (zr1 := 12 + zr) dL_law_129 ho hox hS1 (c_X5_field ho hS1.1 (nI a) (nI b) 2) (th_fld_n (w := 2) hW hH ha hb (by decide)) (congrArg Value.int ((vf_2 hW hH ha hb he).trans (hhN k hkf))) cv_L_42 rfl ⟨Nat.le_of_ble_eq_true rfl, Nat.le_of_ble_eq_true rfl⟩ rfl (Nat.le_of_ble_eq_true rfl) (by omega) (by omega) (fun n2 K2 hn2 hS2 => ?_)
    refine ms_run (pc' := 133) (lv' := [(12, .int (-1)), (11, .int (nI b)), (10, .int (nI a)), (0, .ref sb), (1, .int tm), (2, .ref o), (3, .ref x), (4, .int sp), (5, .long bf), (7, .int (nI (sn hN k))), (8, .int (nI (ct (pO X) k))), (9, .int (nI k))]) (st' := [.int ((nI (sn hN k)) + (nI (hN k)))]) _ (ms_deC dL_law_132 ms_deN) rfl rfl ?_
    rw [show nI (sn hN k) + nI (hN k) = nI (sn hN (k + 1)) from nI_add _ _]
    refine ms_run (pc' := 139) (lv' := [(7, .int (nI (sn hN (k + 1)))), (12, .int (-1)), (11, .int (nI b)), (10, .int (nI a)), (0, .ref sb), (1, .int tm), (2, .ref o), (3, .ref x), (4, .int sp), (5, .long bf), (8, .int (nI (ct (pO X) k))), (9, .int (nI k))]) (st' := [.int (-1), .int (nI (ct (pO X) k))]) _ (ms_deC dL_law_133 (ms_deC dL_law_135 (ms_deC dL_law_137 ms_deN))) rfl rfl ?_
    refine ms_if_ge (tgt := 146) dL_law_139 (by decide) (fun h9 => absurd h9 (by decide)) (fun _ => ?_)
    refine ms_run (pc' := 143) (lv' := [(7, .int (nI (sn hN (k + 1)))), (12, .int (-1)), (11, .int (nI b)), (10, .int (nI a)), (0, .ref sb), (1, .int tm), (2, .ref o), (3, .ref x), (4, .int sp), (5, .long bf), (8, .int (nI (ct (pO X) k))), (9, .int (nI k))]) (st' := [.int 0, .int (nI (ct (pO X) k))]) _ (ms_deC dL_law_142 ms_deN) rfl rfl ?_
    refine ms_goto (tgt := 147) dL_law_143 (by decide) ?_
    refine ms_run (pc' := 148) (lv' := [(7, .int (nI (sn hN (k + 1)))), (12, .int (-1)), (11, .int (nI b)), (10, .int (nI a)), (0, .ref sb), (1, .int tm), (2, .ref o), (3, .ref x), (4, .int sp), (5, .long bf), (8, .int (nI (ct (pO X) k))), (9, .int (nI k))]) (st' := [.int ((nI (ct (pO X) k)) + 0)]) _ (ms_deC dL_law_147 ms_deN) rfl rfl ?_
    rw [hct]
    refine ms_run (pc' := 152) (lv' := [(8, .int (nI (ct (pO X) (k + 1)))), (7, .int (nI (sn hN (k + 1)))), (12, .int (-1)), (11, .int (nI b)), (10, .int (nI a)), (0, .ref sb), (1, .int tm), (2, .ref o), (3, .ref x), (4, .int sp), (5, .long bf), (9, .int (nI k))]) (st' := [.int (-1)]) _ (ms_deC dL_law_148 (ms_deC dL_law_150 ms_deN)) rfl rfl ?_
    refine ms_if_lt (tgt := 180) dL_law_152 (by decide) (fun _ => ?_) (fun h9 => absurd h9 (by decide))
    exact ms_W.room (k2 := kr) (z2 := zr) (by refine ms_W.sub (lv2 := [(0, _), (1, _), (2, _), (3, _), (4, _), (5, _), (7, _), (8, _), (9, _), (10, _), (11, _)]) ?_ [5, 6, 7, 8, 9, 10, 1, 0, 11, 4, 3] rfl; exact kk n2 K2 (by omega) hS2) (by omega) (by omega)
  · skip
    have hct : nI (ct (pO X) k) + 1 = nI (ct (pO X) (k + 1)) := by
      show _ = nI (ct (pO X) k + (if decide (¬ X.2.2.1 k = -1) = true then 1 else 0))
      rw [eo, if_pos (decide_eq_true (nI_m1 (by omega))), ← nI_1]
    refine ms_run (pc' := 95) (lv' := [(0, .ref sb), (1, .int tm), (2, .ref o), (3, .ref x), (4, .int sp), (5, .long bf), (7, .int (nI (sn hN k))), (8, .int (nI (ct (pO X) k))), (9, .int (nI k))]) (st' := [.ref o, .int (nI k)]) _ (ms_deC dL_law_92 (ms_deC dL_law_94 ms_deN)) rfl rfl ?_
    refine ms_getf dL_law_95 fg_L_35 hS.2.1.1 rfl ?_
    refine ms_irem dL_law_98 ((fun z => by have := (nI_eq (b := 0) (by omega) (by omega)).mp z; omega)) ?_
    rw [show nI k - nI k / nI W * nI W = nI a from (nI_rem (by omega) (by omega)).trans (congrArg nI hmd.1)]
    refine ms_run (pc' := 104) (lv' := [(10, .int (nI a)), (0, .ref sb), (1, .int tm), (2, .ref o), (3, .ref x), (4, .int sp), (5, .long bf), (7, .int (nI (sn hN k))), (8, .int (nI (ct (pO X) k))), (9, .int (nI k))]) (st' := [.ref o, .int (nI k)]) _ (ms_deC dL_law_99 (ms_deC dL_law_101 (ms_deC dL_law_103 ms_deN))) rfl rfl ?_
    refine ms_getf dL_law_104 fg_L_35 hS.2.1.1 rfl ?_
    refine ms_idiv dL_law_107 ((fun z => by have := (nI_eq (b := 0) (by omega) (by omega)).mp z; omega)) ?_
    rw [show nI k / nI W = nI b from (nI_div (by omega) (by omega)).trans (congrArg nI hmd.2)]
    refine ms_run (pc' := 116) (lv' := [(11, .int (nI b)), (10, .int (nI a)), (0, .ref sb), (1, .int tm), (2, .ref o), (3, .ref x), (4, .int sp), (5, .long bf), (7, .int (nI (sn hN k))), (8, .int (nI (ct (pO X) k))), (9, .int (nI k))]) (st' := [.int 1, .int (nI b), .int (nI a), .ref x]) _ (ms_deC dL_law_108 (ms_deC dL_law_110 (ms_deC dL_law_111 (ms_deC dL_law_113 (ms_deC dL_law_115 ms_deN))))) rfl rfl ?_
    refine lw_ask (As := [.int (nI a), .int (nI b), .int 1]) (v2 := .int (nI j9)) (kr1 := 3 + kr) (zr1 := 18 + zr) dL_law_116 ho hox hS (c_X5_field ho hS.1 (nI a) (nI b) 1) (th_fld_n (w := 1) hW hH ha hb (by decide)) (congrArg Value.int ((vf_1 hW hH ha hb he).trans eo)) cv_L_42 rfl ⟨Nat.le_of_ble_eq_true rfl, Nat.le_of_ble_eq_true rfl⟩ rfl (Nat.le_of_ble_eq_true rfl) (by omega) (by omega) (fun n1 K1 hn1 hS1 => ?_)
    refine ms_run (pc' := 129) (lv' := [(12, .int (nI j9)), (11, .int (nI b)), (10, .int (nI a)), (0, .ref sb), (1, .int tm), (2, .ref o), (3, .ref x), (4, .int sp), (5, .long bf), (7, .int (nI (sn hN k))), (8, .int (nI (ct (pO X) k))), (9, .int (nI k))]) (st' := [.int 2, .int (nI b), .int (nI a), .ref x, .int (nI (sn hN k))]) _ (ms_deC dL_law_119 (ms_deC dL_law_121 (ms_deC dL_law_123 (ms_deC dL_law_124 (ms_deC dL_law_126 (ms_deC dL_law_128 ms_deN)))))) rfl rfl ?_
    refine lw_ask (As := [.int (nI a), .int (nI b), .int 2]) (v2 := .int (nI (hN k))) (kr1 := 2 + kr) (zr1 := 12 + zr) dL_law_129 ho hox hS1 (c_X5_field ho hS1.1 (nI a) (nI b) 2) (th_fld_n (w := 2) hW hH ha hb (by decide)) (congrArg Value.int ((vf_2 hW hH ha hb he).trans (hhN k hkf))) cv_L_42 rfl ⟨Nat.le_of_ble_eq_true rfl, Nat.le_of_ble_eq_true rfl⟩ rfl (Nat.le_of_ble_eq_true rfl) (by omega) (by omega) (fun n2 K2 hn2 hS2 => ?_)
    refine ms_run (pc' := 133) (lv' := [(12, .int (nI j9)), (11, .int (nI b)), (10, .int (nI a)), (0, .ref sb), (1, .int tm), (2, .ref o), (3, .ref x), (4, .int sp), (5, .long bf), (7, .int (nI (sn hN k))), (8, .int (nI (ct (pO X) k))), (9, .int (nI k))]) (st' := [.int ((nI (sn hN k)) + (nI (hN k)))]) _ (ms_deC dL_law_132 ms_deN) rfl rfl ?_
    rw [show nI (sn hN k) + nI (hN k) = nI (sn hN (k + 1)) from nI_add _ _]
    refine ms_run (pc' := 139) (lv' := [(7, .int (nI (sn hN (k + 1)))), (12, .int (nI j9)), (11, .int (nI b)), (10, .int (nI a)), (0, .ref sb), (1, .int tm), (2, .ref o), (3, .ref x), (4, .int sp), (5, .long bf), (8, .int (nI (ct (pO X) k))), (9, .int (nI k))]) (st' := [.int (nI j9), .int (nI (ct (pO X) k))]) _ (ms_deC dL_law_133 (ms_deC dL_law_135 (ms_deC dL_law_137 ms_deN))) rfl rfl ?_
    refine ms_if_ge (tgt := 146) dL_law_139 (by decide) (fun h_139 => ?_) (fun h_139 => ?_)
    · skip
      refine ms_run (pc' := 148) (lv' := [(7, .int (nI (sn hN (k + 1)))), (12, .int (nI j9)), (11, .int (nI b)), (10, .int (nI a)), (0, .ref sb), (1, .int tm), (2, .ref o), (3, .ref x), (4, .int sp), (5, .long bf), (8, .int (nI (ct (pO X) k))), (9, .int (nI k))]) (st' := [.int ((nI (ct (pO X) k)) + 1)]) _ (ms_deC dL_law_146 (ms_deC dL_law_147 ms_deN)) rfl rfl ?_
      rw [hct]
      refine ms_run (pc' := 152) (lv' := [(8, .int (nI (ct (pO X) (k + 1)))), (7, .int (nI (sn hN (k + 1)))), (12, .int (nI j9)), (11, .int (nI b)), (10, .int (nI a)), (0, .ref sb), (1, .int tm), (2, .ref o), (3, .ref x), (4, .int sp), (5, .long bf), (9, .int (nI k))]) (st' := [.int (nI j9)]) _ (ms_deC dL_law_148 (ms_deC dL_law_150 ms_deN)) rfl rfl ?_
      refine ms_if_lt (tgt := 180) dL_law_152 (by decide) (fun h_152 => ?_) (fun h_152 => ?_)
      · skip
        exact absurd h_152 (nI_pos (by omega))
      · skip
        refine ms_run (pc' := 159) (lv' := [(8, .int (nI (ct (pO X) (k + 1)))), (7, .int (nI (sn hN (k + 1)))), (12, .int (nI j9)), (11, .int (nI b)), (10, .int (nI a)), (0, .ref sb), (1, .int tm), (2, .ref o), (3, .ref x), (4, .int sp), (5, .long bf), (9, .int (nI k))]) (st' := [.int 3, .int (nI j9), .ref x]) _ (ms_deC dL_law_155 (ms_deC dL_law_156 (ms_deC dL_law_158 ms_deN))) rfl rfl ?_
        refine lw_ask (As := [.int (nI j9), .int 3]) (v2 := .int (nI k)) (kr1 := 1 + kr) (zr1 := 6 + zr) dL_law_159 ho hox hS2 (c_X5_ofWalker ho hS2.1 hc (nI j9) 3) (th_ofw_n hc hj9 (by decide)) (congrArg Value.int (by rw [nI_clamp (by omega)]; exact eu)) cv_L_46 rfl ⟨Nat.le_of_ble_eq_true rfl, Nat.le_of_ble_eq_true rfl⟩ rfl (Nat.le_of_ble_eq_true rfl) (by omega) (by omega) (fun n3 K3 hn3 hS3 => ?_)
        refine ms_run (pc' := 164) (lv' := [(8, .int (nI (ct (pO X) (k + 1)))), (7, .int (nI (sn hN (k + 1)))), (12, .int (nI j9)), (11, .int (nI b)), (10, .int (nI a)), (0, .ref sb), (1, .int tm), (2, .ref o), (3, .ref x), (4, .int sp), (5, .long bf), (9, .int (nI k))]) (st' := [.int (nI k), .int (nI k)]) _ (ms_deC dL_law_162 ms_deN) rfl rfl ?_
        refine ms_icmp_ne (tgt := 254) dL_law_164 (by decide) (fun h_164 => ?_) (fun h_164 => ?_)
        · skip
          exact absurd rfl h_164
        · skip
          refine ms_run (pc' := 173) (lv' := [(8, .int (nI (ct (pO X) (k + 1)))), (7, .int (nI (sn hN (k + 1)))), (12, .int (nI j9)), (11, .int (nI b)), (10, .int (nI a)), (0, .ref sb), (1, .int tm), (2, .ref o), (3, .ref x), (4, .int sp), (5, .long bf), (9, .int (nI k))]) (st' := [.int 0, .int (nI b), .int (nI a), .ref x]) _ (ms_deC dL_law_167 (ms_deC dL_law_168 (ms_deC dL_law_170 (ms_deC dL_law_172 ms_deN)))) rfl rfl ?_
          refine lw_ask (As := [.int (nI a), .int (nI b), .int 0]) (v2 := .int 0) (kr1 := 0 + kr) (zr1 := 0 + zr) dL_law_173 ho hox hS3 (c_X5_field ho hS3.1 (nI a) (nI b) 0) (th_fld_n (w := 0) hW hH ha hb (by decide)) (congrArg Value.int ((vf_0 hW hH ha hb he hwl).trans ((hI j9 hj9).1 k hkf eu).1)) cv_L_42 rfl ⟨Nat.le_of_ble_eq_true rfl, Nat.le_of_ble_eq_true rfl⟩ rfl (Nat.le_of_ble_eq_true rfl) (by omega) (by omega) (fun n4 K4 hn4 hS4 => ?_)
          refine ms_run (pc' := 177) (lv' := [(8, .int (nI (ct (pO X) (k + 1)))), (7, .int (nI (sn hN (k + 1)))), (12, .int (nI j9)), (11, .int (nI b)), (10, .int (nI a)), (0, .ref sb), (1, .int tm), (2, .ref o), (3, .ref x), (4, .int sp), (5, .long bf), (9, .int (nI k))]) (st' := [.int 1, .int 0]) _ (ms_deC dL_law_176 ms_deN) rfl rfl ?_
          refine ms_icmp_eq (tgt := 254) dL_law_177 (by decide) (fun h9 => absurd h9 (by decide)) (fun _ => ?_)
          exact ms_W.room (k2 := kr) (z2 := zr) (by refine ms_W.sub (lv2 := [(0, _), (1, _), (2, _), (3, _), (4, _), (5, _), (7, _), (8, _), (9, _), (10, _), (11, _)]) ?_ [5, 6, 7, 8, 9, 10, 1, 0, 11, 4, 3] rfl; exact kk n4 K4 (by omega) hS4) (by omega) (by omega)
    · skip
      exact absurd (nI_pos' (by omega)) h_139

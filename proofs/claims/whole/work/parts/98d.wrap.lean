/-! the law: the wrappers -/
theorem cdb_1 : (fun e => if e = IOB then (1 : Int32) else 2) IOB = 1 := if_pos rfl
theorem cdb_2 {e : String} (h : ¬ e = IOB) : (fun e => if e = IOB then (1 : Int32) else 2) e = 2 := if_neg h
theorem cdm_1 : (fun e => if e = IOB then (1 : Int32) else if e = IAE then 2 else 3) IOB = 1 := if_pos rfl
theorem cdm_2 : (fun e => if e = IOB then (1 : Int32) else if e = IAE then 2 else 3) IAE = 2 := (if_neg (by decide)).trans (if_pos rfl)
theorem cdm_3 : (fun e => if e = IOB then (1 : Int32) else if e = IAE then 2 else 3) ISE = 3 := (if_neg (by decide)).trans (if_neg (by decide))
set_option maxHeartbeats 1000000 in
set_option maxRecDepth 20000 in
theorem c_L_reset {n x g q c j q2 c2 W H : Nat} {G : ms_H} {nr wl mk ds : Nat → Int32} {cnt : Nat} {dr pa : Int32} {X : cX} (ho : ox x g q c j q2 c2) (hS : xs_at G x g q c j q2 c2 W H nr wl mk ds cnt dr pa X) {o : Nat} (hoo : c2 + 29 ≤ o) {fo : Nat → Int64} (hro : G o = some (oR fo)) (aw bh : Int32) : ms_X m_L_reset [.ref x, .int aw, .int bh, .ref o] n G 1 6 (lq_P n G o (th_reset aw bh) (fun _ => 1) (nI (aw.toNatClampNeg * bh.toNatClampNeg)) (fun G1 => ∃ nr9, lk_ok aw.toNatClampNeg bh.toNatClampNeg (aw.toNatClampNeg * bh.toNatClampNeg) nr9 ∧ xs_at G1 x g q c j q2 c2 aw.toNatClampNeg bh.toNatClampNeg nr9 (fun _ => 0) (fun _ => 0) (fun _ => -1) 0 dr pa ((fun _ _ => 0), (fun _ => 0), (fun _ => -1), 0) ∧ ms_fr x (c2 + 29 - x) G G1)) := by
  refine ms_X.ofH (by decide) (Nat.le_of_ble_eq_true rfl) (List.cons_ne_nil _ _) ?_
  show ms_W true m_L_reset _ 0 [(0, .ref x), (1, .int aw), (2, .int bh), (3, .ref o)] [] n G 1 6
  have ho9 := ho
  obtain ⟨o1, o2, o3, o4, o5, o6⟩ := ho
  refine ms_run (pc' := 5) (lv' := [(0, .ref x), (1, .int aw), (2, .int bh), (3, .ref o)]) (st' := [.int bh, .int aw, .ref x, .int 0, .ref o]) _ (ms_deC dL_reset_0 (ms_deC dL_reset_1 (ms_deC dL_reset_2 (ms_deC dL_reset_3 (ms_deC dL_reset_4 ms_deN))))) rfl rfl ?_
  refine ms_W.room (k2 := 1 + 0) (z2 := 6 + 0) ?_ (by omega) (by omega)
  refine ms_callVX (As := [.int aw, .int bh]) dL_reset_5 (c_X5_reset ho9 hS aw bh) cv_L_7 hS.1 rfl ⟨Nat.le_of_ble_eq_true rfl, Nat.le_of_ble_eq_true rfl⟩ rfl (Nat.le_of_ble_eq_true rfl) (fun v9 n9 K9 hp9 => ?_) (fun E9 n9 K9 q9 hp9 => ?_)
  · obtain ⟨hth, hv9, hQ9, hn9⟩ := hp9.val
    subst hv9
    have hFr : ms_fr x (c2 + 29 - x) G K9 := by obtain ⟨_, _, _, h⟩ := hQ9; exact h
    have hro9 : K9 o = some (oR fo) := (hFr o (by omega)).trans hro
    refine ms_run (pc' := 9) (lv' := [(0, .ref x), (1, .int aw), (2, .int bh), (3, .ref o)]) (st' := [.long ((nI (aw.toNatClampNeg * bh.toNatClampNeg)).toInt64), .int 0, .ref o]) _ (ms_deC dL_reset_8 ms_deN) rfl rfl ?_
    refine ms_lastore dL_reset_9 hro9 (by unfold vp_in; decide) ?_
    refine ms_goto (tgt := 17) dL_reset_10 (by decide) ?_
    refine ms_run (pc' := 18) (lv' := [(0, .ref x), (1, .int aw), (2, .int bh), (3, .ref o)]) (st' := [.int 0]) _ (ms_deC dL_reset_17 ms_deN) rfl rfl ?_
    refine ms_reti (st := []) (ty := .int) dL_reset_18 rfl rfl ?_
    exact lq_P.ret hn9 hth hQ9 (if_pos rfl)
  · obtain ⟨hth, hG9, hn9⟩ := hp9.thw
    have hE : E9 = IAE := by unfold th_reset at hth; grind
    subst hG9
    subst hE
    refine ⟨13, hd_L_reset_0, ?_⟩
    refine ms_run (pc' := 16) (lv' := [(4, .ref q9), (0, .ref x), (1, .int aw), (2, .int bh), (3, .ref o)]) (st' := [.int 1]) _ (ms_deC dL_reset_13 (ms_deC dL_reset_15 ms_deN)) rfl rfl ?_
    refine ms_reti (st := []) (ty := .int) dL_reset_16 rfl rfl ?_
    exact lq_P.thr hn9 hth rfl
set_option maxHeartbeats 1000000 in
set_option maxRecDepth 20000 in
theorem c_L_wall {n x g q c j q2 c2 W H : Nat} {G : ms_H} {nr wl mk ds : Nat → Int32} {cnt : Nat} {dr pa : Int32} {X : cX} (ho : ox x g q c j q2 c2) (hS : xs_at G x g q c j q2 c2 W H nr wl mk ds cnt dr pa X) {o : Nat} (hoo : c2 + 29 ≤ o) {fo : Nat → Int64} (hro : G o = some (oR fo)) (hW : W ≤ 14) (hH : H ≤ 14) (a b a2 b2 bb9 : Int32) : ms_X m_L_wall [.ref x, .int a, .int b, .int a2, .int b2, .int bb9, .ref o] n G 1 6 (lq_P n G o (th_wal W H X bb9 a b a2 b2) (fun e => if e = IOB then 1 else 2) (nI (ct (pWall (wlX W bb9 a.toNatClampNeg b.toNatClampNeg a2.toNatClampNeg b2.toNatClampNeg wl)) (W * H))) (fun G1 => xs_at G1 x g q c j q2 c2 W H nr (wlX W bb9 a.toNatClampNeg b.toNatClampNeg a2.toNatClampNeg b2.toNatClampNeg wl) mk (dXa (W * H) nr (wlX W bb9 a.toNatClampNeg b.toNatClampNeg a2.toNatClampNeg b2.toNatClampNeg wl) mk ds 4) cnt dr pa X ∧ ms_fr x (c2 + 29 - x) G G1)) := by
  refine ms_X.ofH (by decide) (Nat.le_of_ble_eq_true rfl) (List.cons_ne_nil _ _) ?_
  show ms_W true m_L_wall _ 0 [(0, .ref x), (1, .int a), (2, .int b), (3, .int a2), (4, .int b2), (5, .int bb9), (6, .ref o)] [] n G 1 6
  have ho9 := ho
  obtain ⟨o1, o2, o3, o4, o5, o6⟩ := ho
  refine ms_run (pc' := 11) (lv' := [(0, .ref x), (1, .int a), (2, .int b), (3, .int a2), (4, .int b2), (5, .int bb9), (6, .ref o)]) (st' := [.int bb9, .int b2, .int a2, .int b, .int a, .ref x, .int 0, .ref o]) _ (ms_deC dL_wall_0 (ms_deC dL_wall_2 (ms_deC dL_wall_3 (ms_deC dL_wall_4 (ms_deC dL_wall_5 (ms_deC dL_wall_6 (ms_deC dL_wall_7 (ms_deC dL_wall_9 ms_deN)))))))) rfl rfl ?_
  refine ms_W.room (k2 := 1 + 0) (z2 := 6 + 0) ?_ (by omega) (by omega)
  refine ms_callVX (As := [.int a, .int b, .int a2, .int b2, .int bb9]) dL_wall_11 (c_X5_wall ho9 hS hW hH a b a2 b2 bb9) cv_L_15 hS.1 rfl ⟨Nat.le_of_ble_eq_true rfl, Nat.le_of_ble_eq_true rfl⟩ rfl (Nat.le_of_ble_eq_true rfl) (fun v9 n9 K9 hp9 => ?_) (fun E9 n9 K9 q9 hp9 => ?_)
  · obtain ⟨hth, hv9, hQ9, hn9⟩ := hp9.val
    subst hv9
    have hFr : ms_fr x (c2 + 29 - x) G K9 := hQ9.2
    have hro9 : K9 o = some (oR fo) := (hFr o (by omega)).trans hro
    refine ms_run (pc' := 15) (lv' := [(0, .ref x), (1, .int a), (2, .int b), (3, .int a2), (4, .int b2), (5, .int bb9), (6, .ref o)]) (st' := [.long ((nI (ct (pWall (wlX W bb9 a.toNatClampNeg b.toNatClampNeg a2.toNatClampNeg b2.toNatClampNeg wl)) (W * H))).toInt64), .int 0, .ref o]) _ (ms_deC dL_wall_14 ms_deN) rfl rfl ?_
    refine ms_lastore dL_wall_15 hro9 (by unfold vp_in; decide) ?_
    refine ms_goto (tgt := 27) dL_wall_16 (by decide) ?_
    refine ms_run (pc' := 28) (lv' := [(0, .ref x), (1, .int a), (2, .int b), (3, .int a2), (4, .int b2), (5, .int bb9), (6, .ref o)]) (st' := [.int 0]) _ (ms_deC dL_wall_27 ms_deN) rfl rfl ?_
    refine ms_reti (st := []) (ty := .int) dL_wall_28 rfl rfl ?_
    exact lq_P.ret hn9 hth hQ9 (if_pos rfl)
  · obtain ⟨hth, hG9, hn9⟩ := hp9.thw
    have hE : E9 = IOB ∨ E9 = ISE := by unfold th_wal at hth; grind
    subst hG9
    rcases hE with hE | hE
    · skip
      subst hE
      refine ⟨19, hd_L_wall_0, ?_⟩
      refine ms_run (pc' := 22) (lv' := [(7, .ref q9), (0, .ref x), (1, .int a), (2, .int b), (3, .int a2), (4, .int b2), (5, .int bb9), (6, .ref o)]) (st' := [.int 1]) _ (ms_deC dL_wall_19 (ms_deC dL_wall_21 ms_deN)) rfl rfl ?_
      refine ms_reti (st := []) (ty := .int) dL_wall_22 rfl rfl ?_
      exact lq_P.thr hn9 hth cdb_1
    · skip
      subst hE
      refine ⟨23, hd_L_wall_1, ?_⟩
      refine ms_run (pc' := 26) (lv' := [(7, .ref q9), (0, .ref x), (1, .int a), (2, .int b), (3, .int a2), (4, .int b2), (5, .int bb9), (6, .ref o)]) (st' := [.int 2]) _ (ms_deC dL_wall_23 (ms_deC dL_wall_25 ms_deN)) rfl rfl ?_
      refine ms_reti (st := []) (ty := .int) dL_wall_26 rfl rfl ?_
      exact lq_P.thr hn9 hth (cdb_2 (by decide))
set_option maxHeartbeats 1000000 in
set_option maxRecDepth 20000 in
theorem c_L_mark {n x g q c j q2 c2 W H : Nat} {G : ms_H} {nr wl mk ds : Nat → Int32} {cnt : Nat} {dr pa : Int32} {X : cX} (ho : ox x g q c j q2 c2) (hS : xs_at G x g q c j q2 c2 W H nr wl mk ds cnt dr pa X) {o : Nat} (hoo : c2 + 29 ≤ o) {fo : Nat → Int64} (hro : G o = some (oR fo)) (hc : cnt ≤ 24) (hW : W ≤ 14) (hH : H ≤ 14) (gl aa bb : Int32) : ms_X m_L_mark [.ref x, .int gl, .int aa, .int bb, .ref o] n G 1 6 (lq_P n G o (th_mrk W H cnt X gl aa bb) (fun e => if e = IOB then 1 else 2) (nI (ct (pMark (mkF mk gl.toNatClampNeg (gr_num (nI W) (nI H) aa bb).toNatClampNeg) gl.toNatClampNeg) (W * H))) (fun G1 => xs_at G1 x g q c j q2 c2 W H nr wl (mkF mk gl.toNatClampNeg (gr_num (nI W) (nI H) aa bb).toNatClampNeg) (rq (W * H) ds gl.toNatClampNeg (dXg (W * H) nr wl (mkF mk gl.toNatClampNeg (gr_num (nI W) (nI H) aa bb).toNatClampNeg) gl.toNatClampNeg)) cnt dr pa X ∧ ms_fr x (c2 + 29 - x) G G1)) := by
  refine ms_X.ofH (by decide) (Nat.le_of_ble_eq_true rfl) (List.cons_ne_nil _ _) ?_
  show ms_W true m_L_mark _ 0 [(0, .ref x), (1, .int gl), (2, .int aa), (3, .int bb), (4, .ref o)] [] n G 1 6
  have ho9 := ho
  obtain ⟨o1, o2, o3, o4, o5, o6⟩ := ho
  refine ms_run (pc' := 7) (lv' := [(0, .ref x), (1, .int gl), (2, .int aa), (3, .int bb), (4, .ref o)]) (st' := [.int bb, .int aa, .int gl, .ref x, .int 0, .ref o]) _ (ms_deC dL_mark_0 (ms_deC dL_mark_2 (ms_deC dL_mark_3 (ms_deC dL_mark_4 (ms_deC dL_mark_5 (ms_deC dL_mark_6 ms_deN)))))) rfl rfl ?_
  refine ms_W.room (k2 := 1 + 0) (z2 := 6 + 0) ?_ (by omega) (by omega)
  refine ms_callVX (As := [.int gl, .int aa, .int bb]) dL_mark_7 (c_X5_mark ho9 hS hc hW hH gl aa bb) cv_L_23 hS.1 rfl ⟨Nat.le_of_ble_eq_true rfl, Nat.le_of_ble_eq_true rfl⟩ rfl (Nat.le_of_ble_eq_true rfl) (fun v9 n9 K9 hp9 => ?_) (fun E9 n9 K9 q9 hp9 => ?_)
  · obtain ⟨hth, hv9, hQ9, hn9⟩ := hp9.val
    subst hv9
    have hFr : ms_fr x (c2 + 29 - x) G K9 := hQ9.2
    have hro9 : K9 o = some (oR fo) := (hFr o (by omega)).trans hro
    refine ms_run (pc' := 11) (lv' := [(0, .ref x), (1, .int gl), (2, .int aa), (3, .int bb), (4, .ref o)]) (st' := [.long ((nI (ct (pMark (mkF mk gl.toNatClampNeg (gr_num (nI W) (nI H) aa bb).toNatClampNeg) gl.toNatClampNeg) (W * H))).toInt64), .int 0, .ref o]) _ (ms_deC dL_mark_10 ms_deN) rfl rfl ?_
    refine ms_lastore dL_mark_11 hro9 (by unfold vp_in; decide) ?_
    refine ms_goto (tgt := 23) dL_mark_12 (by decide) ?_
    refine ms_run (pc' := 24) (lv' := [(0, .ref x), (1, .int gl), (2, .int aa), (3, .int bb), (4, .ref o)]) (st' := [.int 0]) _ (ms_deC dL_mark_23 ms_deN) rfl rfl ?_
    refine ms_reti (st := []) (ty := .int) dL_mark_24 rfl rfl ?_
    exact lq_P.ret hn9 hth hQ9 (if_pos rfl)
  · obtain ⟨hth, hG9, hn9⟩ := hp9.thw
    have hE : E9 = IOB ∨ E9 = ISE := by unfold th_mrk at hth; grind
    subst hG9
    rcases hE with hE | hE
    · skip
      subst hE
      refine ⟨15, hd_L_mark_0, ?_⟩
      refine ms_run (pc' := 18) (lv' := [(5, .ref q9), (0, .ref x), (1, .int gl), (2, .int aa), (3, .int bb), (4, .ref o)]) (st' := [.int 1]) _ (ms_deC dL_mark_15 (ms_deC dL_mark_17 ms_deN)) rfl rfl ?_
      refine ms_reti (st := []) (ty := .int) dL_mark_18 rfl rfl ?_
      exact lq_P.thr hn9 hth cdb_1
    · skip
      subst hE
      refine ⟨19, hd_L_mark_1, ?_⟩
      refine ms_run (pc' := 22) (lv' := [(5, .ref q9), (0, .ref x), (1, .int gl), (2, .int aa), (3, .int bb), (4, .ref o)]) (st' := [.int 2]) _ (ms_deC dL_mark_19 (ms_deC dL_mark_21 ms_deN)) rfl rfl ?_
      refine ms_reti (st := []) (ty := .int) dL_mark_22 rfl rfl ?_
      exact lq_P.thr hn9 hth (cdb_2 (by decide))
set_option maxHeartbeats 1000000 in
set_option maxRecDepth 20000 in
theorem c_L_set {n x g q c j q2 c2 W H : Nat} {G : ms_H} {nr wl mk ds : Nat → Int32} {cnt : Nat} {dr pa : Int32} {X : cX} (ho : ox x g q c j q2 c2) (hS : xs_at G x g q c j q2 c2 W H nr wl mk ds cnt dr pa X) {o : Nat} (hoo : c2 + 29 ≤ o) {fo : Nat → Int64} (hro : G o = some (oR fo)) (a b : Int32) : ms_X m_L_set [.ref x, .int a, .int b, .ref o] n G 1 6 (lq_P n G o (th_set a b) (fun _ => 1) dr (fun G1 => xs_at G1 x g q c j q2 c2 W H nr wl mk ds cnt a b X ∧ ms_fr x (c2 + 29 - x) G G1)) := by
  refine ms_X.ofH (by decide) (Nat.le_of_ble_eq_true rfl) (List.cons_ne_nil _ _) ?_
  show ms_W true m_L_set _ 0 [(0, .ref x), (1, .int a), (2, .int b), (3, .ref o)] [] n G 1 6
  have ho9 := ho
  obtain ⟨o1, o2, o3, o4, o5, o6⟩ := ho
  refine ms_run (pc' := 5) (lv' := [(0, .ref x), (1, .int a), (2, .int b), (3, .ref o)]) (st' := [.int b, .int a, .ref x, .int 0, .ref o]) _ (ms_deC dL_set_0 (ms_deC dL_set_1 (ms_deC dL_set_2 (ms_deC dL_set_3 (ms_deC dL_set_4 ms_deN))))) rfl rfl ?_
  refine ms_W.room (k2 := 1 + 0) (z2 := 6 + 0) ?_ (by omega) (by omega)
  refine ms_callVX (As := [.int a, .int b]) dL_set_5 (c_X5_set ho9 hS a b) cv_L_27 hS.1 rfl ⟨Nat.le_of_ble_eq_true rfl, Nat.le_of_ble_eq_true rfl⟩ rfl (Nat.le_of_ble_eq_true rfl) (fun v9 n9 K9 hp9 => ?_) (fun E9 n9 K9 q9 hp9 => ?_)
  · obtain ⟨hth, hv9, hQ9, hn9⟩ := hp9.val
    subst hv9
    have hFr : ms_fr x (c2 + 29 - x) G K9 := hQ9.2
    have hro9 : K9 o = some (oR fo) := (hFr o (by omega)).trans hro
    refine ms_run (pc' := 9) (lv' := [(0, .ref x), (1, .int a), (2, .int b), (3, .ref o)]) (st' := [.long dr.toInt64, .int 0, .ref o]) _ (ms_deC dL_set_8 ms_deN) rfl rfl ?_
    refine ms_lastore dL_set_9 hro9 (by unfold vp_in; decide) ?_
    refine ms_goto (tgt := 17) dL_set_10 (by decide) ?_
    refine ms_run (pc' := 18) (lv' := [(0, .ref x), (1, .int a), (2, .int b), (3, .ref o)]) (st' := [.int 0]) _ (ms_deC dL_set_17 ms_deN) rfl rfl ?_
    refine ms_reti (st := []) (ty := .int) dL_set_18 rfl rfl ?_
    exact lq_P.ret hn9 hth hQ9 (if_pos rfl)
  · obtain ⟨hth, hG9, hn9⟩ := hp9.thw
    have hE : E9 = IAE := by unfold th_set at hth; grind
    subst hG9
    subst hE
    refine ⟨13, hd_L_set_0, ?_⟩
    refine ms_run (pc' := 16) (lv' := [(4, .ref q9), (0, .ref x), (1, .int a), (2, .int b), (3, .ref o)]) (st' := [.int 1]) _ (ms_deC dL_set_13 (ms_deC dL_set_15 ms_deN)) rfl rfl ?_
    refine ms_reti (st := []) (ty := .int) dL_set_16 rfl rfl ?_
    exact lq_P.thr hn9 hth rfl
set_option maxHeartbeats 1000000 in
set_option maxRecDepth 20000 in
theorem c_L_field {n x g q c j q2 c2 W H : Nat} {G : ms_H} {nr wl mk ds : Nat → Int32} {cnt : Nat} {dr pa : Int32} {X : cX} (ho : ox x g q c j q2 c2) (hS : xs_at G x g q c j q2 c2 W H nr wl mk ds cnt dr pa X) {o : Nat} (hoo : c2 + 29 ≤ o) {fo : Nat → Int64} (hro : G o = some (oR fo)) (aa bb wh : Int32) : ms_X m_L_field [.ref x, .int aa, .int bb, .int wh, .ref o] n G 1 6 (lq_P n G o (th_fld W H aa bb wh) (fun e => if e = IOB then 1 else 2) (ffX (nI (W * H)) nr wl X (gr_num (nI W) (nI H) aa bb) wh.toNatClampNeg) (fun G1 => xs_at G1 x g q c j q2 c2 W H nr wl mk ds cnt dr pa X ∧ ms_fr x (c2 + 29 - x) G G1)) := by
  refine ms_X.ofH (by decide) (Nat.le_of_ble_eq_true rfl) (List.cons_ne_nil _ _) ?_
  show ms_W true m_L_field _ 0 [(0, .ref x), (1, .int aa), (2, .int bb), (3, .int wh), (4, .ref o)] [] n G 1 6
  have ho9 := ho
  obtain ⟨o1, o2, o3, o4, o5, o6⟩ := ho
  refine ms_run (pc' := 7) (lv' := [(0, .ref x), (1, .int aa), (2, .int bb), (3, .int wh), (4, .ref o)]) (st' := [.int wh, .int bb, .int aa, .ref x, .int 0, .ref o]) _ (ms_deC dL_field_0 (ms_deC dL_field_2 (ms_deC dL_field_3 (ms_deC dL_field_4 (ms_deC dL_field_5 (ms_deC dL_field_6 ms_deN)))))) rfl rfl ?_
  refine ms_W.room (k2 := 1 + 0) (z2 := 6 + 0) ?_ (by omega) (by omega)
  refine ms_callVX (As := [.int aa, .int bb, .int wh]) dL_field_7 (c_X5_field ho9 hS aa bb wh) cv_L_30 hS.1 rfl ⟨Nat.le_of_ble_eq_true rfl, Nat.le_of_ble_eq_true rfl⟩ rfl (Nat.le_of_ble_eq_true rfl) (fun v9 n9 K9 hp9 => ?_) (fun E9 n9 K9 q9 hp9 => ?_)
  · obtain ⟨hth, hv9, hQ9, hn9⟩ := hp9.val
    subst hv9
    have hFr : ms_fr x (c2 + 29 - x) G K9 := hQ9.2
    have hro9 : K9 o = some (oR fo) := (hFr o (by omega)).trans hro
    refine ms_run (pc' := 11) (lv' := [(0, .ref x), (1, .int aa), (2, .int bb), (3, .int wh), (4, .ref o)]) (st' := [.long ((ffX (nI (W * H)) nr wl X (gr_num (nI W) (nI H) aa bb) wh.toNatClampNeg).toInt64), .int 0, .ref o]) _ (ms_deC dL_field_10 ms_deN) rfl rfl ?_
    refine ms_lastore dL_field_11 hro9 (by unfold vp_in; decide) ?_
    refine ms_goto (tgt := 23) dL_field_12 (by decide) ?_
    refine ms_run (pc' := 24) (lv' := [(0, .ref x), (1, .int aa), (2, .int bb), (3, .int wh), (4, .ref o)]) (st' := [.int 0]) _ (ms_deC dL_field_23 ms_deN) rfl rfl ?_
    refine ms_reti (st := []) (ty := .int) dL_field_24 rfl rfl ?_
    exact lq_P.ret hn9 hth hQ9 (if_pos rfl)
  · obtain ⟨hth, hG9, hn9⟩ := hp9.thw
    have hE : E9 = IOB ∨ E9 = IAE := by unfold th_fld at hth; grind
    subst hG9
    rcases hE with hE | hE
    · skip
      subst hE
      refine ⟨15, hd_L_field_0, ?_⟩
      refine ms_run (pc' := 18) (lv' := [(5, .ref q9), (0, .ref x), (1, .int aa), (2, .int bb), (3, .int wh), (4, .ref o)]) (st' := [.int 1]) _ (ms_deC dL_field_15 (ms_deC dL_field_17 ms_deN)) rfl rfl ?_
      refine ms_reti (st := []) (ty := .int) dL_field_18 rfl rfl ?_
      exact lq_P.thr hn9 hth cdb_1
    · skip
      subst hE
      refine ⟨19, hd_L_field_1, ?_⟩
      refine ms_run (pc' := 22) (lv' := [(5, .ref q9), (0, .ref x), (1, .int aa), (2, .int bb), (3, .int wh), (4, .ref o)]) (st' := [.int 2]) _ (ms_deC dL_field_19 (ms_deC dL_field_21 ms_deN)) rfl rfl ?_
      refine ms_reti (st := []) (ty := .int) dL_field_22 rfl rfl ?_
      exact lq_P.thr hn9 hth (cdb_2 (by decide))
set_option maxHeartbeats 1000000 in
set_option maxRecDepth 20000 in
theorem c_L_far {n x g q c j q2 c2 W H : Nat} {G : ms_H} {nr wl mk ds : Nat → Int32} {cnt : Nat} {dr pa : Int32} {X : cX} (ho : ox x g q c j q2 c2) (hS : xs_at G x g q c j q2 c2 W H nr wl mk ds cnt dr pa X) {o : Nat} (hoo : c2 + 29 ≤ o) {fo : Nat → Int64} (hro : G o = some (oR fo)) (hW : W ≤ 14) (hH : H ≤ 14) (gl a b : Int32) : ms_X m_L_far [.ref x, .int gl, .int a, .int b, .ref o] n G 1 6 (lq_P n G o (th_far W H gl a b) (fun _ => 1) (sq_ds (nI (W * H)) ds gl (gr_num (nI W) (nI H) a b)) (fun G1 => xs_at G1 x g q c j q2 c2 W H nr wl mk ds cnt dr pa X ∧ ms_fr x (c2 + 29 - x) G G1)) := by
  refine ms_X.ofH (by decide) (Nat.le_of_ble_eq_true rfl) (List.cons_ne_nil _ _) ?_
  show ms_W true m_L_far _ 0 [(0, .ref x), (1, .int gl), (2, .int a), (3, .int b), (4, .ref o)] [] n G 1 6
  have ho9 := ho
  obtain ⟨o1, o2, o3, o4, o5, o6⟩ := ho
  refine ms_run (pc' := 7) (lv' := [(0, .ref x), (1, .int gl), (2, .int a), (3, .int b), (4, .ref o)]) (st' := [.int b, .int a, .int gl, .ref x, .int 0, .ref o]) _ (ms_deC dL_far_0 (ms_deC dL_far_2 (ms_deC dL_far_3 (ms_deC dL_far_4 (ms_deC dL_far_5 (ms_deC dL_far_6 ms_deN)))))) rfl rfl ?_
  refine ms_W.room (k2 := 1 + 0) (z2 := 6 + 0) ?_ (by omega) (by omega)
  refine ms_callVX (As := [.int gl, .int a, .int b]) dL_far_7 (c_X5_far ho9 hS hW hH gl a b) cv_L_33 hS.1 rfl ⟨Nat.le_of_ble_eq_true rfl, Nat.le_of_ble_eq_true rfl⟩ rfl (Nat.le_of_ble_eq_true rfl) (fun v9 n9 K9 hp9 => ?_) (fun E9 n9 K9 q9 hp9 => ?_)
  · obtain ⟨hth, hv9, hQ9, hn9⟩ := hp9.val
    subst hv9
    have hFr : ms_fr x (c2 + 29 - x) G K9 := hQ9.2
    have hro9 : K9 o = some (oR fo) := (hFr o (by omega)).trans hro
    refine ms_run (pc' := 11) (lv' := [(0, .ref x), (1, .int gl), (2, .int a), (3, .int b), (4, .ref o)]) (st' := [.long ((sq_ds (nI (W * H)) ds gl (gr_num (nI W) (nI H) a b)).toInt64), .int 0, .ref o]) _ (ms_deC dL_far_10 ms_deN) rfl rfl ?_
    refine ms_lastore dL_far_11 hro9 (by unfold vp_in; decide) ?_
    refine ms_goto (tgt := 19) dL_far_12 (by decide) ?_
    refine ms_run (pc' := 20) (lv' := [(0, .ref x), (1, .int gl), (2, .int a), (3, .int b), (4, .ref o)]) (st' := [.int 0]) _ (ms_deC dL_far_19 ms_deN) rfl rfl ?_
    refine ms_reti (st := []) (ty := .int) dL_far_20 rfl rfl ?_
    exact lq_P.ret hn9 hth hQ9 (if_pos rfl)
  · obtain ⟨hth, hG9, hn9⟩ := hp9.thw
    have hE : E9 = IOB := by unfold th_far at hth; grind
    subst hG9
    subst hE
    refine ⟨15, hd_L_far_0, ?_⟩
    refine ms_run (pc' := 18) (lv' := [(5, .ref q9), (0, .ref x), (1, .int gl), (2, .int a), (3, .int b), (4, .ref o)]) (st' := [.int 1]) _ (ms_deC dL_far_15 (ms_deC dL_far_17 ms_deN)) rfl rfl ?_
    refine ms_reti (st := []) (ty := .int) dL_far_18 rfl rfl ?_
    exact lq_P.thr hn9 hth rfl
set_option maxHeartbeats 1000000 in
set_option maxRecDepth 20000 in
theorem c_L_farthest {n x g q c j q2 c2 W H : Nat} {G : ms_H} {nr wl mk ds : Nat → Int32} {cnt : Nat} {dr pa : Int32} {X : cX} (ho : ox x g q c j q2 c2) (hS : xs_at G x g q c j q2 c2 W H nr wl mk ds cnt dr pa X) {o : Nat} (hoo : c2 + 29 ≤ o) {fo : Nat → Int64} (hro : G o = some (oR fo)) (hW : W ≤ 14) (hH : H ≤ 14) (gl : Int32) : ms_X m_L_farthest [.ref x, .int gl, .ref o] n G 1 6 (lq_P n G o (th_goal gl) (fun _ => 1) (mx (fun j => ds (gl.toNatClampNeg * 196 + j)) (W * H)) (fun G1 => xs_at G1 x g q c j q2 c2 W H nr wl mk ds cnt dr pa X ∧ ms_fr x (c2 + 29 - x) G G1)) := by
  refine ms_X.ofH (by decide) (Nat.le_of_ble_eq_true rfl) (List.cons_ne_nil _ _) ?_
  show ms_W true m_L_farthest _ 0 [(0, .ref x), (1, .int gl), (2, .ref o)] [] n G 1 6
  have ho9 := ho
  obtain ⟨o1, o2, o3, o4, o5, o6⟩ := ho
  refine ms_run (pc' := 4) (lv' := [(0, .ref x), (1, .int gl), (2, .ref o)]) (st' := [.int gl, .ref x, .int 0, .ref o]) _ (ms_deC dL_farthest_0 (ms_deC dL_farthest_1 (ms_deC dL_farthest_2 (ms_deC dL_farthest_3 ms_deN)))) rfl rfl ?_
  refine ms_W.room (k2 := 1 + 0) (z2 := 6 + 0) ?_ (by omega) (by omega)
  refine ms_callVX (As := [.int gl]) dL_farthest_4 (c_X5_farthest ho9 hS hW hH gl) cv_L_36 hS.1 rfl ⟨Nat.le_of_ble_eq_true rfl, Nat.le_of_ble_eq_true rfl⟩ rfl (Nat.le_of_ble_eq_true rfl) (fun v9 n9 K9 hp9 => ?_) (fun E9 n9 K9 q9 hp9 => ?_)
  · obtain ⟨hth, hv9, hQ9, hn9⟩ := hp9.val
    subst hv9
    have hFr : ms_fr x (c2 + 29 - x) G K9 := hQ9.2
    have hro9 : K9 o = some (oR fo) := (hFr o (by omega)).trans hro
    refine ms_run (pc' := 8) (lv' := [(0, .ref x), (1, .int gl), (2, .ref o)]) (st' := [.long ((mx (fun j => ds (gl.toNatClampNeg * 196 + j)) (W * H)).toInt64), .int 0, .ref o]) _ (ms_deC dL_farthest_7 ms_deN) rfl rfl ?_
    refine ms_lastore dL_farthest_8 hro9 (by unfold vp_in; decide) ?_
    refine ms_goto (tgt := 15) dL_farthest_9 (by decide) ?_
    refine ms_run (pc' := 16) (lv' := [(0, .ref x), (1, .int gl), (2, .ref o)]) (st' := [.int 0]) _ (ms_deC dL_farthest_15 ms_deN) rfl rfl ?_
    refine ms_reti (st := []) (ty := .int) dL_farthest_16 rfl rfl ?_
    exact lq_P.ret hn9 hth hQ9 (if_pos rfl)
  · obtain ⟨hth, hG9, hn9⟩ := hp9.thw
    have hE : E9 = IOB := by unfold th_goal at hth; grind
    subst hG9
    subst hE
    refine ⟨12, hd_L_farthest_0, ?_⟩
    refine ms_run (pc' := 14) (lv' := [(3, .ref q9), (0, .ref x), (1, .int gl), (2, .ref o)]) (st' := [.int 1]) _ (ms_deC dL_farthest_12 (ms_deC dL_farthest_13 ms_deN)) rfl rfl ?_
    refine ms_reti (st := []) (ty := .int) dL_farthest_14 rfl rfl ?_
    exact lq_P.thr hn9 hth rfl
set_option maxHeartbeats 1000000 in
set_option maxRecDepth 20000 in
theorem c_L_walker {n x g q c j q2 c2 W H : Nat} {G : ms_H} {nr wl mk ds : Nat → Int32} {cnt : Nat} {dr pa : Int32} {X : cX} (ho : ox x g q c j q2 c2) (hS : xs_at G x g q c j q2 c2 W H nr wl mk ds cnt dr pa X) {o : Nat} (hoo : c2 + 29 ≤ o) {fo : Nat → Int64} (hro : G o = some (oR fo)) (gl pc mo aa bb : Int32) (hc : cnt ≤ 24) : ms_X m_L_walker [.ref x, .int gl, .int pc, .int mo, .int aa, .int bb, .ref o] n G 1 6 (lq_P n G o (th_wlk W H wl mk cnt X.2.2.1 gl pc mo aa bb) (fun e => if e = IOB then 1 else if e = IAE then 2 else 3) (nI cnt) (fun G1 => xs_at G1 x g q c j q2 c2 W H nr wl mk ds (cnt + 1) dr pa (adX cnt X gl pc mo (gr_num (nI W) (nI H) aa bb)) ∧ ms_fr x (c2 + 29 - x) G G1)) := by
  refine ms_X.ofH (by decide) (Nat.le_of_ble_eq_true rfl) (List.cons_ne_nil _ _) ?_
  show ms_W true m_L_walker _ 0 [(0, .ref x), (1, .int gl), (2, .int pc), (3, .int mo), (4, .int aa), (5, .int bb), (6, .ref o)] [] n G 1 6
  have ho9 := ho
  obtain ⟨o1, o2, o3, o4, o5, o6⟩ := ho
  refine ms_run (pc' := 11) (lv' := [(0, .ref x), (1, .int gl), (2, .int pc), (3, .int mo), (4, .int aa), (5, .int bb), (6, .ref o)]) (st' := [.int bb, .int aa, .int mo, .int pc, .int gl, .ref x, .int 0, .ref o]) _ (ms_deC dL_walker_0 (ms_deC dL_walker_2 (ms_deC dL_walker_3 (ms_deC dL_walker_4 (ms_deC dL_walker_5 (ms_deC dL_walker_6 (ms_deC dL_walker_7 (ms_deC dL_walker_9 ms_deN)))))))) rfl rfl ?_
  refine ms_W.room (k2 := 1 + 0) (z2 := 6 + 0) ?_ (by omega) (by omega)
  refine ms_callVX (As := [.int gl, .int pc, .int mo, .int aa, .int bb]) dL_walker_11 (c_X5_walker ho9 hS gl pc mo aa bb hc) cv_L_40 hS.1 rfl ⟨Nat.le_of_ble_eq_true rfl, Nat.le_of_ble_eq_true rfl⟩ rfl (Nat.le_of_ble_eq_true rfl) (fun v9 n9 K9 hp9 => ?_) (fun E9 n9 K9 q9 hp9 => ?_)
  · obtain ⟨hth, hv9, hQ9, hn9⟩ := hp9.val
    subst hv9
    have hFr : ms_fr x (c2 + 29 - x) G K9 := hQ9.2
    have hro9 : K9 o = some (oR fo) := (hFr o (by omega)).trans hro
    refine ms_run (pc' := 15) (lv' := [(0, .ref x), (1, .int gl), (2, .int pc), (3, .int mo), (4, .int aa), (5, .int bb), (6, .ref o)]) (st' := [.long ((nI cnt).toInt64), .int 0, .ref o]) _ (ms_deC dL_walker_14 ms_deN) rfl rfl ?_
    refine ms_lastore dL_walker_15 hro9 (by unfold vp_in; decide) ?_
    refine ms_goto (tgt := 31) dL_walker_16 (by decide) ?_
    refine ms_run (pc' := 32) (lv' := [(0, .ref x), (1, .int gl), (2, .int pc), (3, .int mo), (4, .int aa), (5, .int bb), (6, .ref o)]) (st' := [.int 0]) _ (ms_deC dL_walker_31 ms_deN) rfl rfl ?_
    refine ms_reti (st := []) (ty := .int) dL_walker_32 rfl rfl ?_
    exact lq_P.ret hn9 hth hQ9 (if_pos rfl)
  · obtain ⟨hth, hG9, hn9⟩ := hp9.thw
    have hE : E9 = IOB ∨ E9 = IAE ∨ E9 = ISE := by unfold th_wlk at hth; grind
    subst hG9
    rcases hE with hE | hE | hE
    · skip
      subst hE
      refine ⟨19, hd_L_walker_0, ?_⟩
      refine ms_run (pc' := 22) (lv' := [(7, .ref q9), (0, .ref x), (1, .int gl), (2, .int pc), (3, .int mo), (4, .int aa), (5, .int bb), (6, .ref o)]) (st' := [.int 1]) _ (ms_deC dL_walker_19 (ms_deC dL_walker_21 ms_deN)) rfl rfl ?_
      refine ms_reti (st := []) (ty := .int) dL_walker_22 rfl rfl ?_
      exact lq_P.thr hn9 hth cdm_1
    · skip
      subst hE
      refine ⟨23, hd_L_walker_1, ?_⟩
      refine ms_run (pc' := 26) (lv' := [(7, .ref q9), (0, .ref x), (1, .int gl), (2, .int pc), (3, .int mo), (4, .int aa), (5, .int bb), (6, .ref o)]) (st' := [.int 2]) _ (ms_deC dL_walker_23 (ms_deC dL_walker_25 ms_deN)) rfl rfl ?_
      refine ms_reti (st := []) (ty := .int) dL_walker_26 rfl rfl ?_
      exact lq_P.thr hn9 hth cdm_2
    · skip
      subst hE
      refine ⟨27, hd_L_walker_2, ?_⟩
      refine ms_run (pc' := 30) (lv' := [(7, .ref q9), (0, .ref x), (1, .int gl), (2, .int pc), (3, .int mo), (4, .int aa), (5, .int bb), (6, .ref o)]) (st' := [.int 3]) _ (ms_deC dL_walker_27 (ms_deC dL_walker_29 ms_deN)) rfl rfl ?_
      refine ms_reti (st := []) (ty := .int) dL_walker_30 rfl rfl ?_
      exact lq_P.thr hn9 hth cdm_3
set_option maxHeartbeats 1000000 in
set_option maxRecDepth 20000 in
theorem c_L_turnTo {n x g q c j q2 c2 W H : Nat} {G : ms_H} {nr wl mk ds : Nat → Int32} {cnt : Nat} {dr pa : Int32} {X : cX} (ho : ox x g q c j q2 c2) (hS : xs_at G x g q c j q2 c2 W H nr wl mk ds cnt dr pa X) {o : Nat} (hoo : c2 + 29 ≤ o) {fo : Nat → Int64} (hro : G o = some (oR fo)) (hc : cnt ≤ 24) (kk gl mo : Int32) : ms_X m_L_turnTo [.ref x, .int kk, .int gl, .int mo, .ref o] n G 1 6 (lq_P n G o (th_trn W H mk cnt X.1 kk gl mo) (fun e => if e = IOB then 1 else if e = IAE then 2 else 3) (X.1 kk.toNatClampNeg 0) (fun G1 => xs_at G1 x g q c j q2 c2 W H nr wl mk ds cnt dr pa (trX X kk.toNatClampNeg gl mo) ∧ ms_fr x (c2 + 29 - x) G G1)) := by
  refine ms_X.ofH (by decide) (Nat.le_of_ble_eq_true rfl) (List.cons_ne_nil _ _) ?_
  show ms_W true m_L_turnTo _ 0 [(0, .ref x), (1, .int kk), (2, .int gl), (3, .int mo), (4, .ref o)] [] n G 1 6
  have ho9 := ho
  obtain ⟨o1, o2, o3, o4, o5, o6⟩ := ho
  refine ms_run (pc' := 7) (lv' := [(0, .ref x), (1, .int kk), (2, .int gl), (3, .int mo), (4, .ref o)]) (st' := [.int mo, .int gl, .int kk, .ref x, .int 0, .ref o]) _ (ms_deC dL_turnTo_0 (ms_deC dL_turnTo_2 (ms_deC dL_turnTo_3 (ms_deC dL_turnTo_4 (ms_deC dL_turnTo_5 (ms_deC dL_turnTo_6 ms_deN)))))) rfl rfl ?_
  refine ms_W.room (k2 := 1 + 0) (z2 := 6 + 0) ?_ (by omega) (by omega)
  refine ms_callVX (As := [.int kk, .int gl, .int mo]) dL_turnTo_7 (c_X5_turnTo ho9 hS hc kk gl mo) cv_L_44 hS.1 rfl ⟨Nat.le_of_ble_eq_true rfl, Nat.le_of_ble_eq_true rfl⟩ rfl (Nat.le_of_ble_eq_true rfl) (fun v9 n9 K9 hp9 => ?_) (fun E9 n9 K9 q9 hp9 => ?_)
  · obtain ⟨hth, hv9, hQ9, hn9⟩ := hp9.val
    subst hv9
    have hFr : ms_fr x (c2 + 29 - x) G K9 := hQ9.2
    have hro9 : K9 o = some (oR fo) := (hFr o (by omega)).trans hro
    refine ms_run (pc' := 11) (lv' := [(0, .ref x), (1, .int kk), (2, .int gl), (3, .int mo), (4, .ref o)]) (st' := [.long ((X.1 kk.toNatClampNeg 0).toInt64), .int 0, .ref o]) _ (ms_deC dL_turnTo_10 ms_deN) rfl rfl ?_
    refine ms_lastore dL_turnTo_11 hro9 (by unfold vp_in; decide) ?_
    refine ms_goto (tgt := 27) dL_turnTo_12 (by decide) ?_
    refine ms_run (pc' := 28) (lv' := [(0, .ref x), (1, .int kk), (2, .int gl), (3, .int mo), (4, .ref o)]) (st' := [.int 0]) _ (ms_deC dL_turnTo_27 ms_deN) rfl rfl ?_
    refine ms_reti (st := []) (ty := .int) dL_turnTo_28 rfl rfl ?_
    exact lq_P.ret hn9 hth hQ9 (if_pos rfl)
  · obtain ⟨hth, hG9, hn9⟩ := hp9.thw
    have hE : E9 = IOB ∨ E9 = IAE ∨ E9 = ISE := by unfold th_trn at hth; grind
    subst hG9
    rcases hE with hE | hE | hE
    · skip
      subst hE
      refine ⟨15, hd_L_turnTo_0, ?_⟩
      refine ms_run (pc' := 18) (lv' := [(5, .ref q9), (0, .ref x), (1, .int kk), (2, .int gl), (3, .int mo), (4, .ref o)]) (st' := [.int 1]) _ (ms_deC dL_turnTo_15 (ms_deC dL_turnTo_17 ms_deN)) rfl rfl ?_
      refine ms_reti (st := []) (ty := .int) dL_turnTo_18 rfl rfl ?_
      exact lq_P.thr hn9 hth cdm_1
    · skip
      subst hE
      refine ⟨19, hd_L_turnTo_1, ?_⟩
      refine ms_run (pc' := 22) (lv' := [(5, .ref q9), (0, .ref x), (1, .int kk), (2, .int gl), (3, .int mo), (4, .ref o)]) (st' := [.int 2]) _ (ms_deC dL_turnTo_19 (ms_deC dL_turnTo_21 ms_deN)) rfl rfl ?_
      refine ms_reti (st := []) (ty := .int) dL_turnTo_22 rfl rfl ?_
      exact lq_P.thr hn9 hth cdm_2
    · skip
      subst hE
      refine ⟨23, hd_L_turnTo_2, ?_⟩
      refine ms_run (pc' := 26) (lv' := [(5, .ref q9), (0, .ref x), (1, .int kk), (2, .int gl), (3, .int mo), (4, .ref o)]) (st' := [.int 3]) _ (ms_deC dL_turnTo_23 (ms_deC dL_turnTo_25 ms_deN)) rfl rfl ?_
      refine ms_reti (st := []) (ty := .int) dL_turnTo_26 rfl rfl ?_
      exact lq_P.thr hn9 hth cdm_3
set_option maxHeartbeats 1000000 in
set_option maxRecDepth 20000 in
theorem c_L_tick {n x g q c j q2 c2 W H : Nat} {G : ms_H} {nr wl mk ds : Nat → Int32} {cnt : Nat} {dr pa : Int32} {X : cX} (ho : ox x g q c j q2 c2) (hS : xs_at G x g q c j q2 c2 W H nr wl mk ds cnt dr pa X) {o : Nat} (hoo : c2 + 29 ≤ o) {fo : Nat → Int64} (hro : G o = some (oR fo)) (hc : cnt ≤ 24) (hv : hvX (nI (W * H)) cnt X.1) (tt : Int32) : ms_X m_L_tick [.ref x, .int tt, .ref o] n G 1 6 (lq_P n G o (th_tick tt) (fun _ => 1) (nI (ct (pOut (stXn (nI (W * H)) nr mk ds cnt dr X tt.toNatClampNeg).1) cnt) - nI (ct (pOut X.1) cnt)) (fun G1 => xs_at G1 x g q c j q2 c2 W H nr wl mk ds cnt dr pa (stXn (nI (W * H)) nr mk ds cnt dr X tt.toNatClampNeg) ∧ ms_fr x (c2 + 29 - x) G G1)) := by
  refine ms_X.ofH (by decide) (Nat.le_of_ble_eq_true rfl) (List.cons_ne_nil _ _) ?_
  show ms_W true m_L_tick _ 0 [(0, .ref x), (1, .int tt), (2, .ref o)] [] n G 1 6
  have ho9 := ho
  obtain ⟨o1, o2, o3, o4, o5, o6⟩ := ho
  refine ms_run (pc' := 4) (lv' := [(0, .ref x), (1, .int tt), (2, .ref o)]) (st' := [.int tt, .ref x, .int 0, .ref o]) _ (ms_deC dL_tick_0 (ms_deC dL_tick_1 (ms_deC dL_tick_2 (ms_deC dL_tick_3 ms_deN)))) rfl rfl ?_
  refine ms_W.room (k2 := 1 + 0) (z2 := 6 + 0) ?_ (by omega) (by omega)
  refine ms_callVX (As := [.int tt]) dL_tick_4 (c_X5_tick ho9 hS hc hv tt) cv_L_47 hS.1 rfl ⟨Nat.le_of_ble_eq_true rfl, Nat.le_of_ble_eq_true rfl⟩ rfl (Nat.le_of_ble_eq_true rfl) (fun v9 n9 K9 hp9 => ?_) (fun E9 n9 K9 q9 hp9 => ?_)
  · obtain ⟨hth, hv9, hQ9, hn9⟩ := hp9.val
    subst hv9
    have hFr : ms_fr x (c2 + 29 - x) G K9 := hQ9.2
    have hro9 : K9 o = some (oR fo) := (hFr o (by omega)).trans hro
    refine ms_run (pc' := 8) (lv' := [(0, .ref x), (1, .int tt), (2, .ref o)]) (st' := [.long ((nI (ct (pOut (stXn (nI (W * H)) nr mk ds cnt dr X tt.toNatClampNeg).1) cnt) - nI (ct (pOut X.1) cnt)).toInt64), .int 0, .ref o]) _ (ms_deC dL_tick_7 ms_deN) rfl rfl ?_
    refine ms_lastore dL_tick_8 hro9 (by unfold vp_in; decide) ?_
    refine ms_goto (tgt := 15) dL_tick_9 (by decide) ?_
    refine ms_run (pc' := 16) (lv' := [(0, .ref x), (1, .int tt), (2, .ref o)]) (st' := [.int 0]) _ (ms_deC dL_tick_15 ms_deN) rfl rfl ?_
    refine ms_reti (st := []) (ty := .int) dL_tick_16 rfl rfl ?_
    exact lq_P.ret hn9 hth hQ9 (if_pos rfl)
  · obtain ⟨hth, hG9, hn9⟩ := hp9.thw
    have hE : E9 = IAE := by unfold th_tick at hth; grind
    subst hG9
    subst hE
    refine ⟨12, hd_L_tick_0, ?_⟩
    refine ms_run (pc' := 14) (lv' := [(3, .ref q9), (0, .ref x), (1, .int tt), (2, .ref o)]) (st' := [.int 1]) _ (ms_deC dL_tick_12 (ms_deC dL_tick_13 ms_deN)) rfl rfl ?_
    refine ms_reti (st := []) (ty := .int) dL_tick_14 rfl rfl ?_
    exact lq_P.thr hn9 hth rfl
set_option maxHeartbeats 1000000 in
set_option maxRecDepth 20000 in
theorem c_L_many {n x g q c j q2 c2 W H : Nat} {G : ms_H} {nr wl mk ds : Nat → Int32} {cnt : Nat} {dr pa : Int32} {X : cX} (ho : ox x g q c j q2 c2) (hS : xs_at G x g q c j q2 c2 W H nr wl mk ds cnt dr pa X) {o : Nat} (hoo : c2 + 29 ≤ o) {fo : Nat → Int64} (hro : G o = some (oR fo)) (hc : cnt ≤ 24) (hW : W ≤ 14) (hH : H ≤ 14) (hp : 0 < W * H) (wh : Int32) : ms_X m_L_many [.ref x, .int wh, .ref o] n G 1 6 (lq_P n G o (th_what wh) (fun _ => 1) (cfX (W * H) ds cnt X (jxX pa cnt nr X) wh.toNatClampNeg) (fun G1 => xs_at G1 x g q c j q2 c2 W H nr wl mk ds cnt dr pa X ∧ ms_fr x (c2 + 29 - x) G G1)) := by
  refine ms_X.ofH (by decide) (Nat.le_of_ble_eq_true rfl) (List.cons_ne_nil _ _) ?_
  show ms_W true m_L_many _ 0 [(0, .ref x), (1, .int wh), (2, .ref o)] [] n G 1 6
  have ho9 := ho
  obtain ⟨o1, o2, o3, o4, o5, o6⟩ := ho
  refine ms_run (pc' := 4) (lv' := [(0, .ref x), (1, .int wh), (2, .ref o)]) (st' := [.int wh, .ref x, .int 0, .ref o]) _ (ms_deC dL_many_0 (ms_deC dL_many_1 (ms_deC dL_many_2 (ms_deC dL_many_3 ms_deN)))) rfl rfl ?_
  refine ms_W.room (k2 := 1 + 0) (z2 := 6 + 0) ?_ (by omega) (by omega)
  refine ms_callVX (As := [.int wh]) dL_many_4 (c_X5_many ho9 hS hc hW hH hp wh) cv_L_50 hS.1 rfl ⟨Nat.le_of_ble_eq_true rfl, Nat.le_of_ble_eq_true rfl⟩ rfl (Nat.le_of_ble_eq_true rfl) (fun v9 n9 K9 hp9 => ?_) (fun E9 n9 K9 q9 hp9 => ?_)
  · obtain ⟨hth, hv9, hQ9, hn9⟩ := hp9.val
    subst hv9
    have hFr : ms_fr x (c2 + 29 - x) G K9 := hQ9.2
    have hro9 : K9 o = some (oR fo) := (hFr o (by omega)).trans hro
    refine ms_run (pc' := 8) (lv' := [(0, .ref x), (1, .int wh), (2, .ref o)]) (st' := [.long ((cfX (W * H) ds cnt X (jxX pa cnt nr X) wh.toNatClampNeg).toInt64), .int 0, .ref o]) _ (ms_deC dL_many_7 ms_deN) rfl rfl ?_
    refine ms_lastore dL_many_8 hro9 (by unfold vp_in; decide) ?_
    refine ms_goto (tgt := 15) dL_many_9 (by decide) ?_
    refine ms_run (pc' := 16) (lv' := [(0, .ref x), (1, .int wh), (2, .ref o)]) (st' := [.int 0]) _ (ms_deC dL_many_15 ms_deN) rfl rfl ?_
    refine ms_reti (st := []) (ty := .int) dL_many_16 rfl rfl ?_
    exact lq_P.ret hn9 hth hQ9 (if_pos rfl)
  · obtain ⟨hth, hG9, hn9⟩ := hp9.thw
    have hE : E9 = IAE := by unfold th_what at hth; grind
    subst hG9
    subst hE
    refine ⟨12, hd_L_many_0, ?_⟩
    refine ms_run (pc' := 14) (lv' := [(3, .ref q9), (0, .ref x), (1, .int wh), (2, .ref o)]) (st' := [.int 1]) _ (ms_deC dL_many_12 (ms_deC dL_many_13 ms_deN)) rfl rfl ?_
    refine ms_reti (st := []) (ty := .int) dL_many_14 rfl rfl ?_
    exact lq_P.thr hn9 hth rfl
set_option maxHeartbeats 1000000 in
set_option maxRecDepth 20000 in
theorem c_L_ofWalker {n x g q c j q2 c2 W H : Nat} {G : ms_H} {nr wl mk ds : Nat → Int32} {cnt : Nat} {dr pa : Int32} {X : cX} (ho : ox x g q c j q2 c2) (hS : xs_at G x g q c j q2 c2 W H nr wl mk ds cnt dr pa X) {o : Nat} (hoo : c2 + 29 ≤ o) {fo : Nat → Int64} (hro : G o = some (oR fo)) (hc : cnt ≤ 24) (kk wh : Int32) : ms_X m_L_ofWalker [.ref x, .int kk, .int wh, .ref o] n G 1 6 (lq_P n G o (th_ofw cnt kk (wh < 0 ∨ 8 < wh)) (fun e => if e = IOB then 1 else 2) (cr_fig (nI (W * H)) ds (X.1 kk.toNatClampNeg) wh.toNatClampNeg) (fun G1 => xs_at G1 x g q c j q2 c2 W H nr wl mk ds cnt dr pa X ∧ ms_fr x (c2 + 29 - x) G G1)) := by
  refine ms_X.ofH (by decide) (Nat.le_of_ble_eq_true rfl) (List.cons_ne_nil _ _) ?_
  show ms_W true m_L_ofWalker _ 0 [(0, .ref x), (1, .int kk), (2, .int wh), (3, .ref o)] [] n G 1 6
  have ho9 := ho
  obtain ⟨o1, o2, o3, o4, o5, o6⟩ := ho
  refine ms_run (pc' := 5) (lv' := [(0, .ref x), (1, .int kk), (2, .int wh), (3, .ref o)]) (st' := [.int wh, .int kk, .ref x, .int 0, .ref o]) _ (ms_deC dL_ofWalker_0 (ms_deC dL_ofWalker_1 (ms_deC dL_ofWalker_2 (ms_deC dL_ofWalker_3 (ms_deC dL_ofWalker_4 ms_deN))))) rfl rfl ?_
  refine ms_W.room (k2 := 1 + 0) (z2 := 6 + 0) ?_ (by omega) (by omega)
  refine ms_callVX (As := [.int kk, .int wh]) dL_ofWalker_5 (c_X5_ofWalker ho9 hS hc kk wh) cv_L_53 hS.1 rfl ⟨Nat.le_of_ble_eq_true rfl, Nat.le_of_ble_eq_true rfl⟩ rfl (Nat.le_of_ble_eq_true rfl) (fun v9 n9 K9 hp9 => ?_) (fun E9 n9 K9 q9 hp9 => ?_)
  · obtain ⟨hth, hv9, hQ9, hn9⟩ := hp9.val
    subst hv9
    have hFr : ms_fr x (c2 + 29 - x) G K9 := hQ9.2
    have hro9 : K9 o = some (oR fo) := (hFr o (by omega)).trans hro
    refine ms_run (pc' := 9) (lv' := [(0, .ref x), (1, .int kk), (2, .int wh), (3, .ref o)]) (st' := [.long ((cr_fig (nI (W * H)) ds (X.1 kk.toNatClampNeg) wh.toNatClampNeg).toInt64), .int 0, .ref o]) _ (ms_deC dL_ofWalker_8 ms_deN) rfl rfl ?_
    refine ms_lastore dL_ofWalker_9 hro9 (by unfold vp_in; decide) ?_
    refine ms_goto (tgt := 21) dL_ofWalker_10 (by decide) ?_
    refine ms_run (pc' := 22) (lv' := [(0, .ref x), (1, .int kk), (2, .int wh), (3, .ref o)]) (st' := [.int 0]) _ (ms_deC dL_ofWalker_21 ms_deN) rfl rfl ?_
    refine ms_reti (st := []) (ty := .int) dL_ofWalker_22 rfl rfl ?_
    exact lq_P.ret hn9 hth hQ9 (if_pos rfl)
  · obtain ⟨hth, hG9, hn9⟩ := hp9.thw
    have hE : E9 = IOB ∨ E9 = IAE := by unfold th_ofw at hth; grind
    subst hG9
    rcases hE with hE | hE
    · skip
      subst hE
      refine ⟨13, hd_L_ofWalker_0, ?_⟩
      refine ms_run (pc' := 16) (lv' := [(4, .ref q9), (0, .ref x), (1, .int kk), (2, .int wh), (3, .ref o)]) (st' := [.int 1]) _ (ms_deC dL_ofWalker_13 (ms_deC dL_ofWalker_15 ms_deN)) rfl rfl ?_
      refine ms_reti (st := []) (ty := .int) dL_ofWalker_16 rfl rfl ?_
      exact lq_P.thr hn9 hth cdb_1
    · skip
      subst hE
      refine ⟨17, hd_L_ofWalker_1, ?_⟩
      refine ms_run (pc' := 20) (lv' := [(4, .ref q9), (0, .ref x), (1, .int kk), (2, .int wh), (3, .ref o)]) (st' := [.int 2]) _ (ms_deC dL_ofWalker_17 (ms_deC dL_ofWalker_19 ms_deN)) rfl rfl ?_
      refine ms_reti (st := []) (ty := .int) dL_ofWalker_20 rfl rfl ?_
      exact lq_P.thr hn9 hth (cdb_2 (by decide))
set_option maxHeartbeats 1000000 in
set_option maxRecDepth 20000 in
theorem c_L_cost {n x g q c j q2 c2 W H : Nat} {G : ms_H} {nr wl mk ds : Nat → Int32} {cnt : Nat} {dr pa : Int32} {X : cX} (ho : ox x g q c j q2 c2) (hS : xs_at G x g q c j q2 c2 W H nr wl mk ds cnt dr pa X) {o : Nat} (hoo : c2 + 29 ≤ o) {fo : Nat → Int64} (hro : G o = some (oR fo)) (hc : cnt ≤ 24) (kk sd : Int32) : ms_X m_L_cost [.ref x, .int kk, .int sd, .ref o] n G 1 6 (lq_P n G o (th_onw cnt X.1 kk (sd < 0 ∨ 4 < sd)) (fun e => if e = IOB then 1 else 2) (cr_cost (nI (W * H)) nr ds X.2.2.1 (hdX cnt dr) X.1 (X.1 kk.toNatClampNeg) sd) (fun G1 => xs_at G1 x g q c j q2 c2 W H nr wl mk ds cnt dr pa X ∧ ms_fr x (c2 + 29 - x) G G1)) := by
  refine ms_X.ofH (by decide) (Nat.le_of_ble_eq_true rfl) (List.cons_ne_nil _ _) ?_
  show ms_W true m_L_cost _ 0 [(0, .ref x), (1, .int kk), (2, .int sd), (3, .ref o)] [] n G 1 6
  have ho9 := ho
  obtain ⟨o1, o2, o3, o4, o5, o6⟩ := ho
  refine ms_run (pc' := 5) (lv' := [(0, .ref x), (1, .int kk), (2, .int sd), (3, .ref o)]) (st' := [.int sd, .int kk, .ref x, .int 0, .ref o]) _ (ms_deC dL_cost_0 (ms_deC dL_cost_1 (ms_deC dL_cost_2 (ms_deC dL_cost_3 (ms_deC dL_cost_4 ms_deN))))) rfl rfl ?_
  refine ms_W.room (k2 := 1 + 0) (z2 := 6 + 0) ?_ (by omega) (by omega)
  refine ms_callVX (As := [.int kk, .int sd]) dL_cost_5 (c_X5_cost ho9 hS hc kk sd) cv_L_56 hS.1 rfl ⟨Nat.le_of_ble_eq_true rfl, Nat.le_of_ble_eq_true rfl⟩ rfl (Nat.le_of_ble_eq_true rfl) (fun v9 n9 K9 hp9 => ?_) (fun E9 n9 K9 q9 hp9 => ?_)
  · obtain ⟨hth, hv9, hQ9, hn9⟩ := hp9.val
    subst hv9
    have hFr : ms_fr x (c2 + 29 - x) G K9 := hQ9.2
    have hro9 : K9 o = some (oR fo) := (hFr o (by omega)).trans hro
    refine ms_run (pc' := 9) (lv' := [(0, .ref x), (1, .int kk), (2, .int sd), (3, .ref o)]) (st' := [.long ((cr_cost (nI (W * H)) nr ds X.2.2.1 (hdX cnt dr) X.1 (X.1 kk.toNatClampNeg) sd).toInt64), .int 0, .ref o]) _ (ms_deC dL_cost_8 ms_deN) rfl rfl ?_
    refine ms_lastore dL_cost_9 hro9 (by unfold vp_in; decide) ?_
    refine ms_goto (tgt := 21) dL_cost_10 (by decide) ?_
    refine ms_run (pc' := 22) (lv' := [(0, .ref x), (1, .int kk), (2, .int sd), (3, .ref o)]) (st' := [.int 0]) _ (ms_deC dL_cost_21 ms_deN) rfl rfl ?_
    refine ms_reti (st := []) (ty := .int) dL_cost_22 rfl rfl ?_
    exact lq_P.ret hn9 hth hQ9 (if_pos rfl)
  · obtain ⟨hth, hG9, hn9⟩ := hp9.thw
    have hE : E9 = IOB ∨ E9 = IAE := by unfold th_onw at hth; grind
    subst hG9
    rcases hE with hE | hE
    · skip
      subst hE
      refine ⟨13, hd_L_cost_0, ?_⟩
      refine ms_run (pc' := 16) (lv' := [(4, .ref q9), (0, .ref x), (1, .int kk), (2, .int sd), (3, .ref o)]) (st' := [.int 1]) _ (ms_deC dL_cost_13 (ms_deC dL_cost_15 ms_deN)) rfl rfl ?_
      refine ms_reti (st := []) (ty := .int) dL_cost_16 rfl rfl ?_
      exact lq_P.thr hn9 hth cdb_1
    · skip
      subst hE
      refine ⟨17, hd_L_cost_1, ?_⟩
      refine ms_run (pc' := 20) (lv' := [(4, .ref q9), (0, .ref x), (1, .int kk), (2, .int sd), (3, .ref o)]) (st' := [.int 2]) _ (ms_deC dL_cost_17 (ms_deC dL_cost_19 ms_deN)) rfl rfl ?_
      refine ms_reti (st := []) (ty := .int) dL_cost_20 rfl rfl ?_
      exact lq_P.thr hn9 hth (cdb_2 (by decide))
set_option maxHeartbeats 1000000 in
set_option maxRecDepth 20000 in
theorem c_L_wants {n x g q c j q2 c2 W H : Nat} {G : ms_H} {nr wl mk ds : Nat → Int32} {cnt : Nat} {dr pa : Int32} {X : cX} (ho : ox x g q c j q2 c2) (hS : xs_at G x g q c j q2 c2 W H nr wl mk ds cnt dr pa X) {o : Nat} (hoo : c2 + 29 ≤ o) {fo : Nat → Int64} (hro : G o = some (oR fo)) (hc : cnt ≤ 24) (kk : Int32) : ms_X m_L_wants [.ref x, .int kk, .ref o] n G 1 6 (lq_P n G o (th_wan cnt X.1 kk) (fun _ => 1) (bsX (nI (W * H)) nr ds cnt dr X.2.2.1 X.1 kk.toNatClampNeg) (fun G1 => xs_at G1 x g q c j q2 c2 W H nr wl mk ds cnt dr pa X ∧ ms_fr x (c2 + 29 - x) G G1)) := by
  refine ms_X.ofH (by decide) (Nat.le_of_ble_eq_true rfl) (List.cons_ne_nil _ _) ?_
  show ms_W true m_L_wants _ 0 [(0, .ref x), (1, .int kk), (2, .ref o)] [] n G 1 6
  have ho9 := ho
  obtain ⟨o1, o2, o3, o4, o5, o6⟩ := ho
  refine ms_run (pc' := 4) (lv' := [(0, .ref x), (1, .int kk), (2, .ref o)]) (st' := [.int kk, .ref x, .int 0, .ref o]) _ (ms_deC dL_wants_0 (ms_deC dL_wants_1 (ms_deC dL_wants_2 (ms_deC dL_wants_3 ms_deN)))) rfl rfl ?_
  refine ms_W.room (k2 := 1 + 0) (z2 := 6 + 0) ?_ (by omega) (by omega)
  refine ms_callVX (As := [.int kk]) dL_wants_4 (c_X5_wants ho9 hS hc kk) cv_L_59 hS.1 rfl ⟨Nat.le_of_ble_eq_true rfl, Nat.le_of_ble_eq_true rfl⟩ rfl (Nat.le_of_ble_eq_true rfl) (fun v9 n9 K9 hp9 => ?_) (fun E9 n9 K9 q9 hp9 => ?_)
  · obtain ⟨hth, hv9, hQ9, hn9⟩ := hp9.val
    subst hv9
    have hFr : ms_fr x (c2 + 29 - x) G K9 := hQ9.2
    have hro9 : K9 o = some (oR fo) := (hFr o (by omega)).trans hro
    refine ms_run (pc' := 8) (lv' := [(0, .ref x), (1, .int kk), (2, .ref o)]) (st' := [.long ((bsX (nI (W * H)) nr ds cnt dr X.2.2.1 X.1 kk.toNatClampNeg).toInt64), .int 0, .ref o]) _ (ms_deC dL_wants_7 ms_deN) rfl rfl ?_
    refine ms_lastore dL_wants_8 hro9 (by unfold vp_in; decide) ?_
    refine ms_goto (tgt := 15) dL_wants_9 (by decide) ?_
    refine ms_run (pc' := 16) (lv' := [(0, .ref x), (1, .int kk), (2, .ref o)]) (st' := [.int 0]) _ (ms_deC dL_wants_15 ms_deN) rfl rfl ?_
    refine ms_reti (st := []) (ty := .int) dL_wants_16 rfl rfl ?_
    exact lq_P.ret hn9 hth hQ9 (if_pos rfl)
  · obtain ⟨hth, hG9, hn9⟩ := hp9.thw
    have hE : E9 = IOB := by unfold th_wan at hth; grind
    subst hG9
    subst hE
    refine ⟨12, hd_L_wants_0, ?_⟩
    refine ms_run (pc' := 14) (lv' := [(3, .ref q9), (0, .ref x), (1, .int kk), (2, .ref o)]) (st' := [.int 1]) _ (ms_deC dL_wants_12 (ms_deC dL_wants_13 ms_deN)) rfl rfl ?_
    refine ms_reti (st := []) (ty := .int) dL_wants_14 rfl rfl ?_
    exact lq_P.thr hn9 hth rfl
set_option maxHeartbeats 1000000 in
set_option maxRecDepth 20000 in
theorem c_L_way {n x g q c j q2 c2 W H : Nat} {G : ms_H} {nr wl mk ds : Nat → Int32} {cnt : Nat} {dr pa : Int32} {X : cX} (ho : ox x g q c j q2 c2) (hS : xs_at G x g q c j q2 c2 W H nr wl mk ds cnt dr pa X) {o : Nat} (hoo : c2 + 29 ≤ o) {fo : Nat → Int64} (hro : G o = some (oR fo)) (hc : cnt ≤ 24) (kk st9 : Int32) : ms_X m_L_way [.ref x, .int kk, .int st9, .ref o] n G 1 6 (lq_P n G o (th_onw cnt X.1 kk (st9 < 0)) (fun e => if e = IOB then 1 else 2) (wyX (nI (W * H)) nr ds (X.1 kk.toNatClampNeg) st9.toNatClampNeg) (fun G1 => xs_at G1 x g q c j q2 c2 W H nr wl mk ds cnt dr pa X ∧ ms_fr x (c2 + 29 - x) G G1)) := by
  refine ms_X.ofH (by decide) (Nat.le_of_ble_eq_true rfl) (List.cons_ne_nil _ _) ?_
  show ms_W true m_L_way _ 0 [(0, .ref x), (1, .int kk), (2, .int st9), (3, .ref o)] [] n G 1 6
  have ho9 := ho
  obtain ⟨o1, o2, o3, o4, o5, o6⟩ := ho
  refine ms_run (pc' := 5) (lv' := [(0, .ref x), (1, .int kk), (2, .int st9), (3, .ref o)]) (st' := [.int st9, .int kk, .ref x, .int 0, .ref o]) _ (ms_deC dL_way_0 (ms_deC dL_way_1 (ms_deC dL_way_2 (ms_deC dL_way_3 (ms_deC dL_way_4 ms_deN))))) rfl rfl ?_
  refine ms_W.room (k2 := 1 + 0) (z2 := 6 + 0) ?_ (by omega) (by omega)
  refine ms_callVX (As := [.int kk, .int st9]) dL_way_5 (c_X5_way ho9 hS hc kk st9) cv_L_62 hS.1 rfl ⟨Nat.le_of_ble_eq_true rfl, Nat.le_of_ble_eq_true rfl⟩ rfl (Nat.le_of_ble_eq_true rfl) (fun v9 n9 K9 hp9 => ?_) (fun E9 n9 K9 q9 hp9 => ?_)
  · obtain ⟨hth, hv9, hQ9, hn9⟩ := hp9.val
    subst hv9
    have hFr : ms_fr x (c2 + 29 - x) G K9 := hQ9.2
    have hro9 : K9 o = some (oR fo) := (hFr o (by omega)).trans hro
    refine ms_run (pc' := 9) (lv' := [(0, .ref x), (1, .int kk), (2, .int st9), (3, .ref o)]) (st' := [.long ((wyX (nI (W * H)) nr ds (X.1 kk.toNatClampNeg) st9.toNatClampNeg).toInt64), .int 0, .ref o]) _ (ms_deC dL_way_8 ms_deN) rfl rfl ?_
    refine ms_lastore dL_way_9 hro9 (by unfold vp_in; decide) ?_
    refine ms_goto (tgt := 21) dL_way_10 (by decide) ?_
    refine ms_run (pc' := 22) (lv' := [(0, .ref x), (1, .int kk), (2, .int st9), (3, .ref o)]) (st' := [.int 0]) _ (ms_deC dL_way_21 ms_deN) rfl rfl ?_
    refine ms_reti (st := []) (ty := .int) dL_way_22 rfl rfl ?_
    exact lq_P.ret hn9 hth hQ9 (if_pos rfl)
  · obtain ⟨hth, hG9, hn9⟩ := hp9.thw
    have hE : E9 = IOB ∨ E9 = IAE := by unfold th_onw at hth; grind
    subst hG9
    rcases hE with hE | hE
    · skip
      subst hE
      refine ⟨13, hd_L_way_0, ?_⟩
      refine ms_run (pc' := 16) (lv' := [(4, .ref q9), (0, .ref x), (1, .int kk), (2, .int st9), (3, .ref o)]) (st' := [.int 1]) _ (ms_deC dL_way_13 (ms_deC dL_way_15 ms_deN)) rfl rfl ?_
      refine ms_reti (st := []) (ty := .int) dL_way_16 rfl rfl ?_
      exact lq_P.thr hn9 hth cdb_1
    · skip
      subst hE
      refine ⟨17, hd_L_way_1, ?_⟩
      refine ms_run (pc' := 20) (lv' := [(4, .ref q9), (0, .ref x), (1, .int kk), (2, .int st9), (3, .ref o)]) (st' := [.int 2]) _ (ms_deC dL_way_17 (ms_deC dL_way_19 ms_deN)) rfl rfl ?_
      refine ms_reti (st := []) (ty := .int) dL_way_20 rfl rfl ?_
      exact lq_P.thr hn9 hth (cdb_2 (by decide))
set_option maxHeartbeats 1000000 in
set_option maxRecDepth 20000 in
theorem c_L_jam {n x g q c j q2 c2 W H : Nat} {G : ms_H} {nr wl mk ds : Nat → Int32} {cnt : Nat} {dr pa : Int32} {X : cX} (ho : ox x g q c j q2 c2) (hS : xs_at G x g q c j q2 c2 W H nr wl mk ds cnt dr pa X) {o : Nat} (hoo : c2 + 29 ≤ o) {fo : Nat → Int64} (hro : G o = some (oR fo)) (hc : cnt ≤ 24) (kk : Int32) : ms_X m_L_jam [.ref x, .int kk, .ref o] n G 1 6 (lq_P n G o (th_wk cnt kk) (fun _ => 1) (jm_sz (jxX pa cnt nr X).1 (jxX pa cnt nr X).2.1 (nI kk.toNatClampNeg)) (fun G1 => xs_at G1 x g q c j q2 c2 W H nr wl mk ds cnt dr pa X ∧ ms_fr x (c2 + 29 - x) G G1)) := by
  refine ms_X.ofH (by decide) (Nat.le_of_ble_eq_true rfl) (List.cons_ne_nil _ _) ?_
  show ms_W true m_L_jam _ 0 [(0, .ref x), (1, .int kk), (2, .ref o)] [] n G 1 6
  have ho9 := ho
  obtain ⟨o1, o2, o3, o4, o5, o6⟩ := ho
  refine ms_run (pc' := 4) (lv' := [(0, .ref x), (1, .int kk), (2, .ref o)]) (st' := [.int kk, .ref x, .int 0, .ref o]) _ (ms_deC dL_jam_0 (ms_deC dL_jam_1 (ms_deC dL_jam_2 (ms_deC dL_jam_3 ms_deN)))) rfl rfl ?_
  refine ms_W.room (k2 := 1 + 0) (z2 := 6 + 0) ?_ (by omega) (by omega)
  refine ms_callVX (As := [.int kk]) dL_jam_4 (c_X5_jam ho9 hS hc kk) cv_L_65 hS.1 rfl ⟨Nat.le_of_ble_eq_true rfl, Nat.le_of_ble_eq_true rfl⟩ rfl (Nat.le_of_ble_eq_true rfl) (fun v9 n9 K9 hp9 => ?_) (fun E9 n9 K9 q9 hp9 => ?_)
  · obtain ⟨hth, hv9, hQ9, hn9⟩ := hp9.val
    subst hv9
    have hFr : ms_fr x (c2 + 29 - x) G K9 := hQ9.2
    have hro9 : K9 o = some (oR fo) := (hFr o (by omega)).trans hro
    refine ms_run (pc' := 8) (lv' := [(0, .ref x), (1, .int kk), (2, .ref o)]) (st' := [.long ((jm_sz (jxX pa cnt nr X).1 (jxX pa cnt nr X).2.1 (nI kk.toNatClampNeg)).toInt64), .int 0, .ref o]) _ (ms_deC dL_jam_7 ms_deN) rfl rfl ?_
    refine ms_lastore dL_jam_8 hro9 (by unfold vp_in; decide) ?_
    refine ms_goto (tgt := 15) dL_jam_9 (by decide) ?_
    refine ms_run (pc' := 16) (lv' := [(0, .ref x), (1, .int kk), (2, .ref o)]) (st' := [.int 0]) _ (ms_deC dL_jam_15 ms_deN) rfl rfl ?_
    refine ms_reti (st := []) (ty := .int) dL_jam_16 rfl rfl ?_
    exact lq_P.ret hn9 hth hQ9 (if_pos rfl)
  · obtain ⟨hth, hG9, hn9⟩ := hp9.thw
    have hE : E9 = IOB := by unfold th_wk at hth; grind
    subst hG9
    subst hE
    refine ⟨12, hd_L_jam_0, ?_⟩
    refine ms_run (pc' := 14) (lv' := [(3, .ref q9), (0, .ref x), (1, .int kk), (2, .ref o)]) (st' := [.int 1]) _ (ms_deC dL_jam_12 (ms_deC dL_jam_13 ms_deN)) rfl rfl ?_
    refine ms_reti (st := []) (ty := .int) dL_jam_14 rfl rfl ?_
    exact lq_P.thr hn9 hth rfl
set_option maxHeartbeats 1000000 in
set_option maxRecDepth 20000 in
theorem c_L_outIn {n x g q c j q2 c2 W H : Nat} {G : ms_H} {nr wl mk ds : Nat → Int32} {cnt : Nat} {dr pa : Int32} {X : cX} (ho : ox x g q c j q2 c2) (hS : xs_at G x g q c j q2 c2 W H nr wl mk ds cnt dr pa X) {o : Nat} (hoo : c2 + 29 ≤ o) {fo : Nat → Int64} (hro : G o = some (oR fo)) (hc : cnt ≤ 24) (hv : hvX (nI (W * H)) cnt X.1) (kk tt : Int32) : ms_X m_L_outIn [.ref x, .int kk, .int tt, .ref o] n G 1 6 (lq_P n G o (th_ahw cnt kk tt) (fun e => if e = IOB then 1 else 2) (fst1 (fun t => decide ((stXn (nI (W * H)) nr mk ds cnt dr X t).1 kk.toNatClampNeg 3 = -1)) (fun t => nI t) 0 (tt.toNatClampNeg + 1)) (fun G1 => xs_at G1 x g q c j q2 c2 W H nr wl mk ds cnt dr pa X ∧ ms_fr x (c2 + 29 - x) G G1)) := by
  refine ms_X.ofH (by decide) (Nat.le_of_ble_eq_true rfl) (List.cons_ne_nil _ _) ?_
  show ms_W true m_L_outIn _ 0 [(0, .ref x), (1, .int kk), (2, .int tt), (3, .ref o)] [] n G 1 6
  have ho9 := ho
  obtain ⟨o1, o2, o3, o4, o5, o6⟩ := ho
  refine ms_run (pc' := 5) (lv' := [(0, .ref x), (1, .int kk), (2, .int tt), (3, .ref o)]) (st' := [.int tt, .int kk, .ref x, .int 0, .ref o]) _ (ms_deC dL_outIn_0 (ms_deC dL_outIn_1 (ms_deC dL_outIn_2 (ms_deC dL_outIn_3 (ms_deC dL_outIn_4 ms_deN))))) rfl rfl ?_
  refine ms_W.room (k2 := 1 + 0) (z2 := 6 + 0) ?_ (by omega) (by omega)
  refine ms_callVX (As := [.int kk, .int tt]) dL_outIn_5 (c_X5_outIn ho9 hS hc hv kk tt) cv_L_68 hS.1 rfl ⟨Nat.le_of_ble_eq_true rfl, Nat.le_of_ble_eq_true rfl⟩ rfl (Nat.le_of_ble_eq_true rfl) (fun v9 n9 K9 hp9 => ?_) (fun E9 n9 K9 q9 hp9 => ?_)
  · obtain ⟨hth, hv9, hQ9, hn9⟩ := hp9.val
    subst hv9
    have hFr : ms_fr x (c2 + 29 - x) G K9 := hQ9.2
    have hro9 : K9 o = some (oR fo) := (hFr o (by omega)).trans hro
    refine ms_run (pc' := 9) (lv' := [(0, .ref x), (1, .int kk), (2, .int tt), (3, .ref o)]) (st' := [.long ((fst1 (fun t => decide ((stXn (nI (W * H)) nr mk ds cnt dr X t).1 kk.toNatClampNeg 3 = -1)) (fun t => nI t) 0 (tt.toNatClampNeg + 1)).toInt64), .int 0, .ref o]) _ (ms_deC dL_outIn_8 ms_deN) rfl rfl ?_
    refine ms_lastore dL_outIn_9 hro9 (by unfold vp_in; decide) ?_
    refine ms_goto (tgt := 21) dL_outIn_10 (by decide) ?_
    refine ms_run (pc' := 22) (lv' := [(0, .ref x), (1, .int kk), (2, .int tt), (3, .ref o)]) (st' := [.int 0]) _ (ms_deC dL_outIn_21 ms_deN) rfl rfl ?_
    refine ms_reti (st := []) (ty := .int) dL_outIn_22 rfl rfl ?_
    exact lq_P.ret hn9 hth hQ9 (if_pos rfl)
  · obtain ⟨hth, hG9, hn9⟩ := hp9.thw
    have hE : E9 = IOB ∨ E9 = IAE := by unfold th_ahw at hth; grind
    subst hG9
    rcases hE with hE | hE
    · skip
      subst hE
      refine ⟨13, hd_L_outIn_0, ?_⟩
      refine ms_run (pc' := 16) (lv' := [(4, .ref q9), (0, .ref x), (1, .int kk), (2, .int tt), (3, .ref o)]) (st' := [.int 1]) _ (ms_deC dL_outIn_13 (ms_deC dL_outIn_15 ms_deN)) rfl rfl ?_
      refine ms_reti (st := []) (ty := .int) dL_outIn_16 rfl rfl ?_
      exact lq_P.thr hn9 hth cdb_1
    · skip
      subst hE
      refine ⟨17, hd_L_outIn_1, ?_⟩
      refine ms_run (pc' := 20) (lv' := [(4, .ref q9), (0, .ref x), (1, .int kk), (2, .int tt), (3, .ref o)]) (st' := [.int 2]) _ (ms_deC dL_outIn_17 (ms_deC dL_outIn_19 ms_deN)) rfl rfl ?_
      refine ms_reti (st := []) (ty := .int) dL_outIn_20 rfl rfl ?_
      exact lq_P.thr hn9 hth (cdb_2 (by decide))
set_option maxHeartbeats 1000000 in
set_option maxRecDepth 20000 in
theorem c_L_outWith {n x g q c j q2 c2 W H : Nat} {G : ms_H} {nr wl mk ds : Nat → Int32} {cnt : Nat} {dr pa : Int32} {X : cX} (ho : ox x g q c j q2 c2) (hS : xs_at G x g q c j q2 c2 W H nr wl mk ds cnt dr pa X) {o : Nat} (hoo : c2 + 29 ≤ o) {fo : Nat → Int64} (hro : G o = some (oR fo)) (hc : cnt ≤ 24) (hv : hvX (nI (W * H)) cnt X.1) (tt dd : Int32) : ms_X m_L_outWith [.ref x, .int tt, .int dd, .ref o] n G 1 6 (lq_P n G o (th_ahd tt dd) (fun _ => 1) (nI (ct (pOut (stXn (nI (W * H)) nr mk ds cnt dd X tt.toNatClampNeg).1) cnt)) (fun G1 => xs_at G1 x g q c j q2 c2 W H nr wl mk ds cnt dr pa X ∧ ms_fr x (c2 + 29 - x) G G1)) := by
  refine ms_X.ofH (by decide) (Nat.le_of_ble_eq_true rfl) (List.cons_ne_nil _ _) ?_
  show ms_W true m_L_outWith _ 0 [(0, .ref x), (1, .int tt), (2, .int dd), (3, .ref o)] [] n G 1 6
  have ho9 := ho
  obtain ⟨o1, o2, o3, o4, o5, o6⟩ := ho
  refine ms_run (pc' := 5) (lv' := [(0, .ref x), (1, .int tt), (2, .int dd), (3, .ref o)]) (st' := [.int dd, .int tt, .ref x, .int 0, .ref o]) _ (ms_deC dL_outWith_0 (ms_deC dL_outWith_1 (ms_deC dL_outWith_2 (ms_deC dL_outWith_3 (ms_deC dL_outWith_4 ms_deN))))) rfl rfl ?_
  refine ms_W.room (k2 := 1 + 0) (z2 := 6 + 0) ?_ (by omega) (by omega)
  refine ms_callVX (As := [.int tt, .int dd]) dL_outWith_5 (c_X5_outWith ho9 hS hc hv tt dd) cv_L_71 hS.1 rfl ⟨Nat.le_of_ble_eq_true rfl, Nat.le_of_ble_eq_true rfl⟩ rfl (Nat.le_of_ble_eq_true rfl) (fun v9 n9 K9 hp9 => ?_) (fun E9 n9 K9 q9 hp9 => ?_)
  · obtain ⟨hth, hv9, hQ9, hn9⟩ := hp9.val
    subst hv9
    have hFr : ms_fr x (c2 + 29 - x) G K9 := hQ9.2
    have hro9 : K9 o = some (oR fo) := (hFr o (by omega)).trans hro
    refine ms_run (pc' := 9) (lv' := [(0, .ref x), (1, .int tt), (2, .int dd), (3, .ref o)]) (st' := [.long ((nI (ct (pOut (stXn (nI (W * H)) nr mk ds cnt dd X tt.toNatClampNeg).1) cnt)).toInt64), .int 0, .ref o]) _ (ms_deC dL_outWith_8 ms_deN) rfl rfl ?_
    refine ms_lastore dL_outWith_9 hro9 (by unfold vp_in; decide) ?_
    refine ms_goto (tgt := 17) dL_outWith_10 (by decide) ?_
    refine ms_run (pc' := 18) (lv' := [(0, .ref x), (1, .int tt), (2, .int dd), (3, .ref o)]) (st' := [.int 0]) _ (ms_deC dL_outWith_17 ms_deN) rfl rfl ?_
    refine ms_reti (st := []) (ty := .int) dL_outWith_18 rfl rfl ?_
    exact lq_P.ret hn9 hth hQ9 (if_pos rfl)
  · obtain ⟨hth, hG9, hn9⟩ := hp9.thw
    have hE : E9 = IAE := by unfold th_ahd at hth; grind
    subst hG9
    subst hE
    refine ⟨13, hd_L_outWith_0, ?_⟩
    refine ms_run (pc' := 16) (lv' := [(4, .ref q9), (0, .ref x), (1, .int tt), (2, .int dd), (3, .ref o)]) (st' := [.int 1]) _ (ms_deC dL_outWith_13 (ms_deC dL_outWith_15 ms_deN)) rfl rfl ?_
    refine ms_reti (st := []) (ty := .int) dL_outWith_16 rfl rfl ?_
    exact lq_P.thr hn9 hth rfl
set_option maxHeartbeats 1000000 in
set_option maxRecDepth 20000 in
theorem c_L_outBy {n x g q c j q2 c2 W H : Nat} {G : ms_H} {nr wl mk ds : Nat → Int32} {cnt : Nat} {dr pa : Int32} {X : cX} (ho : ox x g q c j q2 c2) (hS : xs_at G x g q c j q2 c2 W H nr wl mk ds cnt dr pa X) {o : Nat} (hoo : c2 + 29 ≤ o) {fo : Nat → Int64} (hro : G o = some (oR fo)) (hc : cnt ≤ 24) (hv : hvX (nI (W * H)) cnt X.1) (hW : W ≤ 14) (hH : H ≤ 14) (aa bb tt : Int32) : ms_X m_L_outBy [.ref x, .int aa, .int bb, .int tt, .ref o] n G 1 6 (lq_P n G o (th_oby W H X.2.2.1 aa bb tt) (fun e => if e = IOB then 1 else if e = IAE then 2 else 3) (nI (ct (pOut (stXn (nI (W * H)) nr mk (dXa (W * H) nr (wlF wl (gr_num (nI W) (nI H) aa bb).toNatClampNeg) mk ds 4) cnt dr X tt.toNatClampNeg).1) cnt) - nI (ct (pOut (stXn (nI (W * H)) nr mk ds cnt dr X tt.toNatClampNeg).1) cnt)) (fun G1 => xs_at G1 x g q c j q2 c2 W H nr wl mk ds cnt dr pa X ∧ ms_fr x (c2 + 29 - x) G G1)) := by
  refine ms_X.ofH (by decide) (Nat.le_of_ble_eq_true rfl) (List.cons_ne_nil _ _) ?_
  show ms_W true m_L_outBy _ 0 [(0, .ref x), (1, .int aa), (2, .int bb), (3, .int tt), (4, .ref o)] [] n G 1 6
  have ho9 := ho
  obtain ⟨o1, o2, o3, o4, o5, o6⟩ := ho
  refine ms_run (pc' := 7) (lv' := [(0, .ref x), (1, .int aa), (2, .int bb), (3, .int tt), (4, .ref o)]) (st' := [.int tt, .int bb, .int aa, .ref x, .int 0, .ref o]) _ (ms_deC dL_outBy_0 (ms_deC dL_outBy_2 (ms_deC dL_outBy_3 (ms_deC dL_outBy_4 (ms_deC dL_outBy_5 (ms_deC dL_outBy_6 ms_deN)))))) rfl rfl ?_
  refine ms_W.room (k2 := 1 + 0) (z2 := 6 + 0) ?_ (by omega) (by omega)
  refine ms_callVX (As := [.int aa, .int bb, .int tt]) dL_outBy_7 (c_X5_outBy ho9 hS hc hv hW hH aa bb tt) cv_L_74 hS.1 rfl ⟨Nat.le_of_ble_eq_true rfl, Nat.le_of_ble_eq_true rfl⟩ rfl (Nat.le_of_ble_eq_true rfl) (fun v9 n9 K9 hp9 => ?_) (fun E9 n9 K9 q9 hp9 => ?_)
  · obtain ⟨hth, hv9, hQ9, hn9⟩ := hp9.val
    subst hv9
    have hFr : ms_fr x (c2 + 29 - x) G K9 := hQ9.2
    have hro9 : K9 o = some (oR fo) := (hFr o (by omega)).trans hro
    refine ms_run (pc' := 11) (lv' := [(0, .ref x), (1, .int aa), (2, .int bb), (3, .int tt), (4, .ref o)]) (st' := [.long ((nI (ct (pOut (stXn (nI (W * H)) nr mk (dXa (W * H) nr (wlF wl (gr_num (nI W) (nI H) aa bb).toNatClampNeg) mk ds 4) cnt dr X tt.toNatClampNeg).1) cnt) - nI (ct (pOut (stXn (nI (W * H)) nr mk ds cnt dr X tt.toNatClampNeg).1) cnt)).toInt64), .int 0, .ref o]) _ (ms_deC dL_outBy_10 ms_deN) rfl rfl ?_
    refine ms_lastore dL_outBy_11 hro9 (by unfold vp_in; decide) ?_
    refine ms_goto (tgt := 27) dL_outBy_12 (by decide) ?_
    refine ms_run (pc' := 28) (lv' := [(0, .ref x), (1, .int aa), (2, .int bb), (3, .int tt), (4, .ref o)]) (st' := [.int 0]) _ (ms_deC dL_outBy_27 ms_deN) rfl rfl ?_
    refine ms_reti (st := []) (ty := .int) dL_outBy_28 rfl rfl ?_
    exact lq_P.ret hn9 hth hQ9 (if_pos rfl)
  · obtain ⟨hth, hG9, hn9⟩ := hp9.thw
    have hE : E9 = IOB ∨ E9 = IAE ∨ E9 = ISE := by unfold th_oby at hth; grind
    subst hG9
    rcases hE with hE | hE | hE
    · skip
      subst hE
      refine ⟨15, hd_L_outBy_0, ?_⟩
      refine ms_run (pc' := 18) (lv' := [(5, .ref q9), (0, .ref x), (1, .int aa), (2, .int bb), (3, .int tt), (4, .ref o)]) (st' := [.int 1]) _ (ms_deC dL_outBy_15 (ms_deC dL_outBy_17 ms_deN)) rfl rfl ?_
      refine ms_reti (st := []) (ty := .int) dL_outBy_18 rfl rfl ?_
      exact lq_P.thr hn9 hth cdm_1
    · skip
      subst hE
      refine ⟨19, hd_L_outBy_1, ?_⟩
      refine ms_run (pc' := 22) (lv' := [(5, .ref q9), (0, .ref x), (1, .int aa), (2, .int bb), (3, .int tt), (4, .ref o)]) (st' := [.int 2]) _ (ms_deC dL_outBy_19 (ms_deC dL_outBy_21 ms_deN)) rfl rfl ?_
      refine ms_reti (st := []) (ty := .int) dL_outBy_22 rfl rfl ?_
      exact lq_P.thr hn9 hth cdm_2
    · skip
      subst hE
      refine ⟨23, hd_L_outBy_2, ?_⟩
      refine ms_run (pc' := 26) (lv' := [(5, .ref q9), (0, .ref x), (1, .int aa), (2, .int bb), (3, .int tt), (4, .ref o)]) (st' := [.int 3]) _ (ms_deC dL_outBy_23 (ms_deC dL_outBy_25 ms_deN)) rfl rfl ?_
      refine ms_reti (st := []) (ty := .int) dL_outBy_26 rfl rfl ?_
      exact lq_P.thr hn9 hth cdm_3
set_option maxHeartbeats 1000000 in
set_option maxRecDepth 20000 in
theorem c_L_jamIn {n x g q c j q2 c2 W H : Nat} {G : ms_H} {nr wl mk ds : Nat → Int32} {cnt : Nat} {dr pa : Int32} {X : cX} (ho : ox x g q c j q2 c2) (hS : xs_at G x g q c j q2 c2 W H nr wl mk ds cnt dr pa X) {o : Nat} (hoo : c2 + 29 ≤ o) {fo : Nat → Int64} (hro : G o = some (oR fo)) (hc : cnt ≤ 24) (hv : hvX (nI (W * H)) cnt X.1) (tt : Int32) : ms_X m_L_jamIn [.ref x, .int tt, .ref o] n G 1 6 (lq_P n G o (th_ah tt) (fun _ => 1) (fst1 (fun t => decide (an (fun j => decide (pJam pa ((stXn (nI (W * H)) nr mk ds cnt dr X t).1 j))) cnt = true)) (fun t => nI t) 0 (tt.toNatClampNeg + 1)) (fun G1 => xs_at G1 x g q c j q2 c2 W H nr wl mk ds cnt dr pa X ∧ ms_fr x (c2 + 29 - x) G G1)) := by
  refine ms_X.ofH (by decide) (Nat.le_of_ble_eq_true rfl) (List.cons_ne_nil _ _) ?_
  show ms_W true m_L_jamIn _ 0 [(0, .ref x), (1, .int tt), (2, .ref o)] [] n G 1 6
  have ho9 := ho
  obtain ⟨o1, o2, o3, o4, o5, o6⟩ := ho
  refine ms_run (pc' := 4) (lv' := [(0, .ref x), (1, .int tt), (2, .ref o)]) (st' := [.int tt, .ref x, .int 0, .ref o]) _ (ms_deC dL_jamIn_0 (ms_deC dL_jamIn_1 (ms_deC dL_jamIn_2 (ms_deC dL_jamIn_3 ms_deN)))) rfl rfl ?_
  refine ms_W.room (k2 := 1 + 0) (z2 := 6 + 0) ?_ (by omega) (by omega)
  refine ms_callVX (As := [.int tt]) dL_jamIn_4 (c_X5_jamIn ho9 hS hc hv tt) cv_L_77 hS.1 rfl ⟨Nat.le_of_ble_eq_true rfl, Nat.le_of_ble_eq_true rfl⟩ rfl (Nat.le_of_ble_eq_true rfl) (fun v9 n9 K9 hp9 => ?_) (fun E9 n9 K9 q9 hp9 => ?_)
  · obtain ⟨hth, hv9, hQ9, hn9⟩ := hp9.val
    subst hv9
    have hFr : ms_fr x (c2 + 29 - x) G K9 := hQ9.2
    have hro9 : K9 o = some (oR fo) := (hFr o (by omega)).trans hro
    refine ms_run (pc' := 8) (lv' := [(0, .ref x), (1, .int tt), (2, .ref o)]) (st' := [.long ((fst1 (fun t => decide (an (fun j => decide (pJam pa ((stXn (nI (W * H)) nr mk ds cnt dr X t).1 j))) cnt = true)) (fun t => nI t) 0 (tt.toNatClampNeg + 1)).toInt64), .int 0, .ref o]) _ (ms_deC dL_jamIn_7 ms_deN) rfl rfl ?_
    refine ms_lastore dL_jamIn_8 hro9 (by unfold vp_in; decide) ?_
    refine ms_goto (tgt := 15) dL_jamIn_9 (by decide) ?_
    refine ms_run (pc' := 16) (lv' := [(0, .ref x), (1, .int tt), (2, .ref o)]) (st' := [.int 0]) _ (ms_deC dL_jamIn_15 ms_deN) rfl rfl ?_
    refine ms_reti (st := []) (ty := .int) dL_jamIn_16 rfl rfl ?_
    exact lq_P.ret hn9 hth hQ9 (if_pos rfl)
  · obtain ⟨hth, hG9, hn9⟩ := hp9.thw
    have hE : E9 = IAE := by unfold th_ah at hth; grind
    subst hG9
    subst hE
    refine ⟨12, hd_L_jamIn_0, ?_⟩
    refine ms_run (pc' := 14) (lv' := [(3, .ref q9), (0, .ref x), (1, .int tt), (2, .ref o)]) (st' := [.int 1]) _ (ms_deC dL_jamIn_12 (ms_deC dL_jamIn_13 ms_deN)) rfl rfl ?_
    refine ms_reti (st := []) (ty := .int) dL_jamIn_14 rfl rfl ?_
    exact lq_P.thr hn9 hth rfl
set_option maxHeartbeats 1000000 in
set_option maxRecDepth 20000 in
theorem c_L_farWith {n x g q c j q2 c2 W H : Nat} {G : ms_H} {nr wl mk ds : Nat → Int32} {cnt : Nat} {dr pa : Int32} {X : cX} (ho : ox x g q c j q2 c2) (hS : xs_at G x g q c j q2 c2 W H nr wl mk ds cnt dr pa X) {o : Nat} (hoo : c2 + 29 ≤ o) {fo : Nat → Int64} (hro : G o = some (oR fo)) (hW : W ≤ 14) (hH : H ≤ 14) (gl aa bb : Int32) : ms_X m_L_farWith [.ref x, .int gl, .int aa, .int bb, .ref o] n G 1 6 (lq_P n G o (th_far W H gl aa bb) (fun _ => 1) (nI (ct (pOth wl (fun k => ds (gl.toNatClampNeg * 196 + k)) (fun k => (rq (W * H) ds gl.toNatClampNeg (dXg (W * H) nr (wlF wl (gr_num (nI W) (nI H) aa bb).toNatClampNeg) mk gl.toNatClampNeg)) (gl.toNatClampNeg * 196 + k)) (gr_num (nI W) (nI H) aa bb).toNatClampNeg) (W * H))) (fun G1 => xs_at G1 x g q c j q2 c2 W H nr wl mk ds cnt dr pa X ∧ ms_fr x (c2 + 29 - x) G G1)) := by
  refine ms_X.ofH (by decide) (Nat.le_of_ble_eq_true rfl) (List.cons_ne_nil _ _) ?_
  show ms_W true m_L_farWith _ 0 [(0, .ref x), (1, .int gl), (2, .int aa), (3, .int bb), (4, .ref o)] [] n G 1 6
  have ho9 := ho
  obtain ⟨o1, o2, o3, o4, o5, o6⟩ := ho
  refine ms_run (pc' := 7) (lv' := [(0, .ref x), (1, .int gl), (2, .int aa), (3, .int bb), (4, .ref o)]) (st' := [.int bb, .int aa, .int gl, .ref x, .int 0, .ref o]) _ (ms_deC dL_farWith_0 (ms_deC dL_farWith_2 (ms_deC dL_farWith_3 (ms_deC dL_farWith_4 (ms_deC dL_farWith_5 (ms_deC dL_farWith_6 ms_deN)))))) rfl rfl ?_
  refine ms_W.room (k2 := 1 + 0) (z2 := 6 + 0) ?_ (by omega) (by omega)
  refine ms_callVX (As := [.int gl, .int aa, .int bb]) dL_farWith_7 (c_X5_farWith ho9 hS hW hH gl aa bb) cv_L_80 hS.1 rfl ⟨Nat.le_of_ble_eq_true rfl, Nat.le_of_ble_eq_true rfl⟩ rfl (Nat.le_of_ble_eq_true rfl) (fun v9 n9 K9 hp9 => ?_) (fun E9 n9 K9 q9 hp9 => ?_)
  · obtain ⟨hth, hv9, hQ9, hn9⟩ := hp9.val
    subst hv9
    have hFr : ms_fr x (c2 + 29 - x) G K9 := hQ9.2
    have hro9 : K9 o = some (oR fo) := (hFr o (by omega)).trans hro
    refine ms_run (pc' := 11) (lv' := [(0, .ref x), (1, .int gl), (2, .int aa), (3, .int bb), (4, .ref o)]) (st' := [.long ((nI (ct (pOth wl (fun k => ds (gl.toNatClampNeg * 196 + k)) (fun k => (rq (W * H) ds gl.toNatClampNeg (dXg (W * H) nr (wlF wl (gr_num (nI W) (nI H) aa bb).toNatClampNeg) mk gl.toNatClampNeg)) (gl.toNatClampNeg * 196 + k)) (gr_num (nI W) (nI H) aa bb).toNatClampNeg) (W * H))).toInt64), .int 0, .ref o]) _ (ms_deC dL_farWith_10 ms_deN) rfl rfl ?_
    refine ms_lastore dL_farWith_11 hro9 (by unfold vp_in; decide) ?_
    refine ms_goto (tgt := 19) dL_farWith_12 (by decide) ?_
    refine ms_run (pc' := 20) (lv' := [(0, .ref x), (1, .int gl), (2, .int aa), (3, .int bb), (4, .ref o)]) (st' := [.int 0]) _ (ms_deC dL_farWith_19 ms_deN) rfl rfl ?_
    refine ms_reti (st := []) (ty := .int) dL_farWith_20 rfl rfl ?_
    exact lq_P.ret hn9 hth hQ9 (if_pos rfl)
  · obtain ⟨hth, hG9, hn9⟩ := hp9.thw
    have hE : E9 = IOB := by unfold th_far at hth; grind
    subst hG9
    subst hE
    refine ⟨15, hd_L_farWith_0, ?_⟩
    refine ms_run (pc' := 18) (lv' := [(5, .ref q9), (0, .ref x), (1, .int gl), (2, .int aa), (3, .int bb), (4, .ref o)]) (st' := [.int 1]) _ (ms_deC dL_farWith_15 (ms_deC dL_farWith_17 ms_deN)) rfl rfl ?_
    refine ms_reti (st := []) (ty := .int) dL_farWith_18 rfl rfl ?_
    exact lq_P.thr hn9 hth rfl

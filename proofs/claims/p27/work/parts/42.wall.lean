/-! StarlingSquare: the calls (5): wall -/
/-- a row of a rectangle built -/
def wr (W : Nat) (bv : Int32) (y lx : Nat) (wl : Nat → Int32) : Nat → (Nat → Int32)
  | 0 => wl
  | k + 1 => upd (wr W bv y lx wl k) (y * W + (lx + k)) bv
/-- rows of it -/
def wq (W : Nat) (bv : Int32) (lx n ty : Nat) (wl : Nat → Int32) : Nat → (Nat → Int32)
  | 0 => wl
  | k + 1 => wr W bv (ty + k) lx (wq W bv lx n ty wl k) n
theorem wr_at {W : Nat} {bv : Int32} {y lx : Nat} {wl : Nat → Int32} {f : Nat} : ∀ k, wr W bv y lx wl k f = if y * W + lx ≤ f ∧ f < y * W + lx + k then bv else wl f
  | 0 => by rw [if_neg (by omega)]; rfl
  | k + 1 => by
    show upd _ _ _ f = _
    unfold upd
    by_cases h : f = y * W + (lx + k)
    · rw [if_pos h, if_pos (by omega)]
    · rw [if_neg h, wr_at k]
      by_cases h2 : y * W + lx ≤ f ∧ f < y * W + lx + k
      · rw [if_pos h2, if_pos (by omega)]
      · rw [if_neg h2, if_neg (by omega)]
theorem wq_at {W : Nat} {bv : Int32} {lx n ty : Nat} {wl : Nat → Int32} {a b : Nat} (ha : a < W) (hn : lx + n ≤ W) : ∀ k, wq W bv lx n ty wl k (b * W + a) = if (ty ≤ b ∧ b < ty + k) ∧ lx ≤ a ∧ a < lx + n then bv else wl (b * W + a)
  | 0 => by rw [if_neg (by omega)]; rfl
  | k + 1 => by
    show wr _ _ _ _ _ _ _ = _
    rw [wr_at, wq_at ha hn k]
    by_cases h : b = ty + k
    · subst h
      by_cases h2 : lx ≤ a ∧ a < lx + n
      · rw [if_pos (by omega), if_pos ⟨by omega, h2⟩]
      · rw [if_neg (by omega), if_neg (fun z => h2 z.2), if_neg (fun z => h2 z.2)]
    · have h3 : ¬((ty + k) * W + lx ≤ b * W + a ∧ b * W + a < (ty + k) * W + lx + n) := by
        rintro ⟨z1, z2⟩
        rcases Nat.lt_or_gt_of_ne h with h4 | h4
        · have := Nat.mul_le_mul_right W (show b + 1 ≤ ty + k by omega)
          rw [Nat.add_mul] at this
          omega
        · have := Nat.mul_le_mul_right W (show ty + k + 1 ≤ b by omega)
          rw [Nat.add_mul (ty + k)] at this
          omega
      rw [if_neg h3]
      by_cases h2 : (ty ≤ b ∧ b < ty + k) ∧ lx ≤ a ∧ a < lx + n
      · rw [if_pos h2, if_pos ⟨by omega, h2.2⟩]
      · rw [if_neg h2, if_neg (fun z => h2 ⟨by omega, z.2⟩)]
theorem mn_I {a b : Nat} (ha : a < 100) (hb : b < 100) : (if nI b < nI a then nI b else nI a) = nI (min a b) := by
  by_cases h : b < a
  · rw [if_pos ((nI_ltI (by omega) (by omega)).mpr h), Nat.min_eq_right (by omega)]
  · rw [if_neg (fun z => h ((nI_ltI (by omega) (by omega)).mp z)), Nat.min_eq_left (by omega)]
theorem mx_I {a b : Nat} (ha : a < 100) (hb : b < 100) : (if nI a < nI b then nI b else nI a) = nI (max a b) := by
  by_cases h : a < b
  · rw [if_pos ((nI_ltI (by omega) (by omega)).mpr h), Nat.max_eq_right (by omega)]
  · rw [if_neg (fun z => h ((nI_ltI (by omega) (by omega)).mp z)), Nat.max_eq_left (by omega)]
/-- walls behind the call: a, b and a2, b2 are the corners -/
def wlX (W : Nat) (bv : Int32) (a b a2 b2 : Nat) (wl : Nat → Int32) : Nat → Int32 := wq W (if bv = 0 then 0 else 1) (min a a2) (max a a2 + 1 - min a a2) (min b b2) wl (max b b2 + 1 - min b b2)
def wanF (W H : Nat) (X : cX) (a b a2 b2 : Nat) : Bool := anF (fun yy => anF (fun x => pAny X.2.2.1 (nI W) (nI H) x yy) (min a a2) (max a a2 + 1 - min a a2)) (min b b2) (max b b2 + 1 - min b b2)
def th_wal (W H : Nat) (X : cX) (bv a b a2 b2 : Int32) : Option String := if gr_num (nI W) (nI H) a b = -1 ∨ gr_num (nI W) (nI H) a2 b2 = -1 then some IOB else if ¬ bv = 0 ∧ wanF W H X a.toNatClampNeg b.toNatClampNeg a2.toNatClampNeg b2.toNatClampNeg = true then some ISE else none
set_option maxHeartbeats 4000000 in
set_option maxRecDepth 20000 in
theorem l2_X5_wall {n x g q c j q2 c2 W H : Nat} {G0 : ms_H} {nr mk ds : Nat → Int32} {P : ms_P} (ho : ox x g q c j q2 c2) (hW : W ≤ 14) (hH : H ≤ 14) {bb9 : Int32} {lx rx by9 : Nat} (hrx : rx < W) (hby : by9 < H) (hlr : lx ≤ rx) {wl : Nat → Int32} {yy : Nat} (hyy : yy < H) : ∀ (r k : Nat), k + r = rx + 1 - lx → ∀ (G : ms_H) (qu : Nat → Int32), G x = some (.inr (5, [.ref g, .ref q, .ref c, .ref j, .ref q2, .ref c2])) → gr_at G g (nI (W * H)) (nI W) (nI H) nr → sq_at G g q (wr W (if bb9 = 0 then 0 else 1) yy lx wl k) mk ds qu → ms_fr q 5 G0 G → (∀ (G : ms_H) (qu : Nat → Int32), G x = some (.inr (5, [.ref g, .ref q, .ref c, .ref j, .ref q2, .ref c2])) → gr_at G g (nI (W * H)) (nI W) (nI H) nr → sq_at G g q (wr W (if bb9 = 0 then 0 else 1) yy lx wl (rx + 1 - lx)) mk ds qu → ms_fr q 5 G0 G → ms_W true m_X5_wall P 148 [(0, .ref x), (5, .int bb9), (6, .int (nI lx)), (7, .int (nI rx)), (9, .int (nI by9)), (10, .int (nI yy))] [] n G 1 6) → ms_W true m_X5_wall (P) 115 [(0, .ref x), (5, .int bb9), (6, .int (nI lx)), (7, .int (nI rx)), (9, .int (nI by9)), (10, .int (nI yy)), (11, .int (nI (lx + k)))] [] n G 1 6 := by
  obtain ⟨o1, o2, o3, o4, o5, o6⟩ := ho
  intro r
  induction r with
  | zero =>
    intro k hk G qu hX hG hQ hF kk
    have hkN : k = rx + 1 - lx := by omega
    refine ms_run (pc' := 119) (lv' := [(0, .ref x), (5, .int bb9), (6, .int (nI lx)), (7, .int (nI rx)), (9, .int (nI by9)), (10, .int (nI yy)), (11, .int (nI (lx + k)))]) (st' := [.int (nI rx), .int (nI (lx + k))]) _ (ms_deC dX5_wall_115 (ms_deC dX5_wall_117 ms_deN)) rfl rfl ?_
    refine ms_icmp_gt (tgt := 148) dX5_wall_119 (by decide) (fun h_119 => ?_) (fun h_119 => ?_)
    · skip
      refine ms_W.sub (lv2 := [(0, _), (5, _), (6, _), (7, _), (9, _), (10, _)]) ?_ [0, 1, 2, 3, 4, 5] rfl
      rw [hkN] at hQ
      exact kk _ _ hX hG hQ hF
    · skip
      exact absurd (show nI rx < nI (lx + k) from nI_lt (by omega) (by omega)) h_119
  | succ r ih =>
    intro k hk G qu hX hG hQ hF kk
    have hlt : k < rx + 1 - lx := by omega
    refine ms_run (pc' := 119) (lv' := [(0, .ref x), (5, .int bb9), (6, .int (nI lx)), (7, .int (nI rx)), (9, .int (nI by9)), (10, .int (nI yy)), (11, .int (nI (lx + k)))]) (st' := [.int (nI rx), .int (nI (lx + k))]) _ (ms_deC dX5_wall_115 (ms_deC dX5_wall_117 ms_deN)) rfl rfl ?_
    refine ms_icmp_gt (tgt := 148) dX5_wall_119 (by decide) (fun h_119 => ?_) (fun h_119 => ?_)
    · skip
      exact absurd h_119 (show ¬ nI rx < nI (lx + k) from nI_nlt (by omega) (by omega))
    · skip
      refine ms_run (pc' := 123) (lv' := [(0, .ref x), (5, .int bb9), (6, .int (nI lx)), (7, .int (nI rx)), (9, .int (nI by9)), (10, .int (nI yy)), (11, .int (nI (lx + k)))]) (st' := [.ref x]) _ (ms_deC dX5_wall_122 ms_deN) rfl rfl ?_
      refine ms_getf dX5_wall_123 fg_X5_21 hX rfl ?_
      refine ms_run (pc' := 127) (lv' := [(0, .ref x), (5, .int bb9), (6, .int (nI lx)), (7, .int (nI rx)), (9, .int (nI by9)), (10, .int (nI yy)), (11, .int (nI (lx + k)))]) (st' := [.ref x, .ref q]) _ (ms_deC dX5_wall_126 ms_deN) rfl rfl ?_
      refine ms_getf dX5_wall_127 fg_X5_10 hX rfl ?_
      refine ms_run (pc' := 134) (lv' := [(0, .ref x), (5, .int bb9), (6, .int (nI lx)), (7, .int (nI rx)), (9, .int (nI by9)), (10, .int (nI yy)), (11, .int (nI (lx + k)))]) (st' := [.int (nI yy), .int (nI (lx + k)), .ref g, .ref q]) _ (ms_deC dX5_wall_130 (ms_deC dX5_wall_132 ms_deN)) rfl rfl ?_
      refine ms_callVp (As := [.int (nI (lx + k)), .int (nI yy)]) dX5_wall_134 (c_X1_number hG (nI (lx + k)) (nI yy)) cv_X5_62 hG.1 rfl ⟨Nat.le_of_ble_eq_true rfl, Nat.le_of_ble_eq_true rfl⟩ rfl (Nat.le_of_ble_eq_true rfl) ?_
      rw [gr_numI hW hH (show lx + k < W by omega) hyy]
      refine ms_run (pc' := 139) (lv' := [(0, .ref x), (5, .int bb9), (6, .int (nI lx)), (7, .int (nI rx)), (9, .int (nI by9)), (10, .int (nI yy)), (11, .int (nI (lx + k)))]) (st' := [.int bb9, .int (nI (yy * W + (lx + k))), .ref q]) _ (ms_deC dX5_wall_137 ms_deN) rfl rfl ?_
      refine ms_callV0 (As := [.int (nI (yy * W + (lx + k))), .int bb9]) dX5_wall_139 (c_X3_build hG hQ (by omega) (nI (yy * W + (lx + k))) bb9) cv_X5_88 hQ.1 rfl ⟨Nat.le_of_ble_eq_true rfl, Nat.le_of_ble_eq_true rfl⟩ rfl (Nat.le_of_ble_eq_true rfl) (fun v9 n9 K_bd hp9 => ?_)
      have hlf : yy * W + (lx + k) < W * H := fd_lt (by omega) hyy
      obtain ⟨hv9, rfl, ⟨qt9, hQ_bd⟩, hF_bd⟩ := hp9
      cases hv9
      rw [if_pos (gr_hasI rfl hlf (fd_196 hW hH)), nI_clamp (n := yy * W + (lx + k)) (by have := fd_196 hW hH; omega)] at hQ_bd
      have hG_1 : gr_at K_bd g (nI (W * H)) (nI W) (nI H) nr := gr_at.fr hG hF_bd (by omega)
      have hF_2 : ms_fr q 5 G0 K_bd := ms_fr.trans hF (ms_fr.mono hF_bd (by omega) (by omega))
      have hf_3 := (hF_bd x (by omega)).trans hX
      refine ms_run (pc' := 145) (lv' := [(11, .int ((nI (lx + k)) + 1)), (0, .ref x), (5, .int bb9), (6, .int (nI lx)), (7, .int (nI rx)), (9, .int (nI by9)), (10, .int (nI yy))]) (st' := []) _ (ms_deC dX5_wall_142 ms_deN) rfl rfl ?_
      refine ms_goto (tgt := 115) dX5_wall_145 (by decide) ?_
      rw [nI_1]
      refine ms_W.sub (lv2 := [(0, _), (5, _), (6, _), (7, _), (9, _), (10, _), (11, _)]) ?_ [1, 2, 3, 4, 5, 6, 0] rfl
      rw [Nat.add_assoc lx k 1]
      exact ih (k + 1) (by omega) _ _ hf_3 hG_1 hQ_bd hF_2 kk
set_option maxHeartbeats 4000000 in
set_option maxRecDepth 20000 in
theorem l1_X5_wall {n x g q c j q2 c2 W H : Nat} {G0 : ms_H} {nr mk ds : Nat → Int32} {P : ms_P} (ho : ox x g q c j q2 c2) (hW : W ≤ 14) (hH : H ≤ 14) {bb9 : Int32} {lx rx by9 : Nat} (hrx : rx < W) (hby : by9 < H) (hlr : lx ≤ rx) {wl : Nat → Int32} {ty : Nat} (htb : ty ≤ by9) (hP : ∀ (G : ms_H) (qu : Nat → Int32), sq_at G g q (wq W (if bb9 = 0 then 0 else 1) lx (rx + 1 - lx) ty wl (by9 + 1 - ty)) mk (dXa (W * H) nr (wq W (if bb9 = 0 then 0 else 1) lx (rx + 1 - lx) ty wl (by9 + 1 - ty)) mk ds 4) qu → ms_fr q 5 G0 G → P (.inl (some (.int (nI (ct (pWall (wq W (if bb9 = 0 then 0 else 1) lx (rx + 1 - lx) ty wl (by9 + 1 - ty))) (W * H)))))) n G) : ∀ (r k : Nat), k + r = by9 + 1 - ty → ∀ (G : ms_H) (qu : Nat → Int32), G x = some (.inr (5, [.ref g, .ref q, .ref c, .ref j, .ref q2, .ref c2])) → gr_at G g (nI (W * H)) (nI W) (nI H) nr → sq_at G g q (wq W (if bb9 = 0 then 0 else 1) lx (rx + 1 - lx) ty wl k) mk ds qu → ms_fr q 5 G0 G → ms_W true m_X5_wall (P) 104 [(0, .ref x), (5, .int bb9), (6, .int (nI lx)), (7, .int (nI rx)), (9, .int (nI by9)), (10, .int (nI (ty + k)))] [] n G 1 6 := by
  obtain ⟨o1, o2, o3, o4, o5, o6⟩ := ho
  intro r
  induction r with
  | zero =>
    intro k hk G qu hX hG hQ hF
    have hkN : k = by9 + 1 - ty := by omega
    refine ms_run (pc' := 108) (lv' := [(0, .ref x), (5, .int bb9), (6, .int (nI lx)), (7, .int (nI rx)), (9, .int (nI by9)), (10, .int (nI (ty + k)))]) (st' := [.int (nI by9), .int (nI (ty + k))]) _ (ms_deC dX5_wall_104 (ms_deC dX5_wall_106 ms_deN)) rfl rfl ?_
    refine ms_icmp_gt (tgt := 154) dX5_wall_108 (by decide) (fun h_108 => ?_) (fun h_108 => ?_)
    · skip
      rw [hkN] at hQ
      refine ms_run (pc' := 155) (lv' := [(0, .ref x), (5, .int bb9), (6, .int (nI lx)), (7, .int (nI rx)), (9, .int (nI by9)), (10, .int (nI (ty + k)))]) (st' := [.ref x]) _ (ms_deC dX5_wall_154 ms_deN) rfl rfl ?_
      refine ms_getf dX5_wall_155 fg_X5_21 hX rfl ?_
      refine ms_callV0 (As := []) dX5_wall_158 (c_X3_measureAll (by omega) rfl (fd_196 hW hH) hG hQ) cv_X5_92 hQ.1 rfl ⟨Nat.le_of_ble_eq_true rfl, Nat.le_of_ble_eq_true rfl⟩ rfl (Nat.le_of_ble_eq_true rfl) (fun v9 n9 K_me hp9 => ?_)
      obtain ⟨hv9, rfl, ⟨qm9, hQ_me⟩, hF_me⟩ := hp9
      cases hv9
      have hG_1 : gr_at K_me g (nI (W * H)) (nI W) (nI H) nr := gr_at.fr hG hF_me (by omega)
      have hF_2 : ms_fr q 5 G0 K_me := ms_fr.trans hF (ms_fr.mono hF_me (by omega) (by omega))
      have hf_3 := (hF_me x (by omega)).trans hX
      refine ms_run (pc' := 162) (lv' := [(0, .ref x), (5, .int bb9), (6, .int (nI lx)), (7, .int (nI rx)), (9, .int (nI by9)), (10, .int (nI (ty + k)))]) (st' := [.ref x]) _ (ms_deC dX5_wall_161 ms_deN) rfl rfl ?_
      refine ms_getf dX5_wall_162 fg_X5_21 hf_3 rfl ?_
      refine ms_callVp (As := []) dX5_wall_165 (c_X3_countWalls hG_1 hQ_me rfl (fd_196 hW hH)) cv_X5_95 hQ_me.1 rfl ⟨Nat.le_of_ble_eq_true rfl, Nat.le_of_ble_eq_true rfl⟩ rfl (Nat.le_of_ble_eq_true rfl) ?_
      refine ms_reti (st := []) (ty := .int) dX5_wall_168 rfl rfl ?_
      exact hP _ _ hQ_me hF_2
    · skip
      exact absurd (show nI by9 < nI (ty + k) from nI_lt (by omega) (by omega)) h_108
  | succ r ih =>
    intro k hk G qu hX hG hQ hF
    have hlt : k < by9 + 1 - ty := by omega
    refine ms_run (pc' := 108) (lv' := [(0, .ref x), (5, .int bb9), (6, .int (nI lx)), (7, .int (nI rx)), (9, .int (nI by9)), (10, .int (nI (ty + k)))]) (st' := [.int (nI by9), .int (nI (ty + k))]) _ (ms_deC dX5_wall_104 (ms_deC dX5_wall_106 ms_deN)) rfl rfl ?_
    refine ms_icmp_gt (tgt := 154) dX5_wall_108 (by decide) (fun h_108 => ?_) (fun h_108 => ?_)
    · skip
      exact absurd h_108 (show ¬ nI by9 < nI (ty + k) from nI_nlt (by omega) (by omega))
    · skip
      refine ms_run (pc' := 115) (lv' := [(11, .int (nI lx)), (0, .ref x), (5, .int bb9), (6, .int (nI lx)), (7, .int (nI rx)), (9, .int (nI by9)), (10, .int (nI (ty + k)))]) (st' := []) _ (ms_deC dX5_wall_111 (ms_deC dX5_wall_113 ms_deN)) rfl rfl ?_
      refine ms_W.sub (lv2 := [(0, _), (5, _), (6, _), (7, _), (9, _), (10, _), (11, _)]) ?_ [1, 2, 3, 4, 5, 6, 0] rfl
      refine l2_X5_wall ⟨o1, o2, o3, o4, o5, o6⟩ hW hH hrx hby hlr (by omega) (rx + 1 - lx) 0 (by omega) G qu hX hG hQ hF ?_
      intro G qu hX hG hQ hF
      refine ms_run (pc' := 151) (lv' := [(10, .int ((nI (ty + k)) + 1)), (0, .ref x), (5, .int bb9), (6, .int (nI lx)), (7, .int (nI rx)), (9, .int (nI by9))]) (st' := []) _ (ms_deC dX5_wall_148 ms_deN) rfl rfl ?_
      refine ms_goto (tgt := 104) dX5_wall_151 (by decide) ?_
      rw [nI_1]
      refine ms_W.sub (lv2 := [(0, _), (5, _), (6, _), (7, _), (9, _), (10, _)]) ?_ [1, 2, 3, 4, 5, 0] rfl
      rw [Nat.add_assoc ty k 1]
      exact ih (k + 1) (by omega) G qu hX hG hQ hF
set_option maxHeartbeats 4000000 in
set_option maxRecDepth 20000 in
theorem c_X5_wall {n x g q c j q2 c2 W H : Nat} {G : ms_H} {nr wl mk ds : Nat → Int32} {cnt : Nat} {dr pa : Int32} {X : cX} (ho : ox x g q c j q2 c2) (hS : xs_at G x g q c j q2 c2 W H nr wl mk ds cnt dr pa X) (hW : W ≤ 14) (hH : H ≤ 14) (a b a2 b2 bb9 : Int32) : ms_X m_X5_wall [.ref x, .int a, .int b, .int a2, .int b2, .int bb9] n G 1 6 (xq_P n G (th_wal W H X bb9 a b a2 b2) (.int (nI (ct (pWall (wlX W bb9 a.toNatClampNeg b.toNatClampNeg a2.toNatClampNeg b2.toNatClampNeg wl)) (W * H)))) (fun G1 => xs_at G1 x g q c j q2 c2 W H nr (wlX W bb9 a.toNatClampNeg b.toNatClampNeg a2.toNatClampNeg b2.toNatClampNeg wl) mk (dXa (W * H) nr (wlX W bb9 a.toNatClampNeg b.toNatClampNeg a2.toNatClampNeg b2.toNatClampNeg wl) mk ds 4) cnt dr pa X ∧ ms_fr x (c2 + 29 - x) G G1)) := by
  refine ms_X.of (by decide) (Nat.le_of_ble_eq_true rfl) ?_
  show ms_W true m_X5_wall _ 0 [(0, .ref x), (1, .int a), (2, .int b), (3, .int a2), (4, .int b2), (5, .int bb9)] [] n G 1 6
  obtain ⟨hX, hG, ⟨qu, hQ⟩, ⟨hd, cm, wk, hC, hx, hd1, hd2_, hd3, ha⟩, ⟨cn, wi, jo, sz, quj, hJ⟩, ⟨wl2, mk2, ds2, qu2, hQt⟩, ⟨hd2, on2, ht2, cm2, wk2, hCt⟩⟩ := hS
  obtain ⟨o1, o2, o3, o4, o5, o6⟩ := ho
  have hF : ms_fr x (c2 + 29 - x) G G := ms_fr.rf
  refine ms_run (pc' := 1) (lv' := [(0, .ref x), (1, .int a), (2, .int b), (3, .int a2), (4, .int b2), (5, .int bb9)]) (st' := [.ref x]) _ (ms_deC dX5_wall_0 ms_deN) rfl rfl ?_
  refine ms_getf dX5_wall_1 fg_X5_10 hX rfl ?_
  refine ms_run (pc' := 6) (lv' := [(0, .ref x), (1, .int a), (2, .int b), (3, .int a2), (4, .int b2), (5, .int bb9)]) (st' := [.int b, .int a, .ref g]) _ (ms_deC dX5_wall_4 (ms_deC dX5_wall_5 ms_deN)) rfl rfl ?_
  refine ms_callVp (As := [.int a, .int b]) dX5_wall_6 (c_X1_number hG a b) cv_X5_62 hG.1 rfl ⟨Nat.le_of_ble_eq_true rfl, Nat.le_of_ble_eq_true rfl⟩ rfl (Nat.le_of_ble_eq_true rfl) ?_
  refine ms_run (pc' := 10) (lv' := [(0, .ref x), (1, .int a), (2, .int b), (3, .int a2), (4, .int b2), (5, .int bb9)]) (st' := [.int (-1), .int (gr_num (nI W) (nI H) a b)]) _ (ms_deC dX5_wall_9 ms_deN) rfl rfl ?_
  refine ms_icmp_eq (tgt := 27) dX5_wall_10 (by decide) (fun h_10 => ?_) (fun h_10 => ?_)
  · skip
    refine ms_throw dX5_wall_27 dX5_wall_30 dX5_wall_31 dX5_wall_33 dX5_wall_36 th_X5_66_68_70 ⟨Nat.le_of_ble_eq_true rfl, Nat.le_of_ble_eq_true rfl⟩ (Nat.le_of_ble_eq_true rfl) (by omega) (by omega) (fun n1 hn1 => ?_)
    exact xq_P.thr hn1 (if_pos (by first | exact Or.inl (by assumption) | exact Or.inr (by assumption) | exact Or.inl (Decidable.not_not.mp (by assumption)) | exact Or.inr (Decidable.not_not.mp (by assumption))))
  · skip
    refine ms_run (pc' := 14) (lv' := [(0, .ref x), (1, .int a), (2, .int b), (3, .int a2), (4, .int b2), (5, .int bb9)]) (st' := [.ref x]) _ (ms_deC dX5_wall_13 ms_deN) rfl rfl ?_
    refine ms_getf dX5_wall_14 fg_X5_10 hX rfl ?_
    refine ms_run (pc' := 20) (lv' := [(0, .ref x), (1, .int a), (2, .int b), (3, .int a2), (4, .int b2), (5, .int bb9)]) (st' := [.int b2, .int a2, .ref g]) _ (ms_deC dX5_wall_17 (ms_deC dX5_wall_18 ms_deN)) rfl rfl ?_
    refine ms_callVp (As := [.int a2, .int b2]) dX5_wall_20 (c_X1_number hG a2 b2) cv_X5_62 hG.1 rfl ⟨Nat.le_of_ble_eq_true rfl, Nat.le_of_ble_eq_true rfl⟩ rfl (Nat.le_of_ble_eq_true rfl) ?_
    refine ms_run (pc' := 24) (lv' := [(0, .ref x), (1, .int a), (2, .int b), (3, .int a2), (4, .int b2), (5, .int bb9)]) (st' := [.int (-1), .int (gr_num (nI W) (nI H) a2 b2)]) _ (ms_deC dX5_wall_23 ms_deN) rfl rfl ?_
    refine ms_icmp_ne (tgt := 37) dX5_wall_24 (by decide) (fun h_24 => ?_) (fun h_24 => ?_)
    · skip
      obtain ⟨ax, ay, hax, hay, hae, hbe, hfe⟩ := gr_num_has hW hH h_10
      obtain ⟨bx, by1, hbx, hby1, hae2, hbe2, hfe2⟩ := gr_num_has hW hH h_24
      subst hae
      subst hbe
      subst hae2
      subst hbe2
      refine ms_run (pc' := 39) (lv' := [(0, .ref x), (1, .int (nI ax)), (2, .int (nI ay)), (3, .int (nI bx)), (4, .int (nI by1)), (5, .int bb9)]) (st' := [.int (nI bx), .int (nI ax)]) _ (ms_deC dX5_wall_37 (ms_deC dX5_wall_38 ms_deN)) rfl rfl ?_
      refine ms_min dX5_wall_39 mm_X5_71 ⟨Nat.le_of_ble_eq_true rfl, Nat.le_of_ble_eq_true rfl⟩ (Nat.le_of_ble_eq_true rfl) ?_
      rw [mn_I (a := ax) (b := bx) (by omega) (by omega)]
      refine ms_run (pc' := 46) (lv' := [(6, .int (nI (min ax bx))), (0, .ref x), (1, .int (nI ax)), (2, .int (nI ay)), (3, .int (nI bx)), (4, .int (nI by1)), (5, .int bb9)]) (st' := [.int (nI bx), .int (nI ax)]) _ (ms_deC dX5_wall_42 (ms_deC dX5_wall_44 (ms_deC dX5_wall_45 ms_deN))) rfl rfl ?_
      refine ms_max dX5_wall_46 mm_X5_76 ⟨Nat.le_of_ble_eq_true rfl, Nat.le_of_ble_eq_true rfl⟩ (Nat.le_of_ble_eq_true rfl) ?_
      rw [mx_I (a := ax) (b := bx) (by omega) (by omega)]
      refine ms_run (pc' := 54) (lv' := [(7, .int (nI (max ax bx))), (6, .int (nI (min ax bx))), (0, .ref x), (1, .int (nI ax)), (2, .int (nI ay)), (3, .int (nI bx)), (4, .int (nI by1)), (5, .int bb9)]) (st' := [.int (nI by1), .int (nI ay)]) _ (ms_deC dX5_wall_49 (ms_deC dX5_wall_51 (ms_deC dX5_wall_52 ms_deN))) rfl rfl ?_
      refine ms_min dX5_wall_54 mm_X5_71 ⟨Nat.le_of_ble_eq_true rfl, Nat.le_of_ble_eq_true rfl⟩ (Nat.le_of_ble_eq_true rfl) ?_
      rw [mn_I (a := ay) (b := by1) (by omega) (by omega)]
      refine ms_run (pc' := 62) (lv' := [(8, .int (nI (min ay by1))), (7, .int (nI (max ax bx))), (6, .int (nI (min ax bx))), (0, .ref x), (1, .int (nI ax)), (2, .int (nI ay)), (3, .int (nI bx)), (4, .int (nI by1)), (5, .int bb9)]) (st' := [.int (nI by1), .int (nI ay)]) _ (ms_deC dX5_wall_57 (ms_deC dX5_wall_59 (ms_deC dX5_wall_60 ms_deN))) rfl rfl ?_
      refine ms_max dX5_wall_62 mm_X5_76 ⟨Nat.le_of_ble_eq_true rfl, Nat.le_of_ble_eq_true rfl⟩ (Nat.le_of_ble_eq_true rfl) ?_
      rw [mx_I (a := ay) (b := by1) (by omega) (by omega)]
      refine ms_run (pc' := 69) (lv' := [(9, .int (nI (max ay by1))), (8, .int (nI (min ay by1))), (7, .int (nI (max ax bx))), (6, .int (nI (min ax bx))), (0, .ref x), (1, .int (nI ax)), (2, .int (nI ay)), (3, .int (nI bx)), (4, .int (nI by1)), (5, .int bb9)]) (st' := [.int bb9]) _ (ms_deC dX5_wall_65 (ms_deC dX5_wall_67 ms_deN)) rfl rfl ?_
      refine ms_if_eq (tgt := 100) dX5_wall_69 (by decide) (fun h_69 => ?_) (fun h_69 => ?_)
      · skip
        refine ms_run (pc' := 104) (lv' := [(10, .int (nI (min ay by1))), (9, .int (nI (max ay by1))), (8, .int (nI (min ay by1))), (7, .int (nI (max ax bx))), (6, .int (nI (min ax bx))), (0, .ref x), (1, .int (nI ax)), (2, .int (nI ay)), (3, .int (nI bx)), (4, .int (nI by1)), (5, .int bb9)]) (st' := []) _ (ms_deC dX5_wall_100 (ms_deC dX5_wall_102 ms_deN)) rfl rfl ?_
        have hth : th_wal W H X bb9 (nI ax) (nI ay) (nI bx) (nI by1) = none := by unfold th_wal; rw [if_neg (by rintro (z | z); exact h_10 z; exact h_24 z), if_neg (by simp only [nI_clamp (show ax < 2147483648 by omega), nI_clamp (show ay < 2147483648 by omega), nI_clamp (show bx < 2147483648 by omega), nI_clamp (show by1 < 2147483648 by omega)]; rintro ⟨z1, z2⟩; first | exact z1 h_69 | exact han z2)]
        rw [hth]
        simp only [nI_clamp (show ax < 2147483648 by omega), nI_clamp (show ay < 2147483648 by omega), nI_clamp (show bx < 2147483648 by omega), nI_clamp (show by1 < 2147483648 by omega)]
        refine ms_W.sub (lv2 := [(0, _), (5, _), (6, _), (7, _), (9, _), (10, _)]) ?_ [5, 10, 4, 3, 1, 0] rfl
        refine l1_X5_wall ⟨o1, o2, o3, o4, o5, o6⟩ hW hH (lx := min ax bx) (rx := max ax bx) (ty := min ay by1) (by9 := max ay by1) (wl := wl) (by omega) (by omega) (by omega) (by omega) (fun G9 q9 k1 k2 => ?_) (max ay by1 + 1 - min ay by1) 0 (by omega) G qu hX hG hQ ms_fr.rf
        have hF9 : ms_fr x (c2 + 29 - x) G G9 := ms_fr.mono k2 (by omega) (by omega)
        exact xq_P.ret rfl rfl ⟨⟨(k2 x (by omega)).trans hX, gr_at.fr hG k2 (by omega), ⟨_, k1⟩, ⟨hd, cm, wk, cr_at.fr hC k2 (by omega), hx, hd1, hd2_, hd3, ha⟩, ⟨_, _, _, _, _, jm_at.fr hJ k2 (by omega)⟩, ⟨_, _, _, _, sq_at.fr hQt k2 (by omega)⟩, ⟨_, _, _, _, _, cr_at.fr hCt k2 (by omega)⟩⟩, hF9⟩
      · skip
        refine ms_run (pc' := 73) (lv' := [(9, .int (nI (max ay by1))), (8, .int (nI (min ay by1))), (7, .int (nI (max ax bx))), (6, .int (nI (min ax bx))), (0, .ref x), (1, .int (nI ax)), (2, .int (nI ay)), (3, .int (nI bx)), (4, .int (nI by1)), (5, .int bb9)]) (st' := [.ref x]) _ (ms_deC dX5_wall_72 ms_deN) rfl rfl ?_
        refine ms_getf dX5_wall_73 fg_X5_30 hX rfl ?_
        refine ms_run (pc' := 84) (lv' := [(9, .int (nI (max ay by1))), (8, .int (nI (min ay by1))), (7, .int (nI (max ax bx))), (6, .int (nI (min ax bx))), (0, .ref x), (1, .int (nI ax)), (2, .int (nI ay)), (3, .int (nI bx)), (4, .int (nI by1)), (5, .int bb9)]) (st' := [.int (nI (max ay by1)), .int (nI (max ax bx)), .int (nI (min ay by1)), .int (nI (min ax bx)), .ref c]) _ (ms_deC dX5_wall_76 (ms_deC dX5_wall_78 (ms_deC dX5_wall_80 (ms_deC dX5_wall_82 ms_deN)))) rfl rfl ?_
        refine ms_callVp (As := [.int (nI (min ax bx)), .int (nI (min ay by1)), .int (nI (max ax bx)), .int (nI (max ay by1))]) dX5_wall_84 (c_X0_isAnyoneIn hG hC (lx := min ax bx) (rx := max ax bx) (ty := min ay by1) (by9 := max ay by1) (by omega) (by omega) (by omega) (by omega)) cv_X5_79 hC.1 rfl ⟨Nat.le_of_ble_eq_true rfl, Nat.le_of_ble_eq_true rfl⟩ rfl (Nat.le_of_ble_eq_true rfl) ?_
        rw [show (anF (fun yy => anF (fun x => pAny X.2.2.1 (nI W) (nI H) x yy) (min ax bx) (max ax bx + 1 - min ax bx)) (min ay by1) (max ay by1 + 1 - min ay by1)) = wanF W H X ax ay bx by1 from rfl]
        by_cases han : wanF W H X ax ay bx by1 = true
        · rw [if_pos han]
          refine ms_if_eq (tgt := 100) dX5_wall_87 (by decide) (fun h9 => absurd h9 (by decide)) (fun _ => ?_)
          refine ms_throw dX5_wall_90 dX5_wall_93 dX5_wall_94 dX5_wall_96 dX5_wall_99 th_X5_83_85_87 ⟨Nat.le_of_ble_eq_true rfl, Nat.le_of_ble_eq_true rfl⟩ (Nat.le_of_ble_eq_true rfl) (by omega) (by omega) (fun n1 hn1 => ?_)
          exact xq_P.thr hn1 (by unfold th_wal; rw [if_neg (by rintro (z | z); exact h_10 z; exact h_24 z), if_pos (by simp only [nI_clamp (show ax < 2147483648 by omega), nI_clamp (show ay < 2147483648 by omega), nI_clamp (show bx < 2147483648 by omega), nI_clamp (show by1 < 2147483648 by omega)]; exact ⟨h_69, han⟩)])
        · rw [if_neg han]
          refine ms_if_eq (tgt := 100) dX5_wall_87 (by decide) (fun _ => ?_) (fun h9 => absurd h9 (by decide))
          refine ms_run (pc' := 104) (lv' := [(10, .int (nI (min ay by1))), (9, .int (nI (max ay by1))), (8, .int (nI (min ay by1))), (7, .int (nI (max ax bx))), (6, .int (nI (min ax bx))), (0, .ref x), (1, .int (nI ax)), (2, .int (nI ay)), (3, .int (nI bx)), (4, .int (nI by1)), (5, .int bb9)]) (st' := []) _ (ms_deC dX5_wall_100 (ms_deC dX5_wall_102 ms_deN)) rfl rfl ?_
          have hth : th_wal W H X bb9 (nI ax) (nI ay) (nI bx) (nI by1) = none := by unfold th_wal; rw [if_neg (by rintro (z | z); exact h_10 z; exact h_24 z), if_neg (by simp only [nI_clamp (show ax < 2147483648 by omega), nI_clamp (show ay < 2147483648 by omega), nI_clamp (show bx < 2147483648 by omega), nI_clamp (show by1 < 2147483648 by omega)]; rintro ⟨z1, z2⟩; first | exact z1 h_69 | exact han z2)]
          rw [hth]
          simp only [nI_clamp (show ax < 2147483648 by omega), nI_clamp (show ay < 2147483648 by omega), nI_clamp (show bx < 2147483648 by omega), nI_clamp (show by1 < 2147483648 by omega)]
          refine ms_W.sub (lv2 := [(0, _), (5, _), (6, _), (7, _), (9, _), (10, _)]) ?_ [5, 10, 4, 3, 1, 0] rfl
          refine l1_X5_wall ⟨o1, o2, o3, o4, o5, o6⟩ hW hH (lx := min ax bx) (rx := max ax bx) (ty := min ay by1) (by9 := max ay by1) (wl := wl) (by omega) (by omega) (by omega) (by omega) (fun G9 q9 k1 k2 => ?_) (max ay by1 + 1 - min ay by1) 0 (by omega) G qu hX hG hQ ms_fr.rf
          have hF9 : ms_fr x (c2 + 29 - x) G G9 := ms_fr.mono k2 (by omega) (by omega)
          exact xq_P.ret rfl rfl ⟨⟨(k2 x (by omega)).trans hX, gr_at.fr hG k2 (by omega), ⟨_, k1⟩, ⟨hd, cm, wk, cr_at.fr hC k2 (by omega), hx, hd1, hd2_, hd3, ha⟩, ⟨_, _, _, _, _, jm_at.fr hJ k2 (by omega)⟩, ⟨_, _, _, _, sq_at.fr hQt k2 (by omega)⟩, ⟨_, _, _, _, _, cr_at.fr hCt k2 (by omega)⟩⟩, hF9⟩
    · skip
      refine ms_throw dX5_wall_27 dX5_wall_30 dX5_wall_31 dX5_wall_33 dX5_wall_36 th_X5_66_68_70 ⟨Nat.le_of_ble_eq_true rfl, Nat.le_of_ble_eq_true rfl⟩ (Nat.le_of_ble_eq_true rfl) (by omega) (by omega) (fun n1 hn1 => ?_)
      exact xq_P.thr hn1 (if_pos (by first | exact Or.inl (by assumption) | exact Or.inr (by assumption) | exact Or.inl (Decidable.not_not.mp (by assumption)) | exact Or.inr (Decidable.not_not.mp (by assumption))))

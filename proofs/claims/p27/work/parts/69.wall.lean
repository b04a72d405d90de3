/-! Flock: wall -/
theorem imin_n {a b : Nat} (ha : a < 1000) (hb : b < 1000) : (if nI b < nI a then nI b else nI a) = nI (min a b) := by
  by_cases h : b < a
  · rw [if_pos (nI_lt h (by omega)), Nat.min_eq_right (by omega)]
  · rw [if_neg (nI_nlt (by omega) (by omega)), Nat.min_eq_left (by omega)]
theorem imax_n {a b : Nat} (ha : a < 1000) (hb : b < 1000) : (if nI a < nI b then nI b else nI a) = nI (max a b) := by
  by_cases h : a < b
  · rw [if_pos (nI_lt h (by omega)), Nat.max_eq_right (by omega)]
  · rw [if_neg (nI_nlt (by omega) (by omega)), Nat.max_eq_left (by omega)]
/-- the rectangle, as far as it is through -/
def vis (lx ly hy i k p q : Nat) : Prop := (lx ≤ p ∧ p < lx + i ∧ ly ≤ q ∧ q ≤ hy) ∨ (p = lx + i ∧ ly ≤ q ∧ q < ly + k)
def mwP (pr bad : Nat → Nat → Prop) (mv : Int32) : Prop := (mv = 1 ∧ ∀ p q, pr p q → ¬ bad p q) ∨ (mv = 0 ∧ ∃ p q, pr p q ∧ bad p q)
theorem mwP.s1 {lx ly hy i k : Nat} {bad : Nat → Nat → Prop} {mv : Int32} (h : mwP (vis lx ly hy i k) bad mv) (hb : ¬ bad (lx + i) (ly + k)) : mwP (vis lx ly hy i (k + 1)) bad (mv &&& 1) := by
  rcases h with ⟨e, h1⟩ | ⟨e, p, q, h1, h2⟩ <;> subst e
  · refine Or.inl ⟨by decide, fun p q h2 => ?_⟩
    rcases h2 with h2 | ⟨h2, h3, h4⟩
    · exact h1 p q (Or.inl h2)
    · by_cases e : q = ly + k
      · rw [e, h2]; exact hb
      · exact h1 p q (Or.inr ⟨h2, h3, by omega⟩)
  · refine Or.inr ⟨by decide, p, q, ?_, h2⟩
    rcases h1 with h1 | ⟨h3, h4, h5⟩
    · exact Or.inl h1
    · exact Or.inr ⟨h3, h4, by omega⟩
theorem mwP.s0 {lx ly hy i k : Nat} {bad : Nat → Nat → Prop} {mv : Int32} (h : mwP (vis lx ly hy i k) bad mv) (hb : bad (lx + i) (ly + k)) : mwP (vis lx ly hy i (k + 1)) bad (mv &&& 0) := by
  rcases h with ⟨e, -⟩ | ⟨e, -⟩ <;> subst e <;> exact Or.inr ⟨by decide, _, _, Or.inr ⟨rfl, by omega, by omega⟩, hb⟩
theorem mwP.row {lx ly hy i : Nat} {bad : Nat → Nat → Prop} {mv : Int32} (hl : ly ≤ hy) (h : mwP (vis lx ly hy i (hy + 1 - ly)) bad mv) : mwP (vis lx ly hy (i + 1) 0) bad mv := by
  have e : ∀ p q, vis lx ly hy i (hy + 1 - ly) p q ↔ vis lx ly hy (i + 1) 0 p q := fun p q => by
    unfold vis
    constructor
    · rintro (⟨a, b, c, d⟩ | ⟨a, b, c⟩)
      · exact Or.inl ⟨a, by omega, c, d⟩
      · exact Or.inl ⟨by omega, by omega, b, by omega⟩
    · rintro (⟨a, b, c, d⟩ | ⟨a, b, c⟩)
      · by_cases h : p = lx + i
        · exact Or.inr ⟨h, c, by omega⟩
        · exact Or.inl ⟨a, by omega, c, d⟩
      · omega
  rcases h with ⟨e1, h1⟩ | ⟨e1, p, q, h1, h2⟩
  · exact Or.inl ⟨e1, fun p q h2 => h1 p q ((e p q).mpr h2)⟩
  · exact Or.inr ⟨e1, p, q, (e p q).mp h1, h2⟩
/-- walls laid so far -/
def fvv (fv : Nat → Nat → Int32) (W lx ly hy i k : Nat) (bv : Int32) : Nat → Nat → Int32 := fun f c => if c = 0 ∧ ((lx ≤ f % W ∧ f % W < lx + i ∧ ly ≤ f / W ∧ f / W ≤ hy) ∨ (f % W = lx + i ∧ ly ≤ f / W ∧ f / W < ly + k)) then bv else fv f c
theorem fvv_put {fv : Nat → Nat → Int32} {W lx ly hy i k : Nat} {bv : Int32} (hi : lx + i < W) : va_up (fvv fv W lx ly hy i k bv) ((ly + k) * W + (lx + i)) (upd (fvv fv W lx ly hy i k bv ((ly + k) * W + (lx + i))) 0 bv) = fvv fv W lx ly hy i (k + 1) bv := by
  have hm := fd_mod (y := ly + k) hi
  funext f c
  unfold va_up
  by_cases e : f = (ly + k) * W + (lx + i)
  · subst e
    rw [if_pos rfl]
    unfold upd fvv
    rw [hm.1, hm.2]
    by_cases ec : c = 0
    · rw [if_pos ec, if_pos ⟨ec, Or.inr ⟨rfl, by omega, by omega⟩⟩]
    · rw [if_neg ec, if_neg (fun z => ec z.1), if_neg (fun z => ec z.1)]
  · rw [if_neg e]
    unfold fvv
    refine ite_congr (propext ⟨fun z => ⟨z.1, ?_⟩, fun z => ⟨z.1, ?_⟩⟩) (fun _ => rfl) (fun _ => rfl)
    · rcases z.2 with h | ⟨h1, h2, h3⟩
      · exact Or.inl h
      · exact Or.inr ⟨h1, h2, by omega⟩
    · rcases z.2 with h | ⟨h1, h2, h3⟩
      · exact Or.inl h
      · refine Or.inr ⟨h1, h2, ?_⟩
        rcases Nat.lt_succ_iff_lt_or_eq.mp (show f / W < ly + k + 1 from h3) with h4 | h4
        · exact h4
        · exfalso
          have := Nat.div_add_mod f W
          rw [h1, h4, Nat.mul_comm] at this
          exact e this.symm
theorem fvv_row {fv : Nat → Nat → Int32} {W lx ly hy i : Nat} {bv : Int32} (hl : ly ≤ hy) : fvv fv W lx ly hy i (hy + 1 - ly) bv = fvv fv W lx ly hy (i + 1) 0 bv := by
  funext f c
  unfold fvv
  generalize f % W = p
  generalize f / W = q
  refine ite_congr (propext ⟨fun z => ⟨z.1, ?_⟩, fun z => ⟨z.1, ?_⟩⟩) (fun _ => rfl) (fun _ => rfl)
  · rcases z.2 with ⟨a, b, c, d⟩ | ⟨a, b, c⟩
    · exact Or.inl ⟨a, by omega, c, d⟩
    · exact Or.inl ⟨by omega, by omega, b, by omega⟩
  · rcases z.2 with ⟨a, b, c, d⟩ | ⟨a, b, c⟩
    · by_cases h : p = lx + i
      · exact Or.inr ⟨h, c, by omega⟩
      · exact Or.inl ⟨a, by omega, c, d⟩
    · omega
theorem fvv_00 {fv : Nat → Nat → Int32} {W lx ly hy : Nat} {bv : Int32} : fvv fv W lx ly hy 0 0 bv = fv := by
  funext f c
  unfold fvv
  generalize f % W = p
  generalize f / W = q
  exact if_neg (fun z => by rcases z.2 with ⟨a, b, c, d⟩ | ⟨a, b, c⟩ <;> omega)
theorem th_wal_i {W H a b a2 b2 : Nat} {X : cX} {bv : Int32} (hW : W ≤ 14) (hH : H ≤ 14) (ha : a < W) (hb : b < H) (ha2 : a2 < W) (hb2 : b2 < H) : th_wal W H X bv (nI a) (nI b) (nI a2) (nI b2) = if ¬ bv = 0 ∧ wanF W H X a b a2 b2 = true then some ISE else none := by
  have h9 : W * H ≤ 196 := Nat.mul_le_mul hW hH
  have hf := fij ha hb
  have hf2 := fij ha2 hb2
  unfold th_wal
  rw [gr_num_n hW hH ha hb, gr_num_n hW hH ha2 hb2, if_neg (fun z => by rcases z with z | z <;> exact nI_m1 (by omega) z), nI_clamp (by omega), nI_clamp (by omega), nI_clamp (by omega), nI_clamp (by omega)]
set_option maxHeartbeats 1000000 in
set_option maxRecDepth 20000 in
theorem l2_X6_wall {n o x sb fa wa W H cnt : Nat} {G : ms_H} {dw cl dr pa : Int32} {wr : Nat → Nat} {fv u : Nat → Nat → Int32} (hM : fk_at G o x sb dw W H cl dr pa fa wa cnt wr fv u) (hW : W ≤ 14) (hH : H ≤ 14) (hc : cnt ≤ 24) {L : Nat} {xs : Nat → Int32} {P : ms_P} {kr zr : Nat} {on : Nat → Int32} (hon : onV (W * H) cnt u on) (hv : hvX (nI (W * H)) cnt u) {a b a2 b2 : Nat} (ha : a < W) (hb : b < H) (ha2 : a2 < W) (hb2 : b2 < H) {iz : Int32} {i : Nat} (hi : (min a a2) + i ≤ (max a a2)) (kk : ∀ mv : Int32, mwP (vis (min a a2) (min b b2) (max b b2) i ((max b b2) + 1 - (min b b2))) (fun p q => ¬ iz = 0 ∧ ¬ on (q * W + p) = -1) mv → ms_W true (ms_S (sb, L, xs) m_X6_wall) P 147 [(0, .ref o), (1, .int (nI a)), (2, .int (nI b)), (3, .int (nI a2)), (4, .int (nI b2)), (5, .int iz), (6, .int mv), (7, .int (nI ((min a a2) + i)))] [] n G kr zr) : ∀ (r k : Nat), k + r = (max b b2) + 1 - (min b b2) → ∀ mv : Int32, mwP (vis (min a a2) (min b b2) (max b b2) i k) (fun p q => ¬ iz = 0 ∧ ¬ on (q * W + p) = -1) mv → ms_W true (ms_S (sb, L, xs) m_X6_wall) (P) 104 [(0, .ref o), (1, .int (nI a)), (2, .int (nI b)), (3, .int (nI a2)), (4, .int (nI b2)), (5, .int iz), (6, .int mv), (7, .int (nI ((min a a2) + i))), (8, .int (nI ((min b b2) + k)))] [] n G kr zr := by
  intro r
  induction r with
  | zero =>
    intro k hk mv hmv
    have hkN : k = (max b b2) + 1 - (min b b2) := by omega
    refine ms_run (pc' := 109) (lv' := [(0, .ref o), (1, .int (nI a)), (2, .int (nI b)), (3, .int (nI a2)), (4, .int (nI b2)), (5, .int iz), (6, .int mv), (7, .int (nI ((min a a2) + i))), (8, .int (nI ((min b b2) + k)))]) (st' := [.int (nI b2), .int (nI b), .int (nI ((min b b2) + k))]) _ (ms_deC dX6_wall_104 (ms_deC dX6_wall_106 (ms_deC dX6_wall_107 ms_deN))) rfl rfl ?_
    refine ms_max dX6_wall_109 mm_X6_71 ⟨Nat.le_of_ble_eq_true rfl, Nat.le_of_ble_eq_true rfl⟩ (Nat.le_of_ble_eq_true rfl) ?_
    rw [imax_n (by omega) (by omega)]
    refine ms_icmp_gt (tgt := 147) dX6_wall_112 (by decide) (fun h_112 => ?_) (fun h_112 => ?_)
    · skip
      refine ms_W.sub (lv2 := [(0, _), (1, _), (2, _), (3, _), (4, _), (5, _), (6, _), (7, _)]) ?_ [0, 1, 2, 3, 4, 5, 6, 7] rfl
      exact kk mv (by rw [hkN] at hmv; exact hmv)
    · skip
      exact absurd (nI_lt (a := (max b b2)) (b := ((min b b2) + k)) (by omega) (by omega)) h_112
  | succ r ih =>
    intro k hk mv hmv
    have hlt : k < (max b b2) + 1 - (min b b2) := by omega
    refine ms_run (pc' := 109) (lv' := [(0, .ref o), (1, .int (nI a)), (2, .int (nI b)), (3, .int (nI a2)), (4, .int (nI b2)), (5, .int iz), (6, .int mv), (7, .int (nI ((min a a2) + i))), (8, .int (nI ((min b b2) + k)))]) (st' := [.int (nI b2), .int (nI b), .int (nI ((min b b2) + k))]) _ (ms_deC dX6_wall_104 (ms_deC dX6_wall_106 (ms_deC dX6_wall_107 ms_deN))) rfl rfl ?_
    refine ms_max dX6_wall_109 mm_X6_71 ⟨Nat.le_of_ble_eq_true rfl, Nat.le_of_ble_eq_true rfl⟩ (Nat.le_of_ble_eq_true rfl) ?_
    rw [imax_n (by omega) (by omega)]
    refine ms_icmp_gt (tgt := 147) dX6_wall_112 (by decide) (fun h_112 => ?_) (fun h_112 => ?_)
    · skip
      exact absurd h_112 (nI_nlt (a := (max b b2)) (b := ((min b b2) + k)) (by omega) (by omega))
    · skip
      refine ms_run (pc' := 119) (lv' := [(0, .ref o), (1, .int (nI a)), (2, .int (nI b)), (3, .int (nI a2)), (4, .int (nI b2)), (5, .int iz), (6, .int mv), (7, .int (nI ((min a a2) + i))), (8, .int (nI ((min b b2) + k)))]) (st' := [.int iz, .int mv]) _ (ms_deC dX6_wall_115 (ms_deC dX6_wall_117 ms_deN)) rfl rfl ?_
      refine ms_if_eq (tgt := 133) dX6_wall_119 (by decide) (fun h_119 => ?_) (fun h_119 => ?_)
      · skip
        refine ms_run (pc' := 134) (lv' := [(0, .ref o), (1, .int (nI a)), (2, .int (nI b)), (3, .int (nI a2)), (4, .int (nI b2)), (5, .int iz), (6, .int mv), (7, .int (nI ((min a a2) + i))), (8, .int (nI ((min b b2) + k)))]) (st' := [.int 1, .int mv]) _ (ms_deC dX6_wall_133 ms_deN) rfl rfl ?_
        refine ms_goto (tgt := 138) dX6_wall_134 (by decide) ?_
        refine ms_run (pc' := 144) (lv' := [(8, .int ((nI ((min b b2) + k)) + 1)), (6, .int (mv &&& 1)), (0, .ref o), (1, .int (nI a)), (2, .int (nI b)), (3, .int (nI a2)), (4, .int (nI b2)), (5, .int iz), (7, .int (nI ((min a a2) + i)))]) (st' := []) _ (ms_deC dX6_wall_138 (ms_deC dX6_wall_139 (ms_deC dX6_wall_141 ms_deN))) rfl rfl ?_
        refine ms_goto (tgt := 104) dX6_wall_144 (by decide) ?_
        rw [nI_1 ((min b b2) + k)]
        refine ms_W.sub (lv2 := [(0, _), (1, _), (2, _), (3, _), (4, _), (5, _), (6, _), (7, _), (8, _)]) ?_ [2, 3, 4, 5, 6, 7, 1, 8, 0] rfl
        exact ih (k + 1) (by omega) _ (hmv.s1 (fun z => by first | exact z.1 h_119 | exact hc_127 z.2))
      · skip
        refine ms_run (pc' := 127) (lv' := [(0, .ref o), (1, .int (nI a)), (2, .int (nI b)), (3, .int (nI a2)), (4, .int (nI b2)), (5, .int iz), (6, .int mv), (7, .int (nI ((min a a2) + i))), (8, .int (nI ((min b b2) + k)))]) (st' := [.int (nI ((min b b2) + k)), .int (nI ((min a a2) + i)), .ref o, .int mv]) _ (ms_deC dX6_wall_122 (ms_deC dX6_wall_123 (ms_deC dX6_wall_125 ms_deN))) rfl rfl ?_
        refine ms_callVp (As := [.int (nI ((min a a2) + i)), .int (nI ((min b b2) + k))]) dX6_wall_127 (c_X6_isOn hM hW hH hc hon hv (a := (min a a2) + i) (b := (min b b2) + k) (by omega) (by omega)) cv_X6_74 hM.1 rfl ⟨Nat.le_of_ble_eq_true rfl, Nat.le_of_ble_eq_true rfl⟩ rfl (Nat.le_of_ble_eq_true rfl) ?_
        by_cases hc_127 : ¬ on (((min b b2) + k) * W + ((min a a2) + i)) = -1
        · rw [show ms_b (¬ on (((min b b2) + k) * W + ((min a a2) + i)) = -1) = 1 from if_pos hc_127]
          refine ms_if_ne (tgt := 137) dX6_wall_130 (by decide) (fun _ => ?_) (fun h9 => absurd h9 (by decide))
          refine ms_run (pc' := 144) (lv' := [(8, .int ((nI ((min b b2) + k)) + 1)), (6, .int (mv &&& 0)), (0, .ref o), (1, .int (nI a)), (2, .int (nI b)), (3, .int (nI a2)), (4, .int (nI b2)), (5, .int iz), (7, .int (nI ((min a a2) + i)))]) (st' := []) _ (ms_deC dX6_wall_137 (ms_deC dX6_wall_138 (ms_deC dX6_wall_139 (ms_deC dX6_wall_141 ms_deN)))) rfl rfl ?_
          refine ms_goto (tgt := 104) dX6_wall_144 (by decide) ?_
          rw [nI_1 ((min b b2) + k)]
          refine ms_W.sub (lv2 := [(0, _), (1, _), (2, _), (3, _), (4, _), (5, _), (6, _), (7, _), (8, _)]) ?_ [2, 3, 4, 5, 6, 7, 1, 8, 0] rfl
          exact ih (k + 1) (by omega) _ (hmv.s0 ⟨h_119, hc_127⟩)
        · rw [show ms_b (¬ on (((min b b2) + k) * W + ((min a a2) + i)) = -1) = 0 from if_neg hc_127]
          refine ms_if_ne (tgt := 137) dX6_wall_130 (by decide) (fun h9 => absurd h9 (by decide)) (fun _ => ?_)
          refine ms_run (pc' := 134) (lv' := [(0, .ref o), (1, .int (nI a)), (2, .int (nI b)), (3, .int (nI a2)), (4, .int (nI b2)), (5, .int iz), (6, .int mv), (7, .int (nI ((min a a2) + i))), (8, .int (nI ((min b b2) + k)))]) (st' := [.int 1, .int mv]) _ (ms_deC dX6_wall_133 ms_deN) rfl rfl ?_
          refine ms_goto (tgt := 138) dX6_wall_134 (by decide) ?_
          refine ms_run (pc' := 144) (lv' := [(8, .int ((nI ((min b b2) + k)) + 1)), (6, .int (mv &&& 1)), (0, .ref o), (1, .int (nI a)), (2, .int (nI b)), (3, .int (nI a2)), (4, .int (nI b2)), (5, .int iz), (7, .int (nI ((min a a2) + i)))]) (st' := []) _ (ms_deC dX6_wall_138 (ms_deC dX6_wall_139 (ms_deC dX6_wall_141 ms_deN))) rfl rfl ?_
          refine ms_goto (tgt := 104) dX6_wall_144 (by decide) ?_
          rw [nI_1 ((min b b2) + k)]
          refine ms_W.sub (lv2 := [(0, _), (1, _), (2, _), (3, _), (4, _), (5, _), (6, _), (7, _), (8, _)]) ?_ [2, 3, 4, 5, 6, 7, 1, 8, 0] rfl
          exact ih (k + 1) (by omega) _ (hmv.s1 (fun z => by first | exact z.1 h_119 | exact hc_127 z.2))
set_option maxHeartbeats 1000000 in
set_option maxRecDepth 20000 in
theorem l1_X6_wall {n o x sb fa wa W H cnt : Nat} {G : ms_H} {dw cl dr pa : Int32} {wr : Nat → Nat} {fv u : Nat → Nat → Int32} (hM : fk_at G o x sb dw W H cl dr pa fa wa cnt wr fv u) (hW : W ≤ 14) (hH : H ≤ 14) (hc : cnt ≤ 24) {L : Nat} {xs : Nat → Int32} {P : ms_P} {kr zr : Nat} {on : Nat → Int32} (hon : onV (W * H) cnt u on) (hv : hvX (nI (W * H)) cnt u) {a b a2 b2 : Nat} (ha : a < W) (hb : b < H) (ha2 : a2 < W) (hb2 : b2 < H) {iz : Int32} (kk : ∀ mv : Int32, mwP (vis (min a a2) (min b b2) (max b b2) ((max a a2) + 1 - (min a a2)) 0) (fun p q => ¬ iz = 0 ∧ ¬ on (q * W + p) = -1) mv → ms_W true (ms_S (sb, L, xs) m_X6_wall) P 153 [(0, .ref o), (1, .int (nI a)), (2, .int (nI b)), (3, .int (nI a2)), (4, .int (nI b2)), (5, .int iz), (6, .int mv)] [] n G kr zr) : ∀ (r k : Nat), k + r = (max a a2) + 1 - (min a a2) → ∀ mv : Int32, mwP (vis (min a a2) (min b b2) (max b b2) k 0) (fun p q => ¬ iz = 0 ∧ ¬ on (q * W + p) = -1) mv → ms_W true (ms_S (sb, L, xs) m_X6_wall) (P) 86 [(0, .ref o), (1, .int (nI a)), (2, .int (nI b)), (3, .int (nI a2)), (4, .int (nI b2)), (5, .int iz), (6, .int mv), (7, .int (nI ((min a a2) + k)))] [] n G kr zr := by
  intro r
  induction r with
  | zero =>
    intro k hk mv hmv
    have hkN : k = (max a a2) + 1 - (min a a2) := by omega
    refine ms_run (pc' := 90) (lv' := [(0, .ref o), (1, .int (nI a)), (2, .int (nI b)), (3, .int (nI a2)), (4, .int (nI b2)), (5, .int iz), (6, .int mv), (7, .int (nI ((min a a2) + k)))]) (st' := [.int (nI a2), .int (nI a), .int (nI ((min a a2) + k))]) _ (ms_deC dX6_wall_86 (ms_deC dX6_wall_88 (ms_deC dX6_wall_89 ms_deN))) rfl rfl ?_
    refine ms_max dX6_wall_90 mm_X6_71 ⟨Nat.le_of_ble_eq_true rfl, Nat.le_of_ble_eq_true rfl⟩ (Nat.le_of_ble_eq_true rfl) ?_
    rw [imax_n (by omega) (by omega)]
    refine ms_icmp_gt (tgt := 153) dX6_wall_93 (by decide) (fun h_93 => ?_) (fun h_93 => ?_)
    · skip
      refine ms_W.sub (lv2 := [(0, _), (1, _), (2, _), (3, _), (4, _), (5, _), (6, _)]) ?_ [0, 1, 2, 3, 4, 5, 6] rfl
      exact kk mv (by rw [hkN] at hmv; exact hmv)
    · skip
      exact absurd (nI_lt (a := (max a a2)) (b := ((min a a2) + k)) (by omega) (by omega)) h_93
  | succ r ih =>
    intro k hk mv hmv
    have hlt : k < (max a a2) + 1 - (min a a2) := by omega
    refine ms_run (pc' := 90) (lv' := [(0, .ref o), (1, .int (nI a)), (2, .int (nI b)), (3, .int (nI a2)), (4, .int (nI b2)), (5, .int iz), (6, .int mv), (7, .int (nI ((min a a2) + k)))]) (st' := [.int (nI a2), .int (nI a), .int (nI ((min a a2) + k))]) _ (ms_deC dX6_wall_86 (ms_deC dX6_wall_88 (ms_deC dX6_wall_89 ms_deN))) rfl rfl ?_
    refine ms_max dX6_wall_90 mm_X6_71 ⟨Nat.le_of_ble_eq_true rfl, Nat.le_of_ble_eq_true rfl⟩ (Nat.le_of_ble_eq_true rfl) ?_
    rw [imax_n (by omega) (by omega)]
    refine ms_icmp_gt (tgt := 153) dX6_wall_93 (by decide) (fun h_93 => ?_) (fun h_93 => ?_)
    · skip
      exact absurd h_93 (nI_nlt (a := (max a a2)) (b := ((min a a2) + k)) (by omega) (by omega))
    · skip
      refine ms_run (pc' := 99) (lv' := [(0, .ref o), (1, .int (nI a)), (2, .int (nI b)), (3, .int (nI a2)), (4, .int (nI b2)), (5, .int iz), (6, .int mv), (7, .int (nI ((min a a2) + k)))]) (st' := [.int (nI b2), .int (nI b)]) _ (ms_deC dX6_wall_96 (ms_deC dX6_wall_97 ms_deN)) rfl rfl ?_
      refine ms_min dX6_wall_99 mm_X6_66 ⟨Nat.le_of_ble_eq_true rfl, Nat.le_of_ble_eq_true rfl⟩ (Nat.le_of_ble_eq_true rfl) ?_
      rw [imin_n (by omega) (by omega)]
      refine ms_run (pc' := 104) (lv' := [(8, .int (nI (min b b2))), (0, .ref o), (1, .int (nI a)), (2, .int (nI b)), (3, .int (nI a2)), (4, .int (nI b2)), (5, .int iz), (6, .int mv), (7, .int (nI ((min a a2) + k)))]) (st' := []) _ (ms_deC dX6_wall_102 ms_deN) rfl rfl ?_
      rw [show nI (min b b2) = nI ((min b b2) + 0) from rfl]
      refine ms_W.sub (lv2 := [(0, _), (1, _), (2, _), (3, _), (4, _), (5, _), (6, _), (7, _), (8, _)]) ?_ [1, 2, 3, 4, 5, 6, 7, 8, 0] rfl
      refine l2_X6_wall hM hW hH hc hon hv ha hb ha2 hb2 (i := k) (by omega) ?_ ((max b b2) + 1 - (min b b2)) 0 (by omega) mv hmv
      intro mv2 hmv2
      refine ms_run (pc' := 150) (lv' := [(7, .int ((nI ((min a a2) + k)) + 1)), (0, .ref o), (1, .int (nI a)), (2, .int (nI b)), (3, .int (nI a2)), (4, .int (nI b2)), (5, .int iz), (6, .int mv2)]) (st' := []) _ (ms_deC dX6_wall_147 ms_deN) rfl rfl ?_
      refine ms_goto (tgt := 86) dX6_wall_150 (by decide) ?_
      rw [nI_1 ((min a a2) + k)]
      refine ms_W.sub (lv2 := [(0, _), (1, _), (2, _), (3, _), (4, _), (5, _), (6, _), (7, _)]) ?_ [1, 2, 3, 4, 5, 6, 7, 0] rfl
      exact ih (k + 1) (by omega) mv2 (hmv2.row (by omega))
set_option maxHeartbeats 1000000 in
set_option maxRecDepth 20000 in
theorem l4_X6_wall {n o x sb fa wa W H cnt : Nat} {G : ms_H} {dw cl dr pa : Int32} {wr : Nat → Nat} {fv u : Nat → Nat → Int32} (hM : fk_at G o x sb dw W H cl dr pa fa wa cnt wr fv u) (hW : W ≤ 14) (hH : H ≤ 14) (hc : cnt ≤ 24) {L : Nat} {xs : Nat → Int32} {P : ms_P} {kr zr : Nat}  {a b a2 b2 : Nat} (ha : a < W) (hb : b < H) (ha2 : a2 < W) (hb2 : b2 < H) {iz : Int32} (fl : fk_lt n o fa W H wa cnt wr) (ly : fk_ly o fa W H wa cnt wr) {td : Int32} {i : Nat} (hi : (min a a2) + i ≤ (max a a2)) (kk : ∀ K : ms_H, fk_at K o x sb dw W H cl dr pa fa wa cnt wr (fvv fv W (min a a2) (min b b2) (max b b2) i ((max b b2) + 1 - (min b b2)) (if iz = 0 then 0 else 1)) u → (∀ p, p < fa → K p = G p) → ms_W true (ms_S (sb, L, xs) m_X6_wall) P 240 [(0, .ref o), (1, .int (nI a)), (2, .int (nI b)), (3, .int (nI a2)), (4, .int (nI b2)), (5, .int iz), (7, .int td), (8, .int (nI ((min a a2) + i)))] [] n K kr zr) : ∀ (r k : Nat), k + r = (max b b2) + 1 - (min b b2) → ∀ K : ms_H, fk_at K o x sb dw W H cl dr pa fa wa cnt wr (fvv fv W (min a a2) (min b b2) (max b b2) i k (if iz = 0 then 0 else 1)) u → (∀ p, p < fa → K p = G p) → ms_W true (ms_S (sb, L, xs) m_X6_wall) (P) 201 [(0, .ref o), (1, .int (nI a)), (2, .int (nI b)), (3, .int (nI a2)), (4, .int (nI b2)), (5, .int iz), (7, .int td), (8, .int (nI ((min a a2) + i))), (9, .int (nI ((min b b2) + k)))] [] n K kr zr := by
  obtain ⟨l1, l2, l3, l4⟩ := fl
  obtain ⟨y1, y2, y3⟩ := ly
  intro r
  induction r with
  | zero =>
    intro k hk K hMK hFR
    have hkN : k = (max b b2) + 1 - (min b b2) := by omega
    refine ms_run (pc' := 206) (lv' := [(0, .ref o), (1, .int (nI a)), (2, .int (nI b)), (3, .int (nI a2)), (4, .int (nI b2)), (5, .int iz), (7, .int td), (8, .int (nI ((min a a2) + i))), (9, .int (nI ((min b b2) + k)))]) (st' := [.int (nI b2), .int (nI b), .int (nI ((min b b2) + k))]) _ (ms_deC dX6_wall_201 (ms_deC dX6_wall_203 (ms_deC dX6_wall_204 ms_deN))) rfl rfl ?_
    refine ms_max dX6_wall_206 mm_X6_71 ⟨Nat.le_of_ble_eq_true rfl, Nat.le_of_ble_eq_true rfl⟩ (Nat.le_of_ble_eq_true rfl) ?_
    rw [imax_n (by omega) (by omega)]
    refine ms_icmp_gt (tgt := 240) dX6_wall_209 (by decide) (fun h_209 => ?_) (fun h_209 => ?_)
    · skip
      refine ms_W.sub (lv2 := [(0, _), (1, _), (2, _), (3, _), (4, _), (5, _), (7, _), (8, _)]) ?_ [0, 1, 2, 3, 4, 5, 6, 7] rfl
      exact kk K (by rw [hkN] at hMK; exact hMK) hFR
    · skip
      exact absurd (nI_lt (a := (max b b2)) (b := ((min b b2) + k)) (by omega) (by omega)) h_209
  | succ r ih =>
    intro k hk K hMK hFR
    have hlt : k < (max b b2) + 1 - (min b b2) := by omega
    refine ms_run (pc' := 206) (lv' := [(0, .ref o), (1, .int (nI a)), (2, .int (nI b)), (3, .int (nI a2)), (4, .int (nI b2)), (5, .int iz), (7, .int td), (8, .int (nI ((min a a2) + i))), (9, .int (nI ((min b b2) + k)))]) (st' := [.int (nI b2), .int (nI b), .int (nI ((min b b2) + k))]) _ (ms_deC dX6_wall_201 (ms_deC dX6_wall_203 (ms_deC dX6_wall_204 ms_deN))) rfl rfl ?_
    refine ms_max dX6_wall_206 mm_X6_71 ⟨Nat.le_of_ble_eq_true rfl, Nat.le_of_ble_eq_true rfl⟩ (Nat.le_of_ble_eq_true rfl) ?_
    rw [imax_n (by omega) (by omega)]
    refine ms_icmp_gt (tgt := 240) dX6_wall_209 (by decide) (fun h_209 => ?_) (fun h_209 => ?_)
    · skip
      exact absurd h_209 (nI_nlt (a := (max b b2)) (b := ((min b b2) + k)) (by omega) (by omega))
    · skip
      refine ms_run (pc' := 213) (lv' := [(0, .ref o), (1, .int (nI a)), (2, .int (nI b)), (3, .int (nI a2)), (4, .int (nI b2)), (5, .int iz), (7, .int td), (8, .int (nI ((min a a2) + i))), (9, .int (nI ((min b b2) + k)))]) (st' := [.ref o]) _ (ms_deC dX6_wall_212 ms_deN) rfl rfl ?_
      refine ms_getf dX6_wall_213 fg_X6_31 hMK.1 rfl ?_
      refine ms_run (pc' := 218) (lv' := [(0, .ref o), (1, .int (nI a)), (2, .int (nI b)), (3, .int (nI a2)), (4, .int (nI b2)), (5, .int iz), (7, .int td), (8, .int (nI ((min a a2) + i))), (9, .int (nI ((min b b2) + k)))]) (st' := [.int (nI ((min a a2) + i)), .ref fa]) _ (ms_deC dX6_wall_216 ms_deN) rfl rfl ?_
      refine fk_ldA (i := ((min a a2) + i)) dX6_wall_218 hMK.2.1 (by omega) hW ?_
      refine ms_run (pc' := 221) (lv' := [(0, .ref o), (1, .int (nI a)), (2, .int (nI b)), (3, .int (nI a2)), (4, .int (nI b2)), (5, .int iz), (7, .int td), (8, .int (nI ((min a a2) + i))), (9, .int (nI ((min b b2) + k)))]) (st' := [.int (nI ((min b b2) + k)), .ref (mn_ad fa H ((min a a2) + i))]) _ (ms_deC dX6_wall_219 ms_deN) rfl rfl ?_
      refine fk_ldB (j := ((min b b2) + k)) dX6_wall_221 hMK.2.1 (by omega) (by omega) hH ?_
      refine ms_run (pc' := 225) (lv' := [(0, .ref o), (1, .int (nI a)), (2, .int (nI b)), (3, .int (nI a2)), (4, .int (nI b2)), (5, .int iz), (7, .int td), (8, .int (nI ((min a a2) + i))), (9, .int (nI ((min b b2) + k)))]) (st' := [.int iz, .int 0, .ref (mn_ad fa H ((min a a2) + i) + 1 + ((min b b2) + k))]) _ (ms_deC dX6_wall_222 (ms_deC dX6_wall_223 ms_deN)) rfl rfl ?_
      refine ms_if_eq (tgt := 232) dX6_wall_225 (by decide) (fun h_225 => ?_) (fun h_225 => ?_)
      · skip
        refine ms_run (pc' := 233) (lv' := [(0, .ref o), (1, .int (nI a)), (2, .int (nI b)), (3, .int (nI a2)), (4, .int (nI b2)), (5, .int iz), (7, .int td), (8, .int (nI ((min a a2) + i))), (9, .int (nI ((min b b2) + k)))]) (st' := [.int 0, .int 0, .ref (mn_ad fa H ((min a a2) + i) + 1 + ((min b b2) + k))]) _ (ms_deC dX6_wall_232 ms_deN) rfl rfl ?_
        refine fk_stC (c := 0) dX6_wall_233 hMK.2.1 (by omega) (by omega) (by decide) rfl (fun K2 hK2 hF2 => ?_)
        have hend := ad_end (fa := fa) (H := H) (show (min a a2) + i < W by omega) (show (min b b2) + k < H by omega)
        have hlo9 := ad_fa (fa := fa) (H := H) (i := (min a a2) + i)
        have hbv : (0 : Int32) = (if iz = 0 then 0 else 1) := (if_pos h_225).symm
        have hF3 : fk_F K2 fa W H (fvv fv W (min a a2) (min b b2) (max b b2) i (k + 1) (if iz = 0 then 0 else 1)) := (congrArg (fk_F K2 fa W H) (fvv_put (by omega))).mp ((congrArg (fun z : Int32 => fk_F K2 fa W H (va_up (fvv fv W (min a a2) (min b b2) (max b b2) i k (if iz = 0 then 0 else 1)) (((min b b2) + k) * W + ((min a a2) + i)) (upd ((fvv fv W (min a a2) (min b b2) (max b b2) i k (if iz = 0 then 0 else 1)) (((min b b2) + k) * W + ((min a a2) + i))) 0 z))) hbv).mp hF2)
        have hM2 : fk_at K2 o x sb dw W H cl dr pa fa wa cnt wr (fvv fv W (min a a2) (min b b2) (max b b2) i (k + 1) (if iz = 0 then 0 else 1)) u := ⟨(hK2 o (by omega)).trans hMK.1, hF3, hMK.2.2.fr (hK2 wa (by omega)) (fun j hj => hK2 (wr j) (by have := y3 j hj; omega))⟩
        have hR2 : (∀ p, p < fa → K2 p = G p) := fun p hp => (hK2 p (by omega)).trans (hFR p hp)
        refine ms_run (pc' := 237) (lv' := [(9, .int ((nI ((min b b2) + k)) + 1)), (0, .ref o), (1, .int (nI a)), (2, .int (nI b)), (3, .int (nI a2)), (4, .int (nI b2)), (5, .int iz), (7, .int td), (8, .int (nI ((min a a2) + i)))]) (st' := []) _ (ms_deC dX6_wall_234 ms_deN) rfl rfl ?_
        refine ms_goto (tgt := 201) dX6_wall_237 (by decide) ?_
        rw [nI_1 ((min b b2) + k)]
        refine ms_W.sub (lv2 := [(0, _), (1, _), (2, _), (3, _), (4, _), (5, _), (7, _), (8, _), (9, _)]) ?_ [1, 2, 3, 4, 5, 6, 7, 8, 0] rfl
        exact ih (k + 1) (by omega) K2 hM2 hR2
      · skip
        refine ms_run (pc' := 229) (lv' := [(0, .ref o), (1, .int (nI a)), (2, .int (nI b)), (3, .int (nI a2)), (4, .int (nI b2)), (5, .int iz), (7, .int td), (8, .int (nI ((min a a2) + i))), (9, .int (nI ((min b b2) + k)))]) (st' := [.int 1, .int 0, .ref (mn_ad fa H ((min a a2) + i) + 1 + ((min b b2) + k))]) _ (ms_deC dX6_wall_228 ms_deN) rfl rfl ?_
        refine ms_goto (tgt := 233) dX6_wall_229 (by decide) ?_
        refine fk_stC (c := 0) dX6_wall_233 hMK.2.1 (by omega) (by omega) (by decide) rfl (fun K2 hK2 hF2 => ?_)
        have hend := ad_end (fa := fa) (H := H) (show (min a a2) + i < W by omega) (show (min b b2) + k < H by omega)
        have hlo9 := ad_fa (fa := fa) (H := H) (i := (min a a2) + i)
        have hbv : (1 : Int32) = (if iz = 0 then 0 else 1) := (if_neg h_225).symm
        have hF3 : fk_F K2 fa W H (fvv fv W (min a a2) (min b b2) (max b b2) i (k + 1) (if iz = 0 then 0 else 1)) := (congrArg (fk_F K2 fa W H) (fvv_put (by omega))).mp ((congrArg (fun z : Int32 => fk_F K2 fa W H (va_up (fvv fv W (min a a2) (min b b2) (max b b2) i k (if iz = 0 then 0 else 1)) (((min b b2) + k) * W + ((min a a2) + i)) (upd ((fvv fv W (min a a2) (min b b2) (max b b2) i k (if iz = 0 then 0 else 1)) (((min b b2) + k) * W + ((min a a2) + i))) 0 z))) hbv).mp hF2)
        have hM2 : fk_at K2 o x sb dw W H cl dr pa fa wa cnt wr (fvv fv W (min a a2) (min b b2) (max b b2) i (k + 1) (if iz = 0 then 0 else 1)) u := ⟨(hK2 o (by omega)).trans hMK.1, hF3, hMK.2.2.fr (hK2 wa (by omega)) (fun j hj => hK2 (wr j) (by have := y3 j hj; omega))⟩
        have hR2 : (∀ p, p < fa → K2 p = G p) := fun p hp => (hK2 p (by omega)).trans (hFR p hp)
        refine ms_run (pc' := 237) (lv' := [(9, .int ((nI ((min b b2) + k)) + 1)), (0, .ref o), (1, .int (nI a)), (2, .int (nI b)), (3, .int (nI a2)), (4, .int (nI b2)), (5, .int iz), (7, .int td), (8, .int (nI ((min a a2) + i)))]) (st' := []) _ (ms_deC dX6_wall_234 ms_deN) rfl rfl ?_
        refine ms_goto (tgt := 201) dX6_wall_237 (by decide) ?_
        rw [nI_1 ((min b b2) + k)]
        refine ms_W.sub (lv2 := [(0, _), (1, _), (2, _), (3, _), (4, _), (5, _), (7, _), (8, _), (9, _)]) ?_ [1, 2, 3, 4, 5, 6, 7, 8, 0] rfl
        exact ih (k + 1) (by omega) K2 hM2 hR2
set_option maxHeartbeats 1000000 in
set_option maxRecDepth 20000 in
theorem l3_X6_wall {n o x sb fa wa W H cnt : Nat} {G : ms_H} {dw cl dr pa : Int32} {wr : Nat → Nat} {fv u : Nat → Nat → Int32} (hM : fk_at G o x sb dw W H cl dr pa fa wa cnt wr fv u) (hW : W ≤ 14) (hH : H ≤ 14) (hc : cnt ≤ 24) {L : Nat} {xs : Nat → Int32} {P : ms_P} {kr zr : Nat}  {a b a2 b2 : Nat} (ha : a < W) (hb : b < H) (ha2 : a2 < W) (hb2 : b2 < H) {iz : Int32} (fl : fk_lt n o fa W H wa cnt wr) (ly : fk_ly o fa W H wa cnt wr) {td : Int32} (kk : ∀ K : ms_H, fk_at K o x sb dw W H cl dr pa fa wa cnt wr (fvv fv W (min a a2) (min b b2) (max b b2) ((max a a2) + 1 - (min a a2)) 0 (if iz = 0 then 0 else 1)) u → (∀ p, p < fa → K p = G p) → ms_W true (ms_S (sb, L, xs) m_X6_wall) P 246 [(0, .ref o), (7, .int td)] [] n K kr zr) : ∀ (r k : Nat), k + r = (max a a2) + 1 - (min a a2) → ∀ K : ms_H, fk_at K o x sb dw W H cl dr pa fa wa cnt wr (fvv fv W (min a a2) (min b b2) (max b b2) k 0 (if iz = 0 then 0 else 1)) u → (∀ p, p < fa → K p = G p) → ms_W true (ms_S (sb, L, xs) m_X6_wall) (P) 183 [(0, .ref o), (1, .int (nI a)), (2, .int (nI b)), (3, .int (nI a2)), (4, .int (nI b2)), (5, .int iz), (7, .int td), (8, .int (nI ((min a a2) + k)))] [] n K kr zr := by
  obtain ⟨l1, l2, l3, l4⟩ := fl
  obtain ⟨y1, y2, y3⟩ := ly
  intro r
  induction r with
  | zero =>
    intro k hk K hMK hFR
    have hkN : k = (max a a2) + 1 - (min a a2) := by omega
    refine ms_run (pc' := 187) (lv' := [(0, .ref o), (1, .int (nI a)), (2, .int (nI b)), (3, .int (nI a2)), (4, .int (nI b2)), (5, .int iz), (7, .int td), (8, .int (nI ((min a a2) + k)))]) (st' := [.int (nI a2), .int (nI a), .int (nI ((min a a2) + k))]) _ (ms_deC dX6_wall_183 (ms_deC dX6_wall_185 (ms_deC dX6_wall_186 ms_deN))) rfl rfl ?_
    refine ms_max dX6_wall_187 mm_X6_71 ⟨Nat.le_of_ble_eq_true rfl, Nat.le_of_ble_eq_true rfl⟩ (Nat.le_of_ble_eq_true rfl) ?_
    rw [imax_n (by omega) (by omega)]
    refine ms_icmp_gt (tgt := 246) dX6_wall_190 (by decide) (fun h_190 => ?_) (fun h_190 => ?_)
    · skip
      refine ms_W.sub (lv2 := [(0, _), (7, _)]) ?_ [0, 6] rfl
      exact kk K (by rw [hkN] at hMK; exact hMK) hFR
    · skip
      exact absurd (nI_lt (a := (max a a2)) (b := ((min a a2) + k)) (by omega) (by omega)) h_190
  | succ r ih =>
    intro k hk K hMK hFR
    have hlt : k < (max a a2) + 1 - (min a a2) := by omega
    refine ms_run (pc' := 187) (lv' := [(0, .ref o), (1, .int (nI a)), (2, .int (nI b)), (3, .int (nI a2)), (4, .int (nI b2)), (5, .int iz), (7, .int td), (8, .int (nI ((min a a2) + k)))]) (st' := [.int (nI a2), .int (nI a), .int (nI ((min a a2) + k))]) _ (ms_deC dX6_wall_183 (ms_deC dX6_wall_185 (ms_deC dX6_wall_186 ms_deN))) rfl rfl ?_
    refine ms_max dX6_wall_187 mm_X6_71 ⟨Nat.le_of_ble_eq_true rfl, Nat.le_of_ble_eq_true rfl⟩ (Nat.le_of_ble_eq_true rfl) ?_
    rw [imax_n (by omega) (by omega)]
    refine ms_icmp_gt (tgt := 246) dX6_wall_190 (by decide) (fun h_190 => ?_) (fun h_190 => ?_)
    · skip
      exact absurd h_190 (nI_nlt (a := (max a a2)) (b := ((min a a2) + k)) (by omega) (by omega))
    · skip
      refine ms_run (pc' := 196) (lv' := [(0, .ref o), (1, .int (nI a)), (2, .int (nI b)), (3, .int (nI a2)), (4, .int (nI b2)), (5, .int iz), (7, .int td), (8, .int (nI ((min a a2) + k)))]) (st' := [.int (nI b2), .int (nI b)]) _ (ms_deC dX6_wall_193 (ms_deC dX6_wall_194 ms_deN)) rfl rfl ?_
      refine ms_min dX6_wall_196 mm_X6_66 ⟨Nat.le_of_ble_eq_true rfl, Nat.le_of_ble_eq_true rfl⟩ (Nat.le_of_ble_eq_true rfl) ?_
      rw [imin_n (by omega) (by omega)]
      refine ms_run (pc' := 201) (lv' := [(9, .int (nI (min b b2))), (0, .ref o), (1, .int (nI a)), (2, .int (nI b)), (3, .int (nI a2)), (4, .int (nI b2)), (5, .int iz), (7, .int td), (8, .int (nI ((min a a2) + k)))]) (st' := []) _ (ms_deC dX6_wall_199 ms_deN) rfl rfl ?_
      rw [show nI (min b b2) = nI ((min b b2) + 0) from rfl]
      refine ms_W.sub (lv2 := [(0, _), (1, _), (2, _), (3, _), (4, _), (5, _), (7, _), (8, _), (9, _)]) ?_ [1, 2, 3, 4, 5, 6, 7, 8, 0] rfl
      refine l4_X6_wall hM hW hH hc ha hb ha2 hb2 ⟨l1, l2, l3, l4⟩ ⟨y1, y2, y3⟩ (i := k) (by omega) ?_ ((max b b2) + 1 - (min b b2)) 0 (by omega) K hMK hFR
      intro K2 hM2 hR2
      rw [fvv_row (by omega)] at hM2
      refine ms_run (pc' := 243) (lv' := [(8, .int ((nI ((min a a2) + k)) + 1)), (0, .ref o), (1, .int (nI a)), (2, .int (nI b)), (3, .int (nI a2)), (4, .int (nI b2)), (5, .int iz), (7, .int td)]) (st' := []) _ (ms_deC dX6_wall_240 ms_deN) rfl rfl ?_
      refine ms_goto (tgt := 183) dX6_wall_243 (by decide) ?_
      rw [nI_1 ((min a a2) + k)]
      refine ms_W.sub (lv2 := [(0, _), (1, _), (2, _), (3, _), (4, _), (5, _), (7, _), (8, _)]) ?_ [1, 2, 3, 4, 5, 6, 7, 0] rfl
      exact ih (k + 1) (by omega) K2 hM2 hR2
set_option maxHeartbeats 1000000 in
set_option maxRecDepth 20000 in
theorem s_X6_wall {n o x g q c j q2 c2 sb L d t W H cnt fa wa : Nat} {xs : Nat → Int32} {G : ms_H} {dr pa : Int32} {X : cX} {nr wl mk ds : Nat → Int32} {wr : Nat → Nat} {fv : Nat → Nat → Int32} (ho : ox x g q c j q2 c2) (hox : o < x) (hd : d < 900) (ht : t < 790) (hS : fS o x g q c j q2 c2 sb n d t G W H cnt fa wa dr pa X nr wl mk ds wr fv) {a b a2 b2 : Nat} (ha : a < W) (hb : b < H) (ha2 : a2 < W) (hb2 : b2 < H) {iz : Int32} (hiz : iz = 0 ∨ iz = 1) {d0 : Nat} (hd0 : d0 ≤ d) (hd8 : d ≤ d0 + 8) : ms_W true (ms_S (sb, L, xs) m_X6_wall) (fe_P o x g q c j q2 c2 sb n d0 t) 76 [(0, .ref o), (1, .int (nI a)), (2, .int (nI b)), (3, .int (nI a2)), (4, .int (nI b2)), (5, .int iz)] [] n G 1 6 := by
  obtain ⟨hX, hM, fl, ly, hcf, hK⟩ := hS
  have hK0 := hK
  obtain ⟨⟨pb1, pb2, pb3, pb4⟩, hc, hL, hfv, hht, hds, hdr, ⟨p9, hp91, hp92, hpa⟩, hwl, ⟨hcl, ht9⟩, hV, hI, hHt⟩ := hK0
  have hW : W ≤ 14 := by omega
  have hH : H ≤ 14 := by omega
  have hW0 : 0 < W := by omega
  have h9 : W * H ≤ 196 := Nat.mul_le_mul hW hH
  have fl0 := fl
  have ly0 := ly
  obtain ⟨l1, l2, l3, l4⟩ := fl0
  obtain ⟨y1, y2, y3⟩ := ly0
  have had := ad_fa (fa := fa) (H := H) (i := W)
  refine ms_run (pc' := 81) (lv' := [(6, .int 1), (0, .ref o), (1, .int (nI a)), (2, .int (nI b)), (3, .int (nI a2)), (4, .int (nI b2)), (5, .int iz)]) (st' := [.int (nI a2), .int (nI a)]) _ (ms_deC dX6_wall_76 (ms_deC dX6_wall_77 (ms_deC dX6_wall_79 (ms_deC dX6_wall_80 ms_deN)))) rfl rfl ?_
  refine ms_min dX6_wall_81 mm_X6_66 ⟨Nat.le_of_ble_eq_true rfl, Nat.le_of_ble_eq_true rfl⟩ (Nat.le_of_ble_eq_true rfl) ?_
  rw [imin_n (by omega) (by omega)]
  refine ms_run (pc' := 86) (lv' := [(7, .int (nI (min a a2))), (6, .int 1), (0, .ref o), (1, .int (nI a)), (2, .int (nI b)), (3, .int (nI a2)), (4, .int (nI b2)), (5, .int iz)]) (st' := []) _ (ms_deC dX6_wall_84 ms_deN) rfl rfl ?_
  rw [show nI (min a a2) = nI ((min a a2) + 0) from rfl]
  refine ms_W.sub (lv2 := [(0, _), (1, _), (2, _), (3, _), (4, _), (5, _), (6, _), (7, _)]) ?_ [2, 3, 4, 5, 6, 7, 1, 0] rfl
  refine l1_X6_wall (iz := iz) hM hW hH hc hV.1 hV.2.1 ha hb ha2 hb2 ?_ ((max a a2) + 1 - (min a a2)) 0 (by omega) 1 (Or.inl ⟨rfl, fun p q h => by unfold vis at h; omega⟩)
  intro mv hmv
  have hthi := th_wal_i (X := X) (bv := iz) hW hH ha hb ha2 hb2
  have hrc := wanF_iff (X := X) hW hH ha hb ha2 hb2
  have hvis : ∀ f, f < W * H → (rcT W a b a2 b2 f ↔ vis (min a a2) (min b b2) (max b b2) ((max a a2) + 1 - (min a a2)) 0 (f % W) (f / W)) := fun f hf => by
    unfold rcT vis
    constructor
    · rintro ⟨⟨z1, z2⟩, z3, z4⟩; exact Or.inl ⟨z1, by omega, z3, z4⟩
    · rintro (⟨z1, z2, z3, z4⟩ | ⟨z1, z2, z3⟩); exact ⟨⟨z1, by omega⟩, z3, z4⟩; omega
  have hiff : (¬ iz = 0 ∧ wanF W H X a b a2 b2 = true) ↔ mv = 0 := by
    constructor
    · rintro ⟨z1, z2⟩
      obtain ⟨f, hf, hr, hn⟩ := hrc.mp z2
      rcases hmv with ⟨-, h5⟩ | ⟨h5, -⟩
      · exact absurd ⟨z1, by rw [(fd_div hf).2.2]; exact hn⟩ (h5 _ _ ((hvis f hf).mp hr))
      · exact h5
    · intro z
      rcases hmv with ⟨h5, -⟩ | ⟨-, p, q, h5, h6, h7⟩
      · rw [h5] at z; exact absurd z (by decide)
      · have hp : p < W := by unfold vis at h5; omega
        have hq : q < H := by unfold vis at h5; omega
        have hmd := fd_mod (y := q) hp
        exact ⟨h6, hrc.mpr ⟨q * W + p, fij hp hq, (hvis _ (fij hp hq)).mpr (by rw [hmd.1, hmd.2]; exact h5), h7⟩⟩
  by_cases emv : mv = 0
  · skip
    rw [emv]
    refine ms_run (pc' := 154) (lv' := [(0, .ref o), (1, .int (nI a)), (2, .int (nI b)), (3, .int (nI a2)), (4, .int (nI b2)), (5, .int iz), (6, .int 0)]) (st' := [.ref o]) _ (ms_deC dX6_wall_153 ms_deN) rfl rfl ?_
    refine ms_getf dX6_wall_154 fg_X6_10 hM.O rfl ?_
    refine ms_run (pc' := 164) (lv' := [(0, .ref o), (1, .int (nI a)), (2, .int (nI b)), (3, .int (nI a2)), (4, .int (nI b2)), (5, .int iz), (6, .int 0)]) (st' := [.int iz, .int (nI b2), .int (nI a2), .int (nI b), .int (nI a), .ref x]) _ (ms_deC dX6_wall_157 (ms_deC dX6_wall_158 (ms_deC dX6_wall_159 (ms_deC dX6_wall_160 (ms_deC dX6_wall_162 ms_deN))))) rfl rfl ?_
    have hct := c_X5_wall (n := n) ho hX hW hH (nI a) (nI b) (nI a2) (nI b2) iz
    rw [nI_clamp (n := a) (by omega), nI_clamp (n := b) (by omega), nI_clamp (n := a2) (by omega), nI_clamp (n := b2) (by omega)] at hct
    refine ms_W.room (k2 := 1 + 0) (z2 := 6 + 0) ?_ (by omega) (by omega)
    have hth1 : th_wal W H X iz (nI a) (nI b) (nI a2) (nI b2) = some ISE := hthi.trans (if_pos (hiff.mpr emv))
    refine ms_callVX (As := [.int (nI a), .int (nI b), .int (nI a2), .int (nI b2), .int iz]) dX6_wall_164 (hct) cv_X6_78 hX.1 rfl ⟨Nat.le_of_ble_eq_true rfl, Nat.le_of_ble_eq_true rfl⟩ rfl (Nat.le_of_ble_eq_true rfl) (fun v9 n1 K1 hp9 => ?_) (fun E9 n1 K1 q9 hp9 => ?_)
    · skip
      exact absurd ((xq_P.val hp9).1.symm.trans hth1) (fun z => by cases z)
    · skip
      obtain ⟨he9, rfl, hn1⟩ := xq_P.thw hp9
      rw [hth1] at he9
      cases he9
      refine ⟨261, hd_X6_wall_164, ?_⟩
      refine ms_run (pc' := 265) (lv' := [(7, .ref q9), (0, .ref o), (1, .int (nI a)), (2, .int (nI b)), (3, .int (nI a2)), (4, .int (nI b2)), (5, .int iz), (6, .int 0)]) (st' := [.int 0]) _ (ms_deC dX6_wall_261 (ms_deC dX6_wall_263 ms_deN)) rfl rfl ?_
      refine ms_if_ne (tgt := 272) dX6_wall_265 (by decide) (fun h9 => absurd h9 (by decide)) (fun _ => ?_)
      refine ms_run (pc' := 269) (lv' := [(7, .ref q9), (0, .ref o), (1, .int (nI a)), (2, .int (nI b)), (3, .int (nI a2)), (4, .int (nI b2)), (5, .int iz), (6, .int 0)]) (st' := [.int 1]) _ (ms_deC dX6_wall_268 ms_deN) rfl rfl ?_
      refine ms_goto (tgt := 273) dX6_wall_269 (by decide) ?_
      refine ms_reti (st := []) (ty := .boolean) dX6_wall_273 rfl rfl ?_
      exact ⟨rfl, by omega, d, t, by omega, by omega, Nat.le_refl t, by omega, W, H, cnt, fa, wa, dr, pa, X, nr, wl, mk, ds, wr, fv, hX, hM, fl.le (by omega), ly, hcf, hK⟩
  · skip
    have emv1 : mv = 1 := by rcases hmv with ⟨z, -⟩ | ⟨z, -⟩; exact z; exact absurd z emv
    rw [emv1]
    refine ms_run (pc' := 154) (lv' := [(0, .ref o), (1, .int (nI a)), (2, .int (nI b)), (3, .int (nI a2)), (4, .int (nI b2)), (5, .int iz), (6, .int 1)]) (st' := [.ref o]) _ (ms_deC dX6_wall_153 ms_deN) rfl rfl ?_
    refine ms_getf dX6_wall_154 fg_X6_10 hM.O rfl ?_
    refine ms_run (pc' := 164) (lv' := [(0, .ref o), (1, .int (nI a)), (2, .int (nI b)), (3, .int (nI a2)), (4, .int (nI b2)), (5, .int iz), (6, .int 1)]) (st' := [.int iz, .int (nI b2), .int (nI a2), .int (nI b), .int (nI a), .ref x]) _ (ms_deC dX6_wall_157 (ms_deC dX6_wall_158 (ms_deC dX6_wall_159 (ms_deC dX6_wall_160 (ms_deC dX6_wall_162 ms_deN))))) rfl rfl ?_
    have hct := c_X5_wall (n := n) ho hX hW hH (nI a) (nI b) (nI a2) (nI b2) iz
    rw [nI_clamp (n := a) (by omega), nI_clamp (n := b) (by omega), nI_clamp (n := a2) (by omega), nI_clamp (n := b2) (by omega)] at hct
    refine ms_W.room (k2 := 1 + 0) (z2 := 6 + 0) ?_ (by omega) (by omega)
    have hth1 : th_wal W H X iz (nI a) (nI b) (nI a2) (nI b2) = none := hthi.trans (if_neg (fun z => emv (hiff.mp z)))
    refine ms_callVX (As := [.int (nI a), .int (nI b), .int (nI a2), .int (nI b2), .int iz]) dX6_wall_164 (hct) cv_X6_78 hX.1 rfl ⟨Nat.le_of_ble_eq_true rfl, Nat.le_of_ble_eq_true rfl⟩ rfl (Nat.le_of_ble_eq_true rfl) (fun v9 n1 K1 hp9 => ?_) (fun E9 n1 K1 q9 hp9 => ?_)
    · skip
      obtain ⟨-, hv9, hQ1, hn1⟩ := xq_P.val hp9
      cases hv9
      obtain ⟨hX1, hF1⟩ := hQ1
      have hM1 : fk_at K1 o x sb (nI d) W H X.2.2.2 dr pa fa wa cnt wr fv X.1 := hM.cf (n := n) ly hW0 hox hcf hF1
      refine ms_run (pc' := 171) (lv' := [(7, .int (nI (ct (pWall (wlX W iz a b a2 b2 wl)) (W * H)))), (0, .ref o), (1, .int (nI a)), (2, .int (nI b)), (3, .int (nI a2)), (4, .int (nI b2)), (5, .int iz), (6, .int 1)]) (st' := [.int 1]) _ (ms_deC dX6_wall_167 (ms_deC dX6_wall_169 ms_deN)) rfl rfl ?_
      refine ms_if_ne (tgt := 176) dX6_wall_171 (by decide) (fun _ => ?_) (fun h9 => absurd h9 (by decide))
      refine ms_run (pc' := 178) (lv' := [(7, .int (nI (ct (pWall (wlX W iz a b a2 b2 wl)) (W * H)))), (0, .ref o), (1, .int (nI a)), (2, .int (nI b)), (3, .int (nI a2)), (4, .int (nI b2)), (5, .int iz), (6, .int 1)]) (st' := [.int (nI a2), .int (nI a)]) _ (ms_deC dX6_wall_176 (ms_deC dX6_wall_177 ms_deN)) rfl rfl ?_
      refine ms_min dX6_wall_178 mm_X6_66 ⟨Nat.le_of_ble_eq_true rfl, Nat.le_of_ble_eq_true rfl⟩ (Nat.le_of_ble_eq_true rfl) ?_
      rw [imin_n (by omega) (by omega)]
      refine ms_run (pc' := 183) (lv' := [(8, .int (nI (min a a2))), (7, .int (nI (ct (pWall (wlX W iz a b a2 b2 wl)) (W * H)))), (0, .ref o), (1, .int (nI a)), (2, .int (nI b)), (3, .int (nI a2)), (4, .int (nI b2)), (5, .int iz), (6, .int 1)]) (st' := []) _ (ms_deC dX6_wall_181 ms_deN) rfl rfl ?_
      have hK2 := hK.wall (bv := iz) ha hb ha2 hb2 hiz (fun z z2 => emv (hiff.mp ⟨by rw [z]; decide, z2⟩))
      rw [show nI (min a a2) = nI ((min a a2) + 0) from rfl]
      refine ms_W.sub (lv2 := [(0, _), (1, _), (2, _), (3, _), (4, _), (5, _), (7, _), (8, _)]) ?_ [2, 3, 4, 5, 6, 7, 1, 0] rfl
      refine l3_X6_wall (iz := iz) hM1 hW hH hc ha hb ha2 hb2 (fl.le (by omega)) ly ?_ ((max a a2) + 1 - (min a a2)) 0 (by omega) K1 (by rw [fvv_00]; exact hM1) (fun p hp => rfl)
      intro K9 hM9 hF9
      have hfe : ∀ f, f < W * H → ∀ c, c < 6 → (fvv fv W (min a a2) (min b b2) (max b b2) ((max a a2) + 1 - (min a a2)) 0 (if iz = 0 then 0 else 1)) f c = fvw fv (wlX W iz a b a2 b2 wl) f c := fun f hf c hc6 => by
        unfold fvv fvw
        rw [wlX_at hW0 ha hb ha2 hb2 hiz hf]
        have hbe : (if iz = 0 then 0 else 1) = iz := by rcases hiz with z | z <;> rw [z] <;> decide
        rw [hbe]
        have hv9 := hvis f hf
        unfold rcT vis at hv9
        by_cases e0 : c = 0
        · rw [if_pos e0, e0]
          by_cases hr : ((min a a2) ≤ f % W ∧ f % W ≤ (max a a2)) ∧ (min b b2) ≤ f / W ∧ f / W ≤ (max b b2)
          · rw [if_pos ⟨rfl, hv9.mp hr⟩, if_pos hr]
          · rw [if_neg (fun z => hr (hv9.mpr z.2)), if_neg hr]; exact (hfv f hf).1
        · rw [if_neg (fun z => e0 z.1), if_neg e0]
      have hM10 : fk_at K9 o x sb (nI d) W H X.2.2.2 dr pa fa wa cnt wr (fvw fv (wlX W iz a b a2 b2 wl)) X.1 := ⟨hM9.1, hM9.2.1.fc hfe, hM9.2.2⟩
      have hX10 : xs_at K9 x g q c j q2 c2 W H nr (wlX W iz a b a2 b2 wl) mk (dXa (W * H) nr (wlX W iz a b a2 b2 wl) mk ds 4) cnt dr pa X := hX1.cx ho (fun p h1 h2 => hF9 p (by omega))
      refine ms_run (pc' := 249) (lv' := [(0, .ref o), (7, .int (nI (ct (pWall (wlX W iz a b a2 b2 wl)) (W * H))))]) (st' := [.ref o, .int (nI (ct (pWall (wlX W iz a b a2 b2 wl)) (W * H)))]) _ (ms_deC dX6_wall_246 (ms_deC dX6_wall_248 ms_deN)) rfl rfl ?_
      have hgN : ∀ f, f < W * H → fvw fv (wlX W iz a b a2 b2 wl) f 0 = nI (if pWall (wlX W iz a b a2 b2 wl) f then 1 else 0) := fun f hf => by
        show (if 0 = 0 then (wlX W iz a b a2 b2 wl) f else _) = _
        rw [if_pos rfl]
        unfold pWall
        rcases (hwl.wlX (W := W) (a := a) (b := b) (a2 := a2) (b2 := b2) (bv := iz)) f with z | z
        · rw [z]; rfl
        · rw [z]; rfl
      have hcw := c_X6_walls (n := n1) hM10 hW hH hc hgN
      rw [← ct_sn] at hcw
      refine ms_callVp (As := []) dX6_wall_249 (hcw) cv_X6_82 hM10.O rfl ⟨Nat.le_of_ble_eq_true rfl, Nat.le_of_ble_eq_true rfl⟩ rfl (Nat.le_of_ble_eq_true rfl) ?_
      refine ms_icmp_ne (tgt := 259) dX6_wall_252 (by decide) (fun h_252 => ?_) (fun h_252 => ?_)
      · skip
        exact absurd rfl h_252
      · skip
        refine ms_run (pc' := 256) (lv' := [(0, .ref o), (7, .int (nI (ct (pWall (wlX W iz a b a2 b2 wl)) (W * H))))]) (st' := [.int 1]) _ (ms_deC dX6_wall_255 ms_deN) rfl rfl ?_
        refine ms_goto (tgt := 260) dX6_wall_256 (by decide) ?_
        refine ms_reti (st := []) (ty := .boolean) dX6_wall_260 rfl rfl ?_
        exact ⟨rfl, by omega, d, t, by omega, by omega, Nat.le_refl t, by omega, W, H, cnt, fa, wa, dr, pa, X, nr, _, mk, _, wr, _, hX10, hM10, fl.le (by omega), ly, hcf, hK2⟩
    · skip
      exact absurd ((xq_P.thw hp9).1.symm.trans hth1) (fun z => by cases z)
set_option maxHeartbeats 1000000 in
set_option maxRecDepth 20000 in
theorem c_X6_wall {n o x g q c j q2 c2 sb L d t W H cnt fa wa : Nat} {xs : Nat → Int32} {G : ms_H} {dr pa : Int32} {X : cX} {nr wl mk ds : Nat → Int32} {wr : Nat → Nat} {fv : Nat → Nat → Int32} (ho : ox x g q c j q2 c2) (hox : o < x) (hLb : L < 1000) (hd : d < 800) (ht : t < 790) (hS : fS o x g q c j q2 c2 sb n d t G W H cnt fa wa dr pa X nr wl mk ds wr fv) : ms_X (ms_S (sb, L, xs) m_X6_wall) [.ref o] n G 1 6 (fe_P o x g q c j q2 c2 sb n d t) := by
  refine ms_X.ofH (show plainName m_X6_wall.1.cls = true from by decide) (Nat.le_of_ble_eq_true rfl) (fun h => by cases h) ?_
  show ms_W true (ms_S (sb, L, xs) m_X6_wall) _ 0 [(0, .ref o)] [] n G 1 6
  obtain ⟨hX, hM, fl, ly, hcf, hK⟩ := hS
  have hK0 := hK
  obtain ⟨⟨b1, b2, b3, b4⟩, hc, hL, hfv, hht, hds, hdr, ⟨p9, hp91, hp92, hpa⟩, hwl, ⟨hcl, ht9⟩, hV, hI, hHt⟩ := hK0
  have hW : W ≤ 14 := by omega
  have hH : H ≤ 14 := by omega
  have hW0 : 0 < W := by omega
  have h9 : W * H ≤ 196 := Nat.mul_le_mul hW hH
  have fl0 := fl
  have ly0 := ly
  obtain ⟨l1, l2, l3, l4⟩ := fl0
  obtain ⟨y1, y2, y3⟩ := ly0
  have had := ad_fa (fa := fa) (H := H) (i := W)
  refine ms_run (pc' := 2) (lv' := [(0, .ref o)]) (st' := [.ref o, .ref o]) _ (ms_deC dX6_wall_0 (ms_deC dX6_wall_1 ms_deN)) rfl rfl ?_
  refine ms_getf dX6_wall_2 fg_X6_16 hM.O rfl ?_
  refine ms_callV0 (As := [.int (nI W)]) dX6_wall_5 (c_X6_draw (n := n) (L := L) (xs := xs) (d := d) (N := W) hM.O (by omega) hLb (by omega) (by omega)) cv_X6_56 hM.O rfl ⟨Nat.le_of_ble_eq_true rfl, Nat.le_of_ble_eq_true rfl⟩ rfl (Nat.le_of_ble_eq_true rfl) (fun v9 n9 K1 hp9 => ?_)
  obtain ⟨v1, hv1, hr9, hnn9, eK1⟩ := hp9
  cases hr9
  rw [hnn9]
  have hM1 : fk_at K1 o x sb (nI (d + 1)) W H X.2.2.2 dr pa fa wa cnt wr fv X.1 := by rw [eK1]; exact hM.ob ly hW0
  have hX1 : xs_at K1 x g q c j q2 c2 W H nr wl mk ds cnt dr pa X := hX.cx ho (fun a h1 h2 => by rw [eK1]; exact ms_up_n _ _ (by omega))
  refine ms_run (pc' := 11) (lv' := [(1, .int (nI v1)), (0, .ref o)]) (st' := [.ref o, .ref o]) _ (ms_deC dX6_wall_8 (ms_deC dX6_wall_9 (ms_deC dX6_wall_10 ms_deN))) rfl rfl ?_
  refine ms_getf dX6_wall_11 fg_X6_20 hM1.O rfl ?_
  refine ms_callV0 (As := [.int (nI H)]) dX6_wall_14 (c_X6_draw (n := n) (L := L) (xs := xs) (d := (d + 1)) (N := H) hM1.O (by omega) hLb (by omega) (by omega)) cv_X6_56 hM1.O rfl ⟨Nat.le_of_ble_eq_true rfl, Nat.le_of_ble_eq_true rfl⟩ rfl (Nat.le_of_ble_eq_true rfl) (fun v9 n9 K2 hp9 => ?_)
  obtain ⟨v2, hv2, hr9, hnn9, eK2⟩ := hp9
  cases hr9
  rw [hnn9]
  have hM2 : fk_at K2 o x sb (nI (d + 1 + 1)) W H X.2.2.2 dr pa fa wa cnt wr fv X.1 := by rw [eK2]; exact hM1.ob ly hW0
  have hX2 : xs_at K2 x g q c j q2 c2 W H nr wl mk ds cnt dr pa X := hX1.cx ho (fun a h1 h2 => by rw [eK2]; exact ms_up_n _ _ (by omega))
  refine ms_run (pc' := 20) (lv' := [(2, .int (nI v2)), (1, .int (nI v1)), (0, .ref o)]) (st' := [.int 3, .ref o]) _ (ms_deC dX6_wall_17 (ms_deC dX6_wall_18 (ms_deC dX6_wall_19 ms_deN))) rfl rfl ?_
  refine ms_callV0 (As := [.int 3]) dX6_wall_20 (c_X6_draw (n := n) (L := L) (xs := xs) (d := (d + 1 + 1)) (N := 3) hM2.O (by omega) hLb (by omega) (by omega)) cv_X6_56 hM2.O rfl ⟨Nat.le_of_ble_eq_true rfl, Nat.le_of_ble_eq_true rfl⟩ rfl (Nat.le_of_ble_eq_true rfl) (fun v9 n9 K3 hp9 => ?_)
  obtain ⟨v3, hv3, hr9, hnn9, eK3⟩ := hp9
  cases hr9
  rw [hnn9]
  have hM3 : fk_at K3 o x sb (nI (d + 1 + 1 + 1)) W H X.2.2.2 dr pa fa wa cnt wr fv X.1 := by rw [eK3]; exact hM2.ob ly hW0
  have hX3 : xs_at K3 x g q c j q2 c2 W H nr wl mk ds cnt dr pa X := hX2.cx ho (fun a h1 h2 => by rw [eK3]; exact ms_up_n _ _ (by omega))
  refine ms_if_ne (tgt := 37) dX6_wall_23 (by decide) (fun h_23 => ?_) (fun h_23 => ?_)
  · skip
    refine ms_run (pc' := 41) (lv' := [(3, .int (nI v1)), (2, .int (nI v2)), (1, .int (nI v1)), (0, .ref o)]) (st' := [.int 3, .ref o]) _ (ms_deC dX6_wall_37 (ms_deC dX6_wall_38 (ms_deC dX6_wall_39 (ms_deC dX6_wall_40 ms_deN)))) rfl rfl ?_
    refine ms_callV0 (As := [.int 3]) dX6_wall_41 (c_X6_draw (n := n) (L := L) (xs := xs) (d := (d + 1 + 1 + 1)) (N := 3) hM3.O (by omega) hLb (by omega) (by omega)) cv_X6_56 hM3.O rfl ⟨Nat.le_of_ble_eq_true rfl, Nat.le_of_ble_eq_true rfl⟩ rfl (Nat.le_of_ble_eq_true rfl) (fun v9 n9 K4 hp9 => ?_)
    obtain ⟨v4, hv4, hr9, hnn9, eK4⟩ := hp9
    cases hr9
    rw [hnn9]
    have hM4 : fk_at K4 o x sb (nI (d + 1 + 1 + 1 + 1)) W H X.2.2.2 dr pa fa wa cnt wr fv X.1 := by rw [eK4]; exact hM3.ob ly hW0
    have hX4 : xs_at K4 x g q c j q2 c2 W H nr wl mk ds cnt dr pa X := hX3.cx ho (fun a h1 h2 => by rw [eK4]; exact ms_up_n _ _ (by omega))
    refine ms_if_ne (tgt := 58) dX6_wall_44 (by decide) (fun h_44 => ?_) (fun h_44 => ?_)
    · skip
      refine ms_run (pc' := 63) (lv' := [(4, .int (nI v2)), (3, .int (nI v1)), (2, .int (nI v2)), (1, .int (nI v1)), (0, .ref o)]) (st' := [.int 3, .ref o]) _ (ms_deC dX6_wall_58 (ms_deC dX6_wall_59 (ms_deC dX6_wall_61 (ms_deC dX6_wall_62 ms_deN)))) rfl rfl ?_
      refine ms_callV0 (As := [.int 3]) dX6_wall_63 (c_X6_draw (n := n) (L := L) (xs := xs) (d := (d + 1 + 1 + 1 + 1)) (N := 3) hM4.O (by omega) hLb (by omega) (by omega)) cv_X6_56 hM4.O rfl ⟨Nat.le_of_ble_eq_true rfl, Nat.le_of_ble_eq_true rfl⟩ rfl (Nat.le_of_ble_eq_true rfl) (fun v9 n9 K5 hp9 => ?_)
      obtain ⟨v5, hv5, hr9, hnn9, eK5⟩ := hp9
      cases hr9
      rw [hnn9]
      have hM5 : fk_at K5 o x sb (nI (d + 1 + 1 + 1 + 1 + 1)) W H X.2.2.2 dr pa fa wa cnt wr fv X.1 := by rw [eK5]; exact hM4.ob ly hW0
      have hX5 : xs_at K5 x g q c j q2 c2 W H nr wl mk ds cnt dr pa X := hX4.cx ho (fun a h1 h2 => by rw [eK5]; exact ms_up_n _ _ (by omega))
      refine ms_if_le (tgt := 73) dX6_wall_66 (by decide) (fun h_66 => ?_) (fun h_66 => ?_)
      · skip
        refine ms_run (pc' := 76) (lv' := [(5, .int 0), (4, .int (nI v2)), (3, .int (nI v1)), (2, .int (nI v2)), (1, .int (nI v1)), (0, .ref o)]) (st' := []) _ (ms_deC dX6_wall_73 (ms_deC dX6_wall_74 ms_deN)) rfl rfl ?_
        refine ms_W.sub (lv2 := [(0, _), (1, _), (2, _), (3, _), (4, _), (5, _)]) ?_ [5, 4, 3, 2, 1, 0] rfl
        exact s_X6_wall (a := v1) (b := v2) (a2 := v1) (b2 := v2) (iz := 0) (L := L) (xs := xs) (d0 := d) ho hox (by omega) ht ⟨hX5, hM5, fl, ly, hcf, hK⟩ (by omega) (by omega) (by omega) (by omega) (by exact Or.inl rfl) (by omega) (by omega)
      · skip
        refine ms_run (pc' := 70) (lv' := [(4, .int (nI v2)), (3, .int (nI v1)), (2, .int (nI v2)), (1, .int (nI v1)), (0, .ref o)]) (st' := [.int 1]) _ (ms_deC dX6_wall_69 ms_deN) rfl rfl ?_
        refine ms_goto (tgt := 74) dX6_wall_70 (by decide) ?_
        refine ms_run (pc' := 76) (lv' := [(5, .int 1), (4, .int (nI v2)), (3, .int (nI v1)), (2, .int (nI v2)), (1, .int (nI v1)), (0, .ref o)]) (st' := []) _ (ms_deC dX6_wall_74 ms_deN) rfl rfl ?_
        refine ms_W.sub (lv2 := [(0, _), (1, _), (2, _), (3, _), (4, _), (5, _)]) ?_ [5, 4, 3, 2, 1, 0] rfl
        exact s_X6_wall (a := v1) (b := v2) (a2 := v1) (b2 := v2) (iz := 1) (L := L) (xs := xs) (d0 := d) ho hox (by omega) ht ⟨hX5, hM5, fl, ly, hcf, hK⟩ (by omega) (by omega) (by omega) (by omega) (by exact Or.inr rfl) (by omega) (by omega)
    · skip
      refine ms_run (pc' := 49) (lv' := [(3, .int (nI v1)), (2, .int (nI v2)), (1, .int (nI v1)), (0, .ref o)]) (st' := [.ref o, .ref o]) _ (ms_deC dX6_wall_47 (ms_deC dX6_wall_48 ms_deN)) rfl rfl ?_
      refine ms_getf dX6_wall_49 fg_X6_20 hM4.O rfl ?_
      refine ms_callV0 (As := [.int (nI H)]) dX6_wall_52 (c_X6_draw (n := n) (L := L) (xs := xs) (d := (d + 1 + 1 + 1 + 1)) (N := H) hM4.O (by omega) hLb (by omega) (by omega)) cv_X6_56 hM4.O rfl ⟨Nat.le_of_ble_eq_true rfl, Nat.le_of_ble_eq_true rfl⟩ rfl (Nat.le_of_ble_eq_true rfl) (fun v9 n9 K5 hp9 => ?_)
      obtain ⟨v5, hv5, hr9, hnn9, eK5⟩ := hp9
      cases hr9
      rw [hnn9]
      have hM5 : fk_at K5 o x sb (nI (d + 1 + 1 + 1 + 1 + 1)) W H X.2.2.2 dr pa fa wa cnt wr fv X.1 := by rw [eK5]; exact hM4.ob ly hW0
      have hX5 : xs_at K5 x g q c j q2 c2 W H nr wl mk ds cnt dr pa X := hX4.cx ho (fun a h1 h2 => by rw [eK5]; exact ms_up_n _ _ (by omega))
      refine ms_goto (tgt := 59) dX6_wall_55 (by decide) ?_
      refine ms_run (pc' := 63) (lv' := [(4, .int (nI v5)), (3, .int (nI v1)), (2, .int (nI v2)), (1, .int (nI v1)), (0, .ref o)]) (st' := [.int 3, .ref o]) _ (ms_deC dX6_wall_59 (ms_deC dX6_wall_61 (ms_deC dX6_wall_62 ms_deN))) rfl rfl ?_
      refine ms_callV0 (As := [.int 3]) dX6_wall_63 (c_X6_draw (n := n) (L := L) (xs := xs) (d := (d + 1 + 1 + 1 + 1 + 1)) (N := 3) hM5.O (by omega) hLb (by omega) (by omega)) cv_X6_56 hM5.O rfl ⟨Nat.le_of_ble_eq_true rfl, Nat.le_of_ble_eq_true rfl⟩ rfl (Nat.le_of_ble_eq_true rfl) (fun v9 n9 K6 hp9 => ?_)
      obtain ⟨v6, hv6, hr9, hnn9, eK6⟩ := hp9
      cases hr9
      rw [hnn9]
      have hM6 : fk_at K6 o x sb (nI (d + 1 + 1 + 1 + 1 + 1 + 1)) W H X.2.2.2 dr pa fa wa cnt wr fv X.1 := by rw [eK6]; exact hM5.ob ly hW0
      have hX6 : xs_at K6 x g q c j q2 c2 W H nr wl mk ds cnt dr pa X := hX5.cx ho (fun a h1 h2 => by rw [eK6]; exact ms_up_n _ _ (by omega))
      refine ms_if_le (tgt := 73) dX6_wall_66 (by decide) (fun h_66 => ?_) (fun h_66 => ?_)
      · skip
        refine ms_run (pc' := 76) (lv' := [(5, .int 0), (4, .int (nI v5)), (3, .int (nI v1)), (2, .int (nI v2)), (1, .int (nI v1)), (0, .ref o)]) (st' := []) _ (ms_deC dX6_wall_73 (ms_deC dX6_wall_74 ms_deN)) rfl rfl ?_
        refine ms_W.sub (lv2 := [(0, _), (1, _), (2, _), (3, _), (4, _), (5, _)]) ?_ [5, 4, 3, 2, 1, 0] rfl
        exact s_X6_wall (a := v1) (b := v2) (a2 := v1) (b2 := v5) (iz := 0) (L := L) (xs := xs) (d0 := d) ho hox (by omega) ht ⟨hX6, hM6, fl, ly, hcf, hK⟩ (by omega) (by omega) (by omega) (by omega) (by exact Or.inl rfl) (by omega) (by omega)
      · skip
        refine ms_run (pc' := 70) (lv' := [(4, .int (nI v5)), (3, .int (nI v1)), (2, .int (nI v2)), (1, .int (nI v1)), (0, .ref o)]) (st' := [.int 1]) _ (ms_deC dX6_wall_69 ms_deN) rfl rfl ?_
        refine ms_goto (tgt := 74) dX6_wall_70 (by decide) ?_
        refine ms_run (pc' := 76) (lv' := [(5, .int 1), (4, .int (nI v5)), (3, .int (nI v1)), (2, .int (nI v2)), (1, .int (nI v1)), (0, .ref o)]) (st' := []) _ (ms_deC dX6_wall_74 ms_deN) rfl rfl ?_
        refine ms_W.sub (lv2 := [(0, _), (1, _), (2, _), (3, _), (4, _), (5, _)]) ?_ [5, 4, 3, 2, 1, 0] rfl
        exact s_X6_wall (a := v1) (b := v2) (a2 := v1) (b2 := v5) (iz := 1) (L := L) (xs := xs) (d0 := d) ho hox (by omega) ht ⟨hX6, hM6, fl, ly, hcf, hK⟩ (by omega) (by omega) (by omega) (by omega) (by exact Or.inr rfl) (by omega) (by omega)
  · skip
    refine ms_run (pc' := 28) (lv' := [(2, .int (nI v2)), (1, .int (nI v1)), (0, .ref o)]) (st' := [.ref o, .ref o]) _ (ms_deC dX6_wall_26 (ms_deC dX6_wall_27 ms_deN)) rfl rfl ?_
    refine ms_getf dX6_wall_28 fg_X6_16 hM3.O rfl ?_
    refine ms_callV0 (As := [.int (nI W)]) dX6_wall_31 (c_X6_draw (n := n) (L := L) (xs := xs) (d := (d + 1 + 1 + 1)) (N := W) hM3.O (by omega) hLb (by omega) (by omega)) cv_X6_56 hM3.O rfl ⟨Nat.le_of_ble_eq_true rfl, Nat.le_of_ble_eq_true rfl⟩ rfl (Nat.le_of_ble_eq_true rfl) (fun v9 n9 K4 hp9 => ?_)
    obtain ⟨v4, hv4, hr9, hnn9, eK4⟩ := hp9
    cases hr9
    rw [hnn9]
    have hM4 : fk_at K4 o x sb (nI (d + 1 + 1 + 1 + 1)) W H X.2.2.2 dr pa fa wa cnt wr fv X.1 := by rw [eK4]; exact hM3.ob ly hW0
    have hX4 : xs_at K4 x g q c j q2 c2 W H nr wl mk ds cnt dr pa X := hX3.cx ho (fun a h1 h2 => by rw [eK4]; exact ms_up_n _ _ (by omega))
    refine ms_goto (tgt := 38) dX6_wall_34 (by decide) ?_
    refine ms_run (pc' := 41) (lv' := [(3, .int (nI v4)), (2, .int (nI v2)), (1, .int (nI v1)), (0, .ref o)]) (st' := [.int 3, .ref o]) _ (ms_deC dX6_wall_38 (ms_deC dX6_wall_39 (ms_deC dX6_wall_40 ms_deN))) rfl rfl ?_
    refine ms_callV0 (As := [.int 3]) dX6_wall_41 (c_X6_draw (n := n) (L := L) (xs := xs) (d := (d + 1 + 1 + 1 + 1)) (N := 3) hM4.O (by omega) hLb (by omega) (by omega)) cv_X6_56 hM4.O rfl ⟨Nat.le_of_ble_eq_true rfl, Nat.le_of_ble_eq_true rfl⟩ rfl (Nat.le_of_ble_eq_true rfl) (fun v9 n9 K5 hp9 => ?_)
    obtain ⟨v5, hv5, hr9, hnn9, eK5⟩ := hp9
    cases hr9
    rw [hnn9]
    have hM5 : fk_at K5 o x sb (nI (d + 1 + 1 + 1 + 1 + 1)) W H X.2.2.2 dr pa fa wa cnt wr fv X.1 := by rw [eK5]; exact hM4.ob ly hW0
    have hX5 : xs_at K5 x g q c j q2 c2 W H nr wl mk ds cnt dr pa X := hX4.cx ho (fun a h1 h2 => by rw [eK5]; exact ms_up_n _ _ (by omega))
    refine ms_if_ne (tgt := 58) dX6_wall_44 (by decide) (fun h_44 => ?_) (fun h_44 => ?_)
    · skip
      refine ms_run (pc' := 63) (lv' := [(4, .int (nI v2)), (3, .int (nI v4)), (2, .int (nI v2)), (1, .int (nI v1)), (0, .ref o)]) (st' := [.int 3, .ref o]) _ (ms_deC dX6_wall_58 (ms_deC dX6_wall_59 (ms_deC dX6_wall_61 (ms_deC dX6_wall_62 ms_deN)))) rfl rfl ?_
      refine ms_callV0 (As := [.int 3]) dX6_wall_63 (c_X6_draw (n := n) (L := L) (xs := xs) (d := (d + 1 + 1 + 1 + 1 + 1)) (N := 3) hM5.O (by omega) hLb (by omega) (by omega)) cv_X6_56 hM5.O rfl ⟨Nat.le_of_ble_eq_true rfl, Nat.le_of_ble_eq_true rfl⟩ rfl (Nat.le_of_ble_eq_true rfl) (fun v9 n9 K6 hp9 => ?_)
      obtain ⟨v6, hv6, hr9, hnn9, eK6⟩ := hp9
      cases hr9
      rw [hnn9]
      have hM6 : fk_at K6 o x sb (nI (d + 1 + 1 + 1 + 1 + 1 + 1)) W H X.2.2.2 dr pa fa wa cnt wr fv X.1 := by rw [eK6]; exact hM5.ob ly hW0
      have hX6 : xs_at K6 x g q c j q2 c2 W H nr wl mk ds cnt dr pa X := hX5.cx ho (fun a h1 h2 => by rw [eK6]; exact ms_up_n _ _ (by omega))
      refine ms_if_le (tgt := 73) dX6_wall_66 (by decide) (fun h_66 => ?_) (fun h_66 => ?_)
      · skip
        refine ms_run (pc' := 76) (lv' := [(5, .int 0), (4, .int (nI v2)), (3, .int (nI v4)), (2, .int (nI v2)), (1, .int (nI v1)), (0, .ref o)]) (st' := []) _ (ms_deC dX6_wall_73 (ms_deC dX6_wall_74 ms_deN)) rfl rfl ?_
        refine ms_W.sub (lv2 := [(0, _), (1, _), (2, _), (3, _), (4, _), (5, _)]) ?_ [5, 4, 3, 2, 1, 0] rfl
        exact s_X6_wall (a := v1) (b := v2) (a2 := v4) (b2 := v2) (iz := 0) (L := L) (xs := xs) (d0 := d) ho hox (by omega) ht ⟨hX6, hM6, fl, ly, hcf, hK⟩ (by omega) (by omega) (by omega) (by omega) (by exact Or.inl rfl) (by omega) (by omega)
      · skip
        refine ms_run (pc' := 70) (lv' := [(4, .int (nI v2)), (3, .int (nI v4)), (2, .int (nI v2)), (1, .int (nI v1)), (0, .ref o)]) (st' := [.int 1]) _ (ms_deC dX6_wall_69 ms_deN) rfl rfl ?_
        refine ms_goto (tgt := 74) dX6_wall_70 (by decide) ?_
        refine ms_run (pc' := 76) (lv' := [(5, .int 1), (4, .int (nI v2)), (3, .int (nI v4)), (2, .int (nI v2)), (1, .int (nI v1)), (0, .ref o)]) (st' := []) _ (ms_deC dX6_wall_74 ms_deN) rfl rfl ?_
        refine ms_W.sub (lv2 := [(0, _), (1, _), (2, _), (3, _), (4, _), (5, _)]) ?_ [5, 4, 3, 2, 1, 0] rfl
        exact s_X6_wall (a := v1) (b := v2) (a2 := v4) (b2 := v2) (iz := 1) (L := L) (xs := xs) (d0 := d) ho hox (by omega) ht ⟨hX6, hM6, fl, ly, hcf, hK⟩ (by omega) (by omega) (by omega) (by omega) (by exact Or.inr rfl) (by omega) (by omega)
    · skip
      refine ms_run (pc' := 49) (lv' := [(3, .int (nI v4)), (2, .int (nI v2)), (1, .int (nI v1)), (0, .ref o)]) (st' := [.ref o, .ref o]) _ (ms_deC dX6_wall_47 (ms_deC dX6_wall_48 ms_deN)) rfl rfl ?_
      refine ms_getf dX6_wall_49 fg_X6_20 hM5.O rfl ?_
      refine ms_callV0 (As := [.int (nI H)]) dX6_wall_52 (c_X6_draw (n := n) (L := L) (xs := xs) (d := (d + 1 + 1 + 1 + 1 + 1)) (N := H) hM5.O (by omega) hLb (by omega) (by omega)) cv_X6_56 hM5.O rfl ⟨Nat.le_of_ble_eq_true rfl, Nat.le_of_ble_eq_true rfl⟩ rfl (Nat.le_of_ble_eq_true rfl) (fun v9 n9 K6 hp9 => ?_)
      obtain ⟨v6, hv6, hr9, hnn9, eK6⟩ := hp9
      cases hr9
      rw [hnn9]
      have hM6 : fk_at K6 o x sb (nI (d + 1 + 1 + 1 + 1 + 1 + 1)) W H X.2.2.2 dr pa fa wa cnt wr fv X.1 := by rw [eK6]; exact hM5.ob ly hW0
      have hX6 : xs_at K6 x g q c j q2 c2 W H nr wl mk ds cnt dr pa X := hX5.cx ho (fun a h1 h2 => by rw [eK6]; exact ms_up_n _ _ (by omega))
      refine ms_goto (tgt := 59) dX6_wall_55 (by decide) ?_
      refine ms_run (pc' := 63) (lv' := [(4, .int (nI v6)), (3, .int (nI v4)), (2, .int (nI v2)), (1, .int (nI v1)), (0, .ref o)]) (st' := [.int 3, .ref o]) _ (ms_deC dX6_wall_59 (ms_deC dX6_wall_61 (ms_deC dX6_wall_62 ms_deN))) rfl rfl ?_
      refine ms_callV0 (As := [.int 3]) dX6_wall_63 (c_X6_draw (n := n) (L := L) (xs := xs) (d := (d + 1 + 1 + 1 + 1 + 1 + 1)) (N := 3) hM6.O (by omega) hLb (by omega) (by omega)) cv_X6_56 hM6.O rfl ⟨Nat.le_of_ble_eq_true rfl, Nat.le_of_ble_eq_true rfl⟩ rfl (Nat.le_of_ble_eq_true rfl) (fun v9 n9 K7 hp9 => ?_)
      obtain ⟨v7, hv7, hr9, hnn9, eK7⟩ := hp9
      cases hr9
      rw [hnn9]
      have hM7 : fk_at K7 o x sb (nI (d + 1 + 1 + 1 + 1 + 1 + 1 + 1)) W H X.2.2.2 dr pa fa wa cnt wr fv X.1 := by rw [eK7]; exact hM6.ob ly hW0
      have hX7 : xs_at K7 x g q c j q2 c2 W H nr wl mk ds cnt dr pa X := hX6.cx ho (fun a h1 h2 => by rw [eK7]; exact ms_up_n _ _ (by omega))
      refine ms_if_le (tgt := 73) dX6_wall_66 (by decide) (fun h_66 => ?_) (fun h_66 => ?_)
      · skip
        refine ms_run (pc' := 76) (lv' := [(5, .int 0), (4, .int (nI v6)), (3, .int (nI v4)), (2, .int (nI v2)), (1, .int (nI v1)), (0, .ref o)]) (st' := []) _ (ms_deC dX6_wall_73 (ms_deC dX6_wall_74 ms_deN)) rfl rfl ?_
        refine ms_W.sub (lv2 := [(0, _), (1, _), (2, _), (3, _), (4, _), (5, _)]) ?_ [5, 4, 3, 2, 1, 0] rfl
        exact s_X6_wall (a := v1) (b := v2) (a2 := v4) (b2 := v6) (iz := 0) (L := L) (xs := xs) (d0 := d) ho hox (by omega) ht ⟨hX7, hM7, fl, ly, hcf, hK⟩ (by omega) (by omega) (by omega) (by omega) (by exact Or.inl rfl) (by omega) (by omega)
      · skip
        refine ms_run (pc' := 70) (lv' := [(4, .int (nI v6)), (3, .int (nI v4)), (2, .int (nI v2)), (1, .int (nI v1)), (0, .ref o)]) (st' := [.int 1]) _ (ms_deC dX6_wall_69 ms_deN) rfl rfl ?_
        refine ms_goto (tgt := 74) dX6_wall_70 (by decide) ?_
        refine ms_run (pc' := 76) (lv' := [(5, .int 1), (4, .int (nI v6)), (3, .int (nI v4)), (2, .int (nI v2)), (1, .int (nI v1)), (0, .ref o)]) (st' := []) _ (ms_deC dX6_wall_74 ms_deN) rfl rfl ?_
        refine ms_W.sub (lv2 := [(0, _), (1, _), (2, _), (3, _), (4, _), (5, _)]) ?_ [5, 4, 3, 2, 1, 0] rfl
        exact s_X6_wall (a := v1) (b := v2) (a2 := v4) (b2 := v6) (iz := 1) (L := L) (xs := xs) (d0 := d) ho hox (by omega) ht ⟨hX7, hM7, fl, ly, hcf, hK⟩ (by omega) (by omega) (by omega) (by omega) (by exact Or.inr rfl) (by omega) (by omega)

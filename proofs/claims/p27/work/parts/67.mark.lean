/-! Flock: mark -/
theorem gr_num_n {W H a b : Nat} (hW : W ≤ 14) (hH : H ≤ 14) (ha : a < W) (hb : b < H) : gr_num (nI W) (nI H) (nI a) (nI b) = nI (b * W + a) := by
  unfold gr_num
  rw [if_pos ⟨nI_pos' (by omega), nI_lt ha (by omega), nI_pos' (by omega), nI_lt hb (by omega)⟩, pk_mul, nI_add]
theorem cr_on_n {on : Nat → Int32} {f : Nat} (hf : f < 196) : cr_on on (nI f) = on f := by
  unfold cr_on
  rw [if_pos ⟨nI_pos' (by omega), show nI f < nI 196 from nI_lt hf (by omega)⟩, nI_clamp (by omega)]
theorem th_mrk_i {W H cnt g a b : Nat} {X : cX} (hW : W ≤ 14) (hH : H ≤ 14) (hc : cnt ≤ 24) (hon : onV (W * H) cnt X.1 X.2.2.1) (hg : g < 4) (ha : a < W) (hb : b < H) : (th_mrk W H cnt X (nI g) (nI a) (nI b) = some ISE ∧ ∃ k, k < cnt ∧ X.1 k 3 = nI (b * W + a) ∧ X.1 k 0 = nI g) ∨ (th_mrk W H cnt X (nI g) (nI a) (nI b) = none ∧ ∀ k, k < cnt → X.1 k 3 = nI (b * W + a) → ¬ X.1 k 0 = nI g) := by
  have h9 : W * H ≤ 196 := Nat.mul_le_mul hW hH
  have hf := fij ha hb
  unfold th_mrk
  rw [gr_num_n hW hH ha hb, cr_on_n (by omega), if_neg (fun z => by rcases z with z | z; exact z ⟨nI_pos' (by omega), show nI g < nI 4 from nI_lt hg (by omega)⟩; exact nI_m1 (by omega) z)]
  rcases hon (b * W + a) hf with ⟨h1, h2⟩ | ⟨k, hk, h1, h2, h3⟩
  · rw [h1]
    exact Or.inr ⟨if_neg (fun z => absurd z.1.1 (by decide)), fun k hk e => absurd e (h2 k hk)⟩
  · rw [h1, nI_clamp (by omega)]
    by_cases e : X.1 k 0 = nI g
    · exact Or.inl ⟨if_pos ⟨pIs_of hc hk, e⟩, k, hk, h2, e⟩
    · exact Or.inr ⟨if_neg (fun z => e z.2), fun j hj ej => by rw [h3 j hj ej]; exact e⟩
/-- all of the first k keep p -/
def myP (p : Nat → Prop) (k : Nat) (mv : Int32) : Prop := (mv = 1 ∧ ∀ j, j < k → ¬ p j) ∨ (mv = 0 ∧ ∃ j, j < k ∧ p j)
theorem myP.s1 {p : Nat → Prop} {k : Nat} {mv : Int32} (h : myP p k mv) (hp : ¬ p k) : myP p (k + 1) (mv &&& 1) := by
  rcases h with ⟨e, h1⟩ | ⟨e, j, hj, h1⟩ <;> subst e
  · refine Or.inl ⟨by decide, fun j hj => ?_⟩
    rcases Nat.lt_succ_iff_lt_or_eq.mp hj with h2 | h2
    · exact h1 j h2
    · rw [h2]; exact hp
  · exact Or.inr ⟨by decide, j, by omega, h1⟩
theorem myP.s0 {p : Nat → Prop} {k : Nat} {mv : Int32} (h : myP p k mv) (hp : p k) : myP p (k + 1) (mv &&& 0) := by
  rcases h with ⟨e, -⟩ | ⟨e, -⟩ <;> subst e <;> exact Or.inr ⟨by decide, k, by omega, hp⟩
set_option maxHeartbeats 1000000 in
set_option maxRecDepth 20000 in
theorem l2_X6_mark {n o x sb fa wa W H cnt : Nat} {G : ms_H} {dw cl dr pa : Int32} {wr : Nat → Nat} {fv u : Nat → Nat → Int32} (hM : fk_at G o x sb dw W H cl dr pa fa wa cnt wr fv u) (hW : W ≤ 14) (hH : H ≤ 14) (hc : cnt ≤ 24) {L : Nat} {xs : Nat → Int32} {P : ms_P} {kr zr : Nat} {gi : Nat} (hgi : gi < 4) {gN : Nat → Nat} (hg : ∀ f, f < W * H → fv f (2 + gi) = nI (gN f)) {td : Int32} {i : Nat} (hi : i < W) (kk : ms_W true (ms_S (sb, L, xs) m_X6_mark) P 214 [(0, .ref o), (1, .int (nI gi)), (5, .int td), (6, .int (nI (sn (fun i => sn (fun j => gN (j * W + i)) H) (i + 1)))), (7, .ref fa), (8, .int (nI W)), (9, .int (nI i))] [] n G kr zr) : ∀ (r k : Nat), k + r = H →  ms_W true (ms_S (sb, L, xs) m_X6_mark) (P) 183 [(0, .ref o), (1, .int (nI gi)), (5, .int td), (6, .int (nI (sn (fun i => sn (fun j => gN (j * W + i)) H) i + sn (fun j => gN (j * W + i)) k))), (7, .ref fa), (8, .int (nI W)), (9, .int (nI i)), (11, .ref (mn_ad fa H i)), (12, .int (nI H)), (13, .int (nI k))] [] n G kr zr := by
  intro r
  induction r with
  | zero =>
    intro k hk 
    have hkN : k = H := by omega
    refine ms_run (pc' := 187) (lv' := [(0, .ref o), (1, .int (nI gi)), (5, .int td), (6, .int (nI (sn (fun i => sn (fun j => gN (j * W + i)) H) i + sn (fun j => gN (j * W + i)) k))), (7, .ref fa), (8, .int (nI W)), (9, .int (nI i)), (11, .ref (mn_ad fa H i)), (12, .int (nI H)), (13, .int (nI k))]) (st' := [.int (nI H), .int (nI k)]) _ (ms_deC dX6_mark_183 (ms_deC dX6_mark_185 ms_deN)) rfl rfl ?_
    refine ms_icmp_ge (tgt := 214) dX6_mark_187 (by decide) (fun h_187 => ?_) (fun h_187 => ?_)
    · skip
      rw [hkN]
      rw [show sn (fun i => sn (fun j => gN (j * W + i)) H) i + sn (fun j => gN (j * W + i)) H = sn (fun i => sn (fun j => gN (j * W + i)) H) (i + 1) from rfl]
      refine ms_W.sub (lv2 := [(0, _), (1, _), (5, _), (6, _), (7, _), (8, _), (9, _)]) ?_ [0, 1, 2, 3, 4, 5, 6] rfl
      exact kk
    · skip
      exact absurd (by exact nI_le (b := k) (by omega) (by omega)) h_187
  | succ r ih =>
    intro k hk 
    have hlt : k < H := by omega
    refine ms_run (pc' := 187) (lv' := [(0, .ref o), (1, .int (nI gi)), (5, .int td), (6, .int (nI (sn (fun i => sn (fun j => gN (j * W + i)) H) i + sn (fun j => gN (j * W + i)) k))), (7, .ref fa), (8, .int (nI W)), (9, .int (nI i)), (11, .ref (mn_ad fa H i)), (12, .int (nI H)), (13, .int (nI k))]) (st' := [.int (nI H), .int (nI k)]) _ (ms_deC dX6_mark_183 (ms_deC dX6_mark_185 ms_deN)) rfl rfl ?_
    refine ms_icmp_ge (tgt := 214) dX6_mark_187 (by decide) (fun h_187 => ?_) (fun h_187 => ?_)
    · skip
      exact absurd h_187 (by exact nI_ge (b := H) (by omega) (by omega))
    · skip
      refine ms_run (pc' := 194) (lv' := [(0, .ref o), (1, .int (nI gi)), (5, .int td), (6, .int (nI (sn (fun i => sn (fun j => gN (j * W + i)) H) i + sn (fun j => gN (j * W + i)) k))), (7, .ref fa), (8, .int (nI W)), (9, .int (nI i)), (11, .ref (mn_ad fa H i)), (12, .int (nI H)), (13, .int (nI k))]) (st' := [.int (nI k), .ref (mn_ad fa H i)]) _ (ms_deC dX6_mark_190 (ms_deC dX6_mark_192 ms_deN)) rfl rfl ?_
      refine fk_ldB (j := k) dX6_mark_194 hM.2.1 (by first | assumption | omega) (by first | assumption | omega) hH ?_
      refine ms_run (pc' := 204) (lv' := [(14, .ref (mn_ad fa H i + 1 + k)), (0, .ref o), (1, .int (nI gi)), (5, .int td), (6, .int (nI (sn (fun i => sn (fun j => gN (j * W + i)) H) i + sn (fun j => gN (j * W + i)) k))), (7, .ref fa), (8, .int (nI W)), (9, .int (nI i)), (11, .ref (mn_ad fa H i)), (12, .int (nI H)), (13, .int (nI k))]) (st' := [.int (2 + (nI gi)), .ref (mn_ad fa H i + 1 + k), .int (nI (sn (fun i => sn (fun j => gN (j * W + i)) H) i + sn (fun j => gN (j * W + i)) k))]) _ (ms_deC dX6_mark_195 (ms_deC dX6_mark_197 (ms_deC dX6_mark_199 (ms_deC dX6_mark_201 (ms_deC dX6_mark_202 (ms_deC dX6_mark_203 ms_deN)))))) rfl rfl ?_
      refine fk_ldC (c := (2 + gi)) dX6_mark_204 hM.2.1 (by first | assumption | omega) (by first | assumption | omega) (by omega) (nI_add 2 gi) ?_
      refine ms_run (pc' := 211) (lv' := [(13, .int ((nI k) + 1)), (6, .int ((nI (sn (fun i => sn (fun j => gN (j * W + i)) H) i + sn (fun j => gN (j * W + i)) k)) + (fv (k * W + i) (2 + gi)))), (14, .ref (mn_ad fa H i + 1 + k)), (0, .ref o), (1, .int (nI gi)), (5, .int td), (7, .ref fa), (8, .int (nI W)), (9, .int (nI i)), (11, .ref (mn_ad fa H i)), (12, .int (nI H))]) (st' := []) _ (ms_deC dX6_mark_205 (ms_deC dX6_mark_206 (ms_deC dX6_mark_208 ms_deN))) rfl rfl ?_
      refine ms_goto (tgt := 183) dX6_mark_211 (by decide) ?_
      rw [hg _ (fij hi hlt), nI_add, show sn (fun i => sn (fun j => gN (j * W + i)) H) i + sn (fun j => gN (j * W + i)) k + gN (k * W + i) = sn (fun i => sn (fun j => gN (j * W + i)) H) i + sn (fun j => gN (j * W + i)) (k + 1) from Nat.add_assoc _ _ _]
      rw [nI_1 k]
      refine ms_W.sub (lv2 := [(0, _), (1, _), (5, _), (6, _), (7, _), (8, _), (9, _), (11, _), (12, _), (13, _)]) ?_ [3, 4, 5, 1, 6, 7, 8, 9, 10, 0] rfl
      exact ih (k + 1) (by omega)
set_option maxHeartbeats 1000000 in
set_option maxRecDepth 20000 in
theorem l1_X6_mark {n o x sb fa wa W H cnt : Nat} {G : ms_H} {dw cl dr pa : Int32} {wr : Nat → Nat} {fv u : Nat → Nat → Int32} (hM : fk_at G o x sb dw W H cl dr pa fa wa cnt wr fv u) (hW : W ≤ 14) (hH : H ≤ 14) (hc : cnt ≤ 24) {L : Nat} {xs : Nat → Int32} {P : ms_P} {kr zr : Nat} {gi : Nat} (hgi : gi < 4) {gN : Nat → Nat} (hg : ∀ f, f < W * H → fv f (2 + gi) = nI (gN f)) {td : Int32} (kk : ms_W true (ms_S (sb, L, xs) m_X6_mark) P 220 [(0, .ref o), (1, .int (nI gi)), (5, .int td), (6, .int (nI (sn gN (W * H))))] [] n G kr zr) : ∀ (r k : Nat), k + r = W →  ms_W true (ms_S (sb, L, xs) m_X6_mark) (P) 157 [(0, .ref o), (1, .int (nI gi)), (5, .int td), (6, .int (nI (sn (fun i => sn (fun j => gN (j * W + i)) H) k))), (7, .ref fa), (8, .int (nI W)), (9, .int (nI k))] [] n G kr zr := by
  intro r
  induction r with
  | zero =>
    intro k hk 
    have hkN : k = W := by omega
    refine ms_run (pc' := 161) (lv' := [(0, .ref o), (1, .int (nI gi)), (5, .int td), (6, .int (nI (sn (fun i => sn (fun j => gN (j * W + i)) H) k))), (7, .ref fa), (8, .int (nI W)), (9, .int (nI k))]) (st' := [.int (nI W), .int (nI k)]) _ (ms_deC dX6_mark_157 (ms_deC dX6_mark_159 ms_deN)) rfl rfl ?_
    refine ms_icmp_ge (tgt := 220) dX6_mark_161 (by decide) (fun h_161 => ?_) (fun h_161 => ?_)
    · skip
      rw [hkN, sn_cols]
      refine ms_W.sub (lv2 := [(0, _), (1, _), (5, _), (6, _)]) ?_ [0, 1, 2, 3] rfl
      exact kk
    · skip
      exact absurd (by exact nI_le (b := k) (by omega) (by omega)) h_161
  | succ r ih =>
    intro k hk 
    have hlt : k < W := by omega
    refine ms_run (pc' := 161) (lv' := [(0, .ref o), (1, .int (nI gi)), (5, .int td), (6, .int (nI (sn (fun i => sn (fun j => gN (j * W + i)) H) k))), (7, .ref fa), (8, .int (nI W)), (9, .int (nI k))]) (st' := [.int (nI W), .int (nI k)]) _ (ms_deC dX6_mark_157 (ms_deC dX6_mark_159 ms_deN)) rfl rfl ?_
    refine ms_icmp_ge (tgt := 220) dX6_mark_161 (by decide) (fun h_161 => ?_) (fun h_161 => ?_)
    · skip
      exact absurd h_161 (by exact nI_ge (b := W) (by omega) (by omega))
    · skip
      refine ms_run (pc' := 168) (lv' := [(0, .ref o), (1, .int (nI gi)), (5, .int td), (6, .int (nI (sn (fun i => sn (fun j => gN (j * W + i)) H) k))), (7, .ref fa), (8, .int (nI W)), (9, .int (nI k))]) (st' := [.int (nI k), .ref fa]) _ (ms_deC dX6_mark_164 (ms_deC dX6_mark_166 ms_deN)) rfl rfl ?_
      refine fk_ldA (i := k) dX6_mark_168 hM.2.1 (by first | assumption | omega) hW ?_
      refine ms_run (pc' := 177) (lv' := [(11, .ref (mn_ad fa H k)), (10, .ref (mn_ad fa H k)), (0, .ref o), (1, .int (nI gi)), (5, .int td), (6, .int (nI (sn (fun i => sn (fun j => gN (j * W + i)) H) k))), (7, .ref fa), (8, .int (nI W)), (9, .int (nI k))]) (st' := [.ref (mn_ad fa H k)]) _ (ms_deC dX6_mark_169 (ms_deC dX6_mark_171 (ms_deC dX6_mark_173 (ms_deC dX6_mark_175 ms_deN)))) rfl rfl ?_
      refine fk_lenR dX6_mark_177 hM.2.1 (by first | assumption | omega) ?_
      refine ms_run (pc' := 183) (lv' := [(13, .int 0), (12, .int (nI H)), (11, .ref (mn_ad fa H k)), (10, .ref (mn_ad fa H k)), (0, .ref o), (1, .int (nI gi)), (5, .int td), (6, .int (nI (sn (fun i => sn (fun j => gN (j * W + i)) H) k))), (7, .ref fa), (8, .int (nI W)), (9, .int (nI k))]) (st' := []) _ (ms_deC dX6_mark_178 (ms_deC dX6_mark_180 (ms_deC dX6_mark_181 ms_deN))) rfl rfl ?_
      rw [show nI (sn (fun i => sn (fun j => gN (j * W + i)) H) k) = nI (sn (fun i => sn (fun j => gN (j * W + i)) H) k + sn (fun j => gN (j * W + k)) 0) from rfl]
      refine ms_W.sub (lv2 := [(0, _), (1, _), (5, _), (6, _), (7, _), (8, _), (9, _), (11, _), (12, _), (13, _)]) ?_ [4, 5, 6, 7, 8, 9, 10, 2, 1, 0] rfl
      refine l2_X6_mark hM hW hH hc hgi hg (i := k) hlt ?_ H 0 (by omega)
      refine ms_run (pc' := 217) (lv' := [(9, .int ((nI k) + 1)), (0, .ref o), (1, .int (nI gi)), (5, .int td), (6, .int (nI (sn (fun i => sn (fun j => gN (j * W + i)) H) (k + 1)))), (7, .ref fa), (8, .int (nI W))]) (st' := []) _ (ms_deC dX6_mark_214 ms_deN) rfl rfl ?_
      refine ms_goto (tgt := 157) dX6_mark_217 (by decide) ?_
      rw [nI_1 k]
      refine ms_W.sub (lv2 := [(0, _), (1, _), (5, _), (6, _), (7, _), (8, _), (9, _)]) ?_ [1, 2, 3, 4, 5, 6, 0] rfl
      exact ih (k + 1) (by omega)
set_option maxHeartbeats 1000000 in
set_option maxRecDepth 20000 in
theorem l0_X6_mark {n o x sb fa wa W H cnt : Nat} {G : ms_H} {dw cl dr pa : Int32} {wr : Nat → Nat} {fv u : Nat → Nat → Int32} (hM : fk_at G o x sb dw W H cl dr pa fa wa cnt wr fv u) (hW : W ≤ 14) (hH : H ≤ 14) (hc : cnt ≤ 24) {L : Nat} {xs : Nat → Int32} {P : ms_P} {kr zr : Nat} (hv : hvX (nI (W * H)) cnt u) {v1 v2 v3 : Nat} (hv1 : v1 < 4) (hv2 : v2 < W) (hv3 : v3 < H) (kk : ∀ mv : Int32, myP (fun j => u j 3 = nI (v3 * W + v2) ∧ u j 0 = nI v1) cnt mv → ms_W true (ms_S (sb, L, xs) m_X6_mark) P 95 [(0, .ref o), (1, .int (nI v1)), (2, .int (nI v2)), (3, .int (nI v3)), (4, .int mv)] [] n G kr zr) : ∀ (r k : Nat), k + r = cnt → ∀ mv : Int32, myP (fun j => u j 3 = nI (v3 * W + v2) ∧ u j 0 = nI v1) k mv → ms_W true (ms_S (sb, L, xs) m_X6_mark) (P) 41 [(0, .ref o), (1, .int (nI v1)), (2, .int (nI v2)), (3, .int (nI v3)), (4, .int mv), (5, .ref wa), (6, .int (nI cnt)), (7, .int (nI k))] [] n G kr zr := by
  intro r
  induction r with
  | zero =>
    intro k hk mv hmv
    have hkN : k = cnt := by omega
    refine ms_run (pc' := 45) (lv' := [(0, .ref o), (1, .int (nI v1)), (2, .int (nI v2)), (3, .int (nI v3)), (4, .int mv), (5, .ref wa), (6, .int (nI cnt)), (7, .int (nI k))]) (st' := [.int (nI cnt), .int (nI k)]) _ (ms_deC dX6_mark_41 (ms_deC dX6_mark_43 ms_deN)) rfl rfl ?_
    refine ms_icmp_ge (tgt := 95) dX6_mark_45 (by decide) (fun h_45 => ?_) (fun h_45 => ?_)
    · skip
      refine ms_W.sub (lv2 := [(0, _), (1, _), (2, _), (3, _), (4, _)]) ?_ [0, 1, 2, 3, 4] rfl
      exact kk mv (by rw [hkN] at hmv; exact hmv)
    · skip
      exact absurd (by exact nI_le (b := k) (by omega) (by omega)) h_45
  | succ r ih =>
    intro k hk mv hmv
    have hlt : k < cnt := by omega
    refine ms_run (pc' := 45) (lv' := [(0, .ref o), (1, .int (nI v1)), (2, .int (nI v2)), (3, .int (nI v3)), (4, .int mv), (5, .ref wa), (6, .int (nI cnt)), (7, .int (nI k))]) (st' := [.int (nI cnt), .int (nI k)]) _ (ms_deC dX6_mark_41 (ms_deC dX6_mark_43 ms_deN)) rfl rfl ?_
    refine ms_icmp_ge (tgt := 95) dX6_mark_45 (by decide) (fun h_45 => ?_) (fun h_45 => ?_)
    · skip
      exact absurd h_45 (by exact nI_ge (b := cnt) (by omega) (by omega))
    · skip
      refine ms_run (pc' := 52) (lv' := [(0, .ref o), (1, .int (nI v1)), (2, .int (nI v2)), (3, .int (nI v3)), (4, .int mv), (5, .ref wa), (6, .int (nI cnt)), (7, .int (nI k))]) (st' := [.int (nI k), .ref wa]) _ (ms_deC dX6_mark_48 (ms_deC dX6_mark_50 ms_deN)) rfl rfl ?_
      refine fk_ldW (i := k) dX6_mark_52 hM.2.2 (by first | assumption | omega) hc ?_
      refine ms_run (pc' := 60) (lv' := [(8, .ref (wr k)), (0, .ref o), (1, .int (nI v1)), (2, .int (nI v2)), (3, .int (nI v3)), (4, .int mv), (5, .ref wa), (6, .int (nI cnt)), (7, .int (nI k))]) (st' := [.int 3, .ref (wr k), .int mv]) _ (ms_deC dX6_mark_53 (ms_deC dX6_mark_55 (ms_deC dX6_mark_57 (ms_deC dX6_mark_59 ms_deN)))) rfl rfl ?_
      refine fk_ldR (c := 3) dX6_mark_60 hM.2.2 (by first | assumption | omega) (by decide) rfl ?_
      refine ms_run (pc' := 62) (lv' := [(8, .ref (wr k)), (0, .ref o), (1, .int (nI v1)), (2, .int (nI v2)), (3, .int (nI v3)), (4, .int mv), (5, .ref wa), (6, .int (nI cnt)), (7, .int (nI k))]) (st' := [.int (nI v2), .int (xX W (u k 3)), .int mv]) _ (ms_deC dX6_mark_61 ms_deN) rfl rfl ?_
      refine ms_icmp_ne (tgt := 81) dX6_mark_62 (by decide) (fun h_62 => ?_) (fun h_62 => ?_)
      · skip
        refine ms_run (pc' := 82) (lv' := [(8, .ref (wr k)), (0, .ref o), (1, .int (nI v1)), (2, .int (nI v2)), (3, .int (nI v3)), (4, .int mv), (5, .ref wa), (6, .int (nI cnt)), (7, .int (nI k))]) (st' := [.int 1, .int mv]) _ (ms_deC dX6_mark_81 ms_deN) rfl rfl ?_
        refine ms_goto (tgt := 86) dX6_mark_82 (by decide) ?_
        refine ms_run (pc' := 92) (lv' := [(7, .int ((nI k) + 1)), (4, .int (mv &&& 1)), (8, .ref (wr k)), (0, .ref o), (1, .int (nI v1)), (2, .int (nI v2)), (3, .int (nI v3)), (5, .ref wa), (6, .int (nI cnt))]) (st' := []) _ (ms_deC dX6_mark_86 (ms_deC dX6_mark_87 (ms_deC dX6_mark_89 ms_deN))) rfl rfl ?_
        refine ms_goto (tgt := 41) dX6_mark_92 (by decide) ?_
        rw [nI_1 k]
        refine ms_W.sub (lv2 := [(0, _), (1, _), (2, _), (3, _), (4, _), (5, _), (6, _), (7, _)]) ?_ [3, 4, 5, 6, 1, 7, 8, 0] rfl
        exact ih (k + 1) (by omega) _ (hmv.s1 (fun z => by first | exact h_62 ((xy_at hW hH hv hlt hv2 hv3).mpr z.1).1 | exact h_70 ((xy_at hW hH hv hlt hv2 hv3).mpr z.1).2 | exact h_78 z.2))
      · skip
        refine ms_run (pc' := 68) (lv' := [(8, .ref (wr k)), (0, .ref o), (1, .int (nI v1)), (2, .int (nI v2)), (3, .int (nI v3)), (4, .int mv), (5, .ref wa), (6, .int (nI cnt)), (7, .int (nI k))]) (st' := [.int 4, .ref (wr k), .int mv]) _ (ms_deC dX6_mark_65 (ms_deC dX6_mark_67 ms_deN)) rfl rfl ?_
        refine fk_ldR (c := 4) dX6_mark_68 hM.2.2 (by first | assumption | omega) (by decide) rfl ?_
        refine ms_run (pc' := 70) (lv' := [(8, .ref (wr k)), (0, .ref o), (1, .int (nI v1)), (2, .int (nI v2)), (3, .int (nI v3)), (4, .int mv), (5, .ref wa), (6, .int (nI cnt)), (7, .int (nI k))]) (st' := [.int (nI v3), .int (yX W (u k 3)), .int mv]) _ (ms_deC dX6_mark_69 ms_deN) rfl rfl ?_
        refine ms_icmp_ne (tgt := 81) dX6_mark_70 (by decide) (fun h_70 => ?_) (fun h_70 => ?_)
        · skip
          refine ms_run (pc' := 82) (lv' := [(8, .ref (wr k)), (0, .ref o), (1, .int (nI v1)), (2, .int (nI v2)), (3, .int (nI v3)), (4, .int mv), (5, .ref wa), (6, .int (nI cnt)), (7, .int (nI k))]) (st' := [.int 1, .int mv]) _ (ms_deC dX6_mark_81 ms_deN) rfl rfl ?_
          refine ms_goto (tgt := 86) dX6_mark_82 (by decide) ?_
          refine ms_run (pc' := 92) (lv' := [(7, .int ((nI k) + 1)), (4, .int (mv &&& 1)), (8, .ref (wr k)), (0, .ref o), (1, .int (nI v1)), (2, .int (nI v2)), (3, .int (nI v3)), (5, .ref wa), (6, .int (nI cnt))]) (st' := []) _ (ms_deC dX6_mark_86 (ms_deC dX6_mark_87 (ms_deC dX6_mark_89 ms_deN))) rfl rfl ?_
          refine ms_goto (tgt := 41) dX6_mark_92 (by decide) ?_
          rw [nI_1 k]
          refine ms_W.sub (lv2 := [(0, _), (1, _), (2, _), (3, _), (4, _), (5, _), (6, _), (7, _)]) ?_ [3, 4, 5, 6, 1, 7, 8, 0] rfl
          exact ih (k + 1) (by omega) _ (hmv.s1 (fun z => by first | exact h_62 ((xy_at hW hH hv hlt hv2 hv3).mpr z.1).1 | exact h_70 ((xy_at hW hH hv hlt hv2 hv3).mpr z.1).2 | exact h_78 z.2))
        · skip
          refine ms_run (pc' := 76) (lv' := [(8, .ref (wr k)), (0, .ref o), (1, .int (nI v1)), (2, .int (nI v2)), (3, .int (nI v3)), (4, .int mv), (5, .ref wa), (6, .int (nI cnt)), (7, .int (nI k))]) (st' := [.int 0, .ref (wr k), .int mv]) _ (ms_deC dX6_mark_73 (ms_deC dX6_mark_75 ms_deN)) rfl rfl ?_
          refine fk_ldR (c := 0) dX6_mark_76 hM.2.2 (by first | assumption | omega) (by decide) rfl ?_
          refine ms_run (pc' := 78) (lv' := [(8, .ref (wr k)), (0, .ref o), (1, .int (nI v1)), (2, .int (nI v2)), (3, .int (nI v3)), (4, .int mv), (5, .ref wa), (6, .int (nI cnt)), (7, .int (nI k))]) (st' := [.int (nI v1), .int (u k 0), .int mv]) _ (ms_deC dX6_mark_77 ms_deN) rfl rfl ?_
          refine ms_icmp_eq (tgt := 85) dX6_mark_78 (by decide) (fun h_78 => ?_) (fun h_78 => ?_)
          · skip
            refine ms_run (pc' := 92) (lv' := [(7, .int ((nI k) + 1)), (4, .int (mv &&& 0)), (8, .ref (wr k)), (0, .ref o), (1, .int (nI v1)), (2, .int (nI v2)), (3, .int (nI v3)), (5, .ref wa), (6, .int (nI cnt))]) (st' := []) _ (ms_deC dX6_mark_85 (ms_deC dX6_mark_86 (ms_deC dX6_mark_87 (ms_deC dX6_mark_89 ms_deN)))) rfl rfl ?_
            refine ms_goto (tgt := 41) dX6_mark_92 (by decide) ?_
            rw [nI_1 k]
            refine ms_W.sub (lv2 := [(0, _), (1, _), (2, _), (3, _), (4, _), (5, _), (6, _), (7, _)]) ?_ [3, 4, 5, 6, 1, 7, 8, 0] rfl
            exact ih (k + 1) (by omega) _ (hmv.s0 ⟨(xy_at hW hH hv hlt hv2 hv3).mp ⟨h_62, h_70⟩, h_78⟩)
          · skip
            refine ms_run (pc' := 82) (lv' := [(8, .ref (wr k)), (0, .ref o), (1, .int (nI v1)), (2, .int (nI v2)), (3, .int (nI v3)), (4, .int mv), (5, .ref wa), (6, .int (nI cnt)), (7, .int (nI k))]) (st' := [.int 1, .int mv]) _ (ms_deC dX6_mark_81 ms_deN) rfl rfl ?_
            refine ms_goto (tgt := 86) dX6_mark_82 (by decide) ?_
            refine ms_run (pc' := 92) (lv' := [(7, .int ((nI k) + 1)), (4, .int (mv &&& 1)), (8, .ref (wr k)), (0, .ref o), (1, .int (nI v1)), (2, .int (nI v2)), (3, .int (nI v3)), (5, .ref wa), (6, .int (nI cnt))]) (st' := []) _ (ms_deC dX6_mark_86 (ms_deC dX6_mark_87 (ms_deC dX6_mark_89 ms_deN))) rfl rfl ?_
            refine ms_goto (tgt := 41) dX6_mark_92 (by decide) ?_
            rw [nI_1 k]
            refine ms_W.sub (lv2 := [(0, _), (1, _), (2, _), (3, _), (4, _), (5, _), (6, _), (7, _)]) ?_ [3, 4, 5, 6, 1, 7, 8, 0] rfl
            exact ih (k + 1) (by omega) _ (hmv.s1 (fun z => by first | exact h_62 ((xy_at hW hH hv hlt hv2 hv3).mpr z.1).1 | exact h_70 ((xy_at hW hH hv hlt hv2 hv3).mpr z.1).2 | exact h_78 z.2))
set_option maxHeartbeats 1000000 in
set_option maxRecDepth 20000 in
theorem c_X6_mark {n o x g q c j q2 c2 sb L d t W H cnt fa wa : Nat} {xs : Nat → Int32} {G : ms_H} {dr pa : Int32} {X : cX} {nr wl mk ds : Nat → Int32} {wr : Nat → Nat} {fv : Nat → Nat → Int32} (ho : ox x g q c j q2 c2) (hox : o < x) (hLb : L < 1000) (hd : d < 800) (ht : t < 790) (hS : fS o x g q c j q2 c2 sb n d t G W H cnt fa wa dr pa X nr wl mk ds wr fv) : ms_X (ms_S (sb, L, xs) m_X6_mark) [.ref o] n G 1 6 (fe_P o x g q c j q2 c2 sb n d t) := by
  refine ms_X.ofH (show plainName m_X6_mark.1.cls = true from by decide) (Nat.le_of_ble_eq_true rfl) (fun h => by cases h) ?_
  show ms_W true (ms_S (sb, L, xs) m_X6_mark) _ 0 [(0, .ref o)] [] n G 1 6
  obtain ⟨hX, hM, fl, ly, hcf, hK⟩ := hS
  have hK0 := hK
  obtain ⟨⟨b1, b2, b3, b4⟩, hc, hL, hfv, hht, hds, hdr, ⟨p9, hp91, hp92, hpa⟩, hwl, ⟨hcl, ht9⟩, hV, hI, hHt⟩ := hK0
  have hW : W ≤ 14 := by omega
  have hH : H ≤ 14 := by omega
  have hW0 : 0 < W := by omega
  have h9 : W * H ≤ 196 := Nat.mul_le_mul hW hH
  have fl0 := fl
  have ly0 := ly
  obtain ⟨l1, l2, l3, l4⟩ := fl0
  obtain ⟨y1, y2, y3⟩ := ly0
  have had := ad_fa (fa := fa) (H := H) (i := W)
  refine ms_run (pc' := 2) (lv' := [(0, .ref o)]) (st' := [.int 3, .ref o]) _ (ms_deC dX6_mark_0 (ms_deC dX6_mark_1 ms_deN)) rfl rfl ?_
  refine ms_callV0 (As := [.int 3]) dX6_mark_2 (c_X6_draw (n := n) (L := L) (xs := xs) (d := d) (N := 3) hM.O (by omega) hLb (by omega) (by omega)) cv_X6_56 hM.O rfl ⟨Nat.le_of_ble_eq_true rfl, Nat.le_of_ble_eq_true rfl⟩ rfl (Nat.le_of_ble_eq_true rfl) (fun v9 n9 K1 hp9 => ?_)
  obtain ⟨v1, hv1, hr9, hnn9, eK1⟩ := hp9
  cases hr9
  rw [hnn9]
  have hM1 : fk_at K1 o x sb (nI (d + 1)) W H X.2.2.2 dr pa fa wa cnt wr fv X.1 := by rw [eK1]; exact hM.ob ly hW0
  have hX1 : xs_at K1 x g q c j q2 c2 W H nr wl mk ds cnt dr pa X := hX.cx ho (fun a h1 h2 => by rw [eK1]; exact ms_up_n _ _ (by omega))
  refine ms_run (pc' := 8) (lv' := [(1, .int (nI v1)), (0, .ref o)]) (st' := [.ref o, .ref o]) _ (ms_deC dX6_mark_5 (ms_deC dX6_mark_6 (ms_deC dX6_mark_7 ms_deN))) rfl rfl ?_
  refine ms_getf dX6_mark_8 fg_X6_16 hM1.O rfl ?_
  refine ms_callV0 (As := [.int (nI W)]) dX6_mark_11 (c_X6_draw (n := n) (L := L) (xs := xs) (d := (d + 1)) (N := W) hM1.O (by omega) hLb (by omega) (by omega)) cv_X6_56 hM1.O rfl ⟨Nat.le_of_ble_eq_true rfl, Nat.le_of_ble_eq_true rfl⟩ rfl (Nat.le_of_ble_eq_true rfl) (fun v9 n9 K2 hp9 => ?_)
  obtain ⟨v2, hv2, hr9, hnn9, eK2⟩ := hp9
  cases hr9
  rw [hnn9]
  have hM2 : fk_at K2 o x sb (nI (d + 1 + 1)) W H X.2.2.2 dr pa fa wa cnt wr fv X.1 := by rw [eK2]; exact hM1.ob ly hW0
  have hX2 : xs_at K2 x g q c j q2 c2 W H nr wl mk ds cnt dr pa X := hX1.cx ho (fun a h1 h2 => by rw [eK2]; exact ms_up_n _ _ (by omega))
  refine ms_run (pc' := 17) (lv' := [(2, .int (nI v2)), (1, .int (nI v1)), (0, .ref o)]) (st' := [.ref o, .ref o]) _ (ms_deC dX6_mark_14 (ms_deC dX6_mark_15 (ms_deC dX6_mark_16 ms_deN))) rfl rfl ?_
  refine ms_getf dX6_mark_17 fg_X6_20 hM2.O rfl ?_
  refine ms_callV0 (As := [.int (nI H)]) dX6_mark_20 (c_X6_draw (n := n) (L := L) (xs := xs) (d := (d + 1 + 1)) (N := H) hM2.O (by omega) hLb (by omega) (by omega)) cv_X6_56 hM2.O rfl ⟨Nat.le_of_ble_eq_true rfl, Nat.le_of_ble_eq_true rfl⟩ rfl (Nat.le_of_ble_eq_true rfl) (fun v9 n9 K3 hp9 => ?_)
  obtain ⟨v3, hv3, hr9, hnn9, eK3⟩ := hp9
  cases hr9
  rw [hnn9]
  have hM3 : fk_at K3 o x sb (nI (d + 1 + 1 + 1)) W H X.2.2.2 dr pa fa wa cnt wr fv X.1 := by rw [eK3]; exact hM2.ob ly hW0
  have hX3 : xs_at K3 x g q c j q2 c2 W H nr wl mk ds cnt dr pa X := hX2.cx ho (fun a h1 h2 => by rw [eK3]; exact ms_up_n _ _ (by omega))
  refine ms_run (pc' := 28) (lv' := [(4, .int 1), (3, .int (nI v3)), (2, .int (nI v2)), (1, .int (nI v1)), (0, .ref o)]) (st' := [.ref o]) _ (ms_deC dX6_mark_23 (ms_deC dX6_mark_24 (ms_deC dX6_mark_25 (ms_deC dX6_mark_27 ms_deN)))) rfl rfl ?_
  refine ms_getf dX6_mark_28 fg_X6_36 hM3.O rfl ?_
  refine ms_run (pc' := 35) (lv' := [(5, .ref wa), (4, .int 1), (3, .int (nI v3)), (2, .int (nI v2)), (1, .int (nI v1)), (0, .ref o)]) (st' := [.ref wa]) _ (ms_deC dX6_mark_31 (ms_deC dX6_mark_33 ms_deN)) rfl rfl ?_
  refine fk_len dX6_mark_35 hM3.2.2 ?_
  refine ms_run (pc' := 41) (lv' := [(7, .int 0), (6, .int (nI cnt)), (5, .ref wa), (4, .int 1), (3, .int (nI v3)), (2, .int (nI v2)), (1, .int (nI v1)), (0, .ref o)]) (st' := []) _ (ms_deC dX6_mark_36 (ms_deC dX6_mark_38 (ms_deC dX6_mark_39 ms_deN))) rfl rfl ?_
  refine ms_W.sub (lv2 := [(0, _), (1, _), (2, _), (3, _), (4, _), (5, _), (6, _), (7, _)]) ?_ [7, 6, 5, 4, 3, 2, 1, 0] rfl
  refine l0_X6_mark hM3 hW hH hc hV.2.1 (by omega) hv2 hv3 ?_ cnt 0 (by omega) 1 (Or.inl ⟨rfl, fun j hj => absurd hj (Nat.not_lt_zero j)⟩)
  intro mv hmv
  have hf9 := fij hv2 hv3
  rcases th_mrk_i (g := v1) hW hH hc hV.1 (by omega) hv2 hv3 with ⟨hth, hex⟩ | ⟨hth, hno⟩
  · skip
    have emv : mv = 0 := by rcases hmv with ⟨z, h5⟩ | ⟨z, j, hj, h5⟩; obtain ⟨j, hj, h6⟩ := hex; exact absurd h6 (h5 j hj); exact z
    rw [emv]
    refine ms_run (pc' := 96) (lv' := [(0, .ref o), (1, .int (nI v1)), (2, .int (nI v2)), (3, .int (nI v3)), (4, .int 0)]) (st' := [.ref o]) _ (ms_deC dX6_mark_95 ms_deN) rfl rfl ?_
    refine ms_getf dX6_mark_96 fg_X6_10 hM3.O rfl ?_
    refine ms_run (pc' := 102) (lv' := [(0, .ref o), (1, .int (nI v1)), (2, .int (nI v2)), (3, .int (nI v3)), (4, .int 0)]) (st' := [.int (nI v3), .int (nI v2), .int (nI v1), .ref x]) _ (ms_deC dX6_mark_99 (ms_deC dX6_mark_100 (ms_deC dX6_mark_101 ms_deN))) rfl rfl ?_
    have hct := c_X5_mark (n := n) ho hX3 hc hW hH (nI v1) (nI v2) (nI v3)
    rw [nI_clamp (n := v1) (by omega), gr_num_n hW hH hv2 hv3, nI_clamp (n := (v3 * W + v2)) (by omega)] at hct
    refine ms_W.room (k2 := 1 + 0) (z2 := 6 + 0) ?_ (by omega) (by omega)
    have hth4 : th_mrk W H cnt X (nI v1) (nI v2) (nI v3) = some ISE := hth
    refine ms_callVX (As := [.int (nI v1), .int (nI v2), .int (nI v3)]) dX6_mark_102 (hct) cv_X6_88 hX3.1 rfl ⟨Nat.le_of_ble_eq_true rfl, Nat.le_of_ble_eq_true rfl⟩ rfl (Nat.le_of_ble_eq_true rfl) (fun v9 n4 K4 hp9 => ?_) (fun E9 n4 K4 q9 hp9 => ?_)
    · skip
      exact absurd ((xq_P.val hp9).1.symm.trans hth4) (fun z => by cases z)
    · skip
      obtain ⟨he9, rfl, hn4⟩ := xq_P.thw hp9
      rw [hth4] at he9
      cases he9
      refine ⟨233, hd_X6_mark_102, ?_⟩
      refine ms_run (pc' := 237) (lv' := [(5, .ref q9), (0, .ref o), (1, .int (nI v1)), (2, .int (nI v2)), (3, .int (nI v3)), (4, .int 0)]) (st' := [.int 0]) _ (ms_deC dX6_mark_233 (ms_deC dX6_mark_235 ms_deN)) rfl rfl ?_
      refine ms_if_ne (tgt := 244) dX6_mark_237 (by decide) (fun h9 => absurd h9 (by decide)) (fun _ => ?_)
      refine ms_run (pc' := 241) (lv' := [(5, .ref q9), (0, .ref o), (1, .int (nI v1)), (2, .int (nI v2)), (3, .int (nI v3)), (4, .int 0)]) (st' := [.int 1]) _ (ms_deC dX6_mark_240 ms_deN) rfl rfl ?_
      refine ms_goto (tgt := 245) dX6_mark_241 (by decide) ?_
      refine ms_reti (st := []) (ty := .boolean) dX6_mark_245 rfl rfl ?_
      exact ⟨rfl, by omega, d + 1 + 1 + 1, t, by omega, by omega, Nat.le_refl t, by omega, W, H, cnt, fa, wa, dr, pa, X, nr, wl, mk, ds, wr, fv, hX3, hM3, fl.le (by omega), ly, hcf, hK⟩
  · skip
    have emv : mv = 1 := by rcases hmv with ⟨z, h5⟩ | ⟨z, j, hj, h5⟩; exact z; exact absurd h5.2 (hno j hj h5.1)
    rw [emv]
    refine ms_run (pc' := 96) (lv' := [(0, .ref o), (1, .int (nI v1)), (2, .int (nI v2)), (3, .int (nI v3)), (4, .int 1)]) (st' := [.ref o]) _ (ms_deC dX6_mark_95 ms_deN) rfl rfl ?_
    refine ms_getf dX6_mark_96 fg_X6_10 hM3.O rfl ?_
    refine ms_run (pc' := 102) (lv' := [(0, .ref o), (1, .int (nI v1)), (2, .int (nI v2)), (3, .int (nI v3)), (4, .int 1)]) (st' := [.int (nI v3), .int (nI v2), .int (nI v1), .ref x]) _ (ms_deC dX6_mark_99 (ms_deC dX6_mark_100 (ms_deC dX6_mark_101 ms_deN))) rfl rfl ?_
    have hct := c_X5_mark (n := n) ho hX3 hc hW hH (nI v1) (nI v2) (nI v3)
    rw [nI_clamp (n := v1) (by omega), gr_num_n hW hH hv2 hv3, nI_clamp (n := (v3 * W + v2)) (by omega)] at hct
    refine ms_W.room (k2 := 1 + 0) (z2 := 6 + 0) ?_ (by omega) (by omega)
    have hth4 : th_mrk W H cnt X (nI v1) (nI v2) (nI v3) = none := hth
    refine ms_callVX (As := [.int (nI v1), .int (nI v2), .int (nI v3)]) dX6_mark_102 (hct) cv_X6_88 hX3.1 rfl ⟨Nat.le_of_ble_eq_true rfl, Nat.le_of_ble_eq_true rfl⟩ rfl (Nat.le_of_ble_eq_true rfl) (fun v9 n4 K4 hp9 => ?_) (fun E9 n4 K4 q9 hp9 => ?_)
    · skip
      obtain ⟨-, hv9, hQ4, hn4⟩ := xq_P.val hp9
      cases hv9
      obtain ⟨hX4, hF4⟩ := hQ4
      have hM4 : fk_at K4 o x sb (nI (d + 1 + 1 + 1)) W H X.2.2.2 dr pa fa wa cnt wr fv X.1 := hM3.cf (n := n) ly hW0 hox hcf hF4
      refine ms_run (pc' := 109) (lv' := [(5, .int (nI (ct (pMark (mkF mk v1 (v3 * W + v2)) v1) (W * H)))), (0, .ref o), (1, .int (nI v1)), (2, .int (nI v2)), (3, .int (nI v3)), (4, .int 1)]) (st' := [.int 1]) _ (ms_deC dX6_mark_105 (ms_deC dX6_mark_107 ms_deN)) rfl rfl ?_
      refine ms_if_ne (tgt := 114) dX6_mark_109 (by decide) (fun _ => ?_) (fun h9 => absurd h9 (by decide))
      refine ms_run (pc' := 115) (lv' := [(5, .int (nI (ct (pMark (mkF mk v1 (v3 * W + v2)) v1) (W * H)))), (0, .ref o), (1, .int (nI v1)), (2, .int (nI v2)), (3, .int (nI v3)), (4, .int 1)]) (st' := [.ref o]) _ (ms_deC dX6_mark_114 ms_deN) rfl rfl ?_
      refine ms_getf dX6_mark_115 fg_X6_31 hM4.O rfl ?_
      refine ms_run (pc' := 119) (lv' := [(5, .int (nI (ct (pMark (mkF mk v1 (v3 * W + v2)) v1) (W * H)))), (0, .ref o), (1, .int (nI v1)), (2, .int (nI v2)), (3, .int (nI v3)), (4, .int 1)]) (st' := [.int (nI v2), .ref fa]) _ (ms_deC dX6_mark_118 ms_deN) rfl rfl ?_
      refine fk_ldA (i := v2) dX6_mark_119 hM4.2.1 hv2 hW ?_
      refine ms_run (pc' := 121) (lv' := [(5, .int (nI (ct (pMark (mkF mk v1 (v3 * W + v2)) v1) (W * H)))), (0, .ref o), (1, .int (nI v1)), (2, .int (nI v2)), (3, .int (nI v3)), (4, .int 1)]) (st' := [.int (nI v3), .ref (mn_ad fa H v2)]) _ (ms_deC dX6_mark_120 ms_deN) rfl rfl ?_
      refine fk_ldB (j := v3) dX6_mark_121 hM4.2.1 hv2 hv3 hH ?_
      refine ms_run (pc' := 127) (lv' := [(5, .int (nI (ct (pMark (mkF mk v1 (v3 * W + v2)) v1) (W * H)))), (0, .ref o), (1, .int (nI v1)), (2, .int (nI v2)), (3, .int (nI v3)), (4, .int 1)]) (st' := [.ref o, .int 1, .int (2 + (nI v1)), .ref (mn_ad fa H v2 + 1 + v3)]) _ (ms_deC dX6_mark_122 (ms_deC dX6_mark_123 (ms_deC dX6_mark_124 (ms_deC dX6_mark_125 (ms_deC dX6_mark_126 ms_deN))))) rfl rfl ?_
      refine ms_getf dX6_mark_127 fg_X6_31 hM4.O rfl ?_
      refine ms_run (pc' := 131) (lv' := [(5, .int (nI (ct (pMark (mkF mk v1 (v3 * W + v2)) v1) (W * H)))), (0, .ref o), (1, .int (nI v1)), (2, .int (nI v2)), (3, .int (nI v3)), (4, .int 1)]) (st' := [.int (nI v2), .ref fa, .int 1, .int (2 + (nI v1)), .ref (mn_ad fa H v2 + 1 + v3)]) _ (ms_deC dX6_mark_130 ms_deN) rfl rfl ?_
      refine fk_ldA (i := v2) dX6_mark_131 hM4.2.1 hv2 hW ?_
      refine ms_run (pc' := 133) (lv' := [(5, .int (nI (ct (pMark (mkF mk v1 (v3 * W + v2)) v1) (W * H)))), (0, .ref o), (1, .int (nI v1)), (2, .int (nI v2)), (3, .int (nI v3)), (4, .int 1)]) (st' := [.int (nI v3), .ref (mn_ad fa H v2), .int 1, .int (2 + (nI v1)), .ref (mn_ad fa H v2 + 1 + v3)]) _ (ms_deC dX6_mark_132 ms_deN) rfl rfl ?_
      refine fk_ldB (j := v3) dX6_mark_133 hM4.2.1 hv2 hv3 hH ?_
      refine ms_run (pc' := 137) (lv' := [(5, .int (nI (ct (pMark (mkF mk v1 (v3 * W + v2)) v1) (W * H)))), (0, .ref o), (1, .int (nI v1)), (2, .int (nI v2)), (3, .int (nI v3)), (4, .int 1)]) (st' := [.int (2 + (nI v1)), .ref (mn_ad fa H v2 + 1 + v3), .int 1, .int (2 + (nI v1)), .ref (mn_ad fa H v2 + 1 + v3)]) _ (ms_deC dX6_mark_134 (ms_deC dX6_mark_135 (ms_deC dX6_mark_136 ms_deN))) rfl rfl ?_
      refine fk_ldC (c := (2 + v1)) dX6_mark_137 hM4.2.1 hv2 hv3 (by omega) (nI_add 2 v1) ?_
      refine ms_run (pc' := 139) (lv' := [(5, .int (nI (ct (pMark (mkF mk v1 (v3 * W + v2)) v1) (W * H)))), (0, .ref o), (1, .int (nI v1)), (2, .int (nI v2)), (3, .int (nI v3)), (4, .int 1)]) (st' := [.int (1 - (fv (v3 * W + v2) (2 + v1))), .int (2 + (nI v1)), .ref (mn_ad fa H v2 + 1 + v3)]) _ (ms_deC dX6_mark_138 ms_deN) rfl rfl ?_
      refine fk_stC (c := 2 + v1) dX6_mark_139 hM4.2.1 hv2 hv3 (by omega) (nI_add 2 v1) (fun Ks hKs hFs => ?_)
      have hend := ad_end (fa := fa) hv2 hv3
      have hlo9 := ad_fa (fa := fa) (H := H) (i := v2)
      have hMs : fk_at Ks o x sb (nI (d + 1 + 1 + 1)) W H X.2.2.2 dr pa fa wa cnt wr (va_up fv (v3 * W + v2) (upd (fv (v3 * W + v2)) (2 + v1) (1 - fv (v3 * W + v2) (2 + v1)))) X.1 := ⟨(hKs o (by omega)).trans hM4.1, hFs, hM4.2.2.fr (hKs wa (by omega)) (fun j hj => hKs (wr j) (by have := y3 j hj; omega))⟩
      have hXs : xs_at Ks x g q c j q2 c2 W H nr wl (mkF mk v1 (v3 * W + v2)) (rq (W * H) ds v1 (dXg (W * H) nr wl (mkF mk v1 (v3 * W + v2)) v1)) cnt dr pa X := hX4.cx ho (fun a h1 h2 => hKs a (by omega))
      have hK2 := hK.mark (g := v1) (f := (v3 * W + v2)) (by omega) hf9 (fun k hk e => hno k hk e)
      refine ms_run (pc' := 144) (lv' := [(6, .int 0), (5, .int (nI (ct (pMark (mkF mk v1 (v3 * W + v2)) v1) (W * H)))), (0, .ref o), (1, .int (nI v1)), (2, .int (nI v2)), (3, .int (nI v3)), (4, .int 1)]) (st' := [.ref o]) _ (ms_deC dX6_mark_140 (ms_deC dX6_mark_141 (ms_deC dX6_mark_143 ms_deN))) rfl rfl ?_
      refine ms_getf dX6_mark_144 fg_X6_31 hMs.O rfl ?_
      refine ms_run (pc' := 151) (lv' := [(7, .ref fa), (6, .int 0), (5, .int (nI (ct (pMark (mkF mk v1 (v3 * W + v2)) v1) (W * H)))), (0, .ref o), (1, .int (nI v1)), (2, .int (nI v2)), (3, .int (nI v3)), (4, .int 1)]) (st' := [.ref fa]) _ (ms_deC dX6_mark_147 (ms_deC dX6_mark_149 ms_deN)) rfl rfl ?_
      refine fk_lenF dX6_mark_151 hMs.2.1 ?_
      refine ms_run (pc' := 157) (lv' := [(9, .int 0), (8, .int (nI W)), (7, .ref fa), (6, .int 0), (5, .int (nI (ct (pMark (mkF mk v1 (v3 * W + v2)) v1) (W * H)))), (0, .ref o), (1, .int (nI v1)), (2, .int (nI v2)), (3, .int (nI v3)), (4, .int 1)]) (st' := []) _ (ms_deC dX6_mark_152 (ms_deC dX6_mark_154 (ms_deC dX6_mark_155 ms_deN))) rfl rfl ?_
      have hgN : ∀ f, f < W * H → (va_up fv (v3 * W + v2) (upd (fv (v3 * W + v2)) (2 + v1) (1 - fv (v3 * W + v2) (2 + v1)))) f (2 + v1) = nI (if pMark (mkF mk v1 (v3 * W + v2)) v1 f then 1 else 0) := fun f hf => by
        rw [(hK2.2.2.2.1 f hf).2 v1 (by omega)]
        unfold pMark
        by_cases hz : ¬ (mkF mk v1 (v3 * W + v2)) f &&& (1 <<< (nI v1 &&& 31)) = 0
        · rw [if_pos (decide_eq_true hz)]; exact if_pos hz
        · rw [if_neg (by simpa using hz)]; exact if_neg hz
      refine ms_W.sub (lv2 := [(0, _), (1, _), (5, _), (6, _), (7, _), (8, _), (9, _)]) ?_ [5, 6, 4, 3, 2, 1, 0] rfl
      refine l1_X6_mark (gi := v1) hMs hW hH hc (by omega) hgN ?_ W 0 (by omega)
      rw [← ct_sn]
      refine ms_run (pc' := 224) (lv' := [(0, .ref o), (1, .int (nI v1)), (5, .int (nI (ct (pMark (mkF mk v1 (v3 * W + v2)) v1) (W * H)))), (6, .int (nI (ct (pMark (mkF mk v1 (v3 * W + v2)) v1) (W * H))))]) (st' := [.int (nI (ct (pMark (mkF mk v1 (v3 * W + v2)) v1) (W * H))), .int (nI (ct (pMark (mkF mk v1 (v3 * W + v2)) v1) (W * H)))]) _ (ms_deC dX6_mark_220 (ms_deC dX6_mark_222 ms_deN)) rfl rfl ?_
      refine ms_icmp_ne (tgt := 231) dX6_mark_224 (by decide) (fun h_224 => ?_) (fun h_224 => ?_)
      · skip
        exact absurd rfl h_224
      · skip
        refine ms_run (pc' := 228) (lv' := [(0, .ref o), (1, .int (nI v1)), (5, .int (nI (ct (pMark (mkF mk v1 (v3 * W + v2)) v1) (W * H)))), (6, .int (nI (ct (pMark (mkF mk v1 (v3 * W + v2)) v1) (W * H))))]) (st' := [.int 1]) _ (ms_deC dX6_mark_227 ms_deN) rfl rfl ?_
        refine ms_goto (tgt := 232) dX6_mark_228 (by decide) ?_
        refine ms_reti (st := []) (ty := .boolean) dX6_mark_232 rfl rfl ?_
        exact ⟨rfl, by omega, d + 1 + 1 + 1, t, by omega, by omega, Nat.le_refl t, by omega, W, H, cnt, fa, wa, dr, pa, X, nr, wl, _, _, wr, _, hXs, hMs, fl.le (by omega), ly, hcf, hK2⟩
    · skip
      exact absurd ((xq_P.thw hp9).1.symm.trans hth4) (fun z => by cases z)

/-! what the law asks of the square -/
abbrev m_L_law : ms_D := (yL_law, cL_law, 15, (some .boolean), 11, 416, [], none)
section ASK
variable {x9 : Bool} {dd : ms_D} {P : ms_P} {pc : Nat} {lv : List (Nat × Value)} {st stk : List Value} {n o x g q c j q2 c2 sb d t W H cnt fa wa : Nat} {G : ms_H} {dr pa : Int32} {X : cX} {nr wl mk ds : Nat → Int32} {wr : Nat → Nat} {fv : Nat → Nat → Int32}
theorem fS.ask {n1 : Nat} {G1 : ms_H} (ho : ox x g q c j q2 c2) (hox : o < x) (hS : fS o x g q c j q2 c2 sb n d t G W H cnt fa wa dr pa X nr wl mk ds wr fv) (hX : xs_at G1 x g q c j q2 c2 W H nr wl mk ds cnt dr pa X) (hF : ms_fr x (c2 + 29 - x) G G1) (hn : n ≤ n1) : fS o x g q c j q2 c2 sb n1 d t G1 W H cnt fa wa dr pa X nr wl mk ds wr fv := by
  obtain ⟨-, hM, fl, ly, hcf, hK⟩ := hS
  have hW0 : 0 < W := by have := hK.1.1; omega
  exact ⟨hX, hM.cf (n := n) ly hW0 hox hcf hF, fl.le hn, ly, hcf, hK⟩
theorem lw_ask {kr zr kr1 zr1 i n9 : Nat} {d' : ms_D} {As : List Value} {th : Option String} {v v2 : Value} (hdg : decode dd.2.1 pc = .ok (.invokevirtual i, 3)) (ho : ox x g q c j q2 c2) (hox : o < x) (hS : fS o x g q c j q2 c2 sb n d t G W H cnt fa wa dr pa X nr wl mk ds wr fv)
    (hM : ms_X d' (.ref x :: As) n G 1 6 (xq_P n G th v (fun G1 => xs_at G1 x g q c j q2 c2 W H nr wl mk ds cnt dr pa X ∧ ms_fr x (c2 + 29 - x) G G1))) (hth : th = none) (hv : v = v2) (ok : ms_okV dd.1.cls i d' 5 n9) (hn : As.length = n9) (hR : ms_okR dd d') (hst : stk = As.reverse ++ .ref x :: st) (hW9 : (st.map fun v => v.category).sum ≤ 8) (hk : 1 + kr1 ≤ kr) (hz : 6 + zr1 ≤ zr)
    (k : ∀ (n1 : Nat) (G1 : ms_H), n ≤ n1 → fS o x g q c j q2 c2 sb n1 d t G1 W H cnt fa wa dr pa X nr wl mk ds wr fv → ms_W x9 dd P (pc + 3) lv (v2 :: st) n1 G1 kr1 zr1) (hs9 : d'.2.2.2.2.2.2.2 = none ∨ d'.2.2.2.2.2.2.2 = dd.2.2.2.2.2.2.2 := by first | exact Or.inl rfl | exact Or.inr rfl) : ms_W x9 dd P pc lv stk n G kr zr := by
  refine ms_W.room (k2 := 1 + kr1) (z2 := 6 + zr1) ?_ hk hz
  refine ms_callVX (As := As) hdg hM ok hS.1.1 hn hR hst hW9 (fun v9 n1 G1 hp => ?_) (fun E n1 G1 q9 hp => absurd ((xq_P.thw hp).1.symm.trans hth) (fun z => by cases z)) hs9
  obtain ⟨-, hv9, ⟨hX1, hF1⟩, hn1⟩ := xq_P.val hp
  rw [hv9, hv]
  exact k n1 G1 hn1 (hS.ask ho hox hX1 hF1 hn1)
theorem lw_askM {kr zr i n9 : Nat} {d' : ms_D} {As : List Value} {v v2 : Value} (hdg : decode dd.2.1 pc = .ok (.invokevirtual i, 3)) (ho : ox x g q c j q2 c2) (hox : o < x) (hS : fS o x g q c j q2 c2 sb n d t G W H cnt fa wa dr pa X nr wl mk ds wr fv)
    (hM : ms_M d' (.ref x :: As) n G 0 0 (xv_P n (some v) (fun G1 => xs_at G1 x g q c j q2 c2 W H nr wl mk ds cnt dr pa X ∧ ms_fr x (c2 + 29 - x) G G1))) (hv : v = v2) (ok : ms_okV dd.1.cls i d' 5 n9) (hn : As.length = n9) (hR : ms_okR dd d') (hst : stk = As.reverse ++ .ref x :: st) (hW9 : (st.map fun v => v.category).sum ≤ 8)
    (k : ∀ (G1 : ms_H), fS o x g q c j q2 c2 sb n d t G1 W H cnt fa wa dr pa X nr wl mk ds wr fv → ms_W x9 dd P (pc + 3) lv (v2 :: st) n G1 kr zr) (hs9 : d'.2.2.2.2.2.2.2 = none ∨ d'.2.2.2.2.2.2.2 = dd.2.2.2.2.2.2.2 := by first | exact Or.inl rfl | exact Or.inr rfl) : ms_W x9 dd P pc lv stk n G kr zr := by
  refine ms_callV0 (As := As) hdg hM ok hS.1.1 hn hR hst hW9 (fun v9 n1 G1 hp => ?_) hs9
  obtain ⟨hv9, hn1, hX1, hF1⟩ := hp
  cases hv9
  rw [hn1, hv]
  exact k G1 (hS.ask ho hox hX1 hF1 (Nat.le_refl n))
end ASK
theorem mx_ge {f : Nat → Int32} : ∀ {n j : Nat}, j < n → f j ≤ mx f n
  | 0, _, h => absurd h (Nat.not_lt_zero _)
  | n + 1, j, h => by
    show f j ≤ (if mx f n < f n then f n else mx f n)
    rcases Nat.lt_succ_iff_lt_or_eq.mp h with h1 | h1
    · have h2 := mx_ge (f := f) h1
      split
      · rename_i h3
        exact Int32.le_trans h2 (Int32.le_of_lt h3)
      · exact h2
    · subst h1
      split
      · exact Int32.le_refl _
      · rename_i h3
        exact Int32.not_lt.mp h3
section TH
variable {W H cnt a b k g w : Nat} {u : Nat → Nat → Int32}
theorem gl_n (hg : g < 4) : gl_is (nI g) := ⟨nI_pos' (by omega), show nI g < nI 4 from nI_lt hg (by omega)⟩
theorem th_fld_n (hW : W ≤ 14) (hH : H ≤ 14) (ha : a < W) (hb : b < H) (hw : w ≤ 3) : th_fld W H (nI a) (nI b) (nI w) = none := by
  have h9 : W * H ≤ 196 := Nat.mul_le_mul hW hH
  have hf := fij ha hb
  unfold th_fld
  rw [gr_num_n hW hH ha hb, if_neg (nI_m1 (by omega)), if_neg (fun z => by rcases z with z | z; exact nI_pos (by omega) z; exact absurd ((nI_ltI (a := 3) (by omega) (by omega)).mp z) (by omega))]
theorem th_far_n (hW : W ≤ 14) (hH : H ≤ 14) (hg : g < 4) (ha : a < W) (hb : b < H) : th_far W H (nI g) (nI a) (nI b) = none := by
  have h9 : W * H ≤ 196 := Nat.mul_le_mul hW hH
  have hf := fij ha hb
  unfold th_far
  rw [gr_num_n hW hH ha hb]
  exact if_neg (fun z => by rcases z with z | z; exact z (gl_n hg); exact nI_m1 (by omega) z)
theorem th_goal_n (hg : g < 4) : th_goal (nI g) = none := if_neg (fun z => z (gl_n hg))
theorem th_ofw_n {p : Prop} [Decidable p] (hc : cnt ≤ 24) (hk : k < cnt) (hp : ¬ p) : th_ofw cnt (nI k) p = none := by
  unfold th_ofw
  rw [if_neg (fun z => z (pIs_of hc hk)), if_neg hp]
theorem th_onw_n {p : Prop} [Decidable p] (hc : cnt ≤ 24) (hk : k < cnt) (hu : ¬ u k 3 = -1) (hp : ¬ p) : th_onw cnt u (nI k) p = none := by
  unfold th_onw
  rw [nI_clamp (by omega), if_neg (fun z => by rcases z with z | z; exact z (pIs_of hc hk); exact hu z), if_neg hp]
theorem th_wan_n (hc : cnt ≤ 24) (hk : k < cnt) (hu : ¬ u k 3 = -1) : th_wan cnt u (nI k) = none := by
  unfold th_wan
  rw [nI_clamp (by omega), if_neg (fun z => by rcases z with z | z; exact z (pIs_of hc hk); exact hu z)]
theorem th_wk_n (hc : cnt ≤ 24) (hk : k < cnt) : th_wk cnt (nI k) = none := if_neg (fun z => z (pIs_of hc hk))
theorem th_ahw_n (hc : cnt ≤ 24) (hk : k < cnt) : th_ahw cnt (nI k) 1 = none := by
  unfold th_ahw
  rw [if_neg (fun z => z (pIs_of hc hk)), if_neg (by decide)]
end TH
section VF
variable {W H cnt a b k g : Nat} {nr wl mk ds : Nat → Int32} {X : cX}
theorem vf_0 (hW : W ≤ 14) (hH : H ≤ 14) (ha : a < W) (hb : b < H) (he : b * W + a = k) (hwl : wl01 wl) : ffX (nI (W * H)) nr wl X (gr_num (nI W) (nI H) (nI a) (nI b)) (0 : Int32).toNatClampNeg = wl k := by
  have h9 : W * H ≤ 196 := Nat.mul_le_mul hW hH
  have hf := fij ha hb
  rw [gr_num_n hW hH ha hb, he]
  rw [he] at hf
  show (if sq_fr (nI (W * H)) wl (nI k) then (0 : Int32) else 1) = wl k
  have e1 : sq_fr (nI (W * H)) wl (nI k) ↔ wl k = 0 := by
    unfold sq_fr
    rw [nI_clamp (by omega)]
    exact ⟨fun z => z.2, fun z => ⟨⟨nI_pos' (by omega), nI_lt hf (by omega), show _ < nI 196 from nI_lt (by omega) (by omega)⟩, z⟩⟩
  rcases hwl k with z | z
  · rw [if_pos (e1.mpr z), z]
  · rw [if_neg (fun y => by rw [e1.mp y] at z; exact absurd z (by decide)), z]
theorem vf_1 (hW : W ≤ 14) (hH : H ≤ 14) (ha : a < W) (hb : b < H) (he : b * W + a = k) : ffX (nI (W * H)) nr wl X (gr_num (nI W) (nI H) (nI a) (nI b)) (1 : Int32).toNatClampNeg = X.2.2.1 k := by
  have h9 : W * H ≤ 196 := Nat.mul_le_mul hW hH
  have hf := fij ha hb
  rw [gr_num_n hW hH ha hb, he]
  rw [he] at hf
  exact cr_on_n (by omega)
theorem vf_2 (hW : W ≤ 14) (hH : H ≤ 14) (ha : a < W) (hb : b < H) (he : b * W + a = k) : ffX (nI (W * H)) nr wl X (gr_num (nI W) (nI H) (nI a) (nI b)) (2 : Int32).toNatClampNeg = X.2.1 k := by
  have h9 : W * H ≤ 196 := Nat.mul_le_mul hW hH
  have hf := fij ha hb
  rw [gr_num_n hW hH ha hb, he]
  rw [he] at hf
  show cr_ht X.2.1 (nI k) = _
  unfold cr_ht
  rw [nI_clamp (by omega)]
  exact if_pos ⟨nI_pos' (by omega), show _ < nI 196 from nI_lt (by omega) (by omega)⟩
theorem vf_3 (hW : W ≤ 14) (hH : H ≤ 14) (ha : a < W) (hb : b < H) (he : b * W + a = k) : ffX (nI (W * H)) nr wl X (gr_num (nI W) (nI H) (nI a) (nI b)) (3 : Int32).toNatClampNeg = nI (ct (pRound nr X.2.2.1 (nI k)) 8) := by
  rw [gr_num_n hW hH ha hb, he]
  rfl
theorem vf_d (hW : W ≤ 14) (hH : H ≤ 14) (ha : a < W) (hb : b < H) (he : b * W + a = k) (hds : dsR (W * H) nr wl mk ds) (hg : g < 4) : sq_ds (nI (W * H)) ds (nI g) (gr_num (nI W) (nI H) (nI a) (nI b)) = dXg (W * H) nr wl mk g k := by
  have h9 : W * H ≤ 196 := Nat.mul_le_mul hW hH
  have hf := fij ha hb
  rw [gr_num_n hW hH ha hb, he]
  rw [he] at hf
  unfold sq_ds
  rw [if_pos ⟨gl_n hg, nI_pos' (by omega), nI_lt hf (by omega), show _ < nI 196 from nI_lt (by omega) (by omega)⟩, show nI g * 196 + nI k = nI (g * 196 + k) from by rw [show (196 : Int32) = nI 196 from rfl, pk_mul, nI_add], nI_clamp (by omega), hds g hg k hf]
end VF

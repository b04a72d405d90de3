/-! Flock: far -/
set_option maxHeartbeats 1000000 in
set_option maxRecDepth 20000 in
theorem la2_X6_far {n o x sb fa wa W H cnt : Nat} {G : ms_H} {dw cl dr pa : Int32} {wr : Nat → Nat} {fv u : Nat → Nat → Int32} (hM : fk_at G o x sb dw W H cl dr pa fa wa cnt wr fv u) (hW : W ≤ 14) (hH : H ≤ 14) (hc : cnt ≤ 24) (fl : fk_lt n o fa W H wa cnt wr) (hW0 : 0 < W) {nr wl mk : Nat → Int32} (hL : lk_ok W H (W * H) nr) (hfv : fvR (W * H) wl mk fv) {gi : Nat} (hg : gi < 4) {i : Nat} (hi9 : i < W) (kk : ∀ K9 : ms_H, fk_at K9 o x sb dw W H cl dr pa fa wa cnt wr fv u → ms_fb noE n G K9 → far_at K9 n W H (scX W i H (fun f => if stX (W * H) wl mk gi f = true then 0 else -1) (fun _ => 0)) → ms_W false m_X6_far (fun r n1 G1 => r = .inl (some (.ref n)) ∧ n1 = n + 1 + W ∧ ms_fb noE n G G1 ∧ far_at G1 n W H (dXg (W * H) nr wl mk gi)) 79 [(0, .ref o), (1, .int (nI gi)), (2, .ref n), (3, .int (nI i))] [] (n + 1 + W) K9 0 0) : ∀ (r k : Nat), k + r = H → ∀ K : ms_H, fk_at K o x sb dw W H cl dr pa fa wa cnt wr fv u → ms_fb noE n G K → far_at K n W H (scX W i k (fun f => if stX (W * H) wl mk gi f = true then 0 else -1) (fun _ => 0)) → ms_W false m_X6_far (fun r n1 G1 => r = .inl (some (.ref n)) ∧ n1 = n + 1 + W ∧ ms_fb noE n G G1 ∧ far_at G1 n W H (dXg (W * H) nr wl mk gi)) 26 [(0, .ref o), (1, .int (nI gi)), (2, .ref n), (3, .int (nI i)), (4, .int (nI k))] [] (n + 1 + W) K 0 0 := by
  have h9 : W * H ≤ 196 := Nat.mul_le_mul hW hH
  have hDv : ∀ f, (dXg (W * H) nr wl mk gi) f = -1 ∨ ∃ v, v ≤ 196 ∧ (dXg (W * H) nr wl mk gi) f = nI v := fun f => dX_val h9 f
  intro r
  induction r with
  | zero =>
    intro k hk K hMK hFK hDK
    have hkN : k = H := by omega
    refine ms_run (pc' := 29) (lv' := [(0, .ref o), (1, .int (nI gi)), (2, .ref n), (3, .int (nI i)), (4, .int (nI k))]) (st' := [.ref o, .int (nI k)]) _ (ms_deC dX6_far_26 (ms_deC dX6_far_28 ms_deN)) rfl rfl ?_
    refine ms_getf dX6_far_29 fg_X6_20 hMK.1 rfl ?_
    refine ms_icmp_ge (tgt := 79) dX6_far_32 (by decide) (fun h_32 => ?_) (fun h_32 => ?_)
    · skip
      refine ms_W.sub (lv2 := [(0, _), (1, _), (2, _), (3, _)]) ?_ [0, 1, 2, 3] rfl
      exact kk K hMK hFK (by rw [hkN] at hDK; exact hDK)
    · skip
      exact absurd (by exact nI_le (b := k) (by omega) (by omega)) h_32
  | succ r ih =>
    intro k hk K hMK hFK hDK
    have hlt : k < H := by omega
    refine ms_run (pc' := 29) (lv' := [(0, .ref o), (1, .int (nI gi)), (2, .ref n), (3, .int (nI i)), (4, .int (nI k))]) (st' := [.ref o, .int (nI k)]) _ (ms_deC dX6_far_26 (ms_deC dX6_far_28 ms_deN)) rfl rfl ?_
    refine ms_getf dX6_far_29 fg_X6_20 hMK.1 rfl ?_
    refine ms_icmp_ge (tgt := 79) dX6_far_32 (by decide) (fun h_32 => ?_) (fun h_32 => ?_)
    · skip
      exact absurd h_32 (by exact nI_ge (b := H) (by omega) (by omega))
    · skip
      refine ms_run (pc' := 37) (lv' := [(0, .ref o), (1, .int (nI gi)), (2, .ref n), (3, .int (nI i)), (4, .int (nI k))]) (st' := [.int (nI i), .ref n]) _ (ms_deC dX6_far_35 (ms_deC dX6_far_36 ms_deN)) rfl rfl ?_
      refine far_ldA (i := i) dX6_far_37 hDK hi9 hW ?_
      refine ms_run (pc' := 44) (lv' := [(0, .ref o), (1, .int (nI gi)), (2, .ref n), (3, .int (nI i)), (4, .int (nI k))]) (st' := [.int (nI k), .int (nI i), .ref o, .int (nI k), .ref (n + 1 + i)]) _ (ms_deC dX6_far_38 (ms_deC dX6_far_40 (ms_deC dX6_far_41 (ms_deC dX6_far_42 ms_deN)))) rfl rfl ?_
      refine ms_callVp (As := [.int (nI i), .int (nI k)]) dX6_far_44 (c_X6_isFree hMK hW hH hc hi9 hlt) cv_X6_109 hMK.1 rfl ⟨Nat.le_of_ble_eq_true rfl, Nat.le_of_ble_eq_true rfl⟩ rfl (Nat.le_of_ble_eq_true rfl) ?_
      by_cases hc_44 : fv (k * W + i) 0 = 0
      · rw [show ms_b (fv (k * W + i) 0 = 0) = 1 from if_pos hc_44]
        refine ms_if_eq (tgt := 71) dX6_far_47 (by decide) (fun h9 => absurd h9 (by decide)) (fun _ => ?_)
        refine ms_run (pc' := 51) (lv' := [(0, .ref o), (1, .int (nI gi)), (2, .ref n), (3, .int (nI i)), (4, .int (nI k))]) (st' := [.ref o, .int (nI k), .ref (n + 1 + i)]) _ (ms_deC dX6_far_50 ms_deN) rfl rfl ?_
        refine ms_getf dX6_far_51 fg_X6_31 hMK.1 rfl ?_
        refine ms_run (pc' := 55) (lv' := [(0, .ref o), (1, .int (nI gi)), (2, .ref n), (3, .int (nI i)), (4, .int (nI k))]) (st' := [.int (nI i), .ref fa, .int (nI k), .ref (n + 1 + i)]) _ (ms_deC dX6_far_54 ms_deN) rfl rfl ?_
        refine fk_ldA (i := i) dX6_far_55 hMK.2.1 hi9 hW ?_
        refine ms_run (pc' := 58) (lv' := [(0, .ref o), (1, .int (nI gi)), (2, .ref n), (3, .int (nI i)), (4, .int (nI k))]) (st' := [.int (nI k), .ref (mn_ad fa H i), .int (nI k), .ref (n + 1 + i)]) _ (ms_deC dX6_far_56 ms_deN) rfl rfl ?_
        refine fk_ldB (j := k) dX6_far_58 hMK.2.1 hi9 (by first | assumption | omega) hH ?_
        refine ms_run (pc' := 62) (lv' := [(0, .ref o), (1, .int (nI gi)), (2, .ref n), (3, .int (nI i)), (4, .int (nI k))]) (st' := [.int (2 + (nI gi)), .ref (mn_ad fa H i + 1 + k), .int (nI k), .ref (n + 1 + i)]) _ (ms_deC dX6_far_59 (ms_deC dX6_far_60 (ms_deC dX6_far_61 ms_deN))) rfl rfl ?_
        refine fk_ldC (c := (2 + gi)) dX6_far_62 hMK.2.1 hi9 (by first | assumption | omega) (by omega) (nI_add 2 gi) ?_
        refine ms_run (pc' := 64) (lv' := [(0, .ref o), (1, .int (nI gi)), (2, .ref n), (3, .int (nI i)), (4, .int (nI k))]) (st' := [.int 1, .int (fv (k * W + i) (2 + gi)), .int (nI k), .ref (n + 1 + i)]) _ (ms_deC dX6_far_63 ms_deN) rfl rfl ?_
        refine ms_icmp_ne (tgt := 71) dX6_far_64 (by decide) (fun h_64 => ?_) (fun h_64 => ?_)
        · skip
          refine ms_run (pc' := 72) (lv' := [(0, .ref o), (1, .int (nI gi)), (2, .ref n), (3, .int (nI i)), (4, .int (nI k))]) (st' := [.int (-1), .int (nI k), .ref (n + 1 + i)]) _ (ms_deC dX6_far_71 ms_deN) rfl rfl ?_
          refine far_st (j := k) dX6_far_72 hDK hi9 (by first | assumption | omega) hH (fun K2 hK2 hD2 => ?_)
          have hM2 : fk_at K2 o x sb dw W H cl dr pa fa wa cnt wr fv u := hMK.hi fl hW0 (fun a ha => hK2 a (by omega))
          have hF2 : ms_fb noE n G K2 := fun a h1 h2 => (hK2 a (by omega)).trans (hFK a h1 h2)
          refine ms_run (pc' := 76) (lv' := [(4, .int ((nI k) + 1)), (0, .ref o), (1, .int (nI gi)), (2, .ref n), (3, .int (nI i))]) (st' := []) _ (ms_deC dX6_far_73 ms_deN) rfl rfl ?_
          refine ms_goto (tgt := 26) dX6_far_76 (by decide) ?_
          have hf9 := fij (H := H) hi9 hlt
          have hr9 := hfv (k * W + i) hf9
          have hv9 : ((-1) : Int32) = (fun f => if stX (W * H) wl mk gi f = true then 0 else -1) (k * W + i) := by
            have h5 : ¬ stX (W * H) wl mk gi (k * W + i) = true := fun z => by
              have z2 := of_decide_eq_true z
              first | exact hc_44 (by rw [hr9.1]; exact z2.2.1) | exact h_64 (by rw [hr9.2 gi hg]; exact if_pos z2.2.2)
            exact (if_neg h5).symm
          rw [nI_1 k]
          refine ms_W.sub (lv2 := [(0, _), (1, _), (2, _), (3, _), (4, _)]) ?_ [1, 2, 3, 4, 0] rfl
          exact ih (k + 1) (by omega) K2 hM2 hF2 (by rw [sc_put hi9 hv9] at hD2; exact hD2)
        · skip
          refine ms_run (pc' := 68) (lv' := [(0, .ref o), (1, .int (nI gi)), (2, .ref n), (3, .int (nI i)), (4, .int (nI k))]) (st' := [.int 0, .int (nI k), .ref (n + 1 + i)]) _ (ms_deC dX6_far_67 ms_deN) rfl rfl ?_
          refine ms_goto (tgt := 72) dX6_far_68 (by decide) ?_
          refine far_st (j := k) dX6_far_72 hDK hi9 (by first | assumption | omega) hH (fun K2 hK2 hD2 => ?_)
          have hM2 : fk_at K2 o x sb dw W H cl dr pa fa wa cnt wr fv u := hMK.hi fl hW0 (fun a ha => hK2 a (by omega))
          have hF2 : ms_fb noE n G K2 := fun a h1 h2 => (hK2 a (by omega)).trans (hFK a h1 h2)
          refine ms_run (pc' := 76) (lv' := [(4, .int ((nI k) + 1)), (0, .ref o), (1, .int (nI gi)), (2, .ref n), (3, .int (nI i))]) (st' := []) _ (ms_deC dX6_far_73 ms_deN) rfl rfl ?_
          refine ms_goto (tgt := 26) dX6_far_76 (by decide) ?_
          have hf9 := fij (H := H) hi9 hlt
          have hr9 := hfv (k * W + i) hf9
          have hv9 : (0 : Int32) = (fun f => if stX (W * H) wl mk gi f = true then 0 else -1) (k * W + i) := by
            have h5 : stX (W * H) wl mk gi (k * W + i) = true := decide_eq_true ⟨hf9, by rw [← hr9.1]; exact hc_44, by have h6 := hr9.2 gi hg; rw [h6] at h_64; exact Decidable.byContradiction (fun z => absurd (show ms_b _ = 1 from h_64) (by rw [show ms_b (¬ mk (k * W + i) &&& (1 <<< (nI gi &&& 31)) = 0) = 0 from if_neg z]; decide))⟩
            exact (if_pos h5).symm
          rw [nI_1 k]
          refine ms_W.sub (lv2 := [(0, _), (1, _), (2, _), (3, _), (4, _)]) ?_ [1, 2, 3, 4, 0] rfl
          exact ih (k + 1) (by omega) K2 hM2 hF2 (by rw [sc_put hi9 hv9] at hD2; exact hD2)
      · rw [show ms_b (fv (k * W + i) 0 = 0) = 0 from if_neg hc_44]
        refine ms_if_eq (tgt := 71) dX6_far_47 (by decide) (fun _ => ?_) (fun h9 => absurd h9 (by decide))
        refine ms_run (pc' := 72) (lv' := [(0, .ref o), (1, .int (nI gi)), (2, .ref n), (3, .int (nI i)), (4, .int (nI k))]) (st' := [.int (-1), .int (nI k), .ref (n + 1 + i)]) _ (ms_deC dX6_far_71 ms_deN) rfl rfl ?_
        refine far_st (j := k) dX6_far_72 hDK hi9 (by first | assumption | omega) hH (fun K2 hK2 hD2 => ?_)
        have hM2 : fk_at K2 o x sb dw W H cl dr pa fa wa cnt wr fv u := hMK.hi fl hW0 (fun a ha => hK2 a (by omega))
        have hF2 : ms_fb noE n G K2 := fun a h1 h2 => (hK2 a (by omega)).trans (hFK a h1 h2)
        refine ms_run (pc' := 76) (lv' := [(4, .int ((nI k) + 1)), (0, .ref o), (1, .int (nI gi)), (2, .ref n), (3, .int (nI i))]) (st' := []) _ (ms_deC dX6_far_73 ms_deN) rfl rfl ?_
        refine ms_goto (tgt := 26) dX6_far_76 (by decide) ?_
        have hf9 := fij (H := H) hi9 hlt
        have hr9 := hfv (k * W + i) hf9
        have hv9 : ((-1) : Int32) = (fun f => if stX (W * H) wl mk gi f = true then 0 else -1) (k * W + i) := by
          have h5 : ¬ stX (W * H) wl mk gi (k * W + i) = true := fun z => by
            have z2 := of_decide_eq_true z
            first | exact hc_44 (by rw [hr9.1]; exact z2.2.1) | exact h_64 (by rw [hr9.2 gi hg]; exact if_pos z2.2.2)
          exact (if_neg h5).symm
        rw [nI_1 k]
        refine ms_W.sub (lv2 := [(0, _), (1, _), (2, _), (3, _), (4, _)]) ?_ [1, 2, 3, 4, 0] rfl
        exact ih (k + 1) (by omega) K2 hM2 hF2 (by rw [sc_put hi9 hv9] at hD2; exact hD2)
set_option maxHeartbeats 1000000 in
set_option maxRecDepth 20000 in
theorem la1_X6_far {n o x sb fa wa W H cnt : Nat} {G : ms_H} {dw cl dr pa : Int32} {wr : Nat → Nat} {fv u : Nat → Nat → Int32} (hM : fk_at G o x sb dw W H cl dr pa fa wa cnt wr fv u) (hW : W ≤ 14) (hH : H ≤ 14) (hc : cnt ≤ 24) (fl : fk_lt n o fa W H wa cnt wr) (hW0 : 0 < W) {nr wl mk : Nat → Int32} (hL : lk_ok W H (W * H) nr) (hfv : fvR (W * H) wl mk fv) {gi : Nat} (hg : gi < 4) (kk : ∀ K9 : ms_H, fk_at K9 o x sb dw W H cl dr pa fa wa cnt wr fv u → ms_fb noE n G K9 → far_at K9 n W H (mdR (dXg (W * H) nr wl mk gi) 0) → ms_W false m_X6_far (fun r n1 G1 => r = .inl (some (.ref n)) ∧ n1 = n + 1 + W ∧ ms_fb noE n G G1 ∧ far_at G1 n W H (dXg (W * H) nr wl mk gi)) 85 [(0, .ref o), (1, .int (nI gi)), (2, .ref n)] [] (n + 1 + W) K9 0 0) : ∀ (r k : Nat), k + r = W → ∀ K : ms_H, fk_at K o x sb dw W H cl dr pa fa wa cnt wr fv u → ms_fb noE n G K → far_at K n W H (scX W k 0 (fun f => if stX (W * H) wl mk gi f = true then 0 else -1) (fun _ => 0)) → ms_W false m_X6_far (fun r n1 G1 => r = .inl (some (.ref n)) ∧ n1 = n + 1 + W ∧ ms_fb noE n G G1 ∧ far_at G1 n W H (dXg (W * H) nr wl mk gi)) 15 [(0, .ref o), (1, .int (nI gi)), (2, .ref n), (3, .int (nI k))] [] (n + 1 + W) K 0 0 := by
  have h9 : W * H ≤ 196 := Nat.mul_le_mul hW hH
  have hDv : ∀ f, (dXg (W * H) nr wl mk gi) f = -1 ∨ ∃ v, v ≤ 196 ∧ (dXg (W * H) nr wl mk gi) f = nI v := fun f => dX_val h9 f
  intro r
  induction r with
  | zero =>
    intro k hk K hMK hFK hDK
    have hkN : k = W := by omega
    refine ms_run (pc' := 17) (lv' := [(0, .ref o), (1, .int (nI gi)), (2, .ref n), (3, .int (nI k))]) (st' := [.ref o, .int (nI k)]) _ (ms_deC dX6_far_15 (ms_deC dX6_far_16 ms_deN)) rfl rfl ?_
    refine ms_getf dX6_far_17 fg_X6_16 hMK.1 rfl ?_
    refine ms_icmp_ge (tgt := 85) dX6_far_20 (by decide) (fun h_20 => ?_) (fun h_20 => ?_)
    · skip
      refine ms_W.sub (lv2 := [(0, _), (1, _), (2, _)]) ?_ [0, 1, 2] rfl
      exact kk K hMK hFK ((by rw [hkN] at hDK; exact hDK : far_at K n W H (scX W W 0 (fun f => if stX (W * H) wl mk gi f = true then 0 else -1) (fun _ => 0))).dc (fun f hf => by rw [sc_end f hf, md_0 h9]))
    · skip
      exact absurd (by exact nI_le (b := k) (by omega) (by omega)) h_20
  | succ r ih =>
    intro k hk K hMK hFK hDK
    have hlt : k < W := by omega
    refine ms_run (pc' := 17) (lv' := [(0, .ref o), (1, .int (nI gi)), (2, .ref n), (3, .int (nI k))]) (st' := [.ref o, .int (nI k)]) _ (ms_deC dX6_far_15 (ms_deC dX6_far_16 ms_deN)) rfl rfl ?_
    refine ms_getf dX6_far_17 fg_X6_16 hMK.1 rfl ?_
    refine ms_icmp_ge (tgt := 85) dX6_far_20 (by decide) (fun h_20 => ?_) (fun h_20 => ?_)
    · skip
      exact absurd h_20 (by exact nI_ge (b := W) (by omega) (by omega))
    · skip
      refine ms_run (pc' := 26) (lv' := [(4, .int 0), (0, .ref o), (1, .int (nI gi)), (2, .ref n), (3, .int (nI k))]) (st' := []) _ (ms_deC dX6_far_23 (ms_deC dX6_far_24 ms_deN)) rfl rfl ?_
      refine ms_W.sub (lv2 := [(0, _), (1, _), (2, _), (3, _), (4, _)]) ?_ [1, 2, 3, 4, 0] rfl
      refine la2_X6_far hM hW hH hc fl hW0 hL hfv hg (i := k) hlt ?_ H 0 (by omega) K hMK hFK hDK
      intro K9 hM9 hF9 hD9
      refine ms_run (pc' := 82) (lv' := [(3, .int ((nI k) + 1)), (0, .ref o), (1, .int (nI gi)), (2, .ref n)]) (st' := []) _ (ms_deC dX6_far_79 ms_deN) rfl rfl ?_
      refine ms_goto (tgt := 15) dX6_far_82 (by decide) ?_
      rw [nI_1 k]
      refine ms_W.sub (lv2 := [(0, _), (1, _), (2, _), (3, _)]) ?_ [1, 2, 3, 0] rfl
      exact ih (k + 1) (by omega) K9 hM9 hF9 (hD9.dc sc_row)
/-- whether one of the first s sides hits -/
def ivP (p : Nat → Prop) (s : Nat) (iv : Int32) : Prop := (iv = 0 ∧ ∀ j, j < s → ¬ p j) ∨ (iv = 1 ∧ ∃ j, j < s ∧ p j)
theorem ivP.s1 {p : Nat → Prop} {s : Nat} {iv : Int32} (h : ivP p s iv) (hp : p s) : ivP p (s + 1) (iv ||| 1) := by
  rcases h with ⟨e, -⟩ | ⟨e, -⟩ <;> subst e <;> exact Or.inr ⟨by decide, s, by omega, hp⟩
theorem ivP.s0 {p : Nat → Prop} {s : Nat} {iv : Int32} (h : ivP p s iv) (hp : ¬ p s) : ivP p (s + 1) (iv ||| 0) := by
  rcases h with ⟨e, h1⟩ | ⟨e, j, hj, h1⟩ <;> subst e
  · refine Or.inl ⟨by decide, fun j hj => ?_⟩
    rcases Nat.lt_succ_iff_lt_or_eq.mp hj with h2 | h2
    · exact h1 j h2
    · rw [h2]; exact hp
  · exact Or.inr ⟨by decide, j, by omega, h1⟩
set_option maxHeartbeats 1000000 in
set_option maxRecDepth 20000 in
theorem lb4_X6_far {n o x sb fa wa W H cnt : Nat} {G : ms_H} {dw cl dr pa : Int32} {wr : Nat → Nat} {fv u : Nat → Nat → Int32} (hM : fk_at G o x sb dw W H cl dr pa fa wa cnt wr fv u) (hW : W ≤ 14) (hH : H ≤ 14) (hc : cnt ≤ 24) (fl : fk_lt n o fa W H wa cnt wr) (hW0 : 0 < W) {nr wl mk : Nat → Int32} (hL : lk_ok W H (W * H) nr) (hfv : fvR (W * H) wl mk fv) {gi : Nat} (hg : gi < 4) {q : Nat} (hq : q < 900) {i b : Nat} (hi9 : i < W) (hb9 : b < H) (hwf : wl (b * W + i) = 0) {mo : Int32} {K : ms_H} (hMK : fk_at K o x sb dw W H cl dr pa fa wa cnt wr fv u) (hDK : far_at K n W H (scX W i b (mdR (dXg (W * H) nr wl mk gi) (q + 1)) (mdR (dXg (W * H) nr wl mk gi) q))) (kk : ∀ iv : Int32, ivP (fun s => ∃ t, t < W * H ∧ nbX nr (b * W + i) s = nI t ∧ (dXg (W * H) nr wl mk gi) t = nI q) 4 iv → ms_W false m_X6_far (fun r n1 G1 => r = .inl (some (.ref n)) ∧ n1 = n + 1 + W ∧ ms_fb noE n G G1 ∧ far_at G1 n W H (dXg (W * H) nr wl mk gi)) 227 [(0, .ref o), (1, .int (nI gi)), (2, .ref n), (3, .int (nI (q + 1))), (4, .int mo), (5, .int (nI i)), (6, .int (nI b)), (7, .int iv)] [] (n + 1 + W) K 0 0) : ∀ (r k : Nat), k + r = 4 → ∀ (iv : Int32), ivP (fun s => ∃ t, t < W * H ∧ nbX nr (b * W + i) s = nI t ∧ (dXg (W * H) nr wl mk gi) t = nI q) k iv → ms_W false m_X6_far (fun r n1 G1 => r = .inl (some (.ref n)) ∧ n1 = n + 1 + W ∧ ms_fb noE n G G1 ∧ far_at G1 n W H (dXg (W * H) nr wl mk gi)) 157 [(0, .ref o), (1, .int (nI gi)), (2, .ref n), (3, .int (nI (q + 1))), (4, .int mo), (5, .int (nI i)), (6, .int (nI b)), (7, .int iv), (8, .int (nI k))] [] (n + 1 + W) K 0 0 := by
  have h9 : W * H ≤ 196 := Nat.mul_le_mul hW hH
  have hDv : ∀ f, (dXg (W * H) nr wl mk gi) f = -1 ∨ ∃ v, v ≤ 196 ∧ (dXg (W * H) nr wl mk gi) f = nI v := fun f => dX_val h9 f
  have hfm := fd_mod (y := b) hi9
  intro r
  induction r with
  | zero =>
    intro k hk iv hiv
    have hkN : k = 4 := by omega
    refine ms_run (pc' := 160) (lv' := [(0, .ref o), (1, .int (nI gi)), (2, .ref n), (3, .int (nI (q + 1))), (4, .int mo), (5, .int (nI i)), (6, .int (nI b)), (7, .int iv), (8, .int (nI k))]) (st' := [.int 4, .int (nI k)]) _ (ms_deC dX6_far_157 (ms_deC dX6_far_159 ms_deN)) rfl rfl ?_
    refine ms_icmp_ge (tgt := 227) dX6_far_160 (by decide) (fun h_160 => ?_) (fun h_160 => ?_)
    · skip
      refine ms_W.sub (lv2 := [(0, _), (1, _), (2, _), (3, _), (4, _), (5, _), (6, _), (7, _)]) ?_ [0, 1, 2, 3, 4, 5, 6, 7] rfl
      exact kk _ (by rw [hkN] at hiv; exact hiv)
    · skip
      exact absurd (by show nI 4 ≤ nI k; exact nI_le (b := k) (by omega) (by omega)) h_160
  | succ r ih =>
    intro k hk iv hiv
    have hlt : k < 4 := by omega
    refine ms_run (pc' := 160) (lv' := [(0, .ref o), (1, .int (nI gi)), (2, .ref n), (3, .int (nI (q + 1))), (4, .int mo), (5, .int (nI i)), (6, .int (nI b)), (7, .int iv), (8, .int (nI k))]) (st' := [.int 4, .int (nI k)]) _ (ms_deC dX6_far_157 (ms_deC dX6_far_159 ms_deN)) rfl rfl ?_
    refine ms_icmp_ge (tgt := 227) dX6_far_160 (by decide) (fun h_160 => ?_) (fun h_160 => ?_)
    · skip
      exact absurd h_160 (by show ¬ nI 4 ≤ nI k; exact nI_ge (b := 4) (by omega) (by omega))
    · skip
      refine ms_run (pc' := 170) (lv' := [(0, .ref o), (1, .int (nI gi)), (2, .ref n), (3, .int (nI (q + 1))), (4, .int mo), (5, .int (nI i)), (6, .int (nI b)), (7, .int iv), (8, .int (nI k))]) (st' := [.int (nI k), .int (nI i), .ref o, .int iv]) _ (ms_deC dX6_far_163 (ms_deC dX6_far_165 (ms_deC dX6_far_166 (ms_deC dX6_far_168 ms_deN)))) rfl rfl ?_
      refine ms_callSp (As := [.int (nI k)]) dX6_far_170 (c_X6_sideX (nI k)) cs_X6_112 rfl ⟨Nat.le_of_ble_eq_true rfl, Nat.le_of_ble_eq_true rfl⟩ rfl (Nat.le_of_ble_eq_true rfl) ?_
      rcases nbX_val hL (fij (H := H) hi9 hb9) hW hH (show k < 8 by omega) with hn | ⟨t9, ht9, hn⟩
      · skip
        have hno : ¬ (fun s => ∃ t, t < W * H ∧ nbX nr (b * W + i) s = nI t ∧ (dXg (W * H) nr wl mk gi) t = nI q) k := fun ⟨t, ht, e1, e2⟩ => absurd (hn.symm.trans e1).symm (nI_m1 (by omega))
        refine ms_run (pc' := 178) (lv' := [(0, .ref o), (1, .int (nI gi)), (2, .ref n), (3, .int (nI (q + 1))), (4, .int mo), (5, .int (nI i)), (6, .int (nI b)), (7, .int iv), (8, .int (nI k))]) (st' := [.int (nI k), .int (nI b), .int ((nI i) + (fsx (nI k))), .ref o, .int iv]) _ (ms_deC dX6_far_173 (ms_deC dX6_far_174 (ms_deC dX6_far_176 ms_deN))) rfl rfl ?_
        refine ms_callSp (As := [.int (nI k)]) dX6_far_178 (c_X6_sideY (nI k)) cs_X6_115 rfl ⟨Nat.le_of_ble_eq_true rfl, Nat.le_of_ble_eq_true rfl⟩ rfl (Nat.le_of_ble_eq_true rfl) ?_
        refine ms_run (pc' := 182) (lv' := [(0, .ref o), (1, .int (nI gi)), (2, .ref n), (3, .int (nI (q + 1))), (4, .int mo), (5, .int (nI i)), (6, .int (nI b)), (7, .int iv), (8, .int (nI k))]) (st' := [.int ((nI b) + (fsy (nI k))), .int ((nI i) + (fsx (nI k))), .ref o, .int iv]) _ (ms_deC dX6_far_181 ms_deN) rfl rfl ?_
        refine ms_callVp (As := [.int ((nI i) + (fsx (nI k))), .int ((nI b) + (fsy (nI k)))]) dX6_far_182 (c_X6_isFreeO hMK hW hH hc (by have h5 := (side_at hL hW hH (fij (H := H) hi9 hb9) hlt).1 hn; rw [hfm.1, hfm.2] at h5; exact h5)) cv_X6_109 hMK.1 rfl ⟨Nat.le_of_ble_eq_true rfl, Nat.le_of_ble_eq_true rfl⟩ rfl (Nat.le_of_ble_eq_true rfl) ?_
        refine ms_if_eq (tgt := 217) dX6_far_185 (by decide) (fun _ => ?_) (fun h9 => absurd h9 (by decide))
        refine ms_run (pc' := 218) (lv' := [(0, .ref o), (1, .int (nI gi)), (2, .ref n), (3, .int (nI (q + 1))), (4, .int mo), (5, .int (nI i)), (6, .int (nI b)), (7, .int iv), (8, .int (nI k))]) (st' := [.int 0, .int iv]) _ (ms_deC dX6_far_217 ms_deN) rfl rfl ?_
        refine ms_ior dX6_far_218 ?_
        refine ms_run (pc' := 224) (lv' := [(8, .int ((nI k) + 1)), (7, .int (iv ||| 0)), (0, .ref o), (1, .int (nI gi)), (2, .ref n), (3, .int (nI (q + 1))), (4, .int mo), (5, .int (nI i)), (6, .int (nI b))]) (st' := []) _ (ms_deC dX6_far_219 (ms_deC dX6_far_221 ms_deN)) rfl rfl ?_
        refine ms_goto (tgt := 157) dX6_far_224 (by decide) ?_
        rw [nI_1 k]
        refine ms_W.sub (lv2 := [(0, _), (1, _), (2, _), (3, _), (4, _), (5, _), (6, _), (7, _), (8, _)]) ?_ [2, 3, 4, 5, 6, 7, 8, 1, 0] rfl
        exact ih (k + 1) (by omega) _ (hiv.s0 hno)
      · skip
        have hsd := (side_at hL hW hH (fij (H := H) hi9 hb9) hlt).2 t9 ht9 hn
        rw [hfm.1, hfm.2] at hsd
        have hd2 := fd_div ht9
        refine ms_run (pc' := 178) (lv' := [(0, .ref o), (1, .int (nI gi)), (2, .ref n), (3, .int (nI (q + 1))), (4, .int mo), (5, .int (nI i)), (6, .int (nI b)), (7, .int iv), (8, .int (nI k))]) (st' := [.int (nI k), .int (nI b), .int ((nI i) + (fsx (nI k))), .ref o, .int iv]) _ (ms_deC dX6_far_173 (ms_deC dX6_far_174 (ms_deC dX6_far_176 ms_deN))) rfl rfl ?_
        refine ms_callSp (As := [.int (nI k)]) dX6_far_178 (c_X6_sideY (nI k)) cs_X6_115 rfl ⟨Nat.le_of_ble_eq_true rfl, Nat.le_of_ble_eq_true rfl⟩ rfl (Nat.le_of_ble_eq_true rfl) ?_
        refine ms_run (pc' := 182) (lv' := [(0, .ref o), (1, .int (nI gi)), (2, .ref n), (3, .int (nI (q + 1))), (4, .int mo), (5, .int (nI i)), (6, .int (nI b)), (7, .int iv), (8, .int (nI k))]) (st' := [.int ((nI b) + (fsy (nI k))), .int ((nI i) + (fsx (nI k))), .ref o, .int iv]) _ (ms_deC dX6_far_181 ms_deN) rfl rfl ?_
        rw [hsd.1, hsd.2]
        refine ms_callVp (As := [.int (nI (t9 % W)), .int (nI (t9 / W))]) dX6_far_182 (c_X6_isFree hMK hW hH hc hd2.1 hd2.2.1) cv_X6_109 hMK.1 rfl ⟨Nat.le_of_ble_eq_true rfl, Nat.le_of_ble_eq_true rfl⟩ rfl (Nat.le_of_ble_eq_true rfl) ?_
        by_cases hc_182 : fv (t9 / W * W + t9 % W) 0 = 0
        · rw [show ms_b (fv (t9 / W * W + t9 % W) 0 = 0) = 1 from if_pos hc_182]
          refine ms_if_eq (tgt := 217) dX6_far_185 (by decide) (fun h9 => absurd h9 (by decide)) (fun _ => ?_)
          refine ms_run (pc' := 193) (lv' := [(0, .ref o), (1, .int (nI gi)), (2, .ref n), (3, .int (nI (q + 1))), (4, .int mo), (5, .int (nI i)), (6, .int (nI b)), (7, .int iv), (8, .int (nI k))]) (st' := [.int (nI k), .int (nI i), .ref n, .int iv]) _ (ms_deC dX6_far_188 (ms_deC dX6_far_189 (ms_deC dX6_far_191 ms_deN))) rfl rfl ?_
          refine ms_callSp (As := [.int (nI k)]) dX6_far_193 (c_X6_sideX (nI k)) cs_X6_112 rfl ⟨Nat.le_of_ble_eq_true rfl, Nat.le_of_ble_eq_true rfl⟩ rfl (Nat.le_of_ble_eq_true rfl) ?_
          refine ms_run (pc' := 197) (lv' := [(0, .ref o), (1, .int (nI gi)), (2, .ref n), (3, .int (nI (q + 1))), (4, .int mo), (5, .int (nI i)), (6, .int (nI b)), (7, .int iv), (8, .int (nI k))]) (st' := [.int ((nI i) + (fsx (nI k))), .ref n, .int iv]) _ (ms_deC dX6_far_196 ms_deN) rfl rfl ?_
          rw [hsd.1]
          refine far_ldA (i := (t9 % W)) dX6_far_197 hDK hd2.1 hW ?_
          refine ms_run (pc' := 202) (lv' := [(0, .ref o), (1, .int (nI gi)), (2, .ref n), (3, .int (nI (q + 1))), (4, .int mo), (5, .int (nI i)), (6, .int (nI b)), (7, .int iv), (8, .int (nI k))]) (st' := [.int (nI k), .int (nI b), .ref (n + 1 + (t9 % W)), .int iv]) _ (ms_deC dX6_far_198 (ms_deC dX6_far_200 ms_deN)) rfl rfl ?_
          refine ms_callSp (As := [.int (nI k)]) dX6_far_202 (c_X6_sideY (nI k)) cs_X6_115 rfl ⟨Nat.le_of_ble_eq_true rfl, Nat.le_of_ble_eq_true rfl⟩ rfl (Nat.le_of_ble_eq_true rfl) ?_
          refine ms_run (pc' := 206) (lv' := [(0, .ref o), (1, .int (nI gi)), (2, .ref n), (3, .int (nI (q + 1))), (4, .int mo), (5, .int (nI i)), (6, .int (nI b)), (7, .int iv), (8, .int (nI k))]) (st' := [.int ((nI b) + (fsy (nI k))), .ref (n + 1 + (t9 % W)), .int iv]) _ (ms_deC dX6_far_205 ms_deN) rfl rfl ?_
          rw [hsd.2]
          refine far_ldI (j := (t9 / W)) dX6_far_206 hDK hd2.1 hd2.2.1 hH ?_
          refine ms_run (pc' := 210) (lv' := [(0, .ref o), (1, .int (nI gi)), (2, .ref n), (3, .int (nI (q + 1))), (4, .int mo), (5, .int (nI i)), (6, .int (nI b)), (7, .int iv), (8, .int (nI k))]) (st' := [.int ((nI (q + 1)) - 1), .int ((scX W i b (mdR (dXg (W * H) nr wl mk gi) (q + 1)) (mdR (dXg (W * H) nr wl mk gi) q)) ((t9 / W) * W + (t9 % W))), .int iv]) _ (ms_deC dX6_far_207 (ms_deC dX6_far_208 (ms_deC dX6_far_209 ms_deN))) rfl rfl ?_
          refine ms_icmp_ne (tgt := 217) dX6_far_210 (by decide) (fun h_210 => ?_) (fun h_210 => ?_)
          · skip
            refine ms_run (pc' := 218) (lv' := [(0, .ref o), (1, .int (nI gi)), (2, .ref n), (3, .int (nI (q + 1))), (4, .int mo), (5, .int (nI i)), (6, .int (nI b)), (7, .int iv), (8, .int (nI k))]) (st' := [.int 0, .int iv]) _ (ms_deC dX6_far_217 ms_deN) rfl rfl ?_
            refine ms_ior dX6_far_218 ?_
            refine ms_run (pc' := 224) (lv' := [(8, .int ((nI k) + 1)), (7, .int (iv ||| 0)), (0, .ref o), (1, .int (nI gi)), (2, .ref n), (3, .int (nI (q + 1))), (4, .int mo), (5, .int (nI i)), (6, .int (nI b))]) (st' := []) _ (ms_deC dX6_far_219 (ms_deC dX6_far_221 ms_deN)) rfl rfl ?_
            refine ms_goto (tgt := 157) dX6_far_224 (by decide) ?_
            rw [nI_1 k]
            refine ms_W.sub (lv2 := [(0, _), (1, _), (2, _), (3, _), (4, _), (5, _), (6, _), (7, _), (8, _)]) ?_ [2, 3, 4, 5, 6, 7, 8, 1, 0] rfl
            exact ih (k + 1) (by omega) _ (hiv.s0 (fun ⟨t, ht, e1, e2⟩ => by have e3 := (nI_eq (by omega) (by omega)).mp (hn.symm.trans e1); subst e3; first | exact h_210 (by rw [hd2.2.2, nI_pred]; exact (sc_q (hDv t9) hq).mpr e2) | exact hc_182 (by rw [hd2.2.2, (hfv t9 ht9).1]; exact (dX_free h9 (f := t9) (by rw [e2]; exact nI_m1 (by omega))).2)))
          · skip
            refine ms_run (pc' := 214) (lv' := [(0, .ref o), (1, .int (nI gi)), (2, .ref n), (3, .int (nI (q + 1))), (4, .int mo), (5, .int (nI i)), (6, .int (nI b)), (7, .int iv), (8, .int (nI k))]) (st' := [.int 1, .int iv]) _ (ms_deC dX6_far_213 ms_deN) rfl rfl ?_
            refine ms_goto (tgt := 218) dX6_far_214 (by decide) ?_
            refine ms_ior dX6_far_218 ?_
            refine ms_run (pc' := 224) (lv' := [(8, .int ((nI k) + 1)), (7, .int (iv ||| 1)), (0, .ref o), (1, .int (nI gi)), (2, .ref n), (3, .int (nI (q + 1))), (4, .int mo), (5, .int (nI i)), (6, .int (nI b))]) (st' := []) _ (ms_deC dX6_far_219 (ms_deC dX6_far_221 ms_deN)) rfl rfl ?_
            refine ms_goto (tgt := 157) dX6_far_224 (by decide) ?_
            rw [nI_1 k]
            refine ms_W.sub (lv2 := [(0, _), (1, _), (2, _), (3, _), (4, _), (5, _), (6, _), (7, _), (8, _)]) ?_ [2, 3, 4, 5, 6, 7, 8, 1, 0] rfl
            exact ih (k + 1) (by omega) _ (hiv.s1 ⟨t9, ht9, hn, (by rw [hd2.2.2, nI_pred] at h_210; exact (sc_q (hDv t9) hq).mp h_210)⟩)
        · rw [show ms_b (fv (t9 / W * W + t9 % W) 0 = 0) = 0 from if_neg hc_182]
          refine ms_if_eq (tgt := 217) dX6_far_185 (by decide) (fun _ => ?_) (fun h9 => absurd h9 (by decide))
          refine ms_run (pc' := 218) (lv' := [(0, .ref o), (1, .int (nI gi)), (2, .ref n), (3, .int (nI (q + 1))), (4, .int mo), (5, .int (nI i)), (6, .int (nI b)), (7, .int iv), (8, .int (nI k))]) (st' := [.int 0, .int iv]) _ (ms_deC dX6_far_217 ms_deN) rfl rfl ?_
          refine ms_ior dX6_far_218 ?_
          refine ms_run (pc' := 224) (lv' := [(8, .int ((nI k) + 1)), (7, .int (iv ||| 0)), (0, .ref o), (1, .int (nI gi)), (2, .ref n), (3, .int (nI (q + 1))), (4, .int mo), (5, .int (nI i)), (6, .int (nI b))]) (st' := []) _ (ms_deC dX6_far_219 (ms_deC dX6_far_221 ms_deN)) rfl rfl ?_
          refine ms_goto (tgt := 157) dX6_far_224 (by decide) ?_
          rw [nI_1 k]
          refine ms_W.sub (lv2 := [(0, _), (1, _), (2, _), (3, _), (4, _), (5, _), (6, _), (7, _), (8, _)]) ?_ [2, 3, 4, 5, 6, 7, 8, 1, 0] rfl
          exact ih (k + 1) (by omega) _ (hiv.s0 (fun ⟨t, ht, e1, e2⟩ => by have e3 := (nI_eq (by omega) (by omega)).mp (hn.symm.trans e1); subst e3; first | exact h_210 (by rw [hd2.2.2, nI_pred]; exact (sc_q (hDv t9) hq).mpr e2) | exact hc_182 (by rw [hd2.2.2, (hfv t9 ht9).1]; exact (dX_free h9 (f := t9) (by rw [e2]; exact nI_m1 (by omega))).2)))
theorem sc_ne_or {W i k f : Nat} (hi : i < W) : (f % W < i ∨ (f % W = i ∧ f / W < k + 1)) ↔ ((f % W < i ∨ (f % W = i ∧ f / W < k)) ∨ f = k * W + i) := by
  by_cases e : f = k * W + i
  · have h := fd_mod (y := k) hi
    rw [← e] at h
    exact ⟨fun _ => Or.inr e, fun _ => Or.inr ⟨h.1, by rw [h.2]; omega⟩⟩
  · rw [← sc_ne hi e]
    exact ⟨Or.inl, fun z => z.resolve_right e⟩
set_option maxHeartbeats 1000000 in
set_option maxRecDepth 20000 in
theorem lb3_X6_far {n o x sb fa wa W H cnt : Nat} {G : ms_H} {dw cl dr pa : Int32} {wr : Nat → Nat} {fv u : Nat → Nat → Int32} (hM : fk_at G o x sb dw W H cl dr pa fa wa cnt wr fv u) (hW : W ≤ 14) (hH : H ≤ 14) (hc : cnt ≤ 24) (fl : fk_lt n o fa W H wa cnt wr) (hW0 : 0 < W) {nr wl mk : Nat → Int32} (hL : lk_ok W H (W * H) nr) (hfv : fvR (W * H) wl mk fv) {gi : Nat} (hg : gi < 4) {q : Nat} (hq : q < 900) {i : Nat} (hi9 : i < W) (kk : ∀ (K9 : ms_H) (mo : Int32), fk_at K9 o x sb dw W H cl dr pa fa wa cnt wr fv u → ms_fb noE n G K9 → far_at K9 n W H (scX W i H (mdR (dXg (W * H) nr wl mk gi) (q + 1)) (mdR (dXg (W * H) nr wl mk gi) q)) → (mo = 0 ∨ mo = 1) ∧ (mo = 0 → ∀ f, f < W * H → (f % W < i ∨ (f % W = i ∧ f / W < H)) → ¬ (dXg (W * H) nr wl mk gi) f = nI (q + 1)) → ms_W false m_X6_far (fun r n1 G1 => r = .inl (some (.ref n)) ∧ n1 = n + 1 + W ∧ ms_fb noE n G G1 ∧ far_at G1 n W H (dXg (W * H) nr wl mk gi)) 252 [(0, .ref o), (1, .int (nI gi)), (2, .ref n), (3, .int (nI (q + 1))), (4, .int mo), (5, .int (nI i))] [] (n + 1 + W) K9 0 0) : ∀ (r k : Nat), k + r = H → ∀ (K : ms_H) (mo : Int32), fk_at K o x sb dw W H cl dr pa fa wa cnt wr fv u → ms_fb noE n G K → far_at K n W H (scX W i k (mdR (dXg (W * H) nr wl mk gi) (q + 1)) (mdR (dXg (W * H) nr wl mk gi) q)) → (mo = 0 ∨ mo = 1) ∧ (mo = 0 → ∀ f, f < W * H → (f % W < i ∨ (f % W = i ∧ f / W < k)) → ¬ (dXg (W * H) nr wl mk gi) f = nI (q + 1)) → ms_W false m_X6_far (fun r n1 G1 => r = .inl (some (.ref n)) ∧ n1 = n + 1 + W ∧ ms_fb noE n G G1 ∧ far_at G1 n W H (dXg (W * H) nr wl mk gi)) 118 [(0, .ref o), (1, .int (nI gi)), (2, .ref n), (3, .int (nI (q + 1))), (4, .int mo), (5, .int (nI i)), (6, .int (nI k))] [] (n + 1 + W) K 0 0 := by
  have h9 : W * H ≤ 196 := Nat.mul_le_mul hW hH
  have hDv : ∀ f, (dXg (W * H) nr wl mk gi) f = -1 ∨ ∃ v, v ≤ 196 ∧ (dXg (W * H) nr wl mk gi) f = nI v := fun f => dX_val h9 f
  intro r
  induction r with
  | zero =>
    intro k hk K mo hMK hFK hDK hmo
    have hkN : k = H := by omega
    refine ms_run (pc' := 121) (lv' := [(0, .ref o), (1, .int (nI gi)), (2, .ref n), (3, .int (nI (q + 1))), (4, .int mo), (5, .int (nI i)), (6, .int (nI k))]) (st' := [.ref o, .int (nI k)]) _ (ms_deC dX6_far_118 (ms_deC dX6_far_120 ms_deN)) rfl rfl ?_
    refine ms_getf dX6_far_121 fg_X6_20 hMK.1 rfl ?_
    refine ms_icmp_ge (tgt := 252) dX6_far_124 (by decide) (fun h_124 => ?_) (fun h_124 => ?_)
    · skip
      refine ms_W.sub (lv2 := [(0, _), (1, _), (2, _), (3, _), (4, _), (5, _)]) ?_ [0, 1, 2, 3, 4, 5] rfl
      exact kk K mo hMK hFK (by rw [hkN] at hDK; exact hDK) (by rw [hkN] at hmo; exact hmo)
    · skip
      exact absurd (by exact nI_le (b := k) (by omega) (by omega)) h_124
  | succ r ih =>
    intro k hk K mo hMK hFK hDK hmo
    have hlt : k < H := by omega
    refine ms_run (pc' := 121) (lv' := [(0, .ref o), (1, .int (nI gi)), (2, .ref n), (3, .int (nI (q + 1))), (4, .int mo), (5, .int (nI i)), (6, .int (nI k))]) (st' := [.ref o, .int (nI k)]) _ (ms_deC dX6_far_118 (ms_deC dX6_far_120 ms_deN)) rfl rfl ?_
    refine ms_getf dX6_far_121 fg_X6_20 hMK.1 rfl ?_
    refine ms_icmp_ge (tgt := 252) dX6_far_124 (by decide) (fun h_124 => ?_) (fun h_124 => ?_)
    · skip
      exact absurd h_124 (by exact nI_ge (b := H) (by omega) (by omega))
    · skip
      refine ms_run (pc' := 132) (lv' := [(0, .ref o), (1, .int (nI gi)), (2, .ref n), (3, .int (nI (q + 1))), (4, .int mo), (5, .int (nI i)), (6, .int (nI k))]) (st' := [.int (nI k), .int (nI i), .ref o]) _ (ms_deC dX6_far_127 (ms_deC dX6_far_128 (ms_deC dX6_far_130 ms_deN))) rfl rfl ?_
      refine ms_callVp (As := [.int (nI i), .int (nI k)]) dX6_far_132 (c_X6_isFree hMK hW hH hc hi9 hlt) cv_X6_109 hMK.1 rfl ⟨Nat.le_of_ble_eq_true rfl, Nat.le_of_ble_eq_true rfl⟩ rfl (Nat.le_of_ble_eq_true rfl) ?_
      by_cases hc_132 : fv (k * W + i) 0 = 0
      · rw [show ms_b (fv (k * W + i) 0 = 0) = 1 from if_pos hc_132]
        refine ms_if_eq (tgt := 246) dX6_far_135 (by decide) (fun h9 => absurd h9 (by decide)) (fun _ => ?_)
        refine ms_run (pc' := 141) (lv' := [(0, .ref o), (1, .int (nI gi)), (2, .ref n), (3, .int (nI (q + 1))), (4, .int mo), (5, .int (nI i)), (6, .int (nI k))]) (st' := [.int (nI i), .ref n]) _ (ms_deC dX6_far_138 (ms_deC dX6_far_139 ms_deN)) rfl rfl ?_
        refine far_ldA (i := i) dX6_far_141 hDK hi9 hW ?_
        refine ms_run (pc' := 144) (lv' := [(0, .ref o), (1, .int (nI gi)), (2, .ref n), (3, .int (nI (q + 1))), (4, .int mo), (5, .int (nI i)), (6, .int (nI k))]) (st' := [.int (nI k), .ref (n + 1 + i)]) _ (ms_deC dX6_far_142 ms_deN) rfl rfl ?_
        refine far_ldI (j := k) dX6_far_144 hDK hi9 (by first | assumption | omega) hH ?_
        refine ms_if_lt (tgt := 151) dX6_far_145 (by decide) (fun h_145 => ?_) (fun h_145 => ?_)
        · skip
          refine ms_run (pc' := 157) (lv' := [(8, .int 0), (7, .int 0), (0, .ref o), (1, .int (nI gi)), (2, .ref n), (3, .int (nI (q + 1))), (4, .int mo), (5, .int (nI i)), (6, .int (nI k))]) (st' := []) _ (ms_deC dX6_far_151 (ms_deC dX6_far_152 (ms_deC dX6_far_154 (ms_deC dX6_far_155 ms_deN)))) rfl rfl ?_
          rw [sc_now hi9] at h_145
          refine ms_W.sub (lv2 := [(0, _), (1, _), (2, _), (3, _), (4, _), (5, _), (6, _), (7, _), (8, _)]) ?_ [2, 3, 4, 5, 6, 7, 8, 1, 0] rfl
          have hwf : wl (k * W + i) = 0 := by rw [← (hfv _ (fij (H := H) hi9 hlt)).1]; exact hc_132
          have hhit := md_hit (g := gi) (mk := mk) hL hW hH (fij (H := H) hi9 hlt) hwf hq h_145
          refine lb4_X6_far hM hW hH hc fl hW0 hL hfv hg hq hi9 hlt hwf hMK hDK ?_ 4 0 rfl 0 (Or.inl ⟨rfl, fun j hj => absurd hj (Nat.not_lt_zero j)⟩)
          intro iv hiv
          refine ms_run (pc' := 229) (lv' := [(0, .ref o), (1, .int (nI gi)), (2, .ref n), (3, .int (nI (q + 1))), (4, .int mo), (5, .int (nI i)), (6, .int (nI k)), (7, .int iv)]) (st' := [.int iv]) _ (ms_deC dX6_far_227 ms_deN) rfl rfl ?_
          refine ms_if_ne (tgt := 235) dX6_far_229 (by decide) (fun h_229 => ?_) (fun h_229 => ?_)
          · skip
            have hyes : (dXg (W * H) nr wl mk gi) (k * W + i) = nI (q + 1) := hhit.mpr (by rcases hiv with ⟨z, -⟩ | ⟨-, j, hj, h8⟩; exact absurd z h_229; exact ⟨j, hj, h8⟩)
            refine ms_run (pc' := 238) (lv' := [(0, .ref o), (1, .int (nI gi)), (2, .ref n), (3, .int (nI (q + 1))), (4, .int mo), (5, .int (nI i)), (6, .int (nI k)), (7, .int iv)]) (st' := [.int (nI i), .ref n]) _ (ms_deC dX6_far_235 (ms_deC dX6_far_236 ms_deN)) rfl rfl ?_
            refine far_ldA (i := i) dX6_far_238 hDK hi9 hW ?_
            refine ms_run (pc' := 242) (lv' := [(0, .ref o), (1, .int (nI gi)), (2, .ref n), (3, .int (nI (q + 1))), (4, .int mo), (5, .int (nI i)), (6, .int (nI k)), (7, .int iv)]) (st' := [.int (nI (q + 1)), .int (nI k), .ref (n + 1 + i)]) _ (ms_deC dX6_far_239 (ms_deC dX6_far_241 ms_deN)) rfl rfl ?_
            refine far_st (j := k) dX6_far_242 hDK hi9 (by first | assumption | omega) hH (fun K2 hK2 hD2 => ?_)
            have hM2 : fk_at K2 o x sb dw W H cl dr pa fa wa cnt wr fv u := hMK.hi fl hW0 (fun a ha => hK2 a (by omega))
            have hF2 : ms_fb noE n G K2 := fun a h1 h2 => (hK2 a (by omega)).trans (hFK a h1 h2)
            refine ms_run (pc' := 249) (lv' := [(6, .int ((nI k) + 1)), (4, .int 1), (0, .ref o), (1, .int (nI gi)), (2, .ref n), (3, .int (nI (q + 1))), (5, .int (nI i)), (7, .int iv)]) (st' := []) _ (ms_deC dX6_far_243 (ms_deC dX6_far_244 (ms_deC dX6_far_246 ms_deN))) rfl rfl ?_
            refine ms_goto (tgt := 118) dX6_far_249 (by decide) ?_
            rw [nI_1 k]
            refine ms_W.sub (lv2 := [(0, _), (1, _), (2, _), (3, _), (4, _), (5, _), (6, _)]) ?_ [2, 3, 4, 5, 1, 6, 0] rfl
            exact ih (k + 1) (by omega) K2 1 hM2 hF2 (by rw [sc_put hi9 (md_new hq hyes).symm] at hD2; exact hD2) ⟨Or.inr rfl, (fun z => absurd z (by decide))⟩
          · skip
            have hsn : ¬ (dXg (W * H) nr wl mk gi) (k * W + i) = nI (q + 1) := fun z => by
              obtain ⟨j, hj, h8⟩ := hhit.mp z
              rcases hiv with ⟨-, z2⟩ | ⟨z2, -⟩
              · exact z2 j hj h8
              · rw [z2] at h_229; exact absurd h_229 (by decide)
            refine ms_goto (tgt := 246) dX6_far_232 (by decide) ?_
            refine ms_run (pc' := 249) (lv' := [(6, .int ((nI k) + 1)), (0, .ref o), (1, .int (nI gi)), (2, .ref n), (3, .int (nI (q + 1))), (4, .int mo), (5, .int (nI i)), (7, .int iv)]) (st' := []) _ (ms_deC dX6_far_246 ms_deN) rfl rfl ?_
            refine ms_goto (tgt := 118) dX6_far_249 (by decide) ?_
            rw [nI_1 k]
            refine ms_W.sub (lv2 := [(0, _), (1, _), (2, _), (3, _), (4, _), (5, _), (6, _)]) ?_ [1, 2, 3, 4, 5, 6, 0] rfl
            exact ih (k + 1) (by omega) K mo hMK hFK (by rw [sc_skip hi9 (md_next (hDv _) hq hsn)] at hDK; exact hDK) ⟨hmo.1, (fun hz f hf hp => by
              rcases (sc_ne_or hi9).mp hp with h8 | h8
              · exact hmo.2 hz f hf h8
              · rw [h8]; exact hsn)⟩
        · skip
          refine ms_goto (tgt := 246) dX6_far_148 (by decide) ?_
          refine ms_run (pc' := 249) (lv' := [(6, .int ((nI k) + 1)), (0, .ref o), (1, .int (nI gi)), (2, .ref n), (3, .int (nI (q + 1))), (4, .int mo), (5, .int (nI i))]) (st' := []) _ (ms_deC dX6_far_246 ms_deN) rfl rfl ?_
          refine ms_goto (tgt := 118) dX6_far_249 (by decide) ?_
          rw [sc_now hi9] at h_145
          have hsn : ¬ (dXg (W * H) nr wl mk gi) (k * W + i) = nI (q + 1) := fun z => h_145 ((md_neg (hDv _) hq).1.mpr ((md_neg (hDv _) hq).2.mpr (Or.inr ⟨q + 1, by omega, (by rcases hDv (k * W + i) with z2 | ⟨v, hv, z2⟩; rw [z] at z2; exact absurd z2 (nI_m1 (by omega)); rw [z] at z2; have := (nI_eq (by omega) (by omega)).mp z2; omega), z⟩)))
          rw [nI_1 k]
          refine ms_W.sub (lv2 := [(0, _), (1, _), (2, _), (3, _), (4, _), (5, _), (6, _)]) ?_ [1, 2, 3, 4, 5, 6, 0] rfl
          exact ih (k + 1) (by omega) K mo hMK hFK (by rw [sc_skip hi9 (md_next (hDv _) hq hsn)] at hDK; exact hDK) ⟨hmo.1, (fun hz f hf hp => by
            rcases (sc_ne_or hi9).mp hp with h8 | h8
            · exact hmo.2 hz f hf h8
            · rw [h8]; exact hsn)⟩
      · rw [show ms_b (fv (k * W + i) 0 = 0) = 0 from if_neg hc_132]
        refine ms_if_eq (tgt := 246) dX6_far_135 (by decide) (fun _ => ?_) (fun h9 => absurd h9 (by decide))
        refine ms_run (pc' := 249) (lv' := [(6, .int ((nI k) + 1)), (0, .ref o), (1, .int (nI gi)), (2, .ref n), (3, .int (nI (q + 1))), (4, .int mo), (5, .int (nI i))]) (st' := []) _ (ms_deC dX6_far_246 ms_deN) rfl rfl ?_
        refine ms_goto (tgt := 118) dX6_far_249 (by decide) ?_
        have hnf : (dXg (W * H) nr wl mk gi) (k * W + i) = -1 := Decidable.byContradiction (fun z => hc_132 (by rw [(hfv _ (fij (H := H) hi9 hlt)).1]; exact (dX_free h9 z).2))
        rw [nI_1 k]
        refine ms_W.sub (lv2 := [(0, _), (1, _), (2, _), (3, _), (4, _), (5, _), (6, _)]) ?_ [1, 2, 3, 4, 5, 6, 0] rfl
        exact ih (k + 1) (by omega) K mo hMK hFK (by rw [sc_skip hi9 (md_next (hDv _) hq (by rw [hnf]; exact fun z => nI_m1 (by omega) z.symm))] at hDK; exact hDK) ⟨hmo.1, (fun hz f hf hp => by
          rcases (sc_ne_or hi9).mp hp with h8 | h8
          · exact hmo.2 hz f hf h8
          · rw [h8]; exact (by rw [hnf]; exact fun z => nI_m1 (by omega) z.symm))⟩
theorem sc_rw {W H i f : Nat} (hf : f < W * H) (h : f % W < i + 1 ∨ (f % W = i + 1 ∧ f / W < 0)) : f % W < i ∨ (f % W = i ∧ f / W < H) := by
  have h1 := (fd_div hf).2.1
  rcases h with a | ⟨a, b⟩
  · rcases Nat.lt_succ_iff_lt_or_eq.mp a with c | c
    · exact Or.inl c
    · exact Or.inr ⟨c, h1⟩
  · exact absurd b (Nat.not_lt_zero _)
set_option maxHeartbeats 1000000 in
set_option maxRecDepth 20000 in
theorem lb2_X6_far {n o x sb fa wa W H cnt : Nat} {G : ms_H} {dw cl dr pa : Int32} {wr : Nat → Nat} {fv u : Nat → Nat → Int32} (hM : fk_at G o x sb dw W H cl dr pa fa wa cnt wr fv u) (hW : W ≤ 14) (hH : H ≤ 14) (hc : cnt ≤ 24) (fl : fk_lt n o fa W H wa cnt wr) (hW0 : 0 < W) {nr wl mk : Nat → Int32} (hL : lk_ok W H (W * H) nr) (hfv : fvR (W * H) wl mk fv) {gi : Nat} (hg : gi < 4) {q : Nat} (hq : q < 900) (kk : ∀ (K9 : ms_H) (mo : Int32), fk_at K9 o x sb dw W H cl dr pa fa wa cnt wr fv u → ms_fb noE n G K9 → far_at K9 n W H (mdR (dXg (W * H) nr wl mk gi) (q + 1)) → (mo = 0 ∨ mo = 1) ∧ (mo = 0 → ∀ f, f < W * H → ¬ (dXg (W * H) nr wl mk gi) f = nI (q + 1)) → ms_W false m_X6_far (fun r n1 G1 => r = .inl (some (.ref n)) ∧ n1 = n + 1 + W ∧ ms_fb noE n G G1 ∧ far_at G1 n W H (dXg (W * H) nr wl mk gi)) 258 [(0, .ref o), (1, .int (nI gi)), (2, .ref n), (3, .int (nI (q + 1))), (4, .int mo)] [] (n + 1 + W) K9 0 0) : ∀ (r k : Nat), k + r = W → ∀ (K : ms_H) (mo : Int32), fk_at K o x sb dw W H cl dr pa fa wa cnt wr fv u → ms_fb noE n G K → far_at K n W H (scX W k 0 (mdR (dXg (W * H) nr wl mk gi) (q + 1)) (mdR (dXg (W * H) nr wl mk gi) q)) → (mo = 0 ∨ mo = 1) ∧ (mo = 0 → ∀ f, f < W * H → (f % W < k ∨ (f % W = k ∧ f / W < 0)) → ¬ (dXg (W * H) nr wl mk gi) f = nI (q + 1)) → ms_W false m_X6_far (fun r n1 G1 => r = .inl (some (.ref n)) ∧ n1 = n + 1 + W ∧ ms_fb noE n G G1 ∧ far_at G1 n W H (dXg (W * H) nr wl mk gi)) 106 [(0, .ref o), (1, .int (nI gi)), (2, .ref n), (3, .int (nI (q + 1))), (4, .int mo), (5, .int (nI k))] [] (n + 1 + W) K 0 0 := by
  have h9 : W * H ≤ 196 := Nat.mul_le_mul hW hH
  have hDv : ∀ f, (dXg (W * H) nr wl mk gi) f = -1 ∨ ∃ v, v ≤ 196 ∧ (dXg (W * H) nr wl mk gi) f = nI v := fun f => dX_val h9 f
  intro r
  induction r with
  | zero =>
    intro k hk K mo hMK hFK hDK hmo
    have hkN : k = W := by omega
    refine ms_run (pc' := 109) (lv' := [(0, .ref o), (1, .int (nI gi)), (2, .ref n), (3, .int (nI (q + 1))), (4, .int mo), (5, .int (nI k))]) (st' := [.ref o, .int (nI k)]) _ (ms_deC dX6_far_106 (ms_deC dX6_far_108 ms_deN)) rfl rfl ?_
    refine ms_getf dX6_far_109 fg_X6_16 hMK.1 rfl ?_
    refine ms_icmp_ge (tgt := 258) dX6_far_112 (by decide) (fun h_112 => ?_) (fun h_112 => ?_)
    · skip
      refine ms_W.sub (lv2 := [(0, _), (1, _), (2, _), (3, _), (4, _)]) ?_ [0, 1, 2, 3, 4] rfl
      exact kk K mo hMK hFK ((by rw [hkN] at hDK; exact hDK : far_at K n W H (scX W W 0 (mdR (dXg (W * H) nr wl mk gi) (q + 1)) (mdR (dXg (W * H) nr wl mk gi) q))).dc sc_end) ⟨hmo.1, fun hz f hf => hmo.2 hz f hf (by rw [hkN]; exact Or.inl (fd_div hf).1)⟩
    · skip
      exact absurd (by exact nI_le (b := k) (by omega) (by omega)) h_112
  | succ r ih =>
    intro k hk K mo hMK hFK hDK hmo
    have hlt : k < W := by omega
    refine ms_run (pc' := 109) (lv' := [(0, .ref o), (1, .int (nI gi)), (2, .ref n), (3, .int (nI (q + 1))), (4, .int mo), (5, .int (nI k))]) (st' := [.ref o, .int (nI k)]) _ (ms_deC dX6_far_106 (ms_deC dX6_far_108 ms_deN)) rfl rfl ?_
    refine ms_getf dX6_far_109 fg_X6_16 hMK.1 rfl ?_
    refine ms_icmp_ge (tgt := 258) dX6_far_112 (by decide) (fun h_112 => ?_) (fun h_112 => ?_)
    · skip
      exact absurd h_112 (by exact nI_ge (b := W) (by omega) (by omega))
    · skip
      refine ms_run (pc' := 118) (lv' := [(6, .int 0), (0, .ref o), (1, .int (nI gi)), (2, .ref n), (3, .int (nI (q + 1))), (4, .int mo), (5, .int (nI k))]) (st' := []) _ (ms_deC dX6_far_115 (ms_deC dX6_far_116 ms_deN)) rfl rfl ?_
      refine ms_W.sub (lv2 := [(0, _), (1, _), (2, _), (3, _), (4, _), (5, _), (6, _)]) ?_ [1, 2, 3, 4, 5, 6, 0] rfl
      refine lb3_X6_far hM hW hH hc fl hW0 hL hfv hg hq (i := k) hlt ?_ H 0 (by omega) K mo hMK hFK hDK hmo
      intro K9 m9 hM9 hF9 hD9 hm9
      refine ms_run (pc' := 255) (lv' := [(5, .int ((nI k) + 1)), (0, .ref o), (1, .int (nI gi)), (2, .ref n), (3, .int (nI (q + 1))), (4, .int m9)]) (st' := []) _ (ms_deC dX6_far_252 ms_deN) rfl rfl ?_
      refine ms_goto (tgt := 106) dX6_far_255 (by decide) ?_
      rw [nI_1 k]
      refine ms_W.sub (lv2 := [(0, _), (1, _), (2, _), (3, _), (4, _), (5, _)]) ?_ [1, 2, 3, 4, 5, 0] rfl
      exact ih (k + 1) (by omega) K9 m9 hM9 hF9 (hD9.dc sc_row) ⟨hm9.1, fun hz f hf hp => hm9.2 hz f hf (sc_rw hf hp)⟩
set_option maxHeartbeats 1000000 in
set_option maxRecDepth 20000 in
theorem lb1_X6_far {n o x sb fa wa W H cnt : Nat} {G : ms_H} {dw cl dr pa : Int32} {wr : Nat → Nat} {fv u : Nat → Nat → Int32} (hM : fk_at G o x sb dw W H cl dr pa fa wa cnt wr fv u) (hW : W ≤ 14) (hH : H ≤ 14) (hc : cnt ≤ 24) (fl : fk_lt n o fa W H wa cnt wr) (hW0 : 0 < W) {nr wl mk : Nat → Int32} (hL : lk_ok W H (W * H) nr) (hfv : fvR (W * H) wl mk fv) {gi : Nat} (hg : gi < 4) : ∀ (r k : Nat), k + r = W * H → ∀ K : ms_H, fk_at K o x sb dw W H cl dr pa fa wa cnt wr fv u → ms_fb noE n G K → far_at K n W H (mdR (dXg (W * H) nr wl mk gi) k) → ms_W false m_X6_far (fun r n1 G1 => r = .inl (some (.ref n)) ∧ n1 = n + 1 + W ∧ ms_fb noE n G G1 ∧ far_at G1 n W H (dXg (W * H) nr wl mk gi)) 87 [(0, .ref o), (1, .int (nI gi)), (2, .ref n), (3, .int (nI (k + 1)))] [] (n + 1 + W) K 0 0 := by
  have h9 : W * H ≤ 196 := Nat.mul_le_mul hW hH
  have hDv : ∀ f, (dXg (W * H) nr wl mk gi) f = -1 ∨ ∃ v, v ≤ 196 ∧ (dXg (W * H) nr wl mk gi) f = nI v := fun f => dX_val h9 f
  intro r
  induction r with
  | zero =>
    intro k hk K hMK hFK hDK
    have hkN : k = W * H := by omega
    refine ms_run (pc' := 89) (lv' := [(0, .ref o), (1, .int (nI gi)), (2, .ref n), (3, .int (nI (k + 1)))]) (st' := [.ref o, .int (nI (k + 1))]) _ (ms_deC dX6_far_87 (ms_deC dX6_far_88 ms_deN)) rfl rfl ?_
    refine ms_getf dX6_far_89 fg_X6_16 hMK.1 rfl ?_
    refine ms_run (pc' := 93) (lv' := [(0, .ref o), (1, .int (nI gi)), (2, .ref n), (3, .int (nI (k + 1)))]) (st' := [.ref o, .int (nI W), .int (nI (k + 1))]) _ (ms_deC dX6_far_92 ms_deN) rfl rfl ?_
    refine ms_getf dX6_far_93 fg_X6_20 hMK.1 rfl ?_
    refine ms_run (pc' := 97) (lv' := [(0, .ref o), (1, .int (nI gi)), (2, .ref n), (3, .int (nI (k + 1)))]) (st' := [.int ((nI W) * (nI H)), .int (nI (k + 1))]) _ (ms_deC dX6_far_96 ms_deN) rfl rfl ?_
    refine ms_icmp_gt (tgt := 272) dX6_far_97 (by decide) (fun h_97 => ?_) (fun h_97 => ?_)
    · skip
      refine ms_run (pc' := 273) (lv' := [(0, .ref o), (1, .int (nI gi)), (2, .ref n), (3, .int (nI (k + 1)))]) (st' := [.ref n]) _ (ms_deC dX6_far_272 ms_deN) rfl rfl ?_
      refine ms_reta (st := []) (v := .ref n) dX6_far_273 rfl (Or.inr ⟨_, rfl⟩) (Or.inr ⟨_, rfl⟩) ?_
      exact ⟨rfl, rfl, hFK, by rw [hkN, md_all h9] at hDK; exact hDK⟩
    · skip
      exact absurd (by rw [pk_mul]; exact nI_lt (by omega) (by omega)) h_97
  | succ r ih =>
    intro k hk K hMK hFK hDK
    have hlt : k < W * H := by omega
    refine ms_run (pc' := 89) (lv' := [(0, .ref o), (1, .int (nI gi)), (2, .ref n), (3, .int (nI (k + 1)))]) (st' := [.ref o, .int (nI (k + 1))]) _ (ms_deC dX6_far_87 (ms_deC dX6_far_88 ms_deN)) rfl rfl ?_
    refine ms_getf dX6_far_89 fg_X6_16 hMK.1 rfl ?_
    refine ms_run (pc' := 93) (lv' := [(0, .ref o), (1, .int (nI gi)), (2, .ref n), (3, .int (nI (k + 1)))]) (st' := [.ref o, .int (nI W), .int (nI (k + 1))]) _ (ms_deC dX6_far_92 ms_deN) rfl rfl ?_
    refine ms_getf dX6_far_93 fg_X6_20 hMK.1 rfl ?_
    refine ms_run (pc' := 97) (lv' := [(0, .ref o), (1, .int (nI gi)), (2, .ref n), (3, .int (nI (k + 1)))]) (st' := [.int ((nI W) * (nI H)), .int (nI (k + 1))]) _ (ms_deC dX6_far_96 ms_deN) rfl rfl ?_
    refine ms_icmp_gt (tgt := 272) dX6_far_97 (by decide) (fun h_97 => ?_) (fun h_97 => ?_)
    · skip
      exact absurd h_97 (by rw [pk_mul]; exact nI_nlt (by omega) (by omega))
    · skip
      refine ms_run (pc' := 106) (lv' := [(5, .int 0), (4, .int 0), (0, .ref o), (1, .int (nI gi)), (2, .ref n), (3, .int (nI (k + 1)))]) (st' := []) _ (ms_deC dX6_far_100 (ms_deC dX6_far_101 (ms_deC dX6_far_103 (ms_deC dX6_far_104 ms_deN)))) rfl rfl ?_
      refine ms_W.sub (lv2 := [(0, _), (1, _), (2, _), (3, _), (4, _), (5, _)]) ?_ [2, 3, 4, 5, 1, 0] rfl
      refine lb2_X6_far hM hW hH hc fl hW0 hL hfv hg (q := k) (by omega) ?_ W 0 (by omega) K 0 hMK hFK (by rw [sc_00]; exact hDK) ⟨Or.inl rfl, fun _ f hf hp => absurd hp (by rintro (a | ⟨a, b⟩); exact absurd a (Nat.not_lt_zero _); exact absurd b (Nat.not_lt_zero _))⟩
      intro K9 m9 hM9 hF9 hD9 hm9
      refine ms_run (pc' := 260) (lv' := [(0, .ref o), (1, .int (nI gi)), (2, .ref n), (3, .int (nI (k + 1))), (4, .int m9)]) (st' := [.int m9]) _ (ms_deC dX6_far_258 ms_deN) rfl rfl ?_
      refine ms_if_ne (tgt := 266) dX6_far_260 (by decide) (fun h_260 => ?_) (fun h_260 => ?_)
      · skip
        refine ms_run (pc' := 269) (lv' := [(3, .int ((nI (k + 1)) + 1)), (0, .ref o), (1, .int (nI gi)), (2, .ref n), (4, .int m9)]) (st' := []) _ (ms_deC dX6_far_266 ms_deN) rfl rfl ?_
        refine ms_goto (tgt := 87) dX6_far_269 (by decide) ?_
        rw [nI_1 (k + 1)]
        refine ms_W.sub (lv2 := [(0, _), (1, _), (2, _), (3, _)]) ?_ [1, 2, 3, 0] rfl
        exact ih (k + 1) (by omega) K9 hM9 hF9 hD9
      · skip
        refine ms_goto (tgt := 272) dX6_far_263 (by decide) ?_
        refine ms_run (pc' := 273) (lv' := [(0, .ref o), (1, .int (nI gi)), (2, .ref n), (3, .int (nI (k + 1))), (4, .int m9)]) (st' := [.ref n]) _ (ms_deC dX6_far_272 ms_deN) rfl rfl ?_
        refine ms_reta (st := []) (v := .ref n) dX6_far_273 rfl (Or.inr ⟨_, rfl⟩) (Or.inr ⟨_, rfl⟩) ?_
        have he9 : mdR (dXg (W * H) nr wl mk gi) (k + 1) = (dXg (W * H) nr wl mk gi) := by rw [show mdR (dXg (W * H) nr wl mk gi) (k + 1) = mdR (dXg (W * H) nr wl mk gi) k from funext (fun f => md_next (hDv f) (by omega) (fun z => hm9.2 h_260 f (dX_free h9 (by rw [z]; exact nI_m1 (by omega))).1 z))]; exact md_done hL hW hH (hm9.2 h_260)
        exact ⟨rfl, rfl, hF9, by rw [he9] at hD9; exact hD9⟩
set_option maxHeartbeats 1000000 in
set_option maxRecDepth 20000 in
theorem c_X6_far {n o x sb fa wa W H cnt : Nat} {G : ms_H} {dw cl dr pa : Int32} {wr : Nat → Nat} {fv u : Nat → Nat → Int32} (hM : fk_at G o x sb dw W H cl dr pa fa wa cnt wr fv u) (hW : W ≤ 14) (hH : H ≤ 14) (hc : cnt ≤ 24) (fl : fk_lt n o fa W H wa cnt wr) (hW0 : 0 < W) {nr wl mk : Nat → Int32} (hL : lk_ok W H (W * H) nr) (hfv : fvR (W * H) wl mk fv) {gi : Nat} (hg : gi < 4) : ms_M m_X6_far [.ref o, .int (nI gi)] n G 15 210 (fun r n1 G1 => r = .inl (some (.ref n)) ∧ n1 = n + 1 + W ∧ ms_fb noE n G G1 ∧ far_at G1 n W H (dXg (W * H) nr wl mk gi)) := by
  refine ms_M.of (by decide) (Nat.le_of_ble_eq_true rfl) ?_
  show ms_W false m_X6_far _ 0 [(0, .ref o), (1, .int (nI gi))] [] n G 15 210
  have h9 : W * H ≤ 196 := Nat.mul_le_mul hW hH
  refine ms_run (pc' := 1) (lv' := [(0, .ref o), (1, .int (nI gi))]) (st' := [.ref o]) _ (ms_deC dX6_far_0 ms_deN) rfl rfl ?_
  refine ms_getf dX6_far_1 fg_X6_16 hM.1 rfl ?_
  refine ms_run (pc' := 5) (lv' := [(0, .ref o), (1, .int (nI gi))]) (st' := [.ref o, .int (nI W)]) _ (ms_deC dX6_far_4 ms_deN) rfl rfl ?_
  refine ms_getf dX6_far_5 fg_X6_20 hM.1 rfl ?_
  refine ms_W.room (k2 := 1 + W + 0) (z2 := W + W * H + 0) ?_ (by omega) (by omega)
  refine ms_mna2 dX6_far_8 al_X6_108 aw_int (nI_pos (by omega)) (nI_pos (by omega)) (nI_clamp (by omega)) (nI_clamp (by omega)) (by omega) (by omega) ?_
  have hlo : ∀ a, a < n → mn_G2 G n W H a = G a := fun a ha => mn_G2_lo ha
  have hMK : fk_at (mn_G2 G n W H) o x sb dw W H cl dr pa fa wa cnt wr fv u := hM.hi fl hW0 hlo
  refine ms_run (pc' := 15) (lv' := [(3, .int 0), (2, .ref n), (0, .ref o), (1, .int (nI gi))]) (st' := []) _ (ms_deC dX6_far_12 (ms_deC dX6_far_13 (ms_deC dX6_far_14 ms_deN))) rfl rfl ?_
  refine ms_W.sub (lv2 := [(0, _), (1, _), (2, _), (3, _)]) ?_ [2, 3, 1, 0] rfl
  refine la1_X6_far hM hW hH hc fl hW0 hL hfv hg ?_ W 0 (by omega) _ hMK (fun a h1 _ => hlo a h1) (by rw [sc_00]; exact mn_G2_far)
  intro K9 hM9 hF9 hD9
  refine ms_run (pc' := 87) (lv' := [(3, .int 1), (0, .ref o), (1, .int (nI gi)), (2, .ref n)]) (st' := []) _ (ms_deC dX6_far_85 (ms_deC dX6_far_86 ms_deN)) rfl rfl ?_
  refine ms_W.sub (lv2 := [(0, _), (1, _), (2, _), (3, _)]) ?_ [1, 2, 3, 0] rfl
  exact lb1_X6_far hM hW hH hc fl hW0 hL hfv hg (W * H) 0 (by omega) K9 hM9 hF9 hD9

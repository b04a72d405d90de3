/-! the model: wall -/
set_option maxHeartbeats 1000000 in
set_option maxRecDepth 20000 in
theorem l3_X6_wall {n aw NN : Nat} {G : ms_H} {wl : Nat → Int32} (hw_ : G aw = some (.inl (1, NN, .inl wl))) (hN : NN < 1000) : ∀ (r k : Nat), k + r = NN →  ms_W false m_X6_wall (ms_p1 (some (.int (nI (ct (pWall wl) NN)))) n G) 177 [(6, .int (nI (ct (pWall wl) k))), (7, .ref aw), (8, .int (nI NN)), (9, .int (nI k))] [] n G 0 0 := by
  intro r
  induction r with
  | zero =>
    intro k hk 
    have hkN : k = NN := by omega
    refine ms_run (pc' := 181) (lv' := [(6, .int (nI (ct (pWall wl) k))), (7, .ref aw), (8, .int (nI NN)), (9, .int (nI k))]) (st' := [.int (nI NN), .int (nI k)]) _ (ms_deC dX6_wall_177 (ms_deC dX6_wall_179 ms_deN)) rfl rfl ?_
    refine ms_icmp_ge (tgt := 212) dX6_wall_181 (by decide) (fun h_181 => ?_) (fun h_181 => ?_)
    · skip
      refine ms_run (pc' := 214) (lv' := [(6, .int (nI (ct (pWall wl) k))), (7, .ref aw), (8, .int (nI NN)), (9, .int (nI k))]) (st' := [.int (nI (ct (pWall wl) k))]) _ (ms_deC dX6_wall_212 ms_deN) rfl rfl ?_
      refine ms_reti (st := []) (ty := .int) dX6_wall_214 rfl rfl ?_
      exact ms_p1.mk (by rw [hkN]) rfl
    · skip
      exact absurd (by exact nI_le (b := k) (by omega) (by omega)) h_181
  | succ r ih =>
    intro k hk 
    have hlt : k < NN := by omega
    refine ms_run (pc' := 181) (lv' := [(6, .int (nI (ct (pWall wl) k))), (7, .ref aw), (8, .int (nI NN)), (9, .int (nI k))]) (st' := [.int (nI NN), .int (nI k)]) _ (ms_deC dX6_wall_177 (ms_deC dX6_wall_179 ms_deN)) rfl rfl ?_
    refine ms_icmp_ge (tgt := 212) dX6_wall_181 (by decide) (fun h_181 => ?_) (fun h_181 => ?_)
    · skip
      exact absurd h_181 (by exact nI_ge (b := NN) (by omega) (by omega))
    · skip
      refine ms_run (pc' := 188) (lv' := [(6, .int (nI (ct (pWall wl) k))), (7, .ref aw), (8, .int (nI NN)), (9, .int (nI k))]) (st' := [.int (nI k), .ref aw]) _ (ms_deC dX6_wall_184 (ms_deC dX6_wall_186 ms_deN)) rfl rfl ?_
      refine ms_zaload dX6_wall_188 hw_ (vp_in_nI (by omega) (by omega)) ?_
      rw [nI_clamp (n := k) (by omega)]
      refine ms_run (pc' := 195) (lv' := [(10, .int (wl k)), (6, .int (nI (ct (pWall wl) k))), (7, .ref aw), (8, .int (nI NN)), (9, .int (nI k))]) (st' := [.int (wl k), .int (nI (ct (pWall wl) k))]) _ (ms_deC dX6_wall_189 (ms_deC dX6_wall_191 (ms_deC dX6_wall_193 ms_deN))) rfl rfl ?_
      refine ms_if_eq (tgt := 202) dX6_wall_195 (by decide) (fun h_195 => ?_) (fun h_195 => ?_)
      · skip
        refine ms_run (pc' := 209) (lv' := [(9, .int ((nI k) + 1)), (6, .int ((nI (ct (pWall wl) k)) + 0)), (10, .int (wl k)), (7, .ref aw), (8, .int (nI NN))]) (st' := []) _ (ms_deC dX6_wall_202 (ms_deC dX6_wall_203 (ms_deC dX6_wall_204 (ms_deC dX6_wall_206 ms_deN)))) rfl rfl ?_
        refine ms_goto (tgt := 177) dX6_wall_209 (by decide) ?_
        have hp : pWall wl k = false := decide_eq_false (not_not_intro (by first | exact h_195 | exact Decidable.not_not.mp h_195))
        rw [Int32.add_zero, ct_f hp]
        rw [nI_1 k]
        refine ms_W.sub (lv2 := [(6, _), (7, _), (8, _), (9, _)]) ?_ [1, 3, 4, 0] rfl
        exact ih (k + 1) (by omega)
      · skip
        refine ms_run (pc' := 199) (lv' := [(10, .int (wl k)), (6, .int (nI (ct (pWall wl) k))), (7, .ref aw), (8, .int (nI NN)), (9, .int (nI k))]) (st' := [.int 1, .int (nI (ct (pWall wl) k))]) _ (ms_deC dX6_wall_198 ms_deN) rfl rfl ?_
        refine ms_goto (tgt := 203) dX6_wall_199 (by decide) ?_
        refine ms_run (pc' := 209) (lv' := [(9, .int ((nI k) + 1)), (6, .int ((nI (ct (pWall wl) k)) + 1)), (10, .int (wl k)), (7, .ref aw), (8, .int (nI NN))]) (st' := []) _ (ms_deC dX6_wall_203 (ms_deC dX6_wall_204 (ms_deC dX6_wall_206 ms_deN))) rfl rfl ?_
        refine ms_goto (tgt := 177) dX6_wall_209 (by decide) ?_
        have hp : pWall wl k = true := decide_eq_true h_195
        rw [ct_t hp]
        rw [nI_1 k]
        refine ms_W.sub (lv2 := [(6, _), (7, _), (8, _), (9, _)]) ?_ [1, 3, 4, 0] rfl
        exact ih (k + 1) (by omega)
set_option maxHeartbeats 1000000 in
set_option maxRecDepth 20000 in
theorem l1_X6_wall {n m aw am ai ah W H cnt N : Nat} {G : ms_H} {th dr pa : Int32} {wl mm : Nat → Int32} {X : cX} {nr mk ds : Nat → Int32} (hM : md_at G m aw am ai ah W H th X.2.2.2 dr pa cnt wl mm X.2.1 X.1) (hl : md_lt n m aw am ai ah) (hW : W ≤ 14) (hH : H ≤ 14) (hW0 : 0 < W) (hc : cnt ≤ 24) (hne : md_ne m aw am ai ah) (hL : lk_ok W H (W * H) nr) (hmm : mmR (W * H) mk mm) (hds : dsR (W * H) nr wl mk ds) (hd : 0 ≤ dr ∧ dr ≤ 9) (hN : N < 1000000) (hV : wdV W H cnt N X) {a b a2 b2 : Nat} (ha : a < W) (hb : b < H) (ha2 : a2 < W) (hb2 : b2 < H) {bv : Int32} {P : ms_P} : ∀ (r k : Nat), k + r = W * H → (∀ f, f < k → rcT W a b a2 b2 f → bv = 0 ∨ X.2.2.1 f = -1) → ((∀ f, f < W * H → rcT W a b a2 b2 f → bv = 0 ∨ X.2.2.1 f = -1) → ms_W false m_X6_wall P 154 [(0, .ref m), (1, .int (nI a)), (2, .int (nI b)), (3, .int (nI a2)), (4, .int (nI b2)), (5, .int bv), (6, .int 0)] [] n G 0 0) → (∀ f, f < W * H → rcT W a b a2 b2 f → ¬ bv = 0 → ¬ X.2.2.1 f = -1 → ms_W false m_X6_wall P 127 [(0, .ref m)] [] n G 0 0) →  ms_W false m_X6_wall (P) 42 [(0, .ref m), (1, .int (nI a)), (2, .int (nI b)), (3, .int (nI a2)), (4, .int (nI b2)), (5, .int bv), (6, .int 0), (7, .int (nI k))] [] n G 0 0 := by
  have hM9 := hM
  obtain ⟨hm, hw_, hk_, ⟨it, hi_, hit⟩, hh_⟩ := hM
  obtain ⟨l1, l2, l3, l4, l5⟩ := hl
  obtain ⟨n1, n2, n3, n4, n5, n6, n7, n8, n9, n10⟩ := hne
  have h196 := fd_196 hW hH
  intro r
  induction r with
  | zero =>
    intro k hk hno kk kt
    have hkN : k = W * H := by omega
    refine ms_run (pc' := 45) (lv' := [(0, .ref m), (1, .int (nI a)), (2, .int (nI b)), (3, .int (nI a2)), (4, .int (nI b2)), (5, .int bv), (6, .int 0), (7, .int (nI k))]) (st' := [.ref m, .int (nI k)]) _ (ms_deC dX6_wall_42 (ms_deC dX6_wall_44 ms_deN)) rfl rfl ?_
    refine ms_getf dX6_wall_45 fg_X6_20 hm rfl ?_
    refine ms_run (pc' := 49) (lv' := [(0, .ref m), (1, .int (nI a)), (2, .int (nI b)), (3, .int (nI a2)), (4, .int (nI b2)), (5, .int bv), (6, .int 0), (7, .int (nI k))]) (st' := [.ref m, .int (nI W), .int (nI k)]) _ (ms_deC dX6_wall_48 ms_deN) rfl rfl ?_
    refine ms_getf dX6_wall_49 fg_X6_23 hm rfl ?_
    refine ms_run (pc' := 53) (lv' := [(0, .ref m), (1, .int (nI a)), (2, .int (nI b)), (3, .int (nI a2)), (4, .int (nI b2)), (5, .int bv), (6, .int 0), (7, .int (nI k))]) (st' := [.int ((nI W) * (nI H)), .int (nI k)]) _ (ms_deC dX6_wall_52 ms_deN) rfl rfl ?_
    rw [show nI W * nI H = nI (W * H) from pk_mul W H]
    refine ms_icmp_ge (tgt := 154) dX6_wall_53 (by decide) (fun h_53 => ?_) (fun h_53 => ?_)
    · skip
      refine ms_W.sub (lv2 := [(0, _), (1, _), (2, _), (3, _), (4, _), (5, _), (6, _)]) ?_ [0, 1, 2, 3, 4, 5, 6] rfl
      exact kk (fun f hf hr => hno f (by omega) hr)
    · skip
      exact absurd (by exact nI_le (b := k) (by omega) (by omega)) h_53
  | succ r ih =>
    intro k hk hno kk kt
    have hlt : k < W * H := by omega
    have t1 := Nat.mod_le k W
    have t2 := Nat.div_le_self k W
    refine ms_run (pc' := 45) (lv' := [(0, .ref m), (1, .int (nI a)), (2, .int (nI b)), (3, .int (nI a2)), (4, .int (nI b2)), (5, .int bv), (6, .int 0), (7, .int (nI k))]) (st' := [.ref m, .int (nI k)]) _ (ms_deC dX6_wall_42 (ms_deC dX6_wall_44 ms_deN)) rfl rfl ?_
    refine ms_getf dX6_wall_45 fg_X6_20 hm rfl ?_
    refine ms_run (pc' := 49) (lv' := [(0, .ref m), (1, .int (nI a)), (2, .int (nI b)), (3, .int (nI a2)), (4, .int (nI b2)), (5, .int bv), (6, .int 0), (7, .int (nI k))]) (st' := [.ref m, .int (nI W), .int (nI k)]) _ (ms_deC dX6_wall_48 ms_deN) rfl rfl ?_
    refine ms_getf dX6_wall_49 fg_X6_23 hm rfl ?_
    refine ms_run (pc' := 53) (lv' := [(0, .ref m), (1, .int (nI a)), (2, .int (nI b)), (3, .int (nI a2)), (4, .int (nI b2)), (5, .int bv), (6, .int 0), (7, .int (nI k))]) (st' := [.int ((nI W) * (nI H)), .int (nI k)]) _ (ms_deC dX6_wall_52 ms_deN) rfl rfl ?_
    rw [show nI W * nI H = nI (W * H) from pk_mul W H]
    refine ms_icmp_ge (tgt := 154) dX6_wall_53 (by decide) (fun h_53 => ?_) (fun h_53 => ?_)
    · skip
      exact absurd h_53 (by exact nI_ge (b := W * H) (by omega) (by omega))
    · skip
      refine ms_run (pc' := 59) (lv' := [(0, .ref m), (1, .int (nI a)), (2, .int (nI b)), (3, .int (nI a2)), (4, .int (nI b2)), (5, .int bv), (6, .int 0), (7, .int (nI k))]) (st' := [.ref m, .int (nI k)]) _ (ms_deC dX6_wall_56 (ms_deC dX6_wall_58 ms_deN)) rfl rfl ?_
      refine ms_getf dX6_wall_59 fg_X6_20 hm rfl ?_
      refine ms_irem dX6_wall_62 (nI_ne0 hW0 (by omega)) ?_
      rw [nI_rem (a := k) (b := W) (by omega) (by omega)]
      refine ms_run (pc' := 65) (lv' := [(0, .ref m), (1, .int (nI a)), (2, .int (nI b)), (3, .int (nI a2)), (4, .int (nI b2)), (5, .int bv), (6, .int 0), (7, .int (nI k))]) (st' := [.int (nI a2), .int (nI a), .int (nI (k % W))]) _ (ms_deC dX6_wall_63 (ms_deC dX6_wall_64 ms_deN)) rfl rfl ?_
      refine ms_min dX6_wall_65 mm_X6_82 ⟨Nat.le_of_ble_eq_true rfl, Nat.le_of_ble_eq_true rfl⟩ (Nat.le_of_ble_eq_true rfl) ?_
      rw [mn_I (a := a) (b := a2) (by omega) (by omega)]
      refine ms_run (pc' := 70) (lv' := [(0, .ref m), (1, .int (nI a)), (2, .int (nI b)), (3, .int (nI a2)), (4, .int (nI b2)), (5, .int bv), (6, .int 0), (7, .int (nI k))]) (st' := [.int (nI a2), .int (nI a), .int (nI (min a a2)), .int (nI (k % W))]) _ (ms_deC dX6_wall_68 (ms_deC dX6_wall_69 ms_deN)) rfl rfl ?_
      refine ms_max dX6_wall_70 mm_X6_85 ⟨Nat.le_of_ble_eq_true rfl, Nat.le_of_ble_eq_true rfl⟩ (Nat.le_of_ble_eq_true rfl) ?_
      rw [mx_I (a := a) (b := a2) (by omega) (by omega)]
      refine ms_callSp (As := [.int (nI (k % W)), .int (nI (min a a2)), .int (nI (max a a2))]) dX6_wall_73 (c_X6_isIn (nI (k % W)) (nI (min a a2)) (nI (max a a2))) cs_X6_49 rfl ⟨Nat.le_of_ble_eq_true rfl, Nat.le_of_ble_eq_true rfl⟩ rfl (Nat.le_of_ble_eq_true rfl) ?_
      by_cases hin1 : (nI (min a a2)) ≤ (nI (k % W)) ∧ (nI (k % W)) ≤ (nI (max a a2))
      · rw [show ms_b ((nI (min a a2)) ≤ (nI (k % W)) ∧ (nI (k % W)) ≤ (nI (max a a2))) = 1 from if_pos hin1]
        refine ms_if_eq (tgt := 148) dX6_wall_76 (by decide) (fun h9 => absurd h9 (by decide)) (fun _ => ?_)
        refine ms_run (pc' := 82) (lv' := [(0, .ref m), (1, .int (nI a)), (2, .int (nI b)), (3, .int (nI a2)), (4, .int (nI b2)), (5, .int bv), (6, .int 0), (7, .int (nI k))]) (st' := [.ref m, .int (nI k)]) _ (ms_deC dX6_wall_79 (ms_deC dX6_wall_81 ms_deN)) rfl rfl ?_
        refine ms_getf dX6_wall_82 fg_X6_20 hm rfl ?_
        refine ms_idiv dX6_wall_85 (nI_ne0 hW0 (by omega)) ?_
        rw [nI_div (a := k) (b := W) (by omega) (by omega)]
        refine ms_run (pc' := 89) (lv' := [(0, .ref m), (1, .int (nI a)), (2, .int (nI b)), (3, .int (nI a2)), (4, .int (nI b2)), (5, .int bv), (6, .int 0), (7, .int (nI k))]) (st' := [.int (nI b2), .int (nI b), .int (nI (k / W))]) _ (ms_deC dX6_wall_86 (ms_deC dX6_wall_87 ms_deN)) rfl rfl ?_
        refine ms_min dX6_wall_89 mm_X6_82 ⟨Nat.le_of_ble_eq_true rfl, Nat.le_of_ble_eq_true rfl⟩ (Nat.le_of_ble_eq_true rfl) ?_
        rw [mn_I (a := b) (b := b2) (by omega) (by omega)]
        refine ms_run (pc' := 95) (lv' := [(0, .ref m), (1, .int (nI a)), (2, .int (nI b)), (3, .int (nI a2)), (4, .int (nI b2)), (5, .int bv), (6, .int 0), (7, .int (nI k))]) (st' := [.int (nI b2), .int (nI b), .int (nI (min b b2)), .int (nI (k / W))]) _ (ms_deC dX6_wall_92 (ms_deC dX6_wall_93 ms_deN)) rfl rfl ?_
        refine ms_max dX6_wall_95 mm_X6_85 ⟨Nat.le_of_ble_eq_true rfl, Nat.le_of_ble_eq_true rfl⟩ (Nat.le_of_ble_eq_true rfl) ?_
        rw [mx_I (a := b) (b := b2) (by omega) (by omega)]
        refine ms_callSp (As := [.int (nI (k / W)), .int (nI (min b b2)), .int (nI (max b b2))]) dX6_wall_98 (c_X6_isIn (nI (k / W)) (nI (min b b2)) (nI (max b b2))) cs_X6_49 rfl ⟨Nat.le_of_ble_eq_true rfl, Nat.le_of_ble_eq_true rfl⟩ rfl (Nat.le_of_ble_eq_true rfl) ?_
        by_cases hin2 : (nI (min b b2)) ≤ (nI (k / W)) ∧ (nI (k / W)) ≤ (nI (max b b2))
        · rw [show ms_b ((nI (min b b2)) ≤ (nI (k / W)) ∧ (nI (k / W)) ≤ (nI (max b b2))) = 1 from if_pos hin2]
          refine ms_if_ne (tgt := 107) dX6_wall_101 (by decide) (fun _ => ?_) (fun h9 => absurd h9 (by decide))
          refine ms_run (pc' := 109) (lv' := [(0, .ref m), (1, .int (nI a)), (2, .int (nI b)), (3, .int (nI a2)), (4, .int (nI b2)), (5, .int bv), (6, .int 0), (7, .int (nI k))]) (st' := [.int 0]) _ (ms_deC dX6_wall_107 ms_deN) rfl rfl ?_
          refine ms_if_ne (tgt := 133) dX6_wall_109 (by decide) (fun h9 => absurd h9 (by decide)) (fun _ => ?_)
          refine ms_run (pc' := 114) (lv' := [(0, .ref m), (1, .int (nI a)), (2, .int (nI b)), (3, .int (nI a2)), (4, .int (nI b2)), (5, .int bv), (6, .int 0), (7, .int (nI k))]) (st' := [.int bv]) _ (ms_deC dX6_wall_112 ms_deN) rfl rfl ?_
          refine ms_if_eq (tgt := 133) dX6_wall_114 (by decide) (fun h_114 => ?_) (fun h_114 => ?_)
          · skip
            refine ms_run (pc' := 136) (lv' := [(0, .ref m), (1, .int (nI a)), (2, .int (nI b)), (3, .int (nI a2)), (4, .int (nI b2)), (5, .int bv), (6, .int 0), (7, .int (nI k))]) (st' := [.int 1, .int 0]) _ (ms_deC dX6_wall_133 (ms_deC dX6_wall_135 ms_deN)) rfl rfl ?_
            refine ms_icmp_ne (tgt := 148) dX6_wall_136 (by decide) (fun _ => ?_) (fun h9 => absurd h9 (by decide))
            refine ms_run (pc' := 151) (lv' := [(7, .int ((nI k) + 1)), (0, .ref m), (1, .int (nI a)), (2, .int (nI b)), (3, .int (nI a2)), (4, .int (nI b2)), (5, .int bv), (6, .int 0)]) (st' := []) _ (ms_deC dX6_wall_148 ms_deN) rfl rfl ?_
            refine ms_goto (tgt := 42) dX6_wall_151 (by decide) ?_
            rw [nI_1 k]
            refine ms_W.sub (lv2 := [(0, _), (1, _), (2, _), (3, _), (4, _), (5, _), (6, _), (7, _)]) ?_ [1, 2, 3, 4, 5, 6, 7, 0] rfl
            exact ih (k + 1) (by omega) (fun f hf hr => by rcases Nat.lt_succ_iff_lt_or_eq.mp hf with z9 | z9; exact hno f z9 hr; subst z9; exact Or.inl h_114) kk kt
          · skip
            refine ms_run (pc' := 120) (lv' := [(0, .ref m), (1, .int (nI a)), (2, .int (nI b)), (3, .int (nI a2)), (4, .int (nI b2)), (5, .int bv), (6, .int 0), (7, .int (nI k))]) (st' := [.int (nI k), .ref m]) _ (ms_deC dX6_wall_117 (ms_deC dX6_wall_118 ms_deN)) rfl rfl ?_
            refine ms_callVp (As := [.int (nI k)]) dX6_wall_120 (c_X6_walkerOn (show md_at G m aw am ai ah W H th X.2.2.2 dr pa cnt wl mm X.2.1 X.1 from ⟨hm, hw_, hk_, ⟨it, hi_, hit⟩, hh_⟩) hW hH hc hV.1 hlt) cv_X6_88 hm rfl ⟨Nat.le_of_ble_eq_true rfl, Nat.le_of_ble_eq_true rfl⟩ rfl (Nat.le_of_ble_eq_true rfl) ?_
            refine ms_run (pc' := 124) (lv' := [(0, .ref m), (1, .int (nI a)), (2, .int (nI b)), (3, .int (nI a2)), (4, .int (nI b2)), (5, .int bv), (6, .int 0), (7, .int (nI k))]) (st' := [.int (-1), .int (X.2.2.1 k)]) _ (ms_deC dX6_wall_123 ms_deN) rfl rfl ?_
            refine ms_icmp_eq (tgt := 133) dX6_wall_124 (by decide) (fun h_124 => ?_) (fun h_124 => ?_)
            · skip
              refine ms_run (pc' := 136) (lv' := [(0, .ref m), (1, .int (nI a)), (2, .int (nI b)), (3, .int (nI a2)), (4, .int (nI b2)), (5, .int bv), (6, .int 0), (7, .int (nI k))]) (st' := [.int 1, .int 0]) _ (ms_deC dX6_wall_133 (ms_deC dX6_wall_135 ms_deN)) rfl rfl ?_
              refine ms_icmp_ne (tgt := 148) dX6_wall_136 (by decide) (fun _ => ?_) (fun h9 => absurd h9 (by decide))
              refine ms_run (pc' := 151) (lv' := [(7, .int ((nI k) + 1)), (0, .ref m), (1, .int (nI a)), (2, .int (nI b)), (3, .int (nI a2)), (4, .int (nI b2)), (5, .int bv), (6, .int 0)]) (st' := []) _ (ms_deC dX6_wall_148 ms_deN) rfl rfl ?_
              refine ms_goto (tgt := 42) dX6_wall_151 (by decide) ?_
              rw [nI_1 k]
              refine ms_W.sub (lv2 := [(0, _), (1, _), (2, _), (3, _), (4, _), (5, _), (6, _), (7, _)]) ?_ [1, 2, 3, 4, 5, 6, 7, 0] rfl
              exact ih (k + 1) (by omega) (fun f hf hr => by rcases Nat.lt_succ_iff_lt_or_eq.mp hf with z9 | z9; exact hno f z9 hr; subst z9; exact Or.inr (by first | exact h_124 | exact Decidable.not_not.mp h_124)) kk kt
            · skip
              refine ms_W.sub (lv2 := [(0, _)]) ?_ [0] rfl
              exact kt k hlt ⟨(in_I (by omega) (by omega) (by omega)).mp hin1, (in_I (by omega) (by omega) (by omega)).mp hin2⟩ h_114 h_124
        · rw [show ms_b ((nI (min b b2)) ≤ (nI (k / W)) ∧ (nI (k / W)) ≤ (nI (max b b2))) = 0 from if_neg hin2]
          refine ms_if_ne (tgt := 107) dX6_wall_101 (by decide) (fun h9 => absurd h9 (by decide)) (fun _ => ?_)
          refine ms_goto (tgt := 148) dX6_wall_104 (by decide) ?_
          refine ms_run (pc' := 151) (lv' := [(7, .int ((nI k) + 1)), (0, .ref m), (1, .int (nI a)), (2, .int (nI b)), (3, .int (nI a2)), (4, .int (nI b2)), (5, .int bv), (6, .int 0)]) (st' := []) _ (ms_deC dX6_wall_148 ms_deN) rfl rfl ?_
          refine ms_goto (tgt := 42) dX6_wall_151 (by decide) ?_
          rw [nI_1 k]
          refine ms_W.sub (lv2 := [(0, _), (1, _), (2, _), (3, _), (4, _), (5, _), (6, _), (7, _)]) ?_ [1, 2, 3, 4, 5, 6, 7, 0] rfl
          exact ih (k + 1) (by omega) (fun f hf hr => by rcases Nat.lt_succ_iff_lt_or_eq.mp hf with z9 | z9; exact hno f z9 hr; subst z9; exact absurd ((in_I (by omega) (by omega) (by omega)).mpr hr.2) hin2) kk kt
      · rw [show ms_b ((nI (min a a2)) ≤ (nI (k % W)) ∧ (nI (k % W)) ≤ (nI (max a a2))) = 0 from if_neg hin1]
        refine ms_if_eq (tgt := 148) dX6_wall_76 (by decide) (fun _ => ?_) (fun h9 => absurd h9 (by decide))
        refine ms_run (pc' := 151) (lv' := [(7, .int ((nI k) + 1)), (0, .ref m), (1, .int (nI a)), (2, .int (nI b)), (3, .int (nI a2)), (4, .int (nI b2)), (5, .int bv), (6, .int 0)]) (st' := []) _ (ms_deC dX6_wall_148 ms_deN) rfl rfl ?_
        refine ms_goto (tgt := 42) dX6_wall_151 (by decide) ?_
        rw [nI_1 k]
        refine ms_W.sub (lv2 := [(0, _), (1, _), (2, _), (3, _), (4, _), (5, _), (6, _), (7, _)]) ?_ [1, 2, 3, 4, 5, 6, 7, 0] rfl
        exact ih (k + 1) (by omega) (fun f hf hr => by rcases Nat.lt_succ_iff_lt_or_eq.mp hf with z9 | z9; exact hno f z9 hr; subst z9; exact absurd ((in_I (by omega) (by omega) (by omega)).mpr hr.1) hin1) kk kt
set_option maxHeartbeats 1000000 in
set_option maxRecDepth 20000 in
theorem l2_X6_wall {n m aw am ai ah W H cnt N : Nat} {G : ms_H} {th dr pa : Int32} {wl mm : Nat → Int32} {X : cX} {nr mk ds : Nat → Int32} (hl : md_lt n m aw am ai ah) (hW : W ≤ 14) (hH : H ≤ 14) (hW0 : 0 < W) (hc : cnt ≤ 24) (hne : md_ne m aw am ai ah) (hL : lk_ok W H (W * H) nr) (hmm : mmR (W * H) mk mm) (hds : dsR (W * H) nr wl mk ds) (hd : 0 ≤ dr ∧ dr ≤ 9) (hN : N < 1000000) (hV : wdV W H cnt N X) {a b a2 b2 : Nat} (ha : a < W) (hb : b < H) (ha2 : a2 < W) (hb2 : b2 < H) {bv : Int32} (hnb : vp_nar .boolean bv = bv) {P : ms_P} : ∀ (r k : Nat), k + r = W * H → ∀ (K : ms_H), md_at K m aw am ai ah W H th X.2.2.2 dr pa cnt (wlP W a b a2 b2 bv wl k) mm X.2.1 X.1 → ms_fb (E5 m aw am ai ah) n G K → (∀ (K : ms_H), md_at K m aw am ai ah W H th X.2.2.2 dr pa cnt (wlP W a b a2 b2 bv wl (W * H)) mm X.2.1 X.1 → ms_fb (E5 m aw am ai ah) n G K → ms_W false m_X6_wall P 154 [(0, .ref m), (1, .int (nI a)), (2, .int (nI b)), (3, .int (nI a2)), (4, .int (nI b2)), (5, .int bv), (6, .int 1)] [] n K 0 0) →  ms_W false m_X6_wall (P) 42 [(0, .ref m), (1, .int (nI a)), (2, .int (nI b)), (3, .int (nI a2)), (4, .int (nI b2)), (5, .int bv), (6, .int 1), (7, .int (nI k))] [] n K 0 0 := by
  obtain ⟨l1, l2, l3, l4, l5⟩ := hl
  obtain ⟨n1, n2, n3, n4, n5, n6, n7, n8, n9, n10⟩ := hne
  have h196 := fd_196 hW hH
  intro r
  induction r with
  | zero =>
    intro k hk K hM9 hF kk
    have hkN : k = W * H := by omega
    obtain ⟨hm, hw_, hk_, ⟨it, hi_, hit⟩, hh_⟩ := hM9
    refine ms_run (pc' := 45) (lv' := [(0, .ref m), (1, .int (nI a)), (2, .int (nI b)), (3, .int (nI a2)), (4, .int (nI b2)), (5, .int bv), (6, .int 1), (7, .int (nI k))]) (st' := [.ref m, .int (nI k)]) _ (ms_deC dX6_wall_42 (ms_deC dX6_wall_44 ms_deN)) rfl rfl ?_
    refine ms_getf dX6_wall_45 fg_X6_20 hm rfl ?_
    refine ms_run (pc' := 49) (lv' := [(0, .ref m), (1, .int (nI a)), (2, .int (nI b)), (3, .int (nI a2)), (4, .int (nI b2)), (5, .int bv), (6, .int 1), (7, .int (nI k))]) (st' := [.ref m, .int (nI W), .int (nI k)]) _ (ms_deC dX6_wall_48 ms_deN) rfl rfl ?_
    refine ms_getf dX6_wall_49 fg_X6_23 hm rfl ?_
    refine ms_run (pc' := 53) (lv' := [(0, .ref m), (1, .int (nI a)), (2, .int (nI b)), (3, .int (nI a2)), (4, .int (nI b2)), (5, .int bv), (6, .int 1), (7, .int (nI k))]) (st' := [.int ((nI W) * (nI H)), .int (nI k)]) _ (ms_deC dX6_wall_52 ms_deN) rfl rfl ?_
    rw [show nI W * nI H = nI (W * H) from pk_mul W H]
    refine ms_icmp_ge (tgt := 154) dX6_wall_53 (by decide) (fun h_53 => ?_) (fun h_53 => ?_)
    · skip
      refine ms_W.sub (lv2 := [(0, _), (1, _), (2, _), (3, _), (4, _), (5, _), (6, _)]) ?_ [0, 1, 2, 3, 4, 5, 6] rfl
      rw [hkN] at hw_
      exact kk K ⟨hm, hw_, hk_, ⟨it, hi_, hit⟩, hh_⟩ hF
    · skip
      exact absurd (by exact nI_le (b := k) (by omega) (by omega)) h_53
  | succ r ih =>
    intro k hk K hM9 hF kk
    have hlt : k < W * H := by omega
    obtain ⟨hm, hw_, hk_, ⟨it, hi_, hit⟩, hh_⟩ := hM9
    have t1 := Nat.mod_le k W
    have t2 := Nat.div_le_self k W
    refine ms_run (pc' := 45) (lv' := [(0, .ref m), (1, .int (nI a)), (2, .int (nI b)), (3, .int (nI a2)), (4, .int (nI b2)), (5, .int bv), (6, .int 1), (7, .int (nI k))]) (st' := [.ref m, .int (nI k)]) _ (ms_deC dX6_wall_42 (ms_deC dX6_wall_44 ms_deN)) rfl rfl ?_
    refine ms_getf dX6_wall_45 fg_X6_20 hm rfl ?_
    refine ms_run (pc' := 49) (lv' := [(0, .ref m), (1, .int (nI a)), (2, .int (nI b)), (3, .int (nI a2)), (4, .int (nI b2)), (5, .int bv), (6, .int 1), (7, .int (nI k))]) (st' := [.ref m, .int (nI W), .int (nI k)]) _ (ms_deC dX6_wall_48 ms_deN) rfl rfl ?_
    refine ms_getf dX6_wall_49 fg_X6_23 hm rfl ?_
    refine ms_run (pc' := 53) (lv' := [(0, .ref m), (1, .int (nI a)), (2, .int (nI b)), (3, .int (nI a2)), (4, .int (nI b2)), (5, .int bv), (6, .int 1), (7, .int (nI k))]) (st' := [.int ((nI W) * (nI H)), .int (nI k)]) _ (ms_deC dX6_wall_52 ms_deN) rfl rfl ?_
    rw [show nI W * nI H = nI (W * H) from pk_mul W H]
    refine ms_icmp_ge (tgt := 154) dX6_wall_53 (by decide) (fun h_53 => ?_) (fun h_53 => ?_)
    · skip
      exact absurd h_53 (by exact nI_ge (b := W * H) (by omega) (by omega))
    · skip
      refine ms_run (pc' := 59) (lv' := [(0, .ref m), (1, .int (nI a)), (2, .int (nI b)), (3, .int (nI a2)), (4, .int (nI b2)), (5, .int bv), (6, .int 1), (7, .int (nI k))]) (st' := [.ref m, .int (nI k)]) _ (ms_deC dX6_wall_56 (ms_deC dX6_wall_58 ms_deN)) rfl rfl ?_
      refine ms_getf dX6_wall_59 fg_X6_20 hm rfl ?_
      refine ms_irem dX6_wall_62 (nI_ne0 hW0 (by omega)) ?_
      rw [nI_rem (a := k) (b := W) (by omega) (by omega)]
      refine ms_run (pc' := 65) (lv' := [(0, .ref m), (1, .int (nI a)), (2, .int (nI b)), (3, .int (nI a2)), (4, .int (nI b2)), (5, .int bv), (6, .int 1), (7, .int (nI k))]) (st' := [.int (nI a2), .int (nI a), .int (nI (k % W))]) _ (ms_deC dX6_wall_63 (ms_deC dX6_wall_64 ms_deN)) rfl rfl ?_
      refine ms_min dX6_wall_65 mm_X6_82 ⟨Nat.le_of_ble_eq_true rfl, Nat.le_of_ble_eq_true rfl⟩ (Nat.le_of_ble_eq_true rfl) ?_
      rw [mn_I (a := a) (b := a2) (by omega) (by omega)]
      refine ms_run (pc' := 70) (lv' := [(0, .ref m), (1, .int (nI a)), (2, .int (nI b)), (3, .int (nI a2)), (4, .int (nI b2)), (5, .int bv), (6, .int 1), (7, .int (nI k))]) (st' := [.int (nI a2), .int (nI a), .int (nI (min a a2)), .int (nI (k % W))]) _ (ms_deC dX6_wall_68 (ms_deC dX6_wall_69 ms_deN)) rfl rfl ?_
      refine ms_max dX6_wall_70 mm_X6_85 ⟨Nat.le_of_ble_eq_true rfl, Nat.le_of_ble_eq_true rfl⟩ (Nat.le_of_ble_eq_true rfl) ?_
      rw [mx_I (a := a) (b := a2) (by omega) (by omega)]
      refine ms_callSp (As := [.int (nI (k % W)), .int (nI (min a a2)), .int (nI (max a a2))]) dX6_wall_73 (c_X6_isIn (nI (k % W)) (nI (min a a2)) (nI (max a a2))) cs_X6_49 rfl ⟨Nat.le_of_ble_eq_true rfl, Nat.le_of_ble_eq_true rfl⟩ rfl (Nat.le_of_ble_eq_true rfl) ?_
      by_cases hin1 : (nI (min a a2)) ≤ (nI (k % W)) ∧ (nI (k % W)) ≤ (nI (max a a2))
      · rw [show ms_b ((nI (min a a2)) ≤ (nI (k % W)) ∧ (nI (k % W)) ≤ (nI (max a a2))) = 1 from if_pos hin1]
        refine ms_if_eq (tgt := 148) dX6_wall_76 (by decide) (fun h9 => absurd h9 (by decide)) (fun _ => ?_)
        refine ms_run (pc' := 82) (lv' := [(0, .ref m), (1, .int (nI a)), (2, .int (nI b)), (3, .int (nI a2)), (4, .int (nI b2)), (5, .int bv), (6, .int 1), (7, .int (nI k))]) (st' := [.ref m, .int (nI k)]) _ (ms_deC dX6_wall_79 (ms_deC dX6_wall_81 ms_deN)) rfl rfl ?_
        refine ms_getf dX6_wall_82 fg_X6_20 hm rfl ?_
        refine ms_idiv dX6_wall_85 (nI_ne0 hW0 (by omega)) ?_
        rw [nI_div (a := k) (b := W) (by omega) (by omega)]
        refine ms_run (pc' := 89) (lv' := [(0, .ref m), (1, .int (nI a)), (2, .int (nI b)), (3, .int (nI a2)), (4, .int (nI b2)), (5, .int bv), (6, .int 1), (7, .int (nI k))]) (st' := [.int (nI b2), .int (nI b), .int (nI (k / W))]) _ (ms_deC dX6_wall_86 (ms_deC dX6_wall_87 ms_deN)) rfl rfl ?_
        refine ms_min dX6_wall_89 mm_X6_82 ⟨Nat.le_of_ble_eq_true rfl, Nat.le_of_ble_eq_true rfl⟩ (Nat.le_of_ble_eq_true rfl) ?_
        rw [mn_I (a := b) (b := b2) (by omega) (by omega)]
        refine ms_run (pc' := 95) (lv' := [(0, .ref m), (1, .int (nI a)), (2, .int (nI b)), (3, .int (nI a2)), (4, .int (nI b2)), (5, .int bv), (6, .int 1), (7, .int (nI k))]) (st' := [.int (nI b2), .int (nI b), .int (nI (min b b2)), .int (nI (k / W))]) _ (ms_deC dX6_wall_92 (ms_deC dX6_wall_93 ms_deN)) rfl rfl ?_
        refine ms_max dX6_wall_95 mm_X6_85 ⟨Nat.le_of_ble_eq_true rfl, Nat.le_of_ble_eq_true rfl⟩ (Nat.le_of_ble_eq_true rfl) ?_
        rw [mx_I (a := b) (b := b2) (by omega) (by omega)]
        refine ms_callSp (As := [.int (nI (k / W)), .int (nI (min b b2)), .int (nI (max b b2))]) dX6_wall_98 (c_X6_isIn (nI (k / W)) (nI (min b b2)) (nI (max b b2))) cs_X6_49 rfl ⟨Nat.le_of_ble_eq_true rfl, Nat.le_of_ble_eq_true rfl⟩ rfl (Nat.le_of_ble_eq_true rfl) ?_
        by_cases hin2 : (nI (min b b2)) ≤ (nI (k / W)) ∧ (nI (k / W)) ≤ (nI (max b b2))
        · rw [show ms_b ((nI (min b b2)) ≤ (nI (k / W)) ∧ (nI (k / W)) ≤ (nI (max b b2))) = 1 from if_pos hin2]
          refine ms_if_ne (tgt := 107) dX6_wall_101 (by decide) (fun _ => ?_) (fun h9 => absurd h9 (by decide))
          refine ms_run (pc' := 109) (lv' := [(0, .ref m), (1, .int (nI a)), (2, .int (nI b)), (3, .int (nI a2)), (4, .int (nI b2)), (5, .int bv), (6, .int 1), (7, .int (nI k))]) (st' := [.int 1]) _ (ms_deC dX6_wall_107 ms_deN) rfl rfl ?_
          refine ms_if_ne (tgt := 133) dX6_wall_109 (by decide) (fun _ => ?_) (fun h9 => absurd h9 (by decide))
          refine ms_run (pc' := 136) (lv' := [(0, .ref m), (1, .int (nI a)), (2, .int (nI b)), (3, .int (nI a2)), (4, .int (nI b2)), (5, .int bv), (6, .int 1), (7, .int (nI k))]) (st' := [.int 1, .int 1]) _ (ms_deC dX6_wall_133 (ms_deC dX6_wall_135 ms_deN)) rfl rfl ?_
          refine ms_icmp_ne (tgt := 148) dX6_wall_136 (by decide) (fun h9 => absurd h9 (by decide)) (fun _ => ?_)
          refine ms_run (pc' := 140) (lv' := [(0, .ref m), (1, .int (nI a)), (2, .int (nI b)), (3, .int (nI a2)), (4, .int (nI b2)), (5, .int bv), (6, .int 1), (7, .int (nI k))]) (st' := [.ref m]) _ (ms_deC dX6_wall_139 ms_deN) rfl rfl ?_
          refine ms_getf dX6_wall_140 fg_X6_29 hm rfl ?_
          refine ms_run (pc' := 147) (lv' := [(0, .ref m), (1, .int (nI a)), (2, .int (nI b)), (3, .int (nI a2)), (4, .int (nI b2)), (5, .int bv), (6, .int 1), (7, .int (nI k))]) (st' := [.int bv, .int (nI k), .ref aw]) _ (ms_deC dX6_wall_143 (ms_deC dX6_wall_145 ms_deN)) rfl rfl ?_
          refine ms_zastore dX6_wall_147 hw_ (vp_in_nI hlt (by omega)) ?_
          rw [nI_clamp (n := k) (by omega), hnb, wlP_in (k := k) ⟨(in_I (by omega) (by omega) (by omega)).mp hin1, (in_I (by omega) (by omega) (by omega)).mp hin2⟩]
          obtain ⟨G_1, eG_1⟩ : ∃ K9 : ms_H, K9 = ms_up K aw (.inl (1, (W * H), .inl (wlP W a b a2 b2 bv wl (k + 1)))) := ⟨_, rfl⟩
          refine ms_W.heq eG_1 ?_
          have hF_2 : ms_fb (E5 m aw am ai ah) n G G_1 := by rw [eG_1]; exact ms_fb.up hF (by first | exact Or.inl (by omega) | exact Or.inr rfl | exact Or.inr (Or.inl rfl) | exact Or.inr (Or.inr (Or.inl rfl)) | exact Or.inr (Or.inr (Or.inr rfl)) | exact Or.inr (Or.inr rfl) | exact Or.inr (Or.inr (Or.inr (Or.inl rfl))) | exact Or.inr (Or.inr (Or.inr (Or.inr (Or.inl rfl)))) | exact Or.inr (Or.inr (Or.inr (Or.inr (Or.inr rfl)))))
          have hf_3 := (congrFun eG_1 m).trans ((ms_up_n K _ (by omega)).trans hm)
          have hf_4 : G_1 aw = some (.inl (1, (W * H), .inl (wlP W a b a2 b2 bv wl (k + 1)))) := by rw [eG_1]; exact ms_up_s _ _ _
          have hf_5 := (congrFun eG_1 am).trans ((ms_up_n K _ (by omega)).trans hk_)
          have hf_6 := (congrFun eG_1 ai).trans ((ms_up_n K _ (by omega)).trans hi_)
          have hf_7 := (congrFun eG_1 ah).trans ((ms_up_n K _ (by omega)).trans hh_)
          refine ms_run (pc' := 151) (lv' := [(7, .int ((nI k) + 1)), (0, .ref m), (1, .int (nI a)), (2, .int (nI b)), (3, .int (nI a2)), (4, .int (nI b2)), (5, .int bv), (6, .int 1)]) (st' := []) _ (ms_deC dX6_wall_148 ms_deN) rfl rfl ?_
          refine ms_goto (tgt := 42) dX6_wall_151 (by decide) ?_
          rw [nI_1 k]
          refine ms_W.sub (lv2 := [(0, _), (1, _), (2, _), (3, _), (4, _), (5, _), (6, _), (7, _)]) ?_ [1, 2, 3, 4, 5, 6, 7, 0] rfl
          exact ih (k + 1) (by omega) G_1 ⟨hf_3, hf_4, hf_5, ⟨it, hf_6, hit⟩, hf_7⟩ hF_2 kk
        · rw [show ms_b ((nI (min b b2)) ≤ (nI (k / W)) ∧ (nI (k / W)) ≤ (nI (max b b2))) = 0 from if_neg hin2]
          refine ms_if_ne (tgt := 107) dX6_wall_101 (by decide) (fun h9 => absurd h9 (by decide)) (fun _ => ?_)
          refine ms_goto (tgt := 148) dX6_wall_104 (by decide) ?_
          refine ms_run (pc' := 151) (lv' := [(7, .int ((nI k) + 1)), (0, .ref m), (1, .int (nI a)), (2, .int (nI b)), (3, .int (nI a2)), (4, .int (nI b2)), (5, .int bv), (6, .int 1)]) (st' := []) _ (ms_deC dX6_wall_148 ms_deN) rfl rfl ?_
          refine ms_goto (tgt := 42) dX6_wall_151 (by decide) ?_
          rw [wlP_out (k := k) (fun hr => absurd ((in_I (by omega) (by omega) (by omega)).mpr hr.2) hin2)] at hw_
          rw [nI_1 k]
          refine ms_W.sub (lv2 := [(0, _), (1, _), (2, _), (3, _), (4, _), (5, _), (6, _), (7, _)]) ?_ [1, 2, 3, 4, 5, 6, 7, 0] rfl
          exact ih (k + 1) (by omega) K ⟨hm, hw_, hk_, ⟨it, hi_, hit⟩, hh_⟩ hF kk
      · rw [show ms_b ((nI (min a a2)) ≤ (nI (k % W)) ∧ (nI (k % W)) ≤ (nI (max a a2))) = 0 from if_neg hin1]
        refine ms_if_eq (tgt := 148) dX6_wall_76 (by decide) (fun _ => ?_) (fun h9 => absurd h9 (by decide))
        refine ms_run (pc' := 151) (lv' := [(7, .int ((nI k) + 1)), (0, .ref m), (1, .int (nI a)), (2, .int (nI b)), (3, .int (nI a2)), (4, .int (nI b2)), (5, .int bv), (6, .int 1)]) (st' := []) _ (ms_deC dX6_wall_148 ms_deN) rfl rfl ?_
        refine ms_goto (tgt := 42) dX6_wall_151 (by decide) ?_
        rw [wlP_out (k := k) (fun hr => absurd ((in_I (by omega) (by omega) (by omega)).mpr hr.1) hin1)] at hw_
        rw [nI_1 k]
        refine ms_W.sub (lv2 := [(0, _), (1, _), (2, _), (3, _), (4, _), (5, _), (6, _), (7, _)]) ?_ [1, 2, 3, 4, 5, 6, 7, 0] rfl
        exact ih (k + 1) (by omega) K ⟨hm, hw_, hk_, ⟨it, hi_, hit⟩, hh_⟩ hF kk
set_option maxHeartbeats 1000000 in
set_option maxRecDepth 20000 in
theorem c_X6_wall {n m aw am ai ah W H cnt N : Nat} {G : ms_H} {th dr pa : Int32} {wl mm : Nat → Int32} {X : cX} {nr mk ds : Nat → Int32} (hM : md_at G m aw am ai ah W H th X.2.2.2 dr pa cnt wl mm X.2.1 X.1) (hl : md_lt n m aw am ai ah) (hW : W ≤ 14) (hH : H ≤ 14) (hW0 : 0 < W) (hc : cnt ≤ 24) (hne : md_ne m aw am ai ah) (hL : lk_ok W H (W * H) nr) (hmm : mmR (W * H) mk mm) (hds : dsR (W * H) nr wl mk ds) (hd : 0 ≤ dr ∧ dr ≤ 9) (hN : N < 1000000) (hV : wdV W H cnt N X) (aa bb aa2 bb2 bv : Int32) (hbv : bv = 0 ∨ bv = 1) : ms_M m_X6_wall [.ref m, .int aa, .int bb, .int aa2, .int bb2, .int bv] n G 0 0 (mq_P n G (E5 m aw am ai ah) (th_wal W H X bv aa bb aa2 bb2) (fun e => if e = IOB then 1 else 2) (.int (nI (ct (pWall (wlX W bv aa.toNatClampNeg bb.toNatClampNeg aa2.toNatClampNeg bb2.toNatClampNeg wl)) (W * H)))) (fun t G1 => md_at G1 m aw am ai ah W H t X.2.2.2 dr pa cnt wl mm X.2.1 X.1) (fun G1 => md_at G1 m aw am ai ah W H 0 X.2.2.2 dr pa cnt (wlX W bv aa.toNatClampNeg bb.toNatClampNeg aa2.toNatClampNeg bb2.toNatClampNeg wl) mm X.2.1 X.1)) := by
  refine ms_M.of (by decide) (Nat.le_of_ble_eq_true rfl) ?_
  show ms_W false m_X6_wall _ 0 [(0, .ref m), (1, .int aa), (2, .int bb), (3, .int aa2), (4, .int bb2), (5, .int bv)] [] n G 0 0
  have hnb : vp_nar .boolean bv = bv := by rcases hbv with z9 | z9 <;> subst z9 <;> rfl
  have hl9 := hl
  have hne9 := hne
  obtain ⟨hm, hw_, hk_, ⟨it, hi_, hit⟩, hh_⟩ := hM
  obtain ⟨l1, l2, l3, l4, l5⟩ := hl
  obtain ⟨n1, n2, n3, n4, n5, n6, n7, n8, n9, n10⟩ := hne
  have h196 := fd_196 hW hH
  have hF : ms_fb (E5 m aw am ai ah) n G G := ms_fb.rf
  refine ms_run (pc' := 2) (lv' := [(0, .ref m), (1, .int aa), (2, .int bb), (3, .int aa2), (4, .int bb2), (5, .int bv)]) (st' := [.int 0, .ref m]) _ (ms_deC dX6_wall_0 (ms_deC dX6_wall_1 ms_deN)) rfl rfl ?_
  refine ms_putf dX6_wall_2 fp_X6_46 hm (Nat.le_of_ble_eq_true rfl) rfl rfl ?_
  obtain ⟨G_1, eG_1⟩ : ∃ K9 : ms_H, K9 = ms_up G m (.inr (6, [.int 0, .int (nI W), .int (nI H), .int X.2.2.2, .int dr, .int pa, .ref aw, .ref am, .int (nI cnt), .ref ai, .ref ah])) := ⟨_, rfl⟩
  refine ms_W.heq eG_1 ?_
  have hF_2 : ms_fb (E5 m aw am ai ah) n G G_1 := by rw [eG_1]; exact ms_fb.up hF (by first | exact Or.inl (by omega) | exact Or.inr rfl | exact Or.inr (Or.inl rfl) | exact Or.inr (Or.inr (Or.inl rfl)) | exact Or.inr (Or.inr (Or.inr rfl)) | exact Or.inr (Or.inr rfl) | exact Or.inr (Or.inr (Or.inr (Or.inl rfl))) | exact Or.inr (Or.inr (Or.inr (Or.inr (Or.inl rfl)))) | exact Or.inr (Or.inr (Or.inr (Or.inr (Or.inr rfl)))))
  have hf_3 : G_1 m = some (.inr (6, [.int 0, .int (nI W), .int (nI H), .int X.2.2.2, .int dr, .int pa, .ref aw, .ref am, .int (nI cnt), .ref ai, .ref ah])) := by rw [eG_1]; exact ms_up_s _ _ _
  have hf_4 := (congrFun eG_1 aw).trans ((ms_up_n G _ (by omega)).trans hw_)
  have hf_5 := (congrFun eG_1 am).trans ((ms_up_n G _ (by omega)).trans hk_)
  have hf_6 := (congrFun eG_1 ai).trans ((ms_up_n G _ (by omega)).trans hi_)
  have hf_7 := (congrFun eG_1 ah).trans ((ms_up_n G _ (by omega)).trans hh_)
  refine ms_run (pc' := 8) (lv' := [(0, .ref m), (1, .int aa), (2, .int bb), (3, .int aa2), (4, .int bb2), (5, .int bv)]) (st' := [.int bb, .int aa, .ref m]) _ (ms_deC dX6_wall_5 (ms_deC dX6_wall_6 (ms_deC dX6_wall_7 ms_deN))) rfl rfl ?_
  refine ms_callVp (As := [.int aa, .int bb]) dX6_wall_8 (c_X6_isField (show md_at G_1 m aw am ai ah W H 0 X.2.2.2 dr pa cnt wl mm X.2.1 X.1 from ⟨hf_3, hf_4, hf_5, ⟨it, hf_6, hit⟩, hf_7⟩) hW hH hc aa bb) cv_X6_57 hf_3 rfl ⟨Nat.le_of_ble_eq_true rfl, Nat.le_of_ble_eq_true rfl⟩ rfl (Nat.le_of_ble_eq_true rfl) ?_
  by_cases hins1 : gr_ins (nI W) (nI H) aa bb
  · rw [show ms_b (gr_ins (nI W) (nI H) aa bb) = 1 from if_pos hins1]
    obtain ⟨ax, ay, hax1, hay1, hae1, hbe1, hfe1⟩ := ins_nat hW hH hins1
    refine ms_if_eq (tgt := 24) dX6_wall_11 (by decide) (fun h9 => absurd h9 (by decide)) (fun _ => ?_)
    refine ms_run (pc' := 18) (lv' := [(0, .ref m), (1, .int aa), (2, .int bb), (3, .int aa2), (4, .int bb2), (5, .int bv)]) (st' := [.int bb2, .int aa2, .ref m]) _ (ms_deC dX6_wall_14 (ms_deC dX6_wall_15 (ms_deC dX6_wall_16 ms_deN))) rfl rfl ?_
    refine ms_callVp (As := [.int aa2, .int bb2]) dX6_wall_18 (c_X6_isField (show md_at G_1 m aw am ai ah W H 0 X.2.2.2 dr pa cnt wl mm X.2.1 X.1 from ⟨hf_3, hf_4, hf_5, ⟨it, hf_6, hit⟩, hf_7⟩) hW hH hc aa2 bb2) cv_X6_57 hf_3 rfl ⟨Nat.le_of_ble_eq_true rfl, Nat.le_of_ble_eq_true rfl⟩ rfl (Nat.le_of_ble_eq_true rfl) ?_
    by_cases hins2 : gr_ins (nI W) (nI H) aa2 bb2
    · rw [show ms_b (gr_ins (nI W) (nI H) aa2 bb2) = 1 from if_pos hins2]
      obtain ⟨ax2, ay2, hax2, hay2, hae2, hbe2, hfe2⟩ := ins_nat hW hH hins2
      refine ms_if_ne (tgt := 30) dX6_wall_21 (by decide) (fun _ => ?_) (fun h9 => absurd h9 (by decide))
      refine ms_run (pc' := 36) (lv' := [(6, .int 0), (0, .ref m), (1, .int aa), (2, .int bb), (3, .int aa2), (4, .int bb2), (5, .int bv)]) (st' := [.int 2, .int 0]) _ (ms_deC dX6_wall_30 (ms_deC dX6_wall_31 (ms_deC dX6_wall_33 (ms_deC dX6_wall_35 ms_deN)))) rfl rfl ?_
      refine ms_icmp_ge (tgt := 160) dX6_wall_36 (by decide) (fun h9 => absurd h9 (by decide)) (fun _ => ?_)
      refine ms_run (pc' := 42) (lv' := [(7, .int 0), (6, .int 0), (0, .ref m), (1, .int aa), (2, .int bb), (3, .int aa2), (4, .int bb2), (5, .int bv)]) (st' := []) _ (ms_deC dX6_wall_39 (ms_deC dX6_wall_40 ms_deN)) rfl rfl ?_
      subst hae1 hbe1 hae2 hbe2
      have ea : (nI ax).toNatClampNeg = ax := nI_clamp (by omega)
      have eb : (nI ay).toNatClampNeg = ay := nI_clamp (by omega)
      have ea2 : (nI ax2).toNatClampNeg = ax2 := nI_clamp (by omega)
      have eb2 : (nI ay2).toNatClampNeg = ay2 := nI_clamp (by omega)
      have hno1 : ¬ (gr_num (nI W) (nI H) (nI ax) (nI ay) = -1 ∨ gr_num (nI W) (nI H) (nI ax2) (nI ay2) = -1) := by rintro (z9 | z9); rw [hfe1] at z9; exact nI_m1 (by have := fd_lt hax1 hay1; omega) z9; rw [hfe2] at z9; exact nI_m1 (by have := fd_lt hax2 hay2; omega) z9
      have hwf := wanF_iff (X := X) hW hH hax1 hay1 hax2 hay2
      rw [ea, eb, ea2, eb2]
      have hM2 := (show md_at G_1 m aw am ai ah W H 0 X.2.2.2 dr pa cnt wl mm X.2.1 X.1 from ⟨hf_3, hf_4, hf_5, ⟨it, hf_6, hit⟩, hf_7⟩)
      have hF2 := hF_2
      refine ms_W.sub (lv2 := [(0, _), (1, _), (2, _), (3, _), (4, _), (5, _), (6, _), (7, _)]) ?_ [2, 3, 4, 5, 6, 7, 1, 0] rfl
      refine l1_X6_wall hM2 hl9 hW hH hW0 hc hne9 hL hmm hds hd hN hV hax1 hay1 hax2 hay2 (bv := bv) (W * H) 0 (by omega) (fun f hf => absurd hf (Nat.not_lt_zero f)) (fun hno => ?_) (fun f hf hr hb hon => ?_)
      · skip
        refine ms_run (pc' := 157) (lv' := [(6, .int 1), (0, .ref m), (1, .int (nI ax)), (2, .int (nI ay)), (3, .int (nI ax2)), (4, .int (nI ay2)), (5, .int bv)]) (st' := []) _ (ms_deC dX6_wall_154 ms_deN) rfl rfl ?_
        refine ms_goto (tgt := 33) dX6_wall_157 (by decide) ?_
        refine ms_run (pc' := 36) (lv' := [(6, .int 1), (0, .ref m), (1, .int (nI ax)), (2, .int (nI ay)), (3, .int (nI ax2)), (4, .int (nI ay2)), (5, .int bv)]) (st' := [.int 2, .int 1]) _ (ms_deC dX6_wall_33 (ms_deC dX6_wall_35 ms_deN)) rfl rfl ?_
        refine ms_icmp_ge (tgt := 160) dX6_wall_36 (by decide) (fun h9 => absurd h9 (by decide)) (fun _ => ?_)
        refine ms_run (pc' := 42) (lv' := [(7, .int 0), (6, .int 1), (0, .ref m), (1, .int (nI ax)), (2, .int (nI ay)), (3, .int (nI ax2)), (4, .int (nI ay2)), (5, .int bv)]) (st' := []) _ (ms_deC dX6_wall_39 (ms_deC dX6_wall_40 ms_deN)) rfl rfl ?_
        have hM3 : md_at G_1 m aw am ai ah W H 0 X.2.2.2 dr pa cnt (wlP W ax ay ax2 ay2 bv wl 0) mm X.2.1 X.1 := by rw [wlP_0]; exact hM2
        refine ms_W.sub (lv2 := [(0, _), (1, _), (2, _), (3, _), (4, _), (5, _), (6, _), (7, _)]) ?_ [2, 3, 4, 5, 6, 7, 1, 0] rfl
        refine l2_X6_wall hl9 hW hH hW0 hc hne9 hL hmm hds hd hN hV hax1 hay1 hax2 hay2 (bv := bv) hnb (W * H) 0 (by omega) G_1 hM3 ms_fb.rf (fun K hM4 hF4 => ?_)
        rw [wlP_N hW0 hax1 hay1 hax2 hay2 hbv] at hM4
        obtain ⟨hm4, hw4, -⟩ := id hM4
        refine ms_run (pc' := 157) (lv' := [(6, .int 2), (0, .ref m), (1, .int (nI ax)), (2, .int (nI ay)), (3, .int (nI ax2)), (4, .int (nI ay2)), (5, .int bv)]) (st' := []) _ (ms_deC dX6_wall_154 ms_deN) rfl rfl ?_
        refine ms_goto (tgt := 33) dX6_wall_157 (by decide) ?_
        refine ms_run (pc' := 36) (lv' := [(6, .int 2), (0, .ref m), (1, .int (nI ax)), (2, .int (nI ay)), (3, .int (nI ax2)), (4, .int (nI ay2)), (5, .int bv)]) (st' := [.int 2, .int 2]) _ (ms_deC dX6_wall_33 (ms_deC dX6_wall_35 ms_deN)) rfl rfl ?_
        refine ms_icmp_ge (tgt := 160) dX6_wall_36 (by decide) (fun _ => ?_) (fun h9 => absurd h9 (by decide))
        refine ms_run (pc' := 164) (lv' := [(6, .int 0), (0, .ref m), (1, .int (nI ax)), (2, .int (nI ay)), (3, .int (nI ax2)), (4, .int (nI ay2)), (5, .int bv)]) (st' := [.ref m]) _ (ms_deC dX6_wall_160 (ms_deC dX6_wall_161 (ms_deC dX6_wall_163 ms_deN))) rfl rfl ?_
        refine ms_getf dX6_wall_164 fg_X6_29 hm4 rfl ?_
        refine ms_run (pc' := 171) (lv' := [(7, .ref aw), (6, .int 0), (0, .ref m), (1, .int (nI ax)), (2, .int (nI ay)), (3, .int (nI ax2)), (4, .int (nI ay2)), (5, .int bv)]) (st' := [.ref aw]) _ (ms_deC dX6_wall_167 (ms_deC dX6_wall_169 ms_deN)) rfl rfl ?_
        refine ms_alen (kd := 1) (v := nI (W * H)) (ty := fun c => (c, .boolean)) dX6_wall_171 hw4 (by decide) rfl ?_
        refine ms_run (pc' := 177) (lv' := [(9, .int 0), (8, .int (nI (W * H))), (7, .ref aw), (6, .int 0), (0, .ref m), (1, .int (nI ax)), (2, .int (nI ay)), (3, .int (nI ax2)), (4, .int (nI ay2)), (5, .int bv)]) (st' := []) _ (ms_deC dX6_wall_172 (ms_deC dX6_wall_174 (ms_deC dX6_wall_175 ms_deN))) rfl rfl ?_
        refine ms_W.conseq (P := ms_p1 (some (.int (nI (ct (pWall (wlX W bv ax ay ax2 ay2 wl)) (W * H))))) n K) ?_ (fun r9 n9 G9 h9 => ?_)
        refine ms_W.sub (lv2 := [(6, _), (7, _), (8, _), (9, _)]) ?_ [3, 2, 1, 0] rfl
        exact l3_X6_wall hw4 (by omega) (W * H) 0 (by omega)
        obtain ⟨q1, rfl, rfl⟩ := h9
        rw [q1]
        exact mq_P.ok (by unfold th_wal; rw [if_neg hno1, ea, eb, ea2, eb2, if_neg (fun z9 => by obtain ⟨f, f1, f2, f3⟩ := hwf.mp z9.2; exact (hno f f1 f2).elim z9.1 f3)]) (Nat.le_refl _) (ms_fb.trans2 hF2 hF4 (Nat.le_refl _)) rfl hM4
      · skip
        obtain ⟨hm5, -⟩ := id hM2
        refine ms_run (pc' := 129) (lv' := [(0, .ref m)]) (st' := [.int 2, .ref m]) _ (ms_deC dX6_wall_127 (ms_deC dX6_wall_128 ms_deN)) rfl rfl ?_
        refine ms_callV0 (As := [.int 2]) dX6_wall_129 (c_X6_no hM2 hne9 2) cv_X6_79 hm5 rfl ⟨Nat.le_of_ble_eq_true rfl, Nat.le_of_ble_eq_true rfl⟩ rfl (Nat.le_of_ble_eq_true rfl) (fun v9 n9 K_no hp9 => ?_)
        obtain ⟨hv9, rfl, hF_no, hM_no⟩ := hp9
        cases hv9
        refine ms_reti (st := []) (ty := .int) dX6_wall_132 rfl rfl ?_
        exact mq_P.no (show th_wal W H X bv (nI ax) (nI ay) (nI ax2) (nI ay2) = some ISE from by unfold th_wal; rw [if_neg hno1, ea, eb, ea2, eb2, if_pos ⟨hb, hwf.mpr ⟨f, hf, hr, hon⟩⟩]) (by omega) (ms_fb.trans2 hF2 (hF_no.mono (fun a h => Or.inl h)) (by omega)) rfl hM_no
    · rw [show ms_b (gr_ins (nI W) (nI H) aa2 bb2) = 0 from if_neg hins2]
      refine ms_if_ne (tgt := 30) dX6_wall_21 (by decide) (fun h9 => absurd h9 (by decide)) (fun _ => ?_)
      refine ms_run (pc' := 26) (lv' := [(0, .ref m), (1, .int aa), (2, .int bb), (3, .int aa2), (4, .int bb2), (5, .int bv)]) (st' := [.int 1, .ref m]) _ (ms_deC dX6_wall_24 (ms_deC dX6_wall_25 ms_deN)) rfl rfl ?_
      refine ms_callV0 (As := [.int 1]) dX6_wall_26 (c_X6_no (show md_at G_1 m aw am ai ah W H 0 X.2.2.2 dr pa cnt wl mm X.2.1 X.1 from ⟨hf_3, hf_4, hf_5, ⟨it, hf_6, hit⟩, hf_7⟩) hne9 1) cv_X6_79 hf_3 rfl ⟨Nat.le_of_ble_eq_true rfl, Nat.le_of_ble_eq_true rfl⟩ rfl (Nat.le_of_ble_eq_true rfl) (fun v9 n9 K_no hp9 => ?_)
      obtain ⟨hv9, rfl, hF_no, hM_no⟩ := hp9
      cases hv9
      refine ms_reti (st := []) (ty := .int) dX6_wall_29 rfl rfl ?_
      exact mq_P.no (show th_wal _ _ _ _ _ _ _ _ = some IOB from if_pos (by first | exact Or.inl (ins_no hins1) | exact Or.inr (ins_no hins2))) (by omega) (ms_fb.trans2 hF_2 (hF_no.mono (fun a h => Or.inl h)) (by omega)) rfl hM_no
  · rw [show ms_b (gr_ins (nI W) (nI H) aa bb) = 0 from if_neg hins1]
    refine ms_if_eq (tgt := 24) dX6_wall_11 (by decide) (fun _ => ?_) (fun h9 => absurd h9 (by decide))
    refine ms_run (pc' := 26) (lv' := [(0, .ref m), (1, .int aa), (2, .int bb), (3, .int aa2), (4, .int bb2), (5, .int bv)]) (st' := [.int 1, .ref m]) _ (ms_deC dX6_wall_24 (ms_deC dX6_wall_25 ms_deN)) rfl rfl ?_
    refine ms_callV0 (As := [.int 1]) dX6_wall_26 (c_X6_no (show md_at G_1 m aw am ai ah W H 0 X.2.2.2 dr pa cnt wl mm X.2.1 X.1 from ⟨hf_3, hf_4, hf_5, ⟨it, hf_6, hit⟩, hf_7⟩) hne9 1) cv_X6_79 hf_3 rfl ⟨Nat.le_of_ble_eq_true rfl, Nat.le_of_ble_eq_true rfl⟩ rfl (Nat.le_of_ble_eq_true rfl) (fun v9 n9 K_no hp9 => ?_)
    obtain ⟨hv9, rfl, hF_no, hM_no⟩ := hp9
    cases hv9
    refine ms_reti (st := []) (ty := .int) dX6_wall_29 rfl rfl ?_
    exact mq_P.no (show th_wal _ _ _ _ _ _ _ _ = some IOB from if_pos (by first | exact Or.inl (ins_no hins1) | exact Or.inr (ins_no hins2))) (by omega) (ms_fb.trans2 hF_2 (hF_no.mono (fun a h => Or.inl h)) (by omega)) rfl hM_no

/-! Flock: tick -/
/-- the rows of distances of all goals -/
def tb_at (G : ms_H) (n W H : Nat) (D : Nat → Nat → Int32) : Prop := ∃ f : Nat → Option Nat, G n = some (.inl (2, 4, .inr (.inr (.inr (.inr f))))) ∧ ∀ g, g < 4 → ∃ b, n < b ∧ b + 1 + W ≤ (n + 1 + 1 + W + 1 + W + 1 + W + 1 + W) ∧ f g = some b ∧ far_at G b W H (D g)
theorem tb_at.fr {G G1 : ms_H} {n W H : Nat} {D : Nat → Nat → Int32} (h : tb_at G n W H D) (hF : ∀ a, n ≤ a → a < (n + 1 + 1 + W + 1 + W + 1 + W + 1 + W) → G1 a = G a) : tb_at G1 n W H D := by
  obtain ⟨f, h1, h2⟩ := h
  refine ⟨f, (hF n (Nat.le_refl n) (by omega)).trans h1, fun g hg => ?_⟩
  obtain ⟨b, e1, e2, e3, e4⟩ := h2 g hg
  exact ⟨b, e1, e2, e3, e4.fr (fun a h5 h6 => hF a (by omega) (by omega))⟩
theorem fk_at.O {G : ms_H} {o x sb fa wa W H cnt : Nat} {dw cl dr pa : Int32} {wr : Nat → Nat} {fv u : Nat → Nat → Int32} (h : fk_at G o x sb dw W H cl dr pa fa wa cnt wr fv u) : G o = some (.inr (6, [.ref x, .ref sb, .int dw, .int (nI W), .int (nI H), .int cl, .int dr, .int pa, .ref fa, .ref wa])) := h.1
set_option maxHeartbeats 1000000 in
set_option maxRecDepth 20000 in
theorem l1_X6_tick {n o x sb fa wa W H cnt N t0 : Nat} {G : ms_H} {dw dr pa : Int32} {wr : Nat → Nat} {fv : Nat → Nat → Int32} {X : cX} {nr wl mk ds : Nat → Int32} (fl : fk_lt n o fa W H wa cnt wr) (ly : fk_ly o fa W H wa cnt wr) (hW : W ≤ 14) (hH : H ≤ 14) (hc : cnt ≤ 24) (hW0 : 0 < W) (hL : lk_ok W H (W * H) nr) (hfv : fvR (W * H) wl mk fv) (hht : ∀ f, f < W * H → fv f 1 = X.2.1 f) (hds : dsR (W * H) nr wl mk ds) (hd9 : 0 ≤ dr ∧ dr ≤ 9) (hN : N < 1000000) (hV9 : wdV W H cnt N X) (ht0 : X.2.2.2 = nI t0) (ht9 : t0 < 900) (kk : ∀ K : ms_H, fk_at K o x sb dw W H (X.2.2.2 + 1) dr pa fa wa cnt wr fv X.1 → tb_at K n W H (dXg (W * H) nr wl mk) → K (n + 1 + 1 + W + 1 + W + 1 + W + 1 + W) = some (.inl (0, cnt, .inl (fl2 (wfX (W * H) nr ds cnt dr X) cnt))) → (∀ a, a < fa → ¬ a = o → K a = G a) → ms_W false m_X6_tick (fun r n1 G1 => r = .inl (some (.int (nI (ct (pGf (W * H) nr mk ds cnt dr X) cnt)))) ∧ n ≤ n1 ∧ (∀ a, a < fa → ¬ a = o → G1 a = G a) ∧ ∃ fv1, fk_at G1 o x sb dw W H (X.2.2.2 + 1) dr pa fa wa cnt wr fv1 (stX1 (nI (W * H)) nr mk ds cnt dr X).1 ∧ fvR (W * H) wl mk fv1 ∧ ∀ f, f < W * H → fv1 f 1 = (stX1 (nI (W * H)) nr mk ds cnt dr X).2.1 f) 126 [(0, .ref o), (1, .ref n), (2, .int (nI cnt)), (3, .ref (n + 1 + 1 + W + 1 + W + 1 + W + 1 + W))] [] (n + 1 + 1 + W + 1 + W + 1 + W + 1 + W + 1) K 26 26) : ∀ (r k : Nat), k + r = cnt → ∀ K : ms_H, fk_at K o x sb dw W H (X.2.2.2 + 1) dr pa fa wa cnt wr fv X.1 → tb_at K n W H (dXg (W * H) nr wl mk) → K (n + 1 + 1 + W + 1 + W + 1 + W + 1 + W) = some (.inl (0, cnt, .inl (fl2 (wfX (W * H) nr ds cnt dr X) k))) → (∀ a, a < fa → ¬ a = o → K a = G a) → ms_W false m_X6_tick (fun r n1 G1 => r = .inl (some (.int (nI (ct (pGf (W * H) nr mk ds cnt dr X) cnt)))) ∧ n ≤ n1 ∧ (∀ a, a < fa → ¬ a = o → G1 a = G a) ∧ ∃ fv1, fk_at G1 o x sb dw W H (X.2.2.2 + 1) dr pa fa wa cnt wr fv1 (stX1 (nI (W * H)) nr mk ds cnt dr X).1 ∧ fvR (W * H) wl mk fv1 ∧ ∀ f, f < W * H → fv1 f 1 = (stX1 (nI (W * H)) nr mk ds cnt dr X).2.1 f) 60 [(0, .ref o), (1, .ref n), (2, .int (nI cnt)), (3, .ref (n + 1 + 1 + W + 1 + W + 1 + W + 1 + W)), (4, .int (nI k))] [] (n + 1 + 1 + W + 1 + W + 1 + W + 1 + W + 1) K 26 26 := by
  have h9 : W * H ≤ 196 := Nat.mul_le_mul hW hH
  obtain ⟨l1, l2, l3, l4⟩ := fl
  obtain ⟨y1, y2, y3⟩ := ly
  have had := ad_fa (fa := fa) (H := H) (i := W)
  intro r
  induction r with
  | zero =>
    intro k hk K hMK hTK hwK hFR
    have hkN : k = cnt := by omega
    refine ms_run (pc' := 63) (lv' := [(0, .ref o), (1, .ref n), (2, .int (nI cnt)), (3, .ref (n + 1 + 1 + W + 1 + W + 1 + W + 1 + W)), (4, .int (nI k))]) (st' := [.int (nI cnt), .int (nI k)]) _ (ms_deC dX6_tick_60 (ms_deC dX6_tick_62 ms_deN)) rfl rfl ?_
    refine ms_icmp_ge (tgt := 126) dX6_tick_63 (by decide) (fun h_63 => ?_) (fun h_63 => ?_)
    · skip
      refine ms_W.sub (lv2 := [(0, _), (1, _), (2, _), (3, _)]) ?_ [0, 1, 2, 3] rfl
      exact kk K hMK hTK (by rw [hkN] at hwK; exact hwK) hFR
    · skip
      exact absurd (by exact nI_le (b := k) (by omega) (by omega)) h_63
  | succ r ih =>
    intro k hk K hMK hTK hwK hFR
    have hlt : k < cnt := by omega
    refine ms_run (pc' := 63) (lv' := [(0, .ref o), (1, .ref n), (2, .int (nI cnt)), (3, .ref (n + 1 + 1 + W + 1 + W + 1 + W + 1 + W)), (4, .int (nI k))]) (st' := [.int (nI cnt), .int (nI k)]) _ (ms_deC dX6_tick_60 (ms_deC dX6_tick_62 ms_deN)) rfl rfl ?_
    refine ms_icmp_ge (tgt := 126) dX6_tick_63 (by decide) (fun h_63 => ?_) (fun h_63 => ?_)
    · skip
      exact absurd h_63 (by exact nI_ge (b := cnt) (by omega) (by omega))
    · skip
      obtain ⟨hon, hvv, hwk, hwa⟩ := hV9
      obtain ⟨p9, hp9, ep⟩ := nI_of2 (M := 3) (n := 3) rfl (show ¬ X.1 k 1 < 0 from fun z => absurd (Int32.lt_of_lt_of_le (Int32.lt_of_lt_of_le (by decide : (0 : Int32) < 1) (hwk k hlt).2.1.1) (Int32.le_refl _)) (Int32.not_lt.mpr (Int32.le_of_lt z))) (hwk k hlt).2.1.2
      have hp1 : 1 ≤ p9 := by have h5 := (hwk k hlt).2.1.1; rw [ep] at h5; exact (nI_leI (a := 1) (by omega) (by omega)).mp h5
      obtain ⟨g9, hg9, eg⟩ := nI_of2 (M := 3) (n := 3) rfl (Int32.not_lt.mpr (hwk k hlt).1.1) (by have h5 := (hwk k hlt).1.2; rw [nb_lt] at h5; rw [nb_le]; have e4 : (4 : Int32).toInt = 4 := rfl; have e3 : (3 : Int32).toInt = 3 := rfl; omega)
      have hrem : (nI t0 + 1) - (nI t0 + 1) / nI p9 * nI p9 = nI ((t0 + 1) % p9) := by rw [nI_1]; exact nI_rem (by omega) (by omega)
      by_cases e9 : X.1 k 3 = -1
      · skip
        have hw9 : (wfX (W * H) nr ds cnt dr X) k = -1 := if_neg (fun z => z.1 e9)
        refine ms_run (pc' := 70) (lv' := [(0, .ref o), (1, .ref n), (2, .int (nI cnt)), (3, .ref (n + 1 + 1 + W + 1 + W + 1 + W + 1 + W)), (4, .int (nI k))]) (st' := [.ref o, .int (nI k), .ref (n + 1 + 1 + W + 1 + W + 1 + W + 1 + W)]) _ (ms_deC dX6_tick_66 (ms_deC dX6_tick_67 (ms_deC dX6_tick_69 ms_deN))) rfl rfl ?_
        refine ms_getf dX6_tick_70 fg_X6_36 hMK.O rfl ?_
        refine ms_run (pc' := 75) (lv' := [(0, .ref o), (1, .ref n), (2, .int (nI cnt)), (3, .ref (n + 1 + 1 + W + 1 + W + 1 + W + 1 + W)), (4, .int (nI k))]) (st' := [.int (nI k), .ref wa, .int (nI k), .ref (n + 1 + 1 + W + 1 + W + 1 + W + 1 + W)]) _ (ms_deC dX6_tick_73 ms_deN) rfl rfl ?_
        refine fk_ldW (i := k) dX6_tick_75 hMK.2.2 (by first | assumption | omega) hc ?_
        refine ms_run (pc' := 77) (lv' := [(0, .ref o), (1, .ref n), (2, .int (nI cnt)), (3, .ref (n + 1 + 1 + W + 1 + W + 1 + W + 1 + W)), (4, .int (nI k))]) (st' := [.int 3, .ref (wr k), .int (nI k), .ref (n + 1 + 1 + W + 1 + W + 1 + W + 1 + W)]) _ (ms_deC dX6_tick_76 ms_deN) rfl rfl ?_
        refine fk_ldR (c := 3) dX6_tick_77 hMK.2.2 (by first | assumption | omega) (by decide) rfl ?_
        rw [show wvX W (X.1 k) 3 = -1 from (xX_m e9).1]
        refine ms_if_lt (tgt := 98) dX6_tick_78 (by decide) (fun _ => ?_) (fun h9 => absurd h9 (by decide))
        refine ms_run (pc' := 99) (lv' := [(0, .ref o), (1, .ref n), (2, .int (nI cnt)), (3, .ref (n + 1 + 1 + W + 1 + W + 1 + W + 1 + W)), (4, .int (nI k))]) (st' := [.int (-1), .int (nI k), .ref (n + 1 + 1 + W + 1 + W + 1 + W + 1 + W)]) _ (ms_deC dX6_tick_98 ms_deN) rfl rfl ?_
        refine ms_goto (tgt := 119) dX6_tick_99 (by decide) ?_
        refine ms_iastore dX6_tick_119 hwK (vp_in_nI hlt (by omega)) ?_
        rw [nI_clamp (n := k) (by omega)]
        rw [show upd (fl2 (wfX (W * H) nr ds cnt dr X) k) k (-1) = fl2 (wfX (W * H) nr ds cnt dr X) (k + 1) from fl2_v hw9]
        obtain ⟨K2, eK⟩ : ∃ K2, K2 = ms_up K (n + 1 + 1 + W + 1 + W + 1 + W + 1 + W) (.inl (0, cnt, .inl (fl2 (wfX (W * H) nr ds cnt dr X) (k + 1)))) := ⟨_, rfl⟩
        refine ms_W.heq eK ?_
        have hK2 : ∀ a, a < (n + 1 + 1 + W + 1 + W + 1 + W + 1 + W) → K2 a = K a := fun a ha => by rw [eK]; exact ms_up_n _ _ (by omega)
        refine ms_run (pc' := 123) (lv' := [(4, .int ((nI k) + 1)), (0, .ref o), (1, .ref n), (2, .int (nI cnt)), (3, .ref (n + 1 + 1 + W + 1 + W + 1 + W + 1 + W))]) (st' := []) _ (ms_deC dX6_tick_120 ms_deN) rfl rfl ?_
        refine ms_goto (tgt := 60) dX6_tick_123 (by decide) ?_
        rw [nI_1 k]
        refine ms_W.sub (lv2 := [(0, _), (1, _), (2, _), (3, _), (4, _)]) ?_ [1, 2, 3, 4, 0] rfl
        exact ih (k + 1) (by omega) K2 (hMK.hi (n := n) ⟨l1, l2, l3, l4⟩ hW0 (fun a ha => hK2 a (by omega))) (hTK.fr (fun a _ ha => hK2 a ha)) (by rw [eK]; exact ms_up_s _ _ _) (fun a h1 h2 => (hK2 a (by omega)).trans (hFR a h1 h2))
      · skip
        obtain ⟨own, hown, hpo⟩ := pos_of hW hH hvv hlt e9
        have hxy := xX_n (W := W) (o := own) (by omega) hpo
        have hd1 := fd_div hown
        refine ms_run (pc' := 70) (lv' := [(0, .ref o), (1, .ref n), (2, .int (nI cnt)), (3, .ref (n + 1 + 1 + W + 1 + W + 1 + W + 1 + W)), (4, .int (nI k))]) (st' := [.ref o, .int (nI k), .ref (n + 1 + 1 + W + 1 + W + 1 + W + 1 + W)]) _ (ms_deC dX6_tick_66 (ms_deC dX6_tick_67 (ms_deC dX6_tick_69 ms_deN))) rfl rfl ?_
        refine ms_getf dX6_tick_70 fg_X6_36 hMK.O rfl ?_
        refine ms_run (pc' := 75) (lv' := [(0, .ref o), (1, .ref n), (2, .int (nI cnt)), (3, .ref (n + 1 + 1 + W + 1 + W + 1 + W + 1 + W)), (4, .int (nI k))]) (st' := [.int (nI k), .ref wa, .int (nI k), .ref (n + 1 + 1 + W + 1 + W + 1 + W + 1 + W)]) _ (ms_deC dX6_tick_73 ms_deN) rfl rfl ?_
        refine fk_ldW (i := k) dX6_tick_75 hMK.2.2 (by first | assumption | omega) hc ?_
        refine ms_run (pc' := 77) (lv' := [(0, .ref o), (1, .ref n), (2, .int (nI cnt)), (3, .ref (n + 1 + 1 + W + 1 + W + 1 + W + 1 + W)), (4, .int (nI k))]) (st' := [.int 3, .ref (wr k), .int (nI k), .ref (n + 1 + 1 + W + 1 + W + 1 + W + 1 + W)]) _ (ms_deC dX6_tick_76 ms_deN) rfl rfl ?_
        refine fk_ldR (c := 3) dX6_tick_77 hMK.2.2 (by first | assumption | omega) (by decide) rfl ?_
        rw [show wvX W (X.1 k) 3 = nI (own % W) from hxy.1]
        refine ms_if_lt (tgt := 98) dX6_tick_78 (by decide) (fun h_78 => ?_) (fun h_78 => ?_)
        · skip
          exact absurd h_78 (nI_pos (by omega))
        · skip
          refine ms_run (pc' := 82) (lv' := [(0, .ref o), (1, .ref n), (2, .int (nI cnt)), (3, .ref (n + 1 + 1 + W + 1 + W + 1 + W + 1 + W)), (4, .int (nI k))]) (st' := [.ref o, .int (nI k), .ref (n + 1 + 1 + W + 1 + W + 1 + W + 1 + W)]) _ (ms_deC dX6_tick_81 ms_deN) rfl rfl ?_
          refine ms_getf dX6_tick_82 fg_X6_60 hMK.O rfl ?_
          refine ms_run (pc' := 86) (lv' := [(0, .ref o), (1, .ref n), (2, .int (nI cnt)), (3, .ref (n + 1 + 1 + W + 1 + W + 1 + W + 1 + W)), (4, .int (nI k))]) (st' := [.ref o, .int (X.2.2.2 + 1), .int (nI k), .ref (n + 1 + 1 + W + 1 + W + 1 + W + 1 + W)]) _ (ms_deC dX6_tick_85 ms_deN) rfl rfl ?_
          refine ms_getf dX6_tick_86 fg_X6_36 hMK.O rfl ?_
          refine ms_run (pc' := 91) (lv' := [(0, .ref o), (1, .ref n), (2, .int (nI cnt)), (3, .ref (n + 1 + 1 + W + 1 + W + 1 + W + 1 + W)), (4, .int (nI k))]) (st' := [.int (nI k), .ref wa, .int (X.2.2.2 + 1), .int (nI k), .ref (n + 1 + 1 + W + 1 + W + 1 + W + 1 + W)]) _ (ms_deC dX6_tick_89 ms_deN) rfl rfl ?_
          refine fk_ldW (i := k) dX6_tick_91 hMK.2.2 (by first | assumption | omega) hc ?_
          refine ms_run (pc' := 93) (lv' := [(0, .ref o), (1, .ref n), (2, .int (nI cnt)), (3, .ref (n + 1 + 1 + W + 1 + W + 1 + W + 1 + W)), (4, .int (nI k))]) (st' := [.int 1, .ref (wr k), .int (X.2.2.2 + 1), .int (nI k), .ref (n + 1 + 1 + W + 1 + W + 1 + W + 1 + W)]) _ (ms_deC dX6_tick_92 ms_deN) rfl rfl ?_
          refine fk_ldR (c := 1) dX6_tick_93 hMK.2.2 (by first | assumption | omega) (by decide) rfl ?_
          rw [show wvX W (X.1 k) 1 = nI p9 from ep]
          refine ms_irem dX6_tick_94 (fun z => by rw [show (0 : Int32) = nI 0 from rfl] at z; have := (nI_eq (by omega) (by omega)).mp z; omega) ?_
          rw [show X.2.2.2 + 1 - (X.2.2.2 + 1) / nI p9 * nI p9 = nI ((t0 + 1) % p9) from by rw [ht0]; exact hrem]
          refine ms_if_le (tgt := 102) dX6_tick_95 (by decide) (fun h_95 => ?_) (fun h_95 => ?_)
          · skip
            have htn : wk_turn (X.1 k) (X.2.2.2 + 1) := ⟨e9, by rw [ep]; exact nI_lt (a := 0) (by omega) (by omega), by rw [ht0, ep, hrem]; exact Int32.le_antisymm h_95 (nI_pos' (by have := Nat.mod_lt (t0 + 1) (show 0 < p9 by omega); omega))⟩
            have hwt : (wfX (W * H) nr ds cnt dr X) k = bsX (nI (W * H)) nr ds cnt dr X.2.2.1 X.1 k := if_pos htn
            refine ms_run (pc' := 107) (lv' := [(0, .ref o), (1, .ref n), (2, .int (nI cnt)), (3, .ref (n + 1 + 1 + W + 1 + W + 1 + W + 1 + W)), (4, .int (nI k))]) (st' := [.ref o, .ref n, .int (nI k), .ref o, .int (nI k), .ref (n + 1 + 1 + W + 1 + W + 1 + W + 1 + W)]) _ (ms_deC dX6_tick_102 (ms_deC dX6_tick_103 (ms_deC dX6_tick_105 (ms_deC dX6_tick_106 ms_deN)))) rfl rfl ?_
            refine ms_getf dX6_tick_107 fg_X6_36 hMK.O rfl ?_
            refine ms_run (pc' := 112) (lv' := [(0, .ref o), (1, .ref n), (2, .int (nI cnt)), (3, .ref (n + 1 + 1 + W + 1 + W + 1 + W + 1 + W)), (4, .int (nI k))]) (st' := [.int (nI k), .ref wa, .ref n, .int (nI k), .ref o, .int (nI k), .ref (n + 1 + 1 + W + 1 + W + 1 + W + 1 + W)]) _ (ms_deC dX6_tick_110 ms_deN) rfl rfl ?_
            refine fk_ldW (i := k) dX6_tick_112 hMK.2.2 (by first | assumption | omega) hc ?_
            refine ms_run (pc' := 114) (lv' := [(0, .ref o), (1, .ref n), (2, .int (nI cnt)), (3, .ref (n + 1 + 1 + W + 1 + W + 1 + W + 1 + W)), (4, .int (nI k))]) (st' := [.int 0, .ref (wr k), .ref n, .int (nI k), .ref o, .int (nI k), .ref (n + 1 + 1 + W + 1 + W + 1 + W + 1 + W)]) _ (ms_deC dX6_tick_113 ms_deN) rfl rfl ?_
            refine fk_ldR (c := 0) dX6_tick_114 hMK.2.2 (by first | assumption | omega) (by decide) rfl ?_
            rw [show wvX W (X.1 k) 0 = nI g9 from eg]
            have hTK9 := hTK
            obtain ⟨f9, hf1, hf2⟩ := hTK9
            obtain ⟨b9, hb1, hb2, hb3, hfd⟩ := hf2 g9 (by omega)
            refine ms_aaloadB dX6_tick_115 hf1 (vp_in_nI (by omega) (by omega)) ?_
            rw [nI_clamp (by omega), hb3]
            show ms_W _ _ _ _ _ (.ref b9 :: _) _ _ _ _
            have hfw : fwX (mcA W cnt nr X.2.2.1 dr X.1 (dXg (W * H) nr wl mk g9) k own) = bsX (nI (W * H)) nr ds cnt dr X.2.2.1 X.1 k := fw_bs hL hc hW hH hon hvv hlt hpo hown (show g9 < 4 by omega) eg (hds g9 (by omega)) (fun f => dX_val h9 f) ⟨(hwk k hlt).2.2.1, (hwk k hlt).2.2.2⟩ hd9
            have hcw := c_X6_wants (n := (n + 1 + 1 + W + 1 + W + 1 + W + 1 + W + 1)) hMK hW hH hc hon hvv hfd (fun f hf z => by rw [(hfv f hf).1]; exact (dX_free h9 z).2) (fun f => dX_val h9 f) hlt hpo hown hL
            rw [hfw, ← hwt] at hcw
            refine ms_callVp (As := [.int (nI k), .ref b9]) dX6_tick_116 (hcw) cv_X6_133 hMK.O rfl ⟨Nat.le_of_ble_eq_true rfl, Nat.le_of_ble_eq_true rfl⟩ rfl (Nat.le_of_ble_eq_true rfl) ?_
            refine ms_iastore dX6_tick_119 hwK (vp_in_nI hlt (by omega)) ?_
            rw [nI_clamp (n := k) (by omega)]
            rw [fl2_s (f := (wfX (W * H) nr ds cnt dr X)) (k := k)]
            obtain ⟨K2, eK⟩ : ∃ K2, K2 = ms_up K (n + 1 + 1 + W + 1 + W + 1 + W + 1 + W) (.inl (0, cnt, .inl (fl2 (wfX (W * H) nr ds cnt dr X) (k + 1)))) := ⟨_, rfl⟩
            refine ms_W.heq eK ?_
            have hK2 : ∀ a, a < (n + 1 + 1 + W + 1 + W + 1 + W + 1 + W) → K2 a = K a := fun a ha => by rw [eK]; exact ms_up_n _ _ (by omega)
            refine ms_run (pc' := 123) (lv' := [(4, .int ((nI k) + 1)), (0, .ref o), (1, .ref n), (2, .int (nI cnt)), (3, .ref (n + 1 + 1 + W + 1 + W + 1 + W + 1 + W))]) (st' := []) _ (ms_deC dX6_tick_120 ms_deN) rfl rfl ?_
            refine ms_goto (tgt := 60) dX6_tick_123 (by decide) ?_
            rw [nI_1 k]
            refine ms_W.sub (lv2 := [(0, _), (1, _), (2, _), (3, _), (4, _)]) ?_ [1, 2, 3, 4, 0] rfl
            exact ih (k + 1) (by omega) K2 (hMK.hi (n := n) ⟨l1, l2, l3, l4⟩ hW0 (fun a ha => hK2 a (by omega))) (hTK.fr (fun a _ ha => hK2 a ha)) (by rw [eK]; exact ms_up_s _ _ _) (fun a h1 h2 => (hK2 a (by omega)).trans (hFR a h1 h2))
          · skip
            have hw9 : (wfX (W * H) nr ds cnt dr X) k = -1 := if_neg (fun z => h_95 (by have h5 := z.2.2; rw [ht0, ep, hrem] at h5; rw [h5]; decide))
            refine ms_run (pc' := 99) (lv' := [(0, .ref o), (1, .ref n), (2, .int (nI cnt)), (3, .ref (n + 1 + 1 + W + 1 + W + 1 + W + 1 + W)), (4, .int (nI k))]) (st' := [.int (-1), .int (nI k), .ref (n + 1 + 1 + W + 1 + W + 1 + W + 1 + W)]) _ (ms_deC dX6_tick_98 ms_deN) rfl rfl ?_
            refine ms_goto (tgt := 119) dX6_tick_99 (by decide) ?_
            refine ms_iastore dX6_tick_119 hwK (vp_in_nI hlt (by omega)) ?_
            rw [nI_clamp (n := k) (by omega)]
            rw [show upd (fl2 (wfX (W * H) nr ds cnt dr X) k) k (-1) = fl2 (wfX (W * H) nr ds cnt dr X) (k + 1) from fl2_v hw9]
            obtain ⟨K2, eK⟩ : ∃ K2, K2 = ms_up K (n + 1 + 1 + W + 1 + W + 1 + W + 1 + W) (.inl (0, cnt, .inl (fl2 (wfX (W * H) nr ds cnt dr X) (k + 1)))) := ⟨_, rfl⟩
            refine ms_W.heq eK ?_
            have hK2 : ∀ a, a < (n + 1 + 1 + W + 1 + W + 1 + W + 1 + W) → K2 a = K a := fun a ha => by rw [eK]; exact ms_up_n _ _ (by omega)
            refine ms_run (pc' := 123) (lv' := [(4, .int ((nI k) + 1)), (0, .ref o), (1, .ref n), (2, .int (nI cnt)), (3, .ref (n + 1 + 1 + W + 1 + W + 1 + W + 1 + W))]) (st' := []) _ (ms_deC dX6_tick_120 ms_deN) rfl rfl ?_
            refine ms_goto (tgt := 60) dX6_tick_123 (by decide) ?_
            rw [nI_1 k]
            refine ms_W.sub (lv2 := [(0, _), (1, _), (2, _), (3, _), (4, _)]) ?_ [1, 2, 3, 4, 0] rfl
            exact ih (k + 1) (by omega) K2 (hMK.hi (n := n) ⟨l1, l2, l3, l4⟩ hW0 (fun a ha => hK2 a (by omega))) (hTK.fr (fun a _ ha => hK2 a ha)) (by rw [eK]; exact ms_up_s _ _ _) (fun a h1 h2 => (hK2 a (by omega)).trans (hFR a h1 h2))
set_option maxHeartbeats 1000000 in
set_option maxRecDepth 20000 in
theorem l2c_X6_tick {n o x sb fa wa W H cnt N t0 : Nat} {G : ms_H} {dw dr pa : Int32} {wr : Nat → Nat} {fv : Nat → Nat → Int32} {X : cX} {nr wl mk ds : Nat → Int32} (fl : fk_lt n o fa W H wa cnt wr) (ly : fk_ly o fa W H wa cnt wr) (hW : W ≤ 14) (hH : H ≤ 14) (hc : cnt ≤ 24) (hW0 : 0 < W) (hL : lk_ok W H (W * H) nr) (hfv : fvR (W * H) wl mk fv) (hht : ∀ f, f < W * H → fv f 1 = X.2.1 f) (hds : dsR (W * H) nr wl mk ds) (hd9 : 0 ≤ dr ∧ dr ≤ 9) (hN : N < 1000000) (hV9 : wdV W H cnt N X) (ht0 : X.2.2.2 = nI t0) (ht9 : t0 < 900) {a b : Nat} (ha9 : a < W) (hb9 : b < H) {K : ms_H} (hMK : fk_at K o x sb dw W H (X.2.2.2 + 1) dr pa fa wa cnt wr fv X.1) (hwK : K (n + 1 + 1 + W + 1 + W + 1 + W + 1 + W) = some (.inl (0, cnt, .inl (fl2 (wfX (W * H) nr ds cnt dr X) cnt)))) (kk : ms_W false m_X6_tick (fun r n1 G1 => r = .inl (some (.int (nI (ct (pGf (W * H) nr mk ds cnt dr X) cnt)))) ∧ n ≤ n1 ∧ (∀ a, a < fa → ¬ a = o → G1 a = G a) ∧ ∃ fv1, fk_at G1 o x sb dw W H (X.2.2.2 + 1) dr pa fa wa cnt wr fv1 (stX1 (nI (W * H)) nr mk ds cnt dr X).1 ∧ fvR (W * H) wl mk fv1 ∧ ∀ f, f < W * H → fv1 f 1 = (stX1 (nI (W * H)) nr mk ds cnt dr X).2.1 f) 272 [(0, .ref o), (1, .ref n), (2, .int (nI cnt)), (3, .ref (n + 1 + 1 + W + 1 + W + 1 + W + 1 + W)), (4, .ref (n + 1 + 1 + W + 1 + W + 1 + W + 1 + W + 1)), (5, .int (nI a)), (6, .int (nI b)), (7, .int (wnX (tgK (W * H) nr ds cnt dr X) X.1 (nI (b * W + a)) cnt))] [] (n + 1 + 1 + W + 1 + W + 1 + W + 1 + W + 1 + 1) K 0 0) : ∀ (r k : Nat), k + r = cnt →  ms_W false m_X6_tick (fun r n1 G1 => r = .inl (some (.int (nI (ct (pGf (W * H) nr mk ds cnt dr X) cnt)))) ∧ n ≤ n1 ∧ (∀ a, a < fa → ¬ a = o → G1 a = G a) ∧ ∃ fv1, fk_at G1 o x sb dw W H (X.2.2.2 + 1) dr pa fa wa cnt wr fv1 (stX1 (nI (W * H)) nr mk ds cnt dr X).1 ∧ fvR (W * H) wl mk fv1 ∧ ∀ f, f < W * H → fv1 f 1 = (stX1 (nI (W * H)) nr mk ds cnt dr X).2.1 f) 161 [(0, .ref o), (1, .ref n), (2, .int (nI cnt)), (3, .ref (n + 1 + 1 + W + 1 + W + 1 + W + 1 + W)), (4, .ref (n + 1 + 1 + W + 1 + W + 1 + W + 1 + W + 1)), (5, .int (nI a)), (6, .int (nI b)), (7, .int (wnX (tgK (W * H) nr ds cnt dr X) X.1 (nI (b * W + a)) k)), (8, .int (nI k))] [] (n + 1 + 1 + W + 1 + W + 1 + W + 1 + W + 1 + 1) K 0 0 := by
  have h9 : W * H ≤ 196 := Nat.mul_le_mul hW hH
  obtain ⟨l1, l2, l3, l4⟩ := fl
  obtain ⟨y1, y2, y3⟩ := ly
  have had := ad_fa (fa := fa) (H := H) (i := W)
  have hf9 := fij ha9 hb9
  intro r
  induction r with
  | zero =>
    intro k hk 
    have hkN : k = cnt := by omega
    refine ms_run (pc' := 164) (lv' := [(0, .ref o), (1, .ref n), (2, .int (nI cnt)), (3, .ref (n + 1 + 1 + W + 1 + W + 1 + W + 1 + W)), (4, .ref (n + 1 + 1 + W + 1 + W + 1 + W + 1 + W + 1)), (5, .int (nI a)), (6, .int (nI b)), (7, .int (wnX (tgK (W * H) nr ds cnt dr X) X.1 (nI (b * W + a)) k)), (8, .int (nI k))]) (st' := [.int (nI cnt), .int (nI k)]) _ (ms_deC dX6_tick_161 (ms_deC dX6_tick_163 ms_deN)) rfl rfl ?_
    refine ms_icmp_ge (tgt := 272) dX6_tick_164 (by decide) (fun h_164 => ?_) (fun h_164 => ?_)
    · skip
      refine ms_W.sub (lv2 := [(0, _), (1, _), (2, _), (3, _), (4, _), (5, _), (6, _), (7, _)]) ?_ [0, 1, 2, 3, 4, 5, 6, 7] rfl
      exact (by rw [hkN]; exact kk)
    · skip
      exact absurd (by exact nI_le (b := k) (by omega) (by omega)) h_164
  | succ r ih =>
    intro k hk 
    have hlt : k < cnt := by omega
    refine ms_run (pc' := 164) (lv' := [(0, .ref o), (1, .ref n), (2, .int (nI cnt)), (3, .ref (n + 1 + 1 + W + 1 + W + 1 + W + 1 + W)), (4, .ref (n + 1 + 1 + W + 1 + W + 1 + W + 1 + W + 1)), (5, .int (nI a)), (6, .int (nI b)), (7, .int (wnX (tgK (W * H) nr ds cnt dr X) X.1 (nI (b * W + a)) k)), (8, .int (nI k))]) (st' := [.int (nI cnt), .int (nI k)]) _ (ms_deC dX6_tick_161 (ms_deC dX6_tick_163 ms_deN)) rfl rfl ?_
    refine ms_icmp_ge (tgt := 272) dX6_tick_164 (by decide) (fun h_164 => ?_) (fun h_164 => ?_)
    · skip
      exact absurd h_164 (by exact nI_ge (b := cnt) (by omega) (by omega))
    · skip
      have hvv := hV9.2.1
      rcases tk3 (dr := dr) (ds := ds) hL hW hH hV9 hlt with ⟨-, -, hq3, hq4⟩ | ⟨-, -, hq3, hq4⟩ | ⟨hq1, s9, own, t9, hs9, hown, ht9b, hpo, hnb, -, hq4, hq3, -⟩
      · skip
        refine ms_run (pc' := 170) (lv' := [(0, .ref o), (1, .ref n), (2, .int (nI cnt)), (3, .ref (n + 1 + 1 + W + 1 + W + 1 + W + 1 + W)), (4, .ref (n + 1 + 1 + W + 1 + W + 1 + W + 1 + W + 1)), (5, .int (nI a)), (6, .int (nI b)), (7, .int (wnX (tgK (W * H) nr ds cnt dr X) X.1 (nI (b * W + a)) k)), (8, .int (nI k))]) (st' := [.int (nI k), .ref (n + 1 + 1 + W + 1 + W + 1 + W + 1 + W)]) _ (ms_deC dX6_tick_167 (ms_deC dX6_tick_168 ms_deN)) rfl rfl ?_
        refine ms_iaload dX6_tick_170 hwK (vp_in_nI hlt (by omega)) ?_
        rw [nI_clamp (n := k) (by omega), fl2_at hlt, hq4]
        refine ms_if_lt (tgt := 266) dX6_tick_171 (by decide) (fun _ => ?_) (fun h9 => absurd h9 (by decide))
        refine ms_run (pc' := 269) (lv' := [(8, .int ((nI k) + 1)), (0, .ref o), (1, .ref n), (2, .int (nI cnt)), (3, .ref (n + 1 + 1 + W + 1 + W + 1 + W + 1 + W)), (4, .ref (n + 1 + 1 + W + 1 + W + 1 + W + 1 + W + 1)), (5, .int (nI a)), (6, .int (nI b)), (7, .int (wnX (tgK (W * H) nr ds cnt dr X) X.1 (nI (b * W + a)) k))]) (st' := []) _ (ms_deC dX6_tick_266 ms_deN) rfl rfl ?_
        refine ms_goto (tgt := 161) dX6_tick_269 (by decide) ?_
        rw [nI_1 k]
        rw [show (wnX (tgK (W * H) nr ds cnt dr X) X.1 (nI (b * W + a)) k) = (wnX (tgK (W * H) nr ds cnt dr X) X.1 (nI (b * W + a)) (k + 1)) from (wnX_s.trans (if_neg (fun z => absurd (z.1.symm.trans hq3) (nI_m1 (by omega))))).symm]
        refine ms_W.sub (lv2 := [(0, _), (1, _), (2, _), (3, _), (4, _), (5, _), (6, _), (7, _), (8, _)]) ?_ [1, 2, 3, 4, 5, 6, 7, 8, 0] rfl
        exact ih (k + 1) (by omega)
      · skip
        refine ms_run (pc' := 170) (lv' := [(0, .ref o), (1, .ref n), (2, .int (nI cnt)), (3, .ref (n + 1 + 1 + W + 1 + W + 1 + W + 1 + W)), (4, .ref (n + 1 + 1 + W + 1 + W + 1 + W + 1 + W + 1)), (5, .int (nI a)), (6, .int (nI b)), (7, .int (wnX (tgK (W * H) nr ds cnt dr X) X.1 (nI (b * W + a)) k)), (8, .int (nI k))]) (st' := [.int (nI k), .ref (n + 1 + 1 + W + 1 + W + 1 + W + 1 + W)]) _ (ms_deC dX6_tick_167 (ms_deC dX6_tick_168 ms_deN)) rfl rfl ?_
        refine ms_iaload dX6_tick_170 hwK (vp_in_nI hlt (by omega)) ?_
        rw [nI_clamp (n := k) (by omega), fl2_at hlt, hq4]
        refine ms_if_lt (tgt := 266) dX6_tick_171 (by decide) (fun h9 => absurd h9 (by decide)) (fun _ => ?_)
        refine ms_run (pc' := 177) (lv' := [(0, .ref o), (1, .ref n), (2, .int (nI cnt)), (3, .ref (n + 1 + 1 + W + 1 + W + 1 + W + 1 + W)), (4, .ref (n + 1 + 1 + W + 1 + W + 1 + W + 1 + W + 1)), (5, .int (nI a)), (6, .int (nI b)), (7, .int (wnX (tgK (W * H) nr ds cnt dr X) X.1 (nI (b * W + a)) k)), (8, .int (nI k))]) (st' := [.int (nI k), .ref (n + 1 + 1 + W + 1 + W + 1 + W + 1 + W)]) _ (ms_deC dX6_tick_174 (ms_deC dX6_tick_175 ms_deN)) rfl rfl ?_
        refine ms_iaload dX6_tick_177 hwK (vp_in_nI hlt (by omega)) ?_
        rw [nI_clamp (n := k) (by omega), fl2_at hlt, hq4]
        refine ms_run (pc' := 179) (lv' := [(0, .ref o), (1, .ref n), (2, .int (nI cnt)), (3, .ref (n + 1 + 1 + W + 1 + W + 1 + W + 1 + W)), (4, .ref (n + 1 + 1 + W + 1 + W + 1 + W + 1 + W + 1)), (5, .int (nI a)), (6, .int (nI b)), (7, .int (wnX (tgK (W * H) nr ds cnt dr X) X.1 (nI (b * W + a)) k)), (8, .int (nI k))]) (st' := [.int 4, .int 4]) _ (ms_deC dX6_tick_178 ms_deN) rfl rfl ?_
        refine ms_icmp_eq (tgt := 266) dX6_tick_179 (by decide) (fun _ => ?_) (fun h9 => absurd h9 (by decide))
        refine ms_run (pc' := 269) (lv' := [(8, .int ((nI k) + 1)), (0, .ref o), (1, .ref n), (2, .int (nI cnt)), (3, .ref (n + 1 + 1 + W + 1 + W + 1 + W + 1 + W)), (4, .ref (n + 1 + 1 + W + 1 + W + 1 + W + 1 + W + 1)), (5, .int (nI a)), (6, .int (nI b)), (7, .int (wnX (tgK (W * H) nr ds cnt dr X) X.1 (nI (b * W + a)) k))]) (st' := []) _ (ms_deC dX6_tick_266 ms_deN) rfl rfl ?_
        refine ms_goto (tgt := 161) dX6_tick_269 (by decide) ?_
        rw [nI_1 k]
        rw [show (wnX (tgK (W * H) nr ds cnt dr X) X.1 (nI (b * W + a)) k) = (wnX (tgK (W * H) nr ds cnt dr X) X.1 (nI (b * W + a)) (k + 1)) from (wnX_s.trans (if_neg (fun z => absurd (z.1.symm.trans hq3) (nI_m1 (by omega))))).symm]
        refine ms_W.sub (lv2 := [(0, _), (1, _), (2, _), (3, _), (4, _), (5, _), (6, _), (7, _), (8, _)]) ?_ [1, 2, 3, 4, 5, 6, 7, 8, 0] rfl
        exact ih (k + 1) (by omega)
      · skip
        have hxy := xX_n (W := W) (o := own) (by omega) hpo
        have hd1 := fd_div hown
        have hsd := (side_at hL hW hH hown hs9).2 t9 ht9b hnb
        have hd2 := fd_div ht9b
        refine ms_run (pc' := 170) (lv' := [(0, .ref o), (1, .ref n), (2, .int (nI cnt)), (3, .ref (n + 1 + 1 + W + 1 + W + 1 + W + 1 + W)), (4, .ref (n + 1 + 1 + W + 1 + W + 1 + W + 1 + W + 1)), (5, .int (nI a)), (6, .int (nI b)), (7, .int (wnX (tgK (W * H) nr ds cnt dr X) X.1 (nI (b * W + a)) k)), (8, .int (nI k))]) (st' := [.int (nI k), .ref (n + 1 + 1 + W + 1 + W + 1 + W + 1 + W)]) _ (ms_deC dX6_tick_167 (ms_deC dX6_tick_168 ms_deN)) rfl rfl ?_
        refine ms_iaload dX6_tick_170 hwK (vp_in_nI hlt (by omega)) ?_
        rw [nI_clamp (n := k) (by omega), fl2_at hlt, hq4]
        refine ms_if_lt (tgt := 266) dX6_tick_171 (by decide) (fun h_171 => ?_) (fun h_171 => ?_)
        · skip
          exact absurd h_171 (nI_pos (by omega))
        · skip
          refine ms_run (pc' := 177) (lv' := [(0, .ref o), (1, .ref n), (2, .int (nI cnt)), (3, .ref (n + 1 + 1 + W + 1 + W + 1 + W + 1 + W)), (4, .ref (n + 1 + 1 + W + 1 + W + 1 + W + 1 + W + 1)), (5, .int (nI a)), (6, .int (nI b)), (7, .int (wnX (tgK (W * H) nr ds cnt dr X) X.1 (nI (b * W + a)) k)), (8, .int (nI k))]) (st' := [.int (nI k), .ref (n + 1 + 1 + W + 1 + W + 1 + W + 1 + W)]) _ (ms_deC dX6_tick_174 (ms_deC dX6_tick_175 ms_deN)) rfl rfl ?_
          refine ms_iaload dX6_tick_177 hwK (vp_in_nI hlt (by omega)) ?_
          rw [nI_clamp (n := k) (by omega), fl2_at hlt, hq4]
          refine ms_run (pc' := 179) (lv' := [(0, .ref o), (1, .ref n), (2, .int (nI cnt)), (3, .ref (n + 1 + 1 + W + 1 + W + 1 + W + 1 + W)), (4, .ref (n + 1 + 1 + W + 1 + W + 1 + W + 1 + W + 1)), (5, .int (nI a)), (6, .int (nI b)), (7, .int (wnX (tgK (W * H) nr ds cnt dr X) X.1 (nI (b * W + a)) k)), (8, .int (nI k))]) (st' := [.int 4, .int (nI s9)]) _ (ms_deC dX6_tick_178 ms_deN) rfl rfl ?_
          refine ms_icmp_eq (tgt := 266) dX6_tick_179 (by decide) (fun h_179 => ?_) (fun h_179 => ?_)
          · skip
            exact absurd ((nI_eq (b := 4) (by omega) (by omega)).mp h_179) (by omega)
          · skip
            refine ms_run (pc' := 183) (lv' := [(0, .ref o), (1, .ref n), (2, .int (nI cnt)), (3, .ref (n + 1 + 1 + W + 1 + W + 1 + W + 1 + W)), (4, .ref (n + 1 + 1 + W + 1 + W + 1 + W + 1 + W + 1)), (5, .int (nI a)), (6, .int (nI b)), (7, .int (wnX (tgK (W * H) nr ds cnt dr X) X.1 (nI (b * W + a)) k)), (8, .int (nI k))]) (st' := [.ref o]) _ (ms_deC dX6_tick_182 ms_deN) rfl rfl ?_
            refine ms_getf dX6_tick_183 fg_X6_36 hMK.O rfl ?_
            refine ms_run (pc' := 188) (lv' := [(0, .ref o), (1, .ref n), (2, .int (nI cnt)), (3, .ref (n + 1 + 1 + W + 1 + W + 1 + W + 1 + W)), (4, .ref (n + 1 + 1 + W + 1 + W + 1 + W + 1 + W + 1)), (5, .int (nI a)), (6, .int (nI b)), (7, .int (wnX (tgK (W * H) nr ds cnt dr X) X.1 (nI (b * W + a)) k)), (8, .int (nI k))]) (st' := [.int (nI k), .ref wa]) _ (ms_deC dX6_tick_186 ms_deN) rfl rfl ?_
            refine fk_ldW (i := k) dX6_tick_188 hMK.2.2 (by first | assumption | omega) hc ?_
            refine ms_run (pc' := 190) (lv' := [(0, .ref o), (1, .ref n), (2, .int (nI cnt)), (3, .ref (n + 1 + 1 + W + 1 + W + 1 + W + 1 + W)), (4, .ref (n + 1 + 1 + W + 1 + W + 1 + W + 1 + W + 1)), (5, .int (nI a)), (6, .int (nI b)), (7, .int (wnX (tgK (W * H) nr ds cnt dr X) X.1 (nI (b * W + a)) k)), (8, .int (nI k))]) (st' := [.int 3, .ref (wr k)]) _ (ms_deC dX6_tick_189 ms_deN) rfl rfl ?_
            refine fk_ldR (c := 3) dX6_tick_190 hMK.2.2 (by first | assumption | omega) (by decide) rfl ?_
            rw [show wvX W (X.1 k) 3 = nI (own % W) from hxy.1]
            refine ms_run (pc' := 194) (lv' := [(0, .ref o), (1, .ref n), (2, .int (nI cnt)), (3, .ref (n + 1 + 1 + W + 1 + W + 1 + W + 1 + W)), (4, .ref (n + 1 + 1 + W + 1 + W + 1 + W + 1 + W + 1)), (5, .int (nI a)), (6, .int (nI b)), (7, .int (wnX (tgK (W * H) nr ds cnt dr X) X.1 (nI (b * W + a)) k)), (8, .int (nI k))]) (st' := [.int (nI k), .ref (n + 1 + 1 + W + 1 + W + 1 + W + 1 + W), .int (nI (own % W))]) _ (ms_deC dX6_tick_191 (ms_deC dX6_tick_192 ms_deN)) rfl rfl ?_
            refine ms_iaload dX6_tick_194 hwK (vp_in_nI hlt (by omega)) ?_
            rw [nI_clamp (n := k) (by omega), fl2_at hlt, hq4]
            refine ms_callSp (As := [.int (nI s9)]) dX6_tick_195 (c_X6_sideX (nI s9)) cs_X6_112 rfl ⟨Nat.le_of_ble_eq_true rfl, Nat.le_of_ble_eq_true rfl⟩ rfl (Nat.le_of_ble_eq_true rfl) ?_
            refine ms_run (pc' := 199) (lv' := [(0, .ref o), (1, .ref n), (2, .int (nI cnt)), (3, .ref (n + 1 + 1 + W + 1 + W + 1 + W + 1 + W)), (4, .ref (n + 1 + 1 + W + 1 + W + 1 + W + 1 + W + 1)), (5, .int (nI a)), (6, .int (nI b)), (7, .int (wnX (tgK (W * H) nr ds cnt dr X) X.1 (nI (b * W + a)) k)), (8, .int (nI k))]) (st' := [.int ((nI (own % W)) + (fsx (nI s9)))]) _ (ms_deC dX6_tick_198 ms_deN) rfl rfl ?_
            rw [hsd.1]
            refine ms_run (pc' := 201) (lv' := [(0, .ref o), (1, .ref n), (2, .int (nI cnt)), (3, .ref (n + 1 + 1 + W + 1 + W + 1 + W + 1 + W)), (4, .ref (n + 1 + 1 + W + 1 + W + 1 + W + 1 + W + 1)), (5, .int (nI a)), (6, .int (nI b)), (7, .int (wnX (tgK (W * H) nr ds cnt dr X) X.1 (nI (b * W + a)) k)), (8, .int (nI k))]) (st' := [.int (nI a), .int (nI (t9 % W))]) _ (ms_deC dX6_tick_199 ms_deN) rfl rfl ?_
            refine ms_icmp_ne (tgt := 266) dX6_tick_201 (by decide) (fun h_201 => ?_) (fun h_201 => ?_)
            · skip
              refine ms_run (pc' := 269) (lv' := [(8, .int ((nI k) + 1)), (0, .ref o), (1, .ref n), (2, .int (nI cnt)), (3, .ref (n + 1 + 1 + W + 1 + W + 1 + W + 1 + W)), (4, .ref (n + 1 + 1 + W + 1 + W + 1 + W + 1 + W + 1)), (5, .int (nI a)), (6, .int (nI b)), (7, .int (wnX (tgK (W * H) nr ds cnt dr X) X.1 (nI (b * W + a)) k))]) (st' := []) _ (ms_deC dX6_tick_266 ms_deN) rfl rfl ?_
              refine ms_goto (tgt := 161) dX6_tick_269 (by decide) ?_
              rw [nI_1 k]
              rw [show (wnX (tgK (W * H) nr ds cnt dr X) X.1 (nI (b * W + a)) k) = (wnX (tgK (W * H) nr ds cnt dr X) X.1 (nI (b * W + a)) (k + 1)) from (wnX_s.trans (if_neg (fun z => by have h5 := (nI_eq (by omega) (by omega)).mp (hq3.symm.trans z.1); have h6 := fd_mod (y := b) ha9; rw [← h5] at h6; first | exact h_201 (by rw [h6.1]) | exact h_223 (by rw [h6.2])))).symm]
              refine ms_W.sub (lv2 := [(0, _), (1, _), (2, _), (3, _), (4, _), (5, _), (6, _), (7, _), (8, _)]) ?_ [1, 2, 3, 4, 5, 6, 7, 8, 0] rfl
              exact ih (k + 1) (by omega)
            · skip
              refine ms_run (pc' := 205) (lv' := [(0, .ref o), (1, .ref n), (2, .int (nI cnt)), (3, .ref (n + 1 + 1 + W + 1 + W + 1 + W + 1 + W)), (4, .ref (n + 1 + 1 + W + 1 + W + 1 + W + 1 + W + 1)), (5, .int (nI a)), (6, .int (nI b)), (7, .int (wnX (tgK (W * H) nr ds cnt dr X) X.1 (nI (b * W + a)) k)), (8, .int (nI k))]) (st' := [.ref o]) _ (ms_deC dX6_tick_204 ms_deN) rfl rfl ?_
              refine ms_getf dX6_tick_205 fg_X6_36 hMK.O rfl ?_
              refine ms_run (pc' := 210) (lv' := [(0, .ref o), (1, .ref n), (2, .int (nI cnt)), (3, .ref (n + 1 + 1 + W + 1 + W + 1 + W + 1 + W)), (4, .ref (n + 1 + 1 + W + 1 + W + 1 + W + 1 + W + 1)), (5, .int (nI a)), (6, .int (nI b)), (7, .int (wnX (tgK (W * H) nr ds cnt dr X) X.1 (nI (b * W + a)) k)), (8, .int (nI k))]) (st' := [.int (nI k), .ref wa]) _ (ms_deC dX6_tick_208 ms_deN) rfl rfl ?_
              refine fk_ldW (i := k) dX6_tick_210 hMK.2.2 (by first | assumption | omega) hc ?_
              refine ms_run (pc' := 212) (lv' := [(0, .ref o), (1, .ref n), (2, .int (nI cnt)), (3, .ref (n + 1 + 1 + W + 1 + W + 1 + W + 1 + W)), (4, .ref (n + 1 + 1 + W + 1 + W + 1 + W + 1 + W + 1)), (5, .int (nI a)), (6, .int (nI b)), (7, .int (wnX (tgK (W * H) nr ds cnt dr X) X.1 (nI (b * W + a)) k)), (8, .int (nI k))]) (st' := [.int 4, .ref (wr k)]) _ (ms_deC dX6_tick_211 ms_deN) rfl rfl ?_
              refine fk_ldR (c := 4) dX6_tick_212 hMK.2.2 (by first | assumption | omega) (by decide) rfl ?_
              rw [show wvX W (X.1 k) 4 = nI (own / W) from hxy.2]
              refine ms_run (pc' := 216) (lv' := [(0, .ref o), (1, .ref n), (2, .int (nI cnt)), (3, .ref (n + 1 + 1 + W + 1 + W + 1 + W + 1 + W)), (4, .ref (n + 1 + 1 + W + 1 + W + 1 + W + 1 + W + 1)), (5, .int (nI a)), (6, .int (nI b)), (7, .int (wnX (tgK (W * H) nr ds cnt dr X) X.1 (nI (b * W + a)) k)), (8, .int (nI k))]) (st' := [.int (nI k), .ref (n + 1 + 1 + W + 1 + W + 1 + W + 1 + W), .int (nI (own / W))]) _ (ms_deC dX6_tick_213 (ms_deC dX6_tick_214 ms_deN)) rfl rfl ?_
              refine ms_iaload dX6_tick_216 hwK (vp_in_nI hlt (by omega)) ?_
              rw [nI_clamp (n := k) (by omega), fl2_at hlt, hq4]
              refine ms_callSp (As := [.int (nI s9)]) dX6_tick_217 (c_X6_sideY (nI s9)) cs_X6_115 rfl ⟨Nat.le_of_ble_eq_true rfl, Nat.le_of_ble_eq_true rfl⟩ rfl (Nat.le_of_ble_eq_true rfl) ?_
              refine ms_run (pc' := 221) (lv' := [(0, .ref o), (1, .ref n), (2, .int (nI cnt)), (3, .ref (n + 1 + 1 + W + 1 + W + 1 + W + 1 + W)), (4, .ref (n + 1 + 1 + W + 1 + W + 1 + W + 1 + W + 1)), (5, .int (nI a)), (6, .int (nI b)), (7, .int (wnX (tgK (W * H) nr ds cnt dr X) X.1 (nI (b * W + a)) k)), (8, .int (nI k))]) (st' := [.int ((nI (own / W)) + (fsy (nI s9)))]) _ (ms_deC dX6_tick_220 ms_deN) rfl rfl ?_
              rw [hsd.2]
              refine ms_run (pc' := 223) (lv' := [(0, .ref o), (1, .ref n), (2, .int (nI cnt)), (3, .ref (n + 1 + 1 + W + 1 + W + 1 + W + 1 + W)), (4, .ref (n + 1 + 1 + W + 1 + W + 1 + W + 1 + W + 1)), (5, .int (nI a)), (6, .int (nI b)), (7, .int (wnX (tgK (W * H) nr ds cnt dr X) X.1 (nI (b * W + a)) k)), (8, .int (nI k))]) (st' := [.int (nI b), .int (nI (t9 / W))]) _ (ms_deC dX6_tick_221 ms_deN) rfl rfl ?_
              refine ms_icmp_eq (tgt := 229) dX6_tick_223 (by decide) (fun h_223 => ?_) (fun h_223 => ?_)
              · skip
                refine ms_run (pc' := 231) (lv' := [(0, .ref o), (1, .ref n), (2, .int (nI cnt)), (3, .ref (n + 1 + 1 + W + 1 + W + 1 + W + 1 + W)), (4, .ref (n + 1 + 1 + W + 1 + W + 1 + W + 1 + W + 1)), (5, .int (nI a)), (6, .int (nI b)), (7, .int (wnX (tgK (W * H) nr ds cnt dr X) X.1 (nI (b * W + a)) k)), (8, .int (nI k))]) (st' := [.int (wnX (tgK (W * H) nr ds cnt dr X) X.1 (nI (b * W + a)) k)]) _ (ms_deC dX6_tick_229 ms_deN) rfl rfl ?_
                refine ms_if_lt (tgt := 257) dX6_tick_231 (by decide) (fun h_231 => ?_) (fun h_231 => ?_)
                · skip
                  refine ms_run (pc' := 259) (lv' := [(0, .ref o), (1, .ref n), (2, .int (nI cnt)), (3, .ref (n + 1 + 1 + W + 1 + W + 1 + W + 1 + W)), (4, .ref (n + 1 + 1 + W + 1 + W + 1 + W + 1 + W + 1)), (5, .int (nI a)), (6, .int (nI b)), (7, .int (wnX (tgK (W * H) nr ds cnt dr X) X.1 (nI (b * W + a)) k)), (8, .int (nI k))]) (st' := [.int (nI k)]) _ (ms_deC dX6_tick_257 ms_deN) rfl rfl ?_
                  refine ms_goto (tgt := 264) dX6_tick_259 (by decide) ?_
                  refine ms_run (pc' := 269) (lv' := [(8, .int ((nI k) + 1)), (7, .int (nI k)), (0, .ref o), (1, .ref n), (2, .int (nI cnt)), (3, .ref (n + 1 + 1 + W + 1 + W + 1 + W + 1 + W)), (4, .ref (n + 1 + 1 + W + 1 + W + 1 + W + 1 + W + 1)), (5, .int (nI a)), (6, .int (nI b))]) (st' := []) _ (ms_deC dX6_tick_264 (ms_deC dX6_tick_266 ms_deN)) rfl rfl ?_
                  refine ms_goto (tgt := 161) dX6_tick_269 (by decide) ?_
                  rw [nI_1 k]
                  have et9 := (show t9 = b * W + a from by have h5 := hd2.2.2; have h6 := (nI_eq (by omega) (by omega)).mp h_201; have h7 := (nI_eq (by omega) (by omega)).mp h_223; rw [h6, h7] at h5; exact h5.symm)
                  rw [show nI k = (wnX (tgK (W * H) nr ds cnt dr X) X.1 (nI (b * W + a)) (k + 1)) from (wnX_s.trans (if_pos ⟨hq3.trans (by rw [et9]), by first | exact Or.inl ((wnX_or (tg := (tgK (W * H) nr ds cnt dr X)) (u := X.1) (f := nI (b * W + a)) k).resolve_right (fun ⟨w9, hw9, ew9, _⟩ => by rw [ew9] at h_231; exact absurd h_231 (nI_pos (by omega)))) | exact Or.inr (by rw [ew9, nI_clamp (by omega)]; exact Int32.not_le.mp h_254)⟩)).symm]
                  refine ms_W.sub (lv2 := [(0, _), (1, _), (2, _), (3, _), (4, _), (5, _), (6, _), (7, _), (8, _)]) ?_ [2, 3, 4, 5, 6, 7, 8, 1, 0] rfl
                  exact ih (k + 1) (by omega)
                · skip
                  obtain ⟨w9, hw9, ew9, -⟩ := (wnX_or (tg := (tgK (W * H) nr ds cnt dr X)) (u := X.1) (f := nI (b * W + a)) k).resolve_left (fun z => h_231 (by rw [z]; decide))
                  rw [ew9]
                  refine ms_run (pc' := 235) (lv' := [(0, .ref o), (1, .ref n), (2, .int (nI cnt)), (3, .ref (n + 1 + 1 + W + 1 + W + 1 + W + 1 + W)), (4, .ref (n + 1 + 1 + W + 1 + W + 1 + W + 1 + W + 1)), (5, .int (nI a)), (6, .int (nI b)), (7, .int (nI w9)), (8, .int (nI k))]) (st' := [.ref o]) _ (ms_deC dX6_tick_234 ms_deN) rfl rfl ?_
                  refine ms_getf dX6_tick_235 fg_X6_36 hMK.O rfl ?_
                  refine ms_run (pc' := 240) (lv' := [(0, .ref o), (1, .ref n), (2, .int (nI cnt)), (3, .ref (n + 1 + 1 + W + 1 + W + 1 + W + 1 + W)), (4, .ref (n + 1 + 1 + W + 1 + W + 1 + W + 1 + W + 1)), (5, .int (nI a)), (6, .int (nI b)), (7, .int (nI w9)), (8, .int (nI k))]) (st' := [.int (nI k), .ref wa]) _ (ms_deC dX6_tick_238 ms_deN) rfl rfl ?_
                  refine fk_ldW (i := k) dX6_tick_240 hMK.2.2 (by first | assumption | omega) hc ?_
                  refine ms_run (pc' := 243) (lv' := [(0, .ref o), (1, .ref n), (2, .int (nI cnt)), (3, .ref (n + 1 + 1 + W + 1 + W + 1 + W + 1 + W)), (4, .ref (n + 1 + 1 + W + 1 + W + 1 + W + 1 + W + 1)), (5, .int (nI a)), (6, .int (nI b)), (7, .int (nI w9)), (8, .int (nI k))]) (st' := [.int 6, .ref (wr k)]) _ (ms_deC dX6_tick_241 ms_deN) rfl rfl ?_
                  refine fk_ldR (c := 6) dX6_tick_243 hMK.2.2 (by first | assumption | omega) (by decide) rfl ?_
                  refine ms_run (pc' := 245) (lv' := [(0, .ref o), (1, .ref n), (2, .int (nI cnt)), (3, .ref (n + 1 + 1 + W + 1 + W + 1 + W + 1 + W)), (4, .ref (n + 1 + 1 + W + 1 + W + 1 + W + 1 + W + 1)), (5, .int (nI a)), (6, .int (nI b)), (7, .int (nI w9)), (8, .int (nI k))]) (st' := [.ref o, .int (X.1 k 5)]) _ (ms_deC dX6_tick_244 ms_deN) rfl rfl ?_
                  refine ms_getf dX6_tick_245 fg_X6_36 hMK.O rfl ?_
                  refine ms_run (pc' := 250) (lv' := [(0, .ref o), (1, .ref n), (2, .int (nI cnt)), (3, .ref (n + 1 + 1 + W + 1 + W + 1 + W + 1 + W)), (4, .ref (n + 1 + 1 + W + 1 + W + 1 + W + 1 + W + 1)), (5, .int (nI a)), (6, .int (nI b)), (7, .int (nI w9)), (8, .int (nI k))]) (st' := [.int (nI w9), .ref wa, .int (X.1 k 5)]) _ (ms_deC dX6_tick_248 ms_deN) rfl rfl ?_
                  refine fk_ldW (i := w9) dX6_tick_250 hMK.2.2 (by first | assumption | omega) hc ?_
                  refine ms_run (pc' := 253) (lv' := [(0, .ref o), (1, .ref n), (2, .int (nI cnt)), (3, .ref (n + 1 + 1 + W + 1 + W + 1 + W + 1 + W)), (4, .ref (n + 1 + 1 + W + 1 + W + 1 + W + 1 + W + 1)), (5, .int (nI a)), (6, .int (nI b)), (7, .int (nI w9)), (8, .int (nI k))]) (st' := [.int 6, .ref (wr w9), .int (X.1 k 5)]) _ (ms_deC dX6_tick_251 ms_deN) rfl rfl ?_
                  refine fk_ldR (c := 6) dX6_tick_253 hMK.2.2 (by first | assumption | omega) (by decide) rfl ?_
                  refine ms_icmp_le (tgt := 262) dX6_tick_254 (by decide) (fun h_254 => ?_) (fun h_254 => ?_)
                  · skip
                    refine ms_run (pc' := 269) (lv' := [(8, .int ((nI k) + 1)), (7, .int (nI w9)), (0, .ref o), (1, .ref n), (2, .int (nI cnt)), (3, .ref (n + 1 + 1 + W + 1 + W + 1 + W + 1 + W)), (4, .ref (n + 1 + 1 + W + 1 + W + 1 + W + 1 + W + 1)), (5, .int (nI a)), (6, .int (nI b))]) (st' := []) _ (ms_deC dX6_tick_262 (ms_deC dX6_tick_264 (ms_deC dX6_tick_266 ms_deN))) rfl rfl ?_
                    refine ms_goto (tgt := 161) dX6_tick_269 (by decide) ?_
                    rw [nI_1 k]
                    rw [show nI w9 = (wnX (tgK (W * H) nr ds cnt dr X) X.1 (nI (b * W + a)) (k + 1)) from (wnX_s.trans ((if_neg (fun z => by rcases z.2 with z2 | z2; (rw [ew9] at z2; exact absurd z2 (nI_m1 (by omega))); (rw [ew9, nI_clamp (by omega)] at z2; exact Int32.not_lt.mpr h_254 z2))).trans ew9)).symm]
                    refine ms_W.sub (lv2 := [(0, _), (1, _), (2, _), (3, _), (4, _), (5, _), (6, _), (7, _), (8, _)]) ?_ [2, 3, 4, 5, 6, 7, 8, 1, 0] rfl
                    exact ih (k + 1) (by omega)
                  · skip
                    refine ms_run (pc' := 259) (lv' := [(0, .ref o), (1, .ref n), (2, .int (nI cnt)), (3, .ref (n + 1 + 1 + W + 1 + W + 1 + W + 1 + W)), (4, .ref (n + 1 + 1 + W + 1 + W + 1 + W + 1 + W + 1)), (5, .int (nI a)), (6, .int (nI b)), (7, .int (nI w9)), (8, .int (nI k))]) (st' := [.int (nI k)]) _ (ms_deC dX6_tick_257 ms_deN) rfl rfl ?_
                    refine ms_goto (tgt := 264) dX6_tick_259 (by decide) ?_
                    refine ms_run (pc' := 269) (lv' := [(8, .int ((nI k) + 1)), (7, .int (nI k)), (0, .ref o), (1, .ref n), (2, .int (nI cnt)), (3, .ref (n + 1 + 1 + W + 1 + W + 1 + W + 1 + W)), (4, .ref (n + 1 + 1 + W + 1 + W + 1 + W + 1 + W + 1)), (5, .int (nI a)), (6, .int (nI b))]) (st' := []) _ (ms_deC dX6_tick_264 (ms_deC dX6_tick_266 ms_deN)) rfl rfl ?_
                    refine ms_goto (tgt := 161) dX6_tick_269 (by decide) ?_
                    rw [nI_1 k]
                    have et9 := (show t9 = b * W + a from by have h5 := hd2.2.2; have h6 := (nI_eq (by omega) (by omega)).mp h_201; have h7 := (nI_eq (by omega) (by omega)).mp h_223; rw [h6, h7] at h5; exact h5.symm)
                    rw [show nI k = (wnX (tgK (W * H) nr ds cnt dr X) X.1 (nI (b * W + a)) (k + 1)) from (wnX_s.trans (if_pos ⟨hq3.trans (by rw [et9]), by first | exact Or.inl ((wnX_or (tg := (tgK (W * H) nr ds cnt dr X)) (u := X.1) (f := nI (b * W + a)) k).resolve_right (fun ⟨w9, hw9, ew9, _⟩ => by rw [ew9] at h_231; exact absurd h_231 (nI_pos (by omega)))) | exact Or.inr (by rw [ew9, nI_clamp (by omega)]; exact Int32.not_le.mp h_254)⟩)).symm]
                    refine ms_W.sub (lv2 := [(0, _), (1, _), (2, _), (3, _), (4, _), (5, _), (6, _), (7, _), (8, _)]) ?_ [2, 3, 4, 5, 6, 7, 8, 1, 0] rfl
                    exact ih (k + 1) (by omega)
              · skip
                refine ms_goto (tgt := 266) dX6_tick_226 (by decide) ?_
                refine ms_run (pc' := 269) (lv' := [(8, .int ((nI k) + 1)), (0, .ref o), (1, .ref n), (2, .int (nI cnt)), (3, .ref (n + 1 + 1 + W + 1 + W + 1 + W + 1 + W)), (4, .ref (n + 1 + 1 + W + 1 + W + 1 + W + 1 + W + 1)), (5, .int (nI a)), (6, .int (nI b)), (7, .int (wnX (tgK (W * H) nr ds cnt dr X) X.1 (nI (b * W + a)) k))]) (st' := []) _ (ms_deC dX6_tick_266 ms_deN) rfl rfl ?_
                refine ms_goto (tgt := 161) dX6_tick_269 (by decide) ?_
                rw [nI_1 k]
                rw [show (wnX (tgK (W * H) nr ds cnt dr X) X.1 (nI (b * W + a)) k) = (wnX (tgK (W * H) nr ds cnt dr X) X.1 (nI (b * W + a)) (k + 1)) from (wnX_s.trans (if_neg (fun z => by have h5 := (nI_eq (by omega) (by omega)).mp (hq3.symm.trans z.1); have h6 := fd_mod (y := b) ha9; rw [← h5] at h6; first | exact h_201 (by rw [h6.1]) | exact h_223 (by rw [h6.2])))).symm]
                refine ms_W.sub (lv2 := [(0, _), (1, _), (2, _), (3, _), (4, _), (5, _), (6, _), (7, _), (8, _)]) ?_ [1, 2, 3, 4, 5, 6, 7, 8, 0] rfl
                exact ih (k + 1) (by omega)
/-- who goes, as far as the fields are through -/
def goZ (n cnt : Nat) (tg : Nat → Int32) (u : Nat → Nat → Int32) (pr : Nat → Prop) (go : Nat → Int32) : Prop := ∀ j, j < cnt → (go j = 1 ∧ ∃ f, f < n ∧ pr f ∧ wnX tg u (nI f) cnt = nI j) ∨ (go j = 0 ∧ ∀ f, f < n → pr f → ¬ wnX tg u (nI f) cnt = nI j)
theorem goZ.imp {n cnt : Nat} {tg : Nat → Int32} {u : Nat → Nat → Int32} {pr pr2 : Nat → Prop} {go : Nat → Int32} (h : goZ n cnt tg u pr go) (e : ∀ f, f < n → (pr f ↔ pr2 f)) : goZ n cnt tg u pr2 go := fun j hj => by
  rcases h j hj with ⟨a, f, b, c, d⟩ | ⟨a, b⟩
  · exact Or.inl ⟨a, f, b, (e f b).mp c, d⟩
  · exact Or.inr ⟨a, fun f hf hp => b f hf ((e f hf).mpr hp)⟩
theorem goZ.none {n cnt f0 : Nat} {tg : Nat → Int32} {u : Nat → Nat → Int32} {pr : Nat → Prop} {go : Nat → Int32} (h : goZ n cnt tg u pr go) (hc : cnt ≤ 24) (e : wnX tg u (nI f0) cnt = -1) : goZ n cnt tg u (fun f => pr f ∨ f = f0) go := fun j hj => by
  rcases h j hj with ⟨a, f, b, c, d⟩ | ⟨a, b⟩
  · exact Or.inl ⟨a, f, b, Or.inl c, d⟩
  · refine Or.inr ⟨a, fun f hf hp => ?_⟩
    rcases hp with hp | hp
    · exact b f hf hp
    · rw [hp, e]
      exact fun z => nI_m1 (by omega) z.symm
theorem goZ.put {n cnt f0 w : Nat} {tg : Nat → Int32} {u : Nat → Nat → Int32} {pr : Nat → Prop} {go : Nat → Int32} (h : goZ n cnt tg u pr go) (hc : cnt ≤ 24) (hf0 : f0 < n) (hw : w < cnt) (e : wnX tg u (nI f0) cnt = nI w) : goZ n cnt tg u (fun f => pr f ∨ f = f0) (upd go w 1) := fun j hj => by
  by_cases ej : j = w
  · exact Or.inl ⟨if_pos ej, f0, hf0, Or.inr rfl, by rw [ej]; exact e⟩
  · rw [show upd go w 1 j = go j from if_neg ej]
    rcases h j hj with ⟨a, f, b, c, d⟩ | ⟨a, b⟩
    · exact Or.inl ⟨a, f, b, Or.inl c, d⟩
    · refine Or.inr ⟨a, fun f hf hp => ?_⟩
      rcases hp with hp | hp
      · exact b f hf hp
      · rw [hp, e]
        exact fun z => ej ((nI_eq (by omega) (by omega)).mp z).symm
theorem goZ.end {n cnt : Nat} {nr ds : Nat → Int32} {dr : Int32} {X : cX} {pr : Nat → Prop} {go : Nat → Int32} (h : goZ n cnt (tgK n nr ds cnt dr X) X.1 pr go) (hp : ∀ f, f < n → pr f) : ∀ j, j < cnt → (go j = 1 ∧ goB n nr ds cnt dr X j) ∨ (go j = 0 ∧ ¬ goB n nr ds cnt dr X j) := fun j hj => by
  rcases h j hj with ⟨a, f, b, c, d⟩ | ⟨a, b⟩
  · exact Or.inl ⟨a, f, b, d⟩
  · exact Or.inr ⟨a, fun ⟨f, hf, e⟩ => b f hf (hp f hf) e⟩
set_option maxHeartbeats 1000000 in
set_option maxRecDepth 20000 in
theorem l2b_X6_tick {n o x sb fa wa W H cnt N t0 : Nat} {G : ms_H} {dw dr pa : Int32} {wr : Nat → Nat} {fv : Nat → Nat → Int32} {X : cX} {nr wl mk ds : Nat → Int32} (fl : fk_lt n o fa W H wa cnt wr) (ly : fk_ly o fa W H wa cnt wr) (hW : W ≤ 14) (hH : H ≤ 14) (hc : cnt ≤ 24) (hW0 : 0 < W) (hL : lk_ok W H (W * H) nr) (hfv : fvR (W * H) wl mk fv) (hht : ∀ f, f < W * H → fv f 1 = X.2.1 f) (hds : dsR (W * H) nr wl mk ds) (hd9 : 0 ≤ dr ∧ dr ≤ 9) (hN : N < 1000000) (hV9 : wdV W H cnt N X) (ht0 : X.2.2.2 = nI t0) (ht9 : t0 < 900) {a : Nat} (ha9 : a < W) (kk : ∀ (K : ms_H) (go : Nat → Int32), fk_at K o x sb dw W H (X.2.2.2 + 1) dr pa fa wa cnt wr fv X.1 → K (n + 1 + 1 + W + 1 + W + 1 + W + 1 + W) = some (.inl (0, cnt, .inl (fl2 (wfX (W * H) nr ds cnt dr X) cnt))) → K (n + 1 + 1 + W + 1 + W + 1 + W + 1 + W + 1) = some (.inl (1, cnt, .inl go)) → goZ (W * H) cnt (tgK (W * H) nr ds cnt dr X) X.1 (fun f => f % W < a ∨ (f % W = a ∧ f / W < H)) go → (∀ a, a < fa → ¬ a = o → K a = G a) → ms_W false m_X6_tick (fun r n1 G1 => r = .inl (some (.int (nI (ct (pGf (W * H) nr mk ds cnt dr X) cnt)))) ∧ n ≤ n1 ∧ (∀ a, a < fa → ¬ a = o → G1 a = G a) ∧ ∃ fv1, fk_at G1 o x sb dw W H (X.2.2.2 + 1) dr pa fa wa cnt wr fv1 (stX1 (nI (W * H)) nr mk ds cnt dr X).1 ∧ fvR (W * H) wl mk fv1 ∧ ∀ f, f < W * H → fv1 f 1 = (stX1 (nI (W * H)) nr mk ds cnt dr X).2.1 f) 289 [(0, .ref o), (1, .ref n), (2, .int (nI cnt)), (3, .ref (n + 1 + 1 + W + 1 + W + 1 + W + 1 + W)), (4, .ref (n + 1 + 1 + W + 1 + W + 1 + W + 1 + W + 1)), (5, .int (nI a))] [] (n + 1 + 1 + W + 1 + W + 1 + W + 1 + W + 1 + 1) K 0 0) : ∀ (r k : Nat), k + r = H → ∀ (K : ms_H) (go : Nat → Int32), fk_at K o x sb dw W H (X.2.2.2 + 1) dr pa fa wa cnt wr fv X.1 → K (n + 1 + 1 + W + 1 + W + 1 + W + 1 + W) = some (.inl (0, cnt, .inl (fl2 (wfX (W * H) nr ds cnt dr X) cnt))) → K (n + 1 + 1 + W + 1 + W + 1 + W + 1 + W + 1) = some (.inl (1, cnt, .inl go)) → goZ (W * H) cnt (tgK (W * H) nr ds cnt dr X) X.1 (fun f => f % W < a ∨ (f % W = a ∧ f / W < k)) go → (∀ a, a < fa → ¬ a = o → K a = G a) → ms_W false m_X6_tick (fun r n1 G1 => r = .inl (some (.int (nI (ct (pGf (W * H) nr mk ds cnt dr X) cnt)))) ∧ n ≤ n1 ∧ (∀ a, a < fa → ¬ a = o → G1 a = G a) ∧ ∃ fv1, fk_at G1 o x sb dw W H (X.2.2.2 + 1) dr pa fa wa cnt wr fv1 (stX1 (nI (W * H)) nr mk ds cnt dr X).1 ∧ fvR (W * H) wl mk fv1 ∧ ∀ f, f < W * H → fv1 f 1 = (stX1 (nI (W * H)) nr mk ds cnt dr X).2.1 f) 146 [(0, .ref o), (1, .ref n), (2, .int (nI cnt)), (3, .ref (n + 1 + 1 + W + 1 + W + 1 + W + 1 + W)), (4, .ref (n + 1 + 1 + W + 1 + W + 1 + W + 1 + W + 1)), (5, .int (nI a)), (6, .int (nI k))] [] (n + 1 + 1 + W + 1 + W + 1 + W + 1 + W + 1 + 1) K 0 0 := by
  have h9 : W * H ≤ 196 := Nat.mul_le_mul hW hH
  obtain ⟨l1, l2, l3, l4⟩ := fl
  obtain ⟨y1, y2, y3⟩ := ly
  have had := ad_fa (fa := fa) (H := H) (i := W)
  intro r
  induction r with
  | zero =>
    intro k hk K go hMK hwK hgK hgo hFR
    have hkN : k = H := by omega
    refine ms_run (pc' := 149) (lv' := [(0, .ref o), (1, .ref n), (2, .int (nI cnt)), (3, .ref (n + 1 + 1 + W + 1 + W + 1 + W + 1 + W)), (4, .ref (n + 1 + 1 + W + 1 + W + 1 + W + 1 + W + 1)), (5, .int (nI a)), (6, .int (nI k))]) (st' := [.ref o, .int (nI k)]) _ (ms_deC dX6_tick_146 (ms_deC dX6_tick_148 ms_deN)) rfl rfl ?_
    refine ms_getf dX6_tick_149 fg_X6_20 hMK.O rfl ?_
    refine ms_icmp_ge (tgt := 289) dX6_tick_152 (by decide) (fun h_152 => ?_) (fun h_152 => ?_)
    · skip
      refine ms_W.sub (lv2 := [(0, _), (1, _), (2, _), (3, _), (4, _), (5, _)]) ?_ [0, 1, 2, 3, 4, 5] rfl
      exact kk K go hMK hwK hgK (by rw [hkN] at hgo; exact hgo) hFR
    · skip
      exact absurd (by exact nI_le (b := k) (by omega) (by omega)) h_152
  | succ r ih =>
    intro k hk K go hMK hwK hgK hgo hFR
    have hlt : k < H := by omega
    refine ms_run (pc' := 149) (lv' := [(0, .ref o), (1, .ref n), (2, .int (nI cnt)), (3, .ref (n + 1 + 1 + W + 1 + W + 1 + W + 1 + W)), (4, .ref (n + 1 + 1 + W + 1 + W + 1 + W + 1 + W + 1)), (5, .int (nI a)), (6, .int (nI k))]) (st' := [.ref o, .int (nI k)]) _ (ms_deC dX6_tick_146 (ms_deC dX6_tick_148 ms_deN)) rfl rfl ?_
    refine ms_getf dX6_tick_149 fg_X6_20 hMK.O rfl ?_
    refine ms_icmp_ge (tgt := 289) dX6_tick_152 (by decide) (fun h_152 => ?_) (fun h_152 => ?_)
    · skip
      exact absurd h_152 (by exact nI_ge (b := H) (by omega) (by omega))
    · skip
      refine ms_run (pc' := 161) (lv' := [(8, .int 0), (7, .int (-1)), (0, .ref o), (1, .ref n), (2, .int (nI cnt)), (3, .ref (n + 1 + 1 + W + 1 + W + 1 + W + 1 + W)), (4, .ref (n + 1 + 1 + W + 1 + W + 1 + W + 1 + W + 1)), (5, .int (nI a)), (6, .int (nI k))]) (st' := []) _ (ms_deC dX6_tick_155 (ms_deC dX6_tick_156 (ms_deC dX6_tick_158 (ms_deC dX6_tick_159 ms_deN)))) rfl rfl ?_
      have hf9 := fij (H := H) ha9 hlt
      refine ms_W.sub (lv2 := [(0, _), (1, _), (2, _), (3, _), (4, _), (5, _), (6, _), (7, _), (8, _)]) ?_ [2, 3, 4, 5, 6, 7, 8, 1, 0] rfl
      refine l2c_X6_tick ⟨l1, l2, l3, l4⟩ ⟨y1, y2, y3⟩ hW hH hc hW0 hL hfv hht hds hd9 hN hV9 ht0 ht9 ha9 hlt hMK hwK ?_ cnt 0 (by omega)
      rcases wnX_or (tg := (tgK (W * H) nr ds cnt dr X)) (u := X.1) (f := nI (k * W + a)) cnt with e9 | ⟨w9, hw9, e9, -⟩
      · rw [e9]
        refine ms_run (pc' := 274) (lv' := [(0, .ref o), (1, .ref n), (2, .int (nI cnt)), (3, .ref (n + 1 + 1 + W + 1 + W + 1 + W + 1 + W)), (4, .ref (n + 1 + 1 + W + 1 + W + 1 + W + 1 + W + 1)), (5, .int (nI a)), (6, .int (nI k)), (7, .int (-1))]) (st' := [.int (-1)]) _ (ms_deC dX6_tick_272 ms_deN) rfl rfl ?_
        refine ms_if_lt (tgt := 283) dX6_tick_274 (by decide) (fun _ => ?_) (fun h9 => absurd h9 (by decide))
        refine ms_run (pc' := 286) (lv' := [(6, .int ((nI k) + 1)), (0, .ref o), (1, .ref n), (2, .int (nI cnt)), (3, .ref (n + 1 + 1 + W + 1 + W + 1 + W + 1 + W)), (4, .ref (n + 1 + 1 + W + 1 + W + 1 + W + 1 + W + 1)), (5, .int (nI a)), (7, .int (-1))]) (st' := []) _ (ms_deC dX6_tick_283 ms_deN) rfl rfl ?_
        refine ms_goto (tgt := 146) dX6_tick_286 (by decide) ?_
        rw [nI_1 k]
        refine ms_W.sub (lv2 := [(0, _), (1, _), (2, _), (3, _), (4, _), (5, _), (6, _)]) ?_ [1, 2, 3, 4, 5, 6, 0] rfl
        exact ih (k + 1) (by omega) K go hMK hwK hgK ((hgo.none hc e9).imp (fun f _ => (sc_ne_or ha9).symm)) hFR
      · rw [e9]
        refine ms_run (pc' := 274) (lv' := [(0, .ref o), (1, .ref n), (2, .int (nI cnt)), (3, .ref (n + 1 + 1 + W + 1 + W + 1 + W + 1 + W)), (4, .ref (n + 1 + 1 + W + 1 + W + 1 + W + 1 + W + 1)), (5, .int (nI a)), (6, .int (nI k)), (7, .int (nI w9))]) (st' := [.int (nI w9)]) _ (ms_deC dX6_tick_272 ms_deN) rfl rfl ?_
        refine ms_if_lt (tgt := 283) dX6_tick_274 (by decide) (fun h_274 => ?_) (fun h_274 => ?_)
        · skip
          exact absurd h_274 (nI_pos (by omega))
        · skip
          refine ms_run (pc' := 282) (lv' := [(0, .ref o), (1, .ref n), (2, .int (nI cnt)), (3, .ref (n + 1 + 1 + W + 1 + W + 1 + W + 1 + W)), (4, .ref (n + 1 + 1 + W + 1 + W + 1 + W + 1 + W + 1)), (5, .int (nI a)), (6, .int (nI k)), (7, .int (nI w9))]) (st' := [.int 1, .int (nI w9), .ref (n + 1 + 1 + W + 1 + W + 1 + W + 1 + W + 1)]) _ (ms_deC dX6_tick_277 (ms_deC dX6_tick_279 (ms_deC dX6_tick_281 ms_deN))) rfl rfl ?_
          refine ms_zastore dX6_tick_282 hgK (vp_in_nI hw9 (by omega)) ?_
          rw [nI_clamp (n := w9) (by omega)]
          obtain ⟨K2, eK⟩ : ∃ K2, K2 = ms_up K (n + 1 + 1 + W + 1 + W + 1 + W + 1 + W + 1) (.inl (1, cnt, .inl (upd go w9 1))) := ⟨_, rfl⟩
          refine ms_W.heq eK ?_
          have hK2 : ∀ a, a < (n + 1 + 1 + W + 1 + W + 1 + W + 1 + W + 1) → K2 a = K a := fun a ha => by rw [eK]; exact ms_up_n _ _ (by omega)
          refine ms_run (pc' := 286) (lv' := [(6, .int ((nI k) + 1)), (0, .ref o), (1, .ref n), (2, .int (nI cnt)), (3, .ref (n + 1 + 1 + W + 1 + W + 1 + W + 1 + W)), (4, .ref (n + 1 + 1 + W + 1 + W + 1 + W + 1 + W + 1)), (5, .int (nI a)), (7, .int (nI w9))]) (st' := []) _ (ms_deC dX6_tick_283 ms_deN) rfl rfl ?_
          refine ms_goto (tgt := 146) dX6_tick_286 (by decide) ?_
          rw [nI_1 k]
          refine ms_W.sub (lv2 := [(0, _), (1, _), (2, _), (3, _), (4, _), (5, _), (6, _)]) ?_ [1, 2, 3, 4, 5, 6, 0] rfl
          exact ih (k + 1) (by omega) K2 (upd go w9 1) (hMK.hi (n := n) ⟨l1, l2, l3, l4⟩ hW0 (fun a ha => hK2 a (by omega))) ((hK2 _ (by omega)).trans hwK) (by rw [eK]; exact ms_up_s _ _ _) ((hgo.put hc hf9 hw9 e9).imp (fun f _ => (sc_ne_or ha9).symm)) (fun a h1 h2 => (hK2 a (by omega)).trans (hFR a h1 h2))
set_option maxHeartbeats 1000000 in
set_option maxRecDepth 20000 in
theorem l2a_X6_tick {n o x sb fa wa W H cnt N t0 : Nat} {G : ms_H} {dw dr pa : Int32} {wr : Nat → Nat} {fv : Nat → Nat → Int32} {X : cX} {nr wl mk ds : Nat → Int32} (fl : fk_lt n o fa W H wa cnt wr) (ly : fk_ly o fa W H wa cnt wr) (hW : W ≤ 14) (hH : H ≤ 14) (hc : cnt ≤ 24) (hW0 : 0 < W) (hL : lk_ok W H (W * H) nr) (hfv : fvR (W * H) wl mk fv) (hht : ∀ f, f < W * H → fv f 1 = X.2.1 f) (hds : dsR (W * H) nr wl mk ds) (hd9 : 0 ≤ dr ∧ dr ≤ 9) (hN : N < 1000000) (hV9 : wdV W H cnt N X) (ht0 : X.2.2.2 = nI t0) (ht9 : t0 < 900) (kk : ∀ (K : ms_H) (go : Nat → Int32), fk_at K o x sb dw W H (X.2.2.2 + 1) dr pa fa wa cnt wr fv X.1 → K (n + 1 + 1 + W + 1 + W + 1 + W + 1 + W) = some (.inl (0, cnt, .inl (fl2 (wfX (W * H) nr ds cnt dr X) cnt))) → K (n + 1 + 1 + W + 1 + W + 1 + W + 1 + W + 1) = some (.inl (1, cnt, .inl go)) → (∀ j, j < cnt → (go j = 1 ∧ goB (W * H) nr ds cnt dr X j) ∨ (go j = 0 ∧ ¬ goB (W * H) nr ds cnt dr X j)) → (∀ a, a < fa → ¬ a = o → K a = G a) → ms_W false m_X6_tick (fun r n1 G1 => r = .inl (some (.int (nI (ct (pGf (W * H) nr mk ds cnt dr X) cnt)))) ∧ n ≤ n1 ∧ (∀ a, a < fa → ¬ a = o → G1 a = G a) ∧ ∃ fv1, fk_at G1 o x sb dw W H (X.2.2.2 + 1) dr pa fa wa cnt wr fv1 (stX1 (nI (W * H)) nr mk ds cnt dr X).1 ∧ fvR (W * H) wl mk fv1 ∧ ∀ f, f < W * H → fv1 f 1 = (stX1 (nI (W * H)) nr mk ds cnt dr X).2.1 f) 295 [(0, .ref o), (2, .int (nI cnt)), (3, .ref (n + 1 + 1 + W + 1 + W + 1 + W + 1 + W)), (4, .ref (n + 1 + 1 + W + 1 + W + 1 + W + 1 + W + 1))] [] (n + 1 + 1 + W + 1 + W + 1 + W + 1 + W + 1 + 1) K 0 0) : ∀ (r k : Nat), k + r = W → ∀ (K : ms_H) (go : Nat → Int32), fk_at K o x sb dw W H (X.2.2.2 + 1) dr pa fa wa cnt wr fv X.1 → K (n + 1 + 1 + W + 1 + W + 1 + W + 1 + W) = some (.inl (0, cnt, .inl (fl2 (wfX (W * H) nr ds cnt dr X) cnt))) → K (n + 1 + 1 + W + 1 + W + 1 + W + 1 + W + 1) = some (.inl (1, cnt, .inl go)) → goZ (W * H) cnt (tgK (W * H) nr ds cnt dr X) X.1 (fun f => f % W < k ∨ (f % W = k ∧ f / W < 0)) go → (∀ a, a < fa → ¬ a = o → K a = G a) → ms_W false m_X6_tick (fun r n1 G1 => r = .inl (some (.int (nI (ct (pGf (W * H) nr mk ds cnt dr X) cnt)))) ∧ n ≤ n1 ∧ (∀ a, a < fa → ¬ a = o → G1 a = G a) ∧ ∃ fv1, fk_at G1 o x sb dw W H (X.2.2.2 + 1) dr pa fa wa cnt wr fv1 (stX1 (nI (W * H)) nr mk ds cnt dr X).1 ∧ fvR (W * H) wl mk fv1 ∧ ∀ f, f < W * H → fv1 f 1 = (stX1 (nI (W * H)) nr mk ds cnt dr X).2.1 f) 134 [(0, .ref o), (1, .ref n), (2, .int (nI cnt)), (3, .ref (n + 1 + 1 + W + 1 + W + 1 + W + 1 + W)), (4, .ref (n + 1 + 1 + W + 1 + W + 1 + W + 1 + W + 1)), (5, .int (nI k))] [] (n + 1 + 1 + W + 1 + W + 1 + W + 1 + W + 1 + 1) K 0 0 := by
  have h9 : W * H ≤ 196 := Nat.mul_le_mul hW hH
  obtain ⟨l1, l2, l3, l4⟩ := fl
  obtain ⟨y1, y2, y3⟩ := ly
  have had := ad_fa (fa := fa) (H := H) (i := W)
  intro r
  induction r with
  | zero =>
    intro k hk K go hMK hwK hgK hgo hFR
    have hkN : k = W := by omega
    refine ms_run (pc' := 137) (lv' := [(0, .ref o), (1, .ref n), (2, .int (nI cnt)), (3, .ref (n + 1 + 1 + W + 1 + W + 1 + W + 1 + W)), (4, .ref (n + 1 + 1 + W + 1 + W + 1 + W + 1 + W + 1)), (5, .int (nI k))]) (st' := [.ref o, .int (nI k)]) _ (ms_deC dX6_tick_134 (ms_deC dX6_tick_136 ms_deN)) rfl rfl ?_
    refine ms_getf dX6_tick_137 fg_X6_16 hMK.O rfl ?_
    refine ms_icmp_ge (tgt := 295) dX6_tick_140 (by decide) (fun h_140 => ?_) (fun h_140 => ?_)
    · skip
      refine ms_W.sub (lv2 := [(0, _), (2, _), (3, _), (4, _)]) ?_ [0, 2, 3, 4] rfl
      exact kk K go hMK hwK hgK (hgo.end (fun f hf => by rw [hkN]; exact Or.inl (fd_div hf).1)) hFR
    · skip
      exact absurd (by exact nI_le (b := k) (by omega) (by omega)) h_140
  | succ r ih =>
    intro k hk K go hMK hwK hgK hgo hFR
    have hlt : k < W := by omega
    refine ms_run (pc' := 137) (lv' := [(0, .ref o), (1, .ref n), (2, .int (nI cnt)), (3, .ref (n + 1 + 1 + W + 1 + W + 1 + W + 1 + W)), (4, .ref (n + 1 + 1 + W + 1 + W + 1 + W + 1 + W + 1)), (5, .int (nI k))]) (st' := [.ref o, .int (nI k)]) _ (ms_deC dX6_tick_134 (ms_deC dX6_tick_136 ms_deN)) rfl rfl ?_
    refine ms_getf dX6_tick_137 fg_X6_16 hMK.O rfl ?_
    refine ms_icmp_ge (tgt := 295) dX6_tick_140 (by decide) (fun h_140 => ?_) (fun h_140 => ?_)
    · skip
      exact absurd h_140 (by exact nI_ge (b := W) (by omega) (by omega))
    · skip
      refine ms_run (pc' := 146) (lv' := [(6, .int 0), (0, .ref o), (1, .ref n), (2, .int (nI cnt)), (3, .ref (n + 1 + 1 + W + 1 + W + 1 + W + 1 + W)), (4, .ref (n + 1 + 1 + W + 1 + W + 1 + W + 1 + W + 1)), (5, .int (nI k))]) (st' := []) _ (ms_deC dX6_tick_143 (ms_deC dX6_tick_144 ms_deN)) rfl rfl ?_
      refine ms_W.sub (lv2 := [(0, _), (1, _), (2, _), (3, _), (4, _), (5, _), (6, _)]) ?_ [1, 2, 3, 4, 5, 6, 0] rfl
      refine l2b_X6_tick ⟨l1, l2, l3, l4⟩ ⟨y1, y2, y3⟩ hW hH hc hW0 hL hfv hht hds hd9 hN hV9 ht0 ht9 (a := k) hlt ?_ H 0 (by omega) K go hMK hwK hgK hgo hFR
      intro K9 g9 hM9 hw9 hg9 hz9 hF9
      refine ms_run (pc' := 292) (lv' := [(5, .int ((nI k) + 1)), (0, .ref o), (1, .ref n), (2, .int (nI cnt)), (3, .ref (n + 1 + 1 + W + 1 + W + 1 + W + 1 + W)), (4, .ref (n + 1 + 1 + W + 1 + W + 1 + W + 1 + W + 1))]) (st' := []) _ (ms_deC dX6_tick_289 ms_deN) rfl rfl ?_
      refine ms_goto (tgt := 134) dX6_tick_292 (by decide) ?_
      rw [nI_1 k]
      refine ms_W.sub (lv2 := [(0, _), (1, _), (2, _), (3, _), (4, _), (5, _)]) ?_ [1, 2, 3, 4, 5, 0] rfl
      exact ih (k + 1) (by omega) K9 g9 hM9 hw9 hg9 (hz9.imp (fun f hf => ⟨fun z => by rcases z with z | z; exact Or.inl (by omega); exact Or.inl (by omega), sc_rw hf⟩)) hF9

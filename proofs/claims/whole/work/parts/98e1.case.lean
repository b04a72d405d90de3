/-! the law: the cases (2) -/
set_option maxHeartbeats 1000000 in
set_option maxRecDepth 20000 in
theorem cs_turnTo {x g q c j q2 c2 o m b L k i n : Nat} {xs : Nat → Int32} {G : ms_H} {P : ms_P} {kr zr : Nat} (ho : ox x g q c j q2 c2) (hoo : c2 + 29 ≤ o) (hS : lS x g q c j q2 c2 o m k n G) (hO : lo_at o n G) (hk : k < 512) (hi : i + 5 < L) (hL : L ≤ 3072) (kk : ∀ n1 G1, lS x g q c j q2 c2 o m (k + 1) n1 G1 → lo_at o n1 G1 → ms_W false (m_L_lw b L xs) P 1736 [(0, .ref b), (1, .ref x), (2, .ref m), (3, .ref o), (4, .int (nI i))] [] n1 G1 kr zr) : ms_W false (m_L_lw b L xs) P 808 [(0, .ref b), (1, .ref x), (2, .ref m), (3, .ref o), (4, .int (nI i))] [] n G (394 + kr) (12720 + zr) := by
  obtain ⟨aw, am, ai, ah, W, H, cnt, th, dr, pa, X, nr, wl, mk, ds, mm, hS5, hM6, hl, hne, hge, hnoe, hWH, hc, hL9, hmm, hds, hd, hwl, hV, hhe⟩ := hS
  obtain ⟨hW0, hW, hH0, hH⟩ := hWH
  obtain ⟨hon, fo, hro⟩ := hO
  have hp : 0 < W * H := Nat.mul_pos hW0 hH0
  obtain ⟨l1, l2, l3, l4, l5⟩ := id hl
  obtain ⟨g1, g2, g3, g4, g5⟩ := id hge
  obtain ⟨e1, e2, e3, e4, e5⟩ := id hnoe
  have ho9 := ho
  obtain ⟨o1, o2, o3, o4, o5, o6⟩ := ho
  have h196 := fd_196 hW hH
  refine ms_run (pc' := 814) (lv' := [(0, .ref b), (1, .ref x), (2, .ref m), (3, .ref o), (4, .int (nI i))]) (st' := [.int ((nI i) + 1), .ref b, .ref x]) _ (ms_deC dL_law_808 (ms_deC dL_law_809 (ms_deC dL_law_810 (ms_deC dL_law_812 (ms_deC dL_law_813 ms_deN))))) rfl rfl ?_
  refine ms_sld dL_law_814 rfl (sc_in (j := 1) (by omega) (by omega)) ?_
  rw [show (nI i + 1).toNatClampNeg = i + 1 from sc_at (j := 1) (by omega)]
  refine ms_run (pc' := 820) (lv' := [(0, .ref b), (1, .ref x), (2, .ref m), (3, .ref o), (4, .int (nI i))]) (st' := [.int ((nI i) + 2), .ref b, .int (xs (i + 1)), .ref x]) _ (ms_deC dL_law_815 (ms_deC dL_law_816 (ms_deC dL_law_818 (ms_deC dL_law_819 ms_deN)))) rfl rfl ?_
  refine ms_sld dL_law_820 rfl (sc_in (j := 2) (by omega) (by omega)) ?_
  rw [show (nI i + 2).toNatClampNeg = i + 2 from sc_at (j := 2) (by omega)]
  refine ms_run (pc' := 826) (lv' := [(0, .ref b), (1, .ref x), (2, .ref m), (3, .ref o), (4, .int (nI i))]) (st' := [.int ((nI i) + 3), .ref b, .int (xs (i + 2)), .int (xs (i + 1)), .ref x]) _ (ms_deC dL_law_821 (ms_deC dL_law_822 (ms_deC dL_law_824 (ms_deC dL_law_825 ms_deN)))) rfl rfl ?_
  refine ms_sld dL_law_826 rfl (sc_in (j := 3) (by omega) (by omega)) ?_
  rw [show (nI i + 3).toNatClampNeg = i + 3 from sc_at (j := 3) (by omega)]
  refine ms_run (pc' := 828) (lv' := [(0, .ref b), (1, .ref x), (2, .ref m), (3, .ref o), (4, .int (nI i))]) (st' := [.ref o, .int (xs (i + 3)), .int (xs (i + 2)), .int (xs (i + 1)), .ref x]) _ (ms_deC dL_law_827 ms_deN) rfl rfl ?_
  refine ms_W.room (k2 := 1 + (393 + kr)) (z2 := 6 + (12714 + zr)) ?_ (by omega) (by omega)
  refine ms_callSX (As := [.ref x, .int (xs (i + 1)), .int (xs (i + 2)), .int (xs (i + 3)), .ref o]) dL_law_828 (c_L_turnTo ho9 hS5 hoo hro hc (xs (i + 1)) (xs (i + 2)) (xs (i + 3))) cs_L_122 (List.cons_ne_nil _ _) rfl ⟨Nat.le_of_ble_eq_true rfl, Nat.le_of_ble_eq_true rfl⟩ rfl (Nat.le_of_ble_eq_true rfl) (fun v9 n9 K9 hp9 => ?_) (fun E9 n9 K9 hp9 => hp9.noX)
  cases hth : (th_trn W H mk cnt X.1 (xs (i + 1)) (xs (i + 2)) (xs (i + 3))) with
  | some E9 =>
    obtain ⟨hn9, hv9, hG9⟩ := hp9.t hth
    obtain ⟨t9, ht9, ht0⟩ : ∃ t9 : Int32, (fun e => if e = IOB then 1 else if e = IAE then 2 else 3) E9 = t9 ∧ ¬ t9 = 0 := ⟨_, rfl, cdm_n E9⟩
    have hv8 : v9 = some (Value.int t9) := hv9.trans (congrArg (fun q => some (Value.int q)) ht9)
    subst hv8
    subst hG9
    have hl9 : md_lt n9 m aw am ai ah := ⟨by omega, by omega, by omega, by omega, by omega⟩
    refine ms_run (pc' := 839) (lv' := [(5, .int t9), (0, .ref b), (1, .ref x), (2, .ref m), (3, .ref o), (4, .int (nI i))]) (st' := [.int ((nI i) + 1), .ref b, .ref m]) _ (ms_deC dL_law_831 (ms_deC dL_law_833 (ms_deC dL_law_834 (ms_deC dL_law_835 (ms_deC dL_law_837 (ms_deC dL_law_838 ms_deN)))))) rfl rfl ?_
    refine ms_sld dL_law_839 rfl (sc_in (j := 1) (by omega) (by omega)) ?_
    rw [show (nI i + 1).toNatClampNeg = i + 1 from sc_at (j := 1) (by omega)]
    refine ms_run (pc' := 845) (lv' := [(5, .int t9), (0, .ref b), (1, .ref x), (2, .ref m), (3, .ref o), (4, .int (nI i))]) (st' := [.int ((nI i) + 2), .ref b, .int (xs (i + 1)), .ref m]) _ (ms_deC dL_law_840 (ms_deC dL_law_841 (ms_deC dL_law_843 (ms_deC dL_law_844 ms_deN)))) rfl rfl ?_
    refine ms_sld dL_law_845 rfl (sc_in (j := 2) (by omega) (by omega)) ?_
    rw [show (nI i + 2).toNatClampNeg = i + 2 from sc_at (j := 2) (by omega)]
    refine ms_run (pc' := 851) (lv' := [(5, .int t9), (0, .ref b), (1, .ref x), (2, .ref m), (3, .ref o), (4, .int (nI i))]) (st' := [.int ((nI i) + 3), .ref b, .int (xs (i + 2)), .int (xs (i + 1)), .ref m]) _ (ms_deC dL_law_846 (ms_deC dL_law_847 (ms_deC dL_law_849 (ms_deC dL_law_850 ms_deN)))) rfl rfl ?_
    refine ms_sld dL_law_851 rfl (sc_in (j := 3) (by omega) (by omega)) ?_
    rw [show (nI i + 3).toNatClampNeg = i + 3 from sc_at (j := 3) (by omega)]
    refine ms_W.room (k2 := 0 + kr) (z2 := 0 + zr) ?_ (by omega) (by omega)
    refine ms_callV (As := [.int (xs (i + 1)), .int (xs (i + 2)), .int (xs (i + 3))]) dL_law_852 (c_X6_turnTo hM6 hl9 hW hH hW0 hc hne hL9 hmm hds hd (show 20 * k < 1000000 by omega) hV (xs (i + 1)) (xs (i + 2)) (xs (i + 3))) cv_L_124 hM6.1 rfl ⟨Nat.le_of_ble_eq_true rfl, Nat.le_of_ble_eq_true rfl⟩ rfl (Nat.le_of_ble_eq_true rfl) (fun v8 n8 K8 hp8 => ?_)
    obtain ⟨hn8, hF8, hv7, hq8⟩ := hp8.t hth
    subst hv7
    have hM8 : md_at K8 m aw am ai ah W H t9 X.2.2.2 dr pa cnt wl mm X.2.1 X.1 := by rw [← ht9]; exact hq8
    have hS8 := hS5.co ho9 (fun a ha => hF8 a (by omega) (by rintro (z9 | z9 | z9 | z9 | z9) <;> omega))
    have hro8 := (hF8 o (by omega) (by rintro (z9 | z9 | z9 | z9 | z9) <;> omega)).trans hro
    refine ms_run (pc' := 858) (lv' := [(6, .int 0), (5, .int t9), (0, .ref b), (1, .ref x), (2, .ref m), (3, .ref o), (4, .int (nI i))]) (st' := [.ref m]) _ (ms_deC dL_law_855 (ms_deC dL_law_857 ms_deN)) rfl rfl ?_
    refine ms_callVp (As := []) dL_law_858 (c_X6_thrown hM8) cv_L_93 hM8.1 rfl ⟨Nat.le_of_ble_eq_true rfl, Nat.le_of_ble_eq_true rfl⟩ rfl (Nat.le_of_ble_eq_true rfl) ?_
    refine ms_run (pc' := 863) (lv' := [(6, .int 0), (5, .int t9), (0, .ref b), (1, .ref x), (2, .ref m), (3, .ref o), (4, .int (nI i))]) (st' := [.int t9, .int t9]) _ (ms_deC dL_law_861 ms_deN) rfl rfl ?_
    refine ms_icmp_eq (tgt := 868) dL_law_863 (by decide) (fun h_863 => ?_) (fun h_863 => ?_)
    · skip
      refine ms_run (pc' := 870) (lv' := [(6, .int 0), (5, .int t9), (0, .ref b), (1, .ref x), (2, .ref m), (3, .ref o), (4, .int (nI i))]) (st' := [.int t9]) _ (ms_deC dL_law_868 ms_deN) rfl rfl ?_
      refine ms_if_ne (tgt := 885) dL_law_870 (by decide) (fun h_870 => ?_) (fun h_870 => ?_)
      · skip
        refine ms_goto (tgt := 1736) dL_law_885 (by decide) ?_
        refine ms_W.room (k2 := kr) (z2 := zr) ?_ (by omega) (by omega)
        refine ms_W.sub (lv2 := [(0, _), (1, _), (2, _), (3, _), (4, _)]) ?_ [2, 3, 4, 5, 6] rfl
        exact kk n8 K8 ⟨aw, am, ai, ah, W, H, cnt, _, dr, pa, X, nr, wl, mk, ds, mm, hS8, hM8, ⟨by omega, by omega, by omega, by omega, by omega⟩, hne, hge, hnoe, ⟨hW0, hW, hH0, hH⟩, hc, hL9, hmm, hds, hd, hwl, (hV.mono (by omega)), (hhe.mono (by omega))⟩ ⟨by omega, _, hro8⟩
      · skip
        exact absurd (by first | exact h_870 | exact Decidable.not_not.mp h_870) ht0
    · skip
      exact absurd rfl h_863
  | none =>
    obtain ⟨hn9, hv9, K7, f7, hQ7, hf7, hK9⟩ := hp9.n hth
    subst hv9
    obtain ⟨hS7, hF7⟩ := hQ7
    have hK9o : K9 o = some (oR f7) := by rw [hK9]; exact ms_up_s _ _ _
    have hfr7 : ∀ a, a ≠ o → K9 a = K7 a := fun a h1 => by rw [hK9]; exact ms_up_n _ _ h1
    have hM9 : md_at K9 m aw am ai ah W H th X.2.2.2 dr pa cnt wl mm X.2.1 X.1 := hM6.co (fun a h1 => (hfr7 a (by rcases h1 with z9 | z9 | z9 | z9 | z9 <;> omega)).trans (hF7 a (by rcases h1 with z9 | z9 | z9 | z9 | z9 <;> omega)))
    have hl9 : md_lt n9 m aw am ai ah := ⟨by omega, by omega, by omega, by omega, by omega⟩
    refine ms_run (pc' := 839) (lv' := [(5, .int 0), (0, .ref b), (1, .ref x), (2, .ref m), (3, .ref o), (4, .int (nI i))]) (st' := [.int ((nI i) + 1), .ref b, .ref m]) _ (ms_deC dL_law_831 (ms_deC dL_law_833 (ms_deC dL_law_834 (ms_deC dL_law_835 (ms_deC dL_law_837 (ms_deC dL_law_838 ms_deN)))))) rfl rfl ?_
    refine ms_sld dL_law_839 rfl (sc_in (j := 1) (by omega) (by omega)) ?_
    rw [show (nI i + 1).toNatClampNeg = i + 1 from sc_at (j := 1) (by omega)]
    refine ms_run (pc' := 845) (lv' := [(5, .int 0), (0, .ref b), (1, .ref x), (2, .ref m), (3, .ref o), (4, .int (nI i))]) (st' := [.int ((nI i) + 2), .ref b, .int (xs (i + 1)), .ref m]) _ (ms_deC dL_law_840 (ms_deC dL_law_841 (ms_deC dL_law_843 (ms_deC dL_law_844 ms_deN)))) rfl rfl ?_
    refine ms_sld dL_law_845 rfl (sc_in (j := 2) (by omega) (by omega)) ?_
    rw [show (nI i + 2).toNatClampNeg = i + 2 from sc_at (j := 2) (by omega)]
    refine ms_run (pc' := 851) (lv' := [(5, .int 0), (0, .ref b), (1, .ref x), (2, .ref m), (3, .ref o), (4, .int (nI i))]) (st' := [.int ((nI i) + 3), .ref b, .int (xs (i + 2)), .int (xs (i + 1)), .ref m]) _ (ms_deC dL_law_846 (ms_deC dL_law_847 (ms_deC dL_law_849 (ms_deC dL_law_850 ms_deN)))) rfl rfl ?_
    refine ms_sld dL_law_851 rfl (sc_in (j := 3) (by omega) (by omega)) ?_
    rw [show (nI i + 3).toNatClampNeg = i + 3 from sc_at (j := 3) (by omega)]
    refine ms_W.room (k2 := 0 + kr) (z2 := 0 + zr) ?_ (by omega) (by omega)
    refine ms_callV (As := [.int (xs (i + 1)), .int (xs (i + 2)), .int (xs (i + 3))]) dL_law_852 (c_X6_turnTo hM9 hl9 hW hH hW0 hc hne hL9 hmm hds hd (show 20 * k < 1000000 by omega) hV (xs (i + 1)) (xs (i + 2)) (xs (i + 3))) cv_L_124 hM9.1 rfl ⟨Nat.le_of_ble_eq_true rfl, Nat.le_of_ble_eq_true rfl⟩ rfl (Nat.le_of_ble_eq_true rfl) (fun v8 n8 K8 hp8 => ?_)
    obtain ⟨hn8, hF8, hv7, hq8⟩ := hp8.n hth
    subst hv7
    obtain ⟨hgl9, hmo9⟩ : gl_is (xs (i + 2)) ∧ (0 ≤ (xs (i + 3)) ∧ (xs (i + 3)) ≤ 9) := by unfold th_trn at hth; grind
    have hM8 := hq8
    have hS8 := hS7.co ho9 (fun a ha => (hF8 a (by omega) (by rintro (z9 | z9 | z9 | z9 | z9) <;> omega)).trans (hfr7 a (by omega)))
    have hro8 := (hF8 o (by omega) (by rintro (z9 | z9 | z9 | z9 | z9) <;> omega)).trans hK9o
    refine ms_run (pc' := 858) (lv' := [(6, .int (X.1 (xs (i + 1)).toNatClampNeg 0)), (5, .int 0), (0, .ref b), (1, .ref x), (2, .ref m), (3, .ref o), (4, .int (nI i))]) (st' := [.ref m]) _ (ms_deC dL_law_855 (ms_deC dL_law_857 ms_deN)) rfl rfl ?_
    refine ms_callVp (As := []) dL_law_858 (c_X6_thrown hM8) cv_L_93 hM8.1 rfl ⟨Nat.le_of_ble_eq_true rfl, Nat.le_of_ble_eq_true rfl⟩ rfl (Nat.le_of_ble_eq_true rfl) ?_
    refine ms_run (pc' := 863) (lv' := [(6, .int (X.1 (xs (i + 1)).toNatClampNeg 0)), (5, .int 0), (0, .ref b), (1, .ref x), (2, .ref m), (3, .ref o), (4, .int (nI i))]) (st' := [.int 0, .int 0]) _ (ms_deC dL_law_861 ms_deN) rfl rfl ?_
    refine ms_icmp_eq (tgt := 868) dL_law_863 (by decide) (fun _ => ?_) (fun h9 => absurd h9 (by decide))
    refine ms_run (pc' := 870) (lv' := [(6, .int (X.1 (xs (i + 1)).toNatClampNeg 0)), (5, .int 0), (0, .ref b), (1, .ref x), (2, .ref m), (3, .ref o), (4, .int (nI i))]) (st' := [.int 0]) _ (ms_deC dL_law_868 ms_deN) rfl rfl ?_
    refine ms_if_ne (tgt := 885) dL_law_870 (by decide) (fun h9 => absurd h9 (by decide)) (fun _ => ?_)
    refine ms_run (pc' := 875) (lv' := [(6, .int (X.1 (xs (i + 1)).toNatClampNeg 0)), (5, .int 0), (0, .ref b), (1, .ref x), (2, .ref m), (3, .ref o), (4, .int (nI i))]) (st' := [.int 0, .ref o]) _ (ms_deC dL_law_873 (ms_deC dL_law_874 ms_deN)) rfl rfl ?_
    refine ms_laload dL_law_875 hro8 (by unfold vp_in; decide) ?_
    rw [show f7 (0 : Int32).toNatClampNeg = ((X.1 (xs (i + 1)).toNatClampNeg 0)).toInt64 from hf7]
    refine ms_run (pc' := 879) (lv' := [(6, .int (X.1 (xs (i + 1)).toNatClampNeg 0)), (5, .int 0), (0, .ref b), (1, .ref x), (2, .ref m), (3, .ref o), (4, .int (nI i))]) (st' := [.long ((X.1 (xs (i + 1)).toNatClampNeg 0).toInt64), .long ((X.1 (xs (i + 1)).toNatClampNeg 0).toInt64)]) _ (ms_deC dL_law_876 (ms_deC dL_law_878 ms_deN)) rfl rfl ?_
    refine ms_lcmp dL_law_879 ?_
    rw [lg_same]
    refine ms_if_eq (tgt := 885) dL_law_880 (by decide) (fun _ => ?_) (fun h9 => absurd h9 (by decide))
    refine ms_goto (tgt := 1736) dL_law_885 (by decide) ?_
    refine ms_W.room (k2 := kr) (z2 := zr) ?_ (by omega) (by omega)
    refine ms_W.sub (lv2 := [(0, _), (1, _), (2, _), (3, _), (4, _)]) ?_ [2, 3, 4, 5, 6] rfl
    exact kk n8 K8 ⟨aw, am, ai, ah, W, H, cnt, _, dr, pa, (trX X (xs (i + 1)).toNatClampNeg (xs (i + 2)) (xs (i + 3))), nr, wl, mk, ds, mm, hS8, hM8, ⟨by omega, by omega, by omega, by omega, by omega⟩, hne, hge, hnoe, ⟨hW0, hW, hH0, hH⟩, hc, hL9, hmm, hds, hd, hwl, ((hV.tr hgl9 hmo9).mono (by omega)), (hhe.mono (by omega))⟩ ⟨by omega, _, hro8⟩
set_option maxHeartbeats 1000000 in
set_option maxRecDepth 20000 in
theorem cs_tick {x g q c j q2 c2 o m b L k i n : Nat} {xs : Nat → Int32} {G : ms_H} {P : ms_P} {kr zr : Nat} (ho : ox x g q c j q2 c2) (hoo : c2 + 29 ≤ o) (hS : lS x g q c j q2 c2 o m k n G) (hO : lo_at o n G) (hk : k < 512) (hi : i + 5 < L) (hL : L ≤ 3072) (kk : ∀ n1 G1, lS x g q c j q2 c2 o m (k + 1) n1 G1 → lo_at o n1 G1 → ms_W false (m_L_lw b L xs) P 1736 [(0, .ref b), (1, .ref x), (2, .ref m), (3, .ref o), (4, .int (nI i))] [] n1 G1 kr zr) : ms_W false (m_L_lw b L xs) P 888 [(0, .ref b), (1, .ref x), (2, .ref m), (3, .ref o), (4, .int (nI i))] [] n G (394 + kr) (12720 + zr) := by
  obtain ⟨aw, am, ai, ah, W, H, cnt, th, dr, pa, X, nr, wl, mk, ds, mm, hS5, hM6, hl, hne, hge, hnoe, hWH, hc, hL9, hmm, hds, hd, hwl, hV, hhe⟩ := hS
  obtain ⟨hW0, hW, hH0, hH⟩ := hWH
  obtain ⟨hon, fo, hro⟩ := hO
  have hp : 0 < W * H := Nat.mul_pos hW0 hH0
  obtain ⟨l1, l2, l3, l4, l5⟩ := id hl
  obtain ⟨g1, g2, g3, g4, g5⟩ := id hge
  obtain ⟨e1, e2, e3, e4, e5⟩ := id hnoe
  have ho9 := ho
  obtain ⟨o1, o2, o3, o4, o5, o6⟩ := ho
  have h196 := fd_196 hW hH
  refine ms_run (pc' := 894) (lv' := [(0, .ref b), (1, .ref x), (2, .ref m), (3, .ref o), (4, .int (nI i))]) (st' := [.int ((nI i) + 1), .ref b, .ref x]) _ (ms_deC dL_law_888 (ms_deC dL_law_889 (ms_deC dL_law_890 (ms_deC dL_law_892 (ms_deC dL_law_893 ms_deN))))) rfl rfl ?_
  refine ms_sld dL_law_894 rfl (sc_in (j := 1) (by omega) (by omega)) ?_
  rw [show (nI i + 1).toNatClampNeg = i + 1 from sc_at (j := 1) (by omega)]
  refine ms_run (pc' := 896) (lv' := [(0, .ref b), (1, .ref x), (2, .ref m), (3, .ref o), (4, .int (nI i))]) (st' := [.ref o, .int (xs (i + 1)), .ref x]) _ (ms_deC dL_law_895 ms_deN) rfl rfl ?_
  refine ms_W.room (k2 := 1 + (393 + kr)) (z2 := 6 + (12714 + zr)) ?_ (by omega) (by omega)
  refine ms_callSX (As := [.ref x, .int (xs (i + 1)), .ref o]) dL_law_896 (c_L_tick ho9 hS5 hoo hro hc hV.2.1 (xs (i + 1))) cs_L_125 (List.cons_ne_nil _ _) rfl ⟨Nat.le_of_ble_eq_true rfl, Nat.le_of_ble_eq_true rfl⟩ rfl (Nat.le_of_ble_eq_true rfl) (fun v9 n9 K9 hp9 => ?_) (fun E9 n9 K9 hp9 => hp9.noX)
  cases hth : (th_tick (xs (i + 1))) with
  | some E9 =>
    obtain ⟨hn9, hv9, hG9⟩ := hp9.t hth
    obtain ⟨t9, ht9, ht0⟩ : ∃ t9 : Int32, (fun _ => 1) E9 = t9 ∧ ¬ t9 = 0 := ⟨_, rfl, cd1_n E9⟩
    have hv8 : v9 = some (Value.int t9) := hv9.trans (congrArg (fun q => some (Value.int q)) ht9)
    subst hv8
    subst hG9
    have hl9 : md_lt n9 m aw am ai ah := ⟨by omega, by omega, by omega, by omega, by omega⟩
    refine ms_run (pc' := 907) (lv' := [(5, .int t9), (0, .ref b), (1, .ref x), (2, .ref m), (3, .ref o), (4, .int (nI i))]) (st' := [.int ((nI i) + 1), .ref b, .ref m]) _ (ms_deC dL_law_899 (ms_deC dL_law_901 (ms_deC dL_law_902 (ms_deC dL_law_903 (ms_deC dL_law_905 (ms_deC dL_law_906 ms_deN)))))) rfl rfl ?_
    refine ms_sld dL_law_907 rfl (sc_in (j := 1) (by omega) (by omega)) ?_
    rw [show (nI i + 1).toNatClampNeg = i + 1 from sc_at (j := 1) (by omega)]
    refine ms_W.room (k2 := 69 + kr) (z2 := 3012 + zr) ?_ (by omega) (by omega)
    refine ms_callV (As := [.int (xs (i + 1))]) dL_law_908 (c_X6_tick hM6 hl9 hW hH hW0 hc hne hL9 hmm hds hd (show 20 * k < 1000000 by omega) hV (show _ < _ by omega) (xs (i + 1))) cv_L_127 hM6.1 rfl ⟨Nat.le_of_ble_eq_true rfl, Nat.le_of_ble_eq_true rfl⟩ rfl (Nat.le_of_ble_eq_true rfl) (fun v8 n8 K8 hp8 => ?_)
    obtain ⟨hn8, hF8, hv7, hq8⟩ := hp8.t hth
    subst hv7
    have hM8 : md_at K8 m aw am ai ah W H t9 X.2.2.2 dr pa cnt wl mm X.2.1 X.1 := by rw [← ht9]; exact hq8
    have hS8 := hS5.co ho9 (fun a ha => hF8 a (by omega) (by rintro (z9 | z9 | z9 | z9 | z9) <;> omega))
    have hro8 := (hF8 o (by omega) (by rintro (z9 | z9 | z9 | z9 | z9) <;> omega)).trans hro
    refine ms_run (pc' := 914) (lv' := [(6, .int 0), (5, .int t9), (0, .ref b), (1, .ref x), (2, .ref m), (3, .ref o), (4, .int (nI i))]) (st' := [.ref m]) _ (ms_deC dL_law_911 (ms_deC dL_law_913 ms_deN)) rfl rfl ?_
    refine ms_callVp (As := []) dL_law_914 (c_X6_thrown hM8) cv_L_93 hM8.1 rfl ⟨Nat.le_of_ble_eq_true rfl, Nat.le_of_ble_eq_true rfl⟩ rfl (Nat.le_of_ble_eq_true rfl) ?_
    refine ms_run (pc' := 919) (lv' := [(6, .int 0), (5, .int t9), (0, .ref b), (1, .ref x), (2, .ref m), (3, .ref o), (4, .int (nI i))]) (st' := [.int t9, .int t9]) _ (ms_deC dL_law_917 ms_deN) rfl rfl ?_
    refine ms_icmp_eq (tgt := 924) dL_law_919 (by decide) (fun h_919 => ?_) (fun h_919 => ?_)
    · skip
      refine ms_run (pc' := 926) (lv' := [(6, .int 0), (5, .int t9), (0, .ref b), (1, .ref x), (2, .ref m), (3, .ref o), (4, .int (nI i))]) (st' := [.int t9]) _ (ms_deC dL_law_924 ms_deN) rfl rfl ?_
      refine ms_if_ne (tgt := 941) dL_law_926 (by decide) (fun h_926 => ?_) (fun h_926 => ?_)
      · skip
        refine ms_goto (tgt := 1736) dL_law_941 (by decide) ?_
        refine ms_W.room (k2 := kr) (z2 := zr) ?_ (by omega) (by omega)
        refine ms_W.sub (lv2 := [(0, _), (1, _), (2, _), (3, _), (4, _)]) ?_ [2, 3, 4, 5, 6] rfl
        exact kk n8 K8 ⟨aw, am, ai, ah, W, H, cnt, _, dr, pa, X, nr, wl, mk, ds, mm, hS8, hM8, ⟨by omega, by omega, by omega, by omega, by omega⟩, hne, hge, hnoe, ⟨hW0, hW, hH0, hH⟩, hc, hL9, hmm, hds, hd, hwl, (hV.mono (by omega)), (hhe.mono (by omega))⟩ ⟨by omega, _, hro8⟩
      · skip
        exact absurd (by first | exact h_926 | exact Decidable.not_not.mp h_926) ht0
    · skip
      exact absurd rfl h_919
  | none =>
    obtain ⟨hn9, hv9, K7, f7, hQ7, hf7, hK9⟩ := hp9.n hth
    subst hv9
    obtain ⟨hS7, hF7⟩ := hQ7
    have hK9o : K9 o = some (oR f7) := by rw [hK9]; exact ms_up_s _ _ _
    have hfr7 : ∀ a, a ≠ o → K9 a = K7 a := fun a h1 => by rw [hK9]; exact ms_up_n _ _ h1
    have hM9 : md_at K9 m aw am ai ah W H th X.2.2.2 dr pa cnt wl mm X.2.1 X.1 := hM6.co (fun a h1 => (hfr7 a (by rcases h1 with z9 | z9 | z9 | z9 | z9 <;> omega)).trans (hF7 a (by rcases h1 with z9 | z9 | z9 | z9 | z9 <;> omega)))
    have hl9 : md_lt n9 m aw am ai ah := ⟨by omega, by omega, by omega, by omega, by omega⟩
    refine ms_run (pc' := 907) (lv' := [(5, .int 0), (0, .ref b), (1, .ref x), (2, .ref m), (3, .ref o), (4, .int (nI i))]) (st' := [.int ((nI i) + 1), .ref b, .ref m]) _ (ms_deC dL_law_899 (ms_deC dL_law_901 (ms_deC dL_law_902 (ms_deC dL_law_903 (ms_deC dL_law_905 (ms_deC dL_law_906 ms_deN)))))) rfl rfl ?_
    refine ms_sld dL_law_907 rfl (sc_in (j := 1) (by omega) (by omega)) ?_
    rw [show (nI i + 1).toNatClampNeg = i + 1 from sc_at (j := 1) (by omega)]
    refine ms_W.room (k2 := 69 + kr) (z2 := 3012 + zr) ?_ (by omega) (by omega)
    refine ms_callV (As := [.int (xs (i + 1))]) dL_law_908 (c_X6_tick hM9 hl9 hW hH hW0 hc hne hL9 hmm hds hd (show 20 * k < 1000000 by omega) hV (show _ < _ by omega) (xs (i + 1))) cv_L_127 hM9.1 rfl ⟨Nat.le_of_ble_eq_true rfl, Nat.le_of_ble_eq_true rfl⟩ rfl (Nat.le_of_ble_eq_true rfl) (fun v8 n8 K8 hp8 => ?_)
    obtain ⟨hn8, hF8, hv7, hq8⟩ := hp8.n hth
    subst hv7
    have hT9 : (xs (i + 1)).toNatClampNeg ≤ 20 := by
      have h7 : ¬ ((xs (i + 1)) < 1 ∨ 20 < (xs (i + 1))) := fun z9 => by unfold th_tick at hth; rw [if_pos z9] at hth; cases hth
      obtain ⟨T, hT, hTe⟩ := nI_of2 (M := 20) (n := 20) rfl (fun z9 => h7 (Or.inl (Int32.lt_of_lt_of_le z9 (by decide)))) (Int32.not_lt.mp (fun z9 => h7 (Or.inr z9)))
      rw [hTe, nI_clamp (by omega)]; exact hT
    have hM8 := hq8
    have hS8 := hS7.co ho9 (fun a ha => (hF8 a (by omega) (by rintro (z9 | z9 | z9 | z9 | z9) <;> omega)).trans (hfr7 a (by omega)))
    have hro8 := (hF8 o (by omega) (by rintro (z9 | z9 | z9 | z9 | z9) <;> omega)).trans hK9o
    refine ms_run (pc' := 914) (lv' := [(6, .int (nI (ct (pOut (stXn (nI (W * H)) nr mk ds cnt dr X (xs (i + 1)).toNatClampNeg).1) cnt) - nI (ct (pOut X.1) cnt))), (5, .int 0), (0, .ref b), (1, .ref x), (2, .ref m), (3, .ref o), (4, .int (nI i))]) (st' := [.ref m]) _ (ms_deC dL_law_911 (ms_deC dL_law_913 ms_deN)) rfl rfl ?_
    refine ms_callVp (As := []) dL_law_914 (c_X6_thrown hM8) cv_L_93 hM8.1 rfl ⟨Nat.le_of_ble_eq_true rfl, Nat.le_of_ble_eq_true rfl⟩ rfl (Nat.le_of_ble_eq_true rfl) ?_
    refine ms_run (pc' := 919) (lv' := [(6, .int (nI (ct (pOut (stXn (nI (W * H)) nr mk ds cnt dr X (xs (i + 1)).toNatClampNeg).1) cnt) - nI (ct (pOut X.1) cnt))), (5, .int 0), (0, .ref b), (1, .ref x), (2, .ref m), (3, .ref o), (4, .int (nI i))]) (st' := [.int 0, .int 0]) _ (ms_deC dL_law_917 ms_deN) rfl rfl ?_
    refine ms_icmp_eq (tgt := 924) dL_law_919 (by decide) (fun _ => ?_) (fun h9 => absurd h9 (by decide))
    refine ms_run (pc' := 926) (lv' := [(6, .int (nI (ct (pOut (stXn (nI (W * H)) nr mk ds cnt dr X (xs (i + 1)).toNatClampNeg).1) cnt) - nI (ct (pOut X.1) cnt))), (5, .int 0), (0, .ref b), (1, .ref x), (2, .ref m), (3, .ref o), (4, .int (nI i))]) (st' := [.int 0]) _ (ms_deC dL_law_924 ms_deN) rfl rfl ?_
    refine ms_if_ne (tgt := 941) dL_law_926 (by decide) (fun h9 => absurd h9 (by decide)) (fun _ => ?_)
    refine ms_run (pc' := 931) (lv' := [(6, .int (nI (ct (pOut (stXn (nI (W * H)) nr mk ds cnt dr X (xs (i + 1)).toNatClampNeg).1) cnt) - nI (ct (pOut X.1) cnt))), (5, .int 0), (0, .ref b), (1, .ref x), (2, .ref m), (3, .ref o), (4, .int (nI i))]) (st' := [.int 0, .ref o]) _ (ms_deC dL_law_929 (ms_deC dL_law_930 ms_deN)) rfl rfl ?_
    refine ms_laload dL_law_931 hro8 (by unfold vp_in; decide) ?_
    rw [show f7 (0 : Int32).toNatClampNeg = ((nI (ct (pOut (stXn (nI (W * H)) nr mk ds cnt dr X (xs (i + 1)).toNatClampNeg).1) cnt) - nI (ct (pOut X.1) cnt))).toInt64 from hf7]
    refine ms_run (pc' := 935) (lv' := [(6, .int (nI (ct (pOut (stXn (nI (W * H)) nr mk ds cnt dr X (xs (i + 1)).toNatClampNeg).1) cnt) - nI (ct (pOut X.1) cnt))), (5, .int 0), (0, .ref b), (1, .ref x), (2, .ref m), (3, .ref o), (4, .int (nI i))]) (st' := [.long ((nI (ct (pOut (stXn (nI (W * H)) nr mk ds cnt dr X (xs (i + 1)).toNatClampNeg).1) cnt) - nI (ct (pOut X.1) cnt)).toInt64), .long ((nI (ct (pOut (stXn (nI (W * H)) nr mk ds cnt dr X (xs (i + 1)).toNatClampNeg).1) cnt) - nI (ct (pOut X.1) cnt)).toInt64)]) _ (ms_deC dL_law_932 (ms_deC dL_law_934 ms_deN)) rfl rfl ?_
    refine ms_lcmp dL_law_935 ?_
    rw [lg_same]
    refine ms_if_eq (tgt := 941) dL_law_936 (by decide) (fun _ => ?_) (fun h9 => absurd h9 (by decide))
    refine ms_goto (tgt := 1736) dL_law_941 (by decide) ?_
    refine ms_W.room (k2 := kr) (z2 := zr) ?_ (by omega) (by omega)
    refine ms_W.sub (lv2 := [(0, _), (1, _), (2, _), (3, _), (4, _)]) ?_ [2, 3, 4, 5, 6] rfl
    exact kk n8 K8 ⟨aw, am, ai, ah, W, H, cnt, _, dr, pa, (stXn (nI (W * H)) nr mk ds cnt dr X (xs (i + 1)).toNatClampNeg), nr, wl, mk, ds, mm, hS8, hM8, ⟨by omega, by omega, by omega, by omega, by omega⟩, hne, hge, hnoe, ⟨hW0, hW, hH0, hH⟩, hc, hL9, hmm, hds, hd, hwl, ((wdV.n hL9 hW hH hc hV _ (by omega)).mono (by omega)), ((heB.n hc hhe _).mono (by omega))⟩ ⟨by omega, _, hro8⟩
set_option maxHeartbeats 1000000 in
set_option maxRecDepth 20000 in
theorem cs_clock {x g q c j q2 c2 o m b L k i n : Nat} {xs : Nat → Int32} {G : ms_H} {P : ms_P} {kr zr : Nat} (ho : ox x g q c j q2 c2) (hoo : c2 + 29 ≤ o) (hS : lS x g q c j q2 c2 o m k n G) (hO : lo_at o n G) (hk : k < 512) (hi : i + 5 < L) (hL : L ≤ 3072) (kk : ∀ n1 G1, lS x g q c j q2 c2 o m (k + 1) n1 G1 → lo_at o n1 G1 → ms_W false (m_L_lw b L xs) P 1736 [(0, .ref b), (1, .ref x), (2, .ref m), (3, .ref o), (4, .int (nI i))] [] n1 G1 kr zr) : ms_W false (m_L_lw b L xs) P 944 [(0, .ref b), (1, .ref x), (2, .ref m), (3, .ref o), (4, .int (nI i))] [] n G (394 + kr) (12720 + zr) := by
  obtain ⟨aw, am, ai, ah, W, H, cnt, th, dr, pa, X, nr, wl, mk, ds, mm, hS5, hM6, hl, hne, hge, hnoe, hWH, hc, hL9, hmm, hds, hd, hwl, hV, hhe⟩ := hS
  obtain ⟨hW0, hW, hH0, hH⟩ := hWH
  obtain ⟨hon, fo, hro⟩ := hO
  have hp : 0 < W * H := Nat.mul_pos hW0 hH0
  obtain ⟨l1, l2, l3, l4, l5⟩ := id hl
  obtain ⟨g1, g2, g3, g4, g5⟩ := id hge
  obtain ⟨e1, e2, e3, e4, e5⟩ := id hnoe
  have ho9 := ho
  obtain ⟨o1, o2, o3, o4, o5, o6⟩ := ho
  have h196 := fd_196 hW hH
  refine ms_run (pc' := 945) (lv' := [(0, .ref b), (1, .ref x), (2, .ref m), (3, .ref o), (4, .int (nI i))]) (st' := [.ref x]) _ (ms_deC dL_law_944 ms_deN) rfl rfl ?_
  refine ms_callV0 (As := []) dL_law_945 (c_X5_clock ho9 hS5) cv_L_128 hS5.1 rfl ⟨Nat.le_of_ble_eq_true rfl, Nat.le_of_ble_eq_true rfl⟩ rfl (Nat.le_of_ble_eq_true rfl) (fun v9 n9 K9 hp9 => ?_)
  obtain ⟨hv9, hn9, hS7, hF7⟩ := hp9
  cases hv9
  have hK9o : K9 o = some (oR fo) := (hF7 o (by omega)).trans hro
  have hM9 : md_at K9 m aw am ai ah W H th X.2.2.2 dr pa cnt wl mm X.2.1 X.1 := hM6.co (fun a h1 => hF7 a (by rcases h1 with z9 | z9 | z9 | z9 | z9 <;> omega))
  have hl9 : md_lt n9 m aw am ai ah := ⟨by omega, by omega, by omega, by omega, by omega⟩
  refine ms_run (pc' := 949) (lv' := [(0, .ref b), (1, .ref x), (2, .ref m), (3, .ref o), (4, .int (nI i))]) (st' := [.ref m, .int X.2.2.2]) _ (ms_deC dL_law_948 ms_deN) rfl rfl ?_
  refine ms_W.room (k2 := 0 + kr) (z2 := 0 + zr) ?_ (by omega) (by omega)
  refine ms_callV (As := []) dL_law_949 (c_X6_clock hM9 hl9 hW hH hW0 hc hne hL9 hmm hds hd (show 20 * k < 1000000 by omega) hV ) cv_L_131 hM9.1 rfl ⟨Nat.le_of_ble_eq_true rfl, Nat.le_of_ble_eq_true rfl⟩ rfl (Nat.le_of_ble_eq_true rfl) (fun v8 n8 K8 hp8 => ?_)
  obtain ⟨hn8, hF8, hv7, hM8⟩ := hp8.n rfl
  subst hv7
  have hS8 := hS7.co ho9 (fun a ha => hF8 a (by omega) (by rintro (z9 | z9 | z9 | z9 | z9) <;> omega))
  have hro8 := (hF8 o (by omega) (by rintro (z9 | z9 | z9 | z9 | z9) <;> omega)).trans hK9o
  refine ms_icmp_eq (tgt := 1736) dL_law_952 (by decide) (fun h_952 => ?_) (fun h_952 => ?_)
  · skip
    refine ms_W.room (k2 := kr) (z2 := zr) ?_ (by omega) (by omega)
    refine ms_W.sub (lv2 := [(0, _), (1, _), (2, _), (3, _), (4, _)]) ?_ [0, 1, 2, 3, 4] rfl
    exact kk n8 K8 ⟨aw, am, ai, ah, W, H, cnt, _, dr, pa, X, nr, wl, mk, ds, mm, hS8, hM8, ⟨by omega, by omega, by omega, by omega, by omega⟩, hne, hge, hnoe, ⟨hW0, hW, hH0, hH⟩, hc, hL9, hmm, hds, hd, hwl, (hV.mono (by omega)), (hhe.mono (by omega))⟩ ⟨by omega, _, hro8⟩
  · skip
    exact absurd rfl h_952
set_option maxHeartbeats 1000000 in
set_option maxRecDepth 20000 in
theorem cs_many {x g q c j q2 c2 o m b L k i n : Nat} {xs : Nat → Int32} {G : ms_H} {P : ms_P} {kr zr : Nat} (ho : ox x g q c j q2 c2) (hoo : c2 + 29 ≤ o) (hS : lS x g q c j q2 c2 o m k n G) (hO : lo_at o n G) (hk : k < 512) (hi : i + 5 < L) (hL : L ≤ 3072) (kk : ∀ n1 G1, lS x g q c j q2 c2 o m (k + 1) n1 G1 → lo_at o n1 G1 → ms_W false (m_L_lw b L xs) P 1736 [(0, .ref b), (1, .ref x), (2, .ref m), (3, .ref o), (4, .int (nI i))] [] n1 G1 kr zr) : ms_W false (m_L_lw b L xs) P 957 [(0, .ref b), (1, .ref x), (2, .ref m), (3, .ref o), (4, .int (nI i))] [] n G (394 + kr) (12720 + zr) := by
  obtain ⟨aw, am, ai, ah, W, H, cnt, th, dr, pa, X, nr, wl, mk, ds, mm, hS5, hM6, hl, hne, hge, hnoe, hWH, hc, hL9, hmm, hds, hd, hwl, hV, hhe⟩ := hS
  obtain ⟨hW0, hW, hH0, hH⟩ := hWH
  obtain ⟨hon, fo, hro⟩ := hO
  have hp : 0 < W * H := Nat.mul_pos hW0 hH0
  obtain ⟨l1, l2, l3, l4, l5⟩ := id hl
  obtain ⟨g1, g2, g3, g4, g5⟩ := id hge
  obtain ⟨e1, e2, e3, e4, e5⟩ := id hnoe
  have ho9 := ho
  obtain ⟨o1, o2, o3, o4, o5, o6⟩ := ho
  have h196 := fd_196 hW hH
  refine ms_run (pc' := 963) (lv' := [(0, .ref b), (1, .ref x), (2, .ref m), (3, .ref o), (4, .int (nI i))]) (st' := [.int ((nI i) + 1), .ref b, .ref x]) _ (ms_deC dL_law_957 (ms_deC dL_law_958 (ms_deC dL_law_959 (ms_deC dL_law_961 (ms_deC dL_law_962 ms_deN))))) rfl rfl ?_
  refine ms_sld dL_law_963 rfl (sc_in (j := 1) (by omega) (by omega)) ?_
  rw [show (nI i + 1).toNatClampNeg = i + 1 from sc_at (j := 1) (by omega)]
  refine ms_run (pc' := 965) (lv' := [(0, .ref b), (1, .ref x), (2, .ref m), (3, .ref o), (4, .int (nI i))]) (st' := [.ref o, .int (xs (i + 1)), .ref x]) _ (ms_deC dL_law_964 ms_deN) rfl rfl ?_
  refine ms_W.room (k2 := 1 + (393 + kr)) (z2 := 6 + (12714 + zr)) ?_ (by omega) (by omega)
  refine ms_callSX (As := [.ref x, .int (xs (i + 1)), .ref o]) dL_law_965 (c_L_many ho9 hS5 hoo hro hc hW hH hp (xs (i + 1))) cs_L_132 (List.cons_ne_nil _ _) rfl ⟨Nat.le_of_ble_eq_true rfl, Nat.le_of_ble_eq_true rfl⟩ rfl (Nat.le_of_ble_eq_true rfl) (fun v9 n9 K9 hp9 => ?_) (fun E9 n9 K9 hp9 => hp9.noX)
  cases hth : (th_what (xs (i + 1))) with
  | some E9 =>
    obtain ⟨hn9, hv9, hG9⟩ := hp9.t hth
    obtain ⟨t9, ht9, ht0⟩ : ∃ t9 : Int32, (fun _ => 1) E9 = t9 ∧ ¬ t9 = 0 := ⟨_, rfl, cd1_n E9⟩
    have hv8 : v9 = some (Value.int t9) := hv9.trans (congrArg (fun q => some (Value.int q)) ht9)
    subst hv8
    subst hG9
    have hl9 : md_lt n9 m aw am ai ah := ⟨by omega, by omega, by omega, by omega, by omega⟩
    refine ms_run (pc' := 976) (lv' := [(5, .int t9), (0, .ref b), (1, .ref x), (2, .ref m), (3, .ref o), (4, .int (nI i))]) (st' := [.int ((nI i) + 1), .ref b, .ref m]) _ (ms_deC dL_law_968 (ms_deC dL_law_970 (ms_deC dL_law_971 (ms_deC dL_law_972 (ms_deC dL_law_974 (ms_deC dL_law_975 ms_deN)))))) rfl rfl ?_
    refine ms_sld dL_law_976 rfl (sc_in (j := 1) (by omega) (by omega)) ?_
    rw [show (nI i + 1).toNatClampNeg = i + 1 from sc_at (j := 1) (by omega)]
    refine ms_W.room (k2 := 10 + kr) (z2 := 1596 + zr) ?_ (by omega) (by omega)
    refine ms_callV (As := [.int (xs (i + 1))]) dL_law_977 (c_X6_many hM6 hl9 hW hH hW0 hc hne hL9 hmm hds hd (show 20 * k < 1000000 by omega) hV (show _ < _ by omega) hhe hp (xs (i + 1))) cv_L_134 hM6.1 rfl ⟨Nat.le_of_ble_eq_true rfl, Nat.le_of_ble_eq_true rfl⟩ rfl (Nat.le_of_ble_eq_true rfl) (fun v8 n8 K8 hp8 => ?_)
    obtain ⟨hn8, hF8, hv7, hq8⟩ := hp8.t hth
    subst hv7
    have hM8 : md_at K8 m aw am ai ah W H t9 X.2.2.2 dr pa cnt wl mm X.2.1 X.1 := by rw [← ht9]; exact hq8
    have hS8 := hS5.co ho9 (fun a ha => hF8 a (by omega) (by rintro (z9 | z9 | z9 | z9 | z9) <;> omega))
    have hro8 := (hF8 o (by omega) (by rintro (z9 | z9 | z9 | z9 | z9) <;> omega)).trans hro
    refine ms_run (pc' := 983) (lv' := [(6, .int 0), (5, .int t9), (0, .ref b), (1, .ref x), (2, .ref m), (3, .ref o), (4, .int (nI i))]) (st' := [.ref m]) _ (ms_deC dL_law_980 (ms_deC dL_law_982 ms_deN)) rfl rfl ?_
    refine ms_callVp (As := []) dL_law_983 (c_X6_thrown hM8) cv_L_93 hM8.1 rfl ⟨Nat.le_of_ble_eq_true rfl, Nat.le_of_ble_eq_true rfl⟩ rfl (Nat.le_of_ble_eq_true rfl) ?_
    refine ms_run (pc' := 988) (lv' := [(6, .int 0), (5, .int t9), (0, .ref b), (1, .ref x), (2, .ref m), (3, .ref o), (4, .int (nI i))]) (st' := [.int t9, .int t9]) _ (ms_deC dL_law_986 ms_deN) rfl rfl ?_
    refine ms_icmp_eq (tgt := 993) dL_law_988 (by decide) (fun h_988 => ?_) (fun h_988 => ?_)
    · skip
      refine ms_run (pc' := 995) (lv' := [(6, .int 0), (5, .int t9), (0, .ref b), (1, .ref x), (2, .ref m), (3, .ref o), (4, .int (nI i))]) (st' := [.int t9]) _ (ms_deC dL_law_993 ms_deN) rfl rfl ?_
      refine ms_if_ne (tgt := 1010) dL_law_995 (by decide) (fun h_995 => ?_) (fun h_995 => ?_)
      · skip
        refine ms_goto (tgt := 1736) dL_law_1010 (by decide) ?_
        refine ms_W.room (k2 := kr) (z2 := zr) ?_ (by omega) (by omega)
        refine ms_W.sub (lv2 := [(0, _), (1, _), (2, _), (3, _), (4, _)]) ?_ [2, 3, 4, 5, 6] rfl
        exact kk n8 K8 ⟨aw, am, ai, ah, W, H, cnt, _, dr, pa, X, nr, wl, mk, ds, mm, hS8, hM8, ⟨by omega, by omega, by omega, by omega, by omega⟩, hne, hge, hnoe, ⟨hW0, hW, hH0, hH⟩, hc, hL9, hmm, hds, hd, hwl, (hV.mono (by omega)), (hhe.mono (by omega))⟩ ⟨by omega, _, hro8⟩
      · skip
        exact absurd (by first | exact h_995 | exact Decidable.not_not.mp h_995) ht0
    · skip
      exact absurd rfl h_988
  | none =>
    obtain ⟨hn9, hv9, K7, f7, hQ7, hf7, hK9⟩ := hp9.n hth
    subst hv9
    obtain ⟨hS7, hF7⟩ := hQ7
    have hK9o : K9 o = some (oR f7) := by rw [hK9]; exact ms_up_s _ _ _
    have hfr7 : ∀ a, a ≠ o → K9 a = K7 a := fun a h1 => by rw [hK9]; exact ms_up_n _ _ h1
    have hM9 : md_at K9 m aw am ai ah W H th X.2.2.2 dr pa cnt wl mm X.2.1 X.1 := hM6.co (fun a h1 => (hfr7 a (by rcases h1 with z9 | z9 | z9 | z9 | z9 <;> omega)).trans (hF7 a (by rcases h1 with z9 | z9 | z9 | z9 | z9 <;> omega)))
    have hl9 : md_lt n9 m aw am ai ah := ⟨by omega, by omega, by omega, by omega, by omega⟩
    refine ms_run (pc' := 976) (lv' := [(5, .int 0), (0, .ref b), (1, .ref x), (2, .ref m), (3, .ref o), (4, .int (nI i))]) (st' := [.int ((nI i) + 1), .ref b, .ref m]) _ (ms_deC dL_law_968 (ms_deC dL_law_970 (ms_deC dL_law_971 (ms_deC dL_law_972 (ms_deC dL_law_974 (ms_deC dL_law_975 ms_deN)))))) rfl rfl ?_
    refine ms_sld dL_law_976 rfl (sc_in (j := 1) (by omega) (by omega)) ?_
    rw [show (nI i + 1).toNatClampNeg = i + 1 from sc_at (j := 1) (by omega)]
    refine ms_W.room (k2 := 10 + kr) (z2 := 1596 + zr) ?_ (by omega) (by omega)
    refine ms_callV (As := [.int (xs (i + 1))]) dL_law_977 (c_X6_many hM9 hl9 hW hH hW0 hc hne hL9 hmm hds hd (show 20 * k < 1000000 by omega) hV (show _ < _ by omega) hhe hp (xs (i + 1))) cv_L_134 hM9.1 rfl ⟨Nat.le_of_ble_eq_true rfl, Nat.le_of_ble_eq_true rfl⟩ rfl (Nat.le_of_ble_eq_true rfl) (fun v8 n8 K8 hp8 => ?_)
    obtain ⟨hn8, hF8, hv7, hq8⟩ := hp8.n hth
    subst hv7
    have hM8 := hq8
    have hS8 := hS7.co ho9 (fun a ha => (hF8 a (by omega) (by rintro (z9 | z9 | z9 | z9 | z9) <;> omega)).trans (hfr7 a (by omega)))
    have hro8 := (hF8 o (by omega) (by rintro (z9 | z9 | z9 | z9 | z9) <;> omega)).trans hK9o
    refine ms_run (pc' := 983) (lv' := [(6, .int (cfX (W * H) ds cnt X (jxX pa cnt nr X) (xs (i + 1)).toNatClampNeg)), (5, .int 0), (0, .ref b), (1, .ref x), (2, .ref m), (3, .ref o), (4, .int (nI i))]) (st' := [.ref m]) _ (ms_deC dL_law_980 (ms_deC dL_law_982 ms_deN)) rfl rfl ?_
    refine ms_callVp (As := []) dL_law_983 (c_X6_thrown hM8) cv_L_93 hM8.1 rfl ⟨Nat.le_of_ble_eq_true rfl, Nat.le_of_ble_eq_true rfl⟩ rfl (Nat.le_of_ble_eq_true rfl) ?_
    refine ms_run (pc' := 988) (lv' := [(6, .int (cfX (W * H) ds cnt X (jxX pa cnt nr X) (xs (i + 1)).toNatClampNeg)), (5, .int 0), (0, .ref b), (1, .ref x), (2, .ref m), (3, .ref o), (4, .int (nI i))]) (st' := [.int 0, .int 0]) _ (ms_deC dL_law_986 ms_deN) rfl rfl ?_
    refine ms_icmp_eq (tgt := 993) dL_law_988 (by decide) (fun _ => ?_) (fun h9 => absurd h9 (by decide))
    refine ms_run (pc' := 995) (lv' := [(6, .int (cfX (W * H) ds cnt X (jxX pa cnt nr X) (xs (i + 1)).toNatClampNeg)), (5, .int 0), (0, .ref b), (1, .ref x), (2, .ref m), (3, .ref o), (4, .int (nI i))]) (st' := [.int 0]) _ (ms_deC dL_law_993 ms_deN) rfl rfl ?_
    refine ms_if_ne (tgt := 1010) dL_law_995 (by decide) (fun h9 => absurd h9 (by decide)) (fun _ => ?_)
    refine ms_run (pc' := 1000) (lv' := [(6, .int (cfX (W * H) ds cnt X (jxX pa cnt nr X) (xs (i + 1)).toNatClampNeg)), (5, .int 0), (0, .ref b), (1, .ref x), (2, .ref m), (3, .ref o), (4, .int (nI i))]) (st' := [.int 0, .ref o]) _ (ms_deC dL_law_998 (ms_deC dL_law_999 ms_deN)) rfl rfl ?_
    refine ms_laload dL_law_1000 hro8 (by unfold vp_in; decide) ?_
    rw [show f7 (0 : Int32).toNatClampNeg = ((cfX (W * H) ds cnt X (jxX pa cnt nr X) (xs (i + 1)).toNatClampNeg)).toInt64 from hf7]
    refine ms_run (pc' := 1004) (lv' := [(6, .int (cfX (W * H) ds cnt X (jxX pa cnt nr X) (xs (i + 1)).toNatClampNeg)), (5, .int 0), (0, .ref b), (1, .ref x), (2, .ref m), (3, .ref o), (4, .int (nI i))]) (st' := [.long ((cfX (W * H) ds cnt X (jxX pa cnt nr X) (xs (i + 1)).toNatClampNeg).toInt64), .long ((cfX (W * H) ds cnt X (jxX pa cnt nr X) (xs (i + 1)).toNatClampNeg).toInt64)]) _ (ms_deC dL_law_1001 (ms_deC dL_law_1003 ms_deN)) rfl rfl ?_
    refine ms_lcmp dL_law_1004 ?_
    rw [lg_same]
    refine ms_if_eq (tgt := 1010) dL_law_1005 (by decide) (fun _ => ?_) (fun h9 => absurd h9 (by decide))
    refine ms_goto (tgt := 1736) dL_law_1010 (by decide) ?_
    refine ms_W.room (k2 := kr) (z2 := zr) ?_ (by omega) (by omega)
    refine ms_W.sub (lv2 := [(0, _), (1, _), (2, _), (3, _), (4, _)]) ?_ [2, 3, 4, 5, 6] rfl
    exact kk n8 K8 ⟨aw, am, ai, ah, W, H, cnt, _, dr, pa, X, nr, wl, mk, ds, mm, hS8, hM8, ⟨by omega, by omega, by omega, by omega, by omega⟩, hne, hge, hnoe, ⟨hW0, hW, hH0, hH⟩, hc, hL9, hmm, hds, hd, hwl, (hV.mono (by omega)), (hhe.mono (by omega))⟩ ⟨by omega, _, hro8⟩
set_option maxHeartbeats 1000000 in
set_option maxRecDepth 20000 in
theorem cs_ofWalker {x g q c j q2 c2 o m b L k i n : Nat} {xs : Nat → Int32} {G : ms_H} {P : ms_P} {kr zr : Nat} (ho : ox x g q c j q2 c2) (hoo : c2 + 29 ≤ o) (hS : lS x g q c j q2 c2 o m k n G) (hO : lo_at o n G) (hk : k < 512) (hi : i + 5 < L) (hL : L ≤ 3072) (kk : ∀ n1 G1, lS x g q c j q2 c2 o m (k + 1) n1 G1 → lo_at o n1 G1 → ms_W false (m_L_lw b L xs) P 1736 [(0, .ref b), (1, .ref x), (2, .ref m), (3, .ref o), (4, .int (nI i))] [] n1 G1 kr zr) : ms_W false (m_L_lw b L xs) P 1013 [(0, .ref b), (1, .ref x), (2, .ref m), (3, .ref o), (4, .int (nI i))] [] n G (394 + kr) (12720 + zr) := by
  obtain ⟨aw, am, ai, ah, W, H, cnt, th, dr, pa, X, nr, wl, mk, ds, mm, hS5, hM6, hl, hne, hge, hnoe, hWH, hc, hL9, hmm, hds, hd, hwl, hV, hhe⟩ := hS
  obtain ⟨hW0, hW, hH0, hH⟩ := hWH
  obtain ⟨hon, fo, hro⟩ := hO
  have hp : 0 < W * H := Nat.mul_pos hW0 hH0
  obtain ⟨l1, l2, l3, l4, l5⟩ := id hl
  obtain ⟨g1, g2, g3, g4, g5⟩ := id hge
  obtain ⟨e1, e2, e3, e4, e5⟩ := id hnoe
  have ho9 := ho
  obtain ⟨o1, o2, o3, o4, o5, o6⟩ := ho
  have h196 := fd_196 hW hH
  refine ms_run (pc' := 1019) (lv' := [(0, .ref b), (1, .ref x), (2, .ref m), (3, .ref o), (4, .int (nI i))]) (st' := [.int ((nI i) + 1), .ref b, .ref x]) _ (ms_deC dL_law_1013 (ms_deC dL_law_1014 (ms_deC dL_law_1015 (ms_deC dL_law_1017 (ms_deC dL_law_1018 ms_deN))))) rfl rfl ?_
  refine ms_sld dL_law_1019 rfl (sc_in (j := 1) (by omega) (by omega)) ?_
  rw [show (nI i + 1).toNatClampNeg = i + 1 from sc_at (j := 1) (by omega)]
  refine ms_run (pc' := 1025) (lv' := [(0, .ref b), (1, .ref x), (2, .ref m), (3, .ref o), (4, .int (nI i))]) (st' := [.int ((nI i) + 2), .ref b, .int (xs (i + 1)), .ref x]) _ (ms_deC dL_law_1020 (ms_deC dL_law_1021 (ms_deC dL_law_1023 (ms_deC dL_law_1024 ms_deN)))) rfl rfl ?_
  refine ms_sld dL_law_1025 rfl (sc_in (j := 2) (by omega) (by omega)) ?_
  rw [show (nI i + 2).toNatClampNeg = i + 2 from sc_at (j := 2) (by omega)]
  refine ms_run (pc' := 1027) (lv' := [(0, .ref b), (1, .ref x), (2, .ref m), (3, .ref o), (4, .int (nI i))]) (st' := [.ref o, .int (xs (i + 2)), .int (xs (i + 1)), .ref x]) _ (ms_deC dL_law_1026 ms_deN) rfl rfl ?_
  refine ms_W.room (k2 := 1 + (393 + kr)) (z2 := 6 + (12714 + zr)) ?_ (by omega) (by omega)
  refine ms_callSX (As := [.ref x, .int (xs (i + 1)), .int (xs (i + 2)), .ref o]) dL_law_1027 (c_L_ofWalker ho9 hS5 hoo hro hc (xs (i + 1)) (xs (i + 2))) cs_L_135 (List.cons_ne_nil _ _) rfl ⟨Nat.le_of_ble_eq_true rfl, Nat.le_of_ble_eq_true rfl⟩ rfl (Nat.le_of_ble_eq_true rfl) (fun v9 n9 K9 hp9 => ?_) (fun E9 n9 K9 hp9 => hp9.noX)
  cases hth : (th_ofw cnt (xs (i + 1)) ((xs (i + 2)) < 0 ∨ 8 < (xs (i + 2)))) with
  | some E9 =>
    obtain ⟨hn9, hv9, hG9⟩ := hp9.t hth
    obtain ⟨t9, ht9, ht0⟩ : ∃ t9 : Int32, (fun e => if e = IOB then 1 else 2) E9 = t9 ∧ ¬ t9 = 0 := ⟨_, rfl, cdb_n E9⟩
    have hv8 : v9 = some (Value.int t9) := hv9.trans (congrArg (fun q => some (Value.int q)) ht9)
    subst hv8
    subst hG9
    have hl9 : md_lt n9 m aw am ai ah := ⟨by omega, by omega, by omega, by omega, by omega⟩
    refine ms_run (pc' := 1038) (lv' := [(5, .int t9), (0, .ref b), (1, .ref x), (2, .ref m), (3, .ref o), (4, .int (nI i))]) (st' := [.int ((nI i) + 1), .ref b, .ref m]) _ (ms_deC dL_law_1030 (ms_deC dL_law_1032 (ms_deC dL_law_1033 (ms_deC dL_law_1034 (ms_deC dL_law_1036 (ms_deC dL_law_1037 ms_deN)))))) rfl rfl ?_
    refine ms_sld dL_law_1038 rfl (sc_in (j := 1) (by omega) (by omega)) ?_
    rw [show (nI i + 1).toNatClampNeg = i + 1 from sc_at (j := 1) (by omega)]
    refine ms_run (pc' := 1044) (lv' := [(5, .int t9), (0, .ref b), (1, .ref x), (2, .ref m), (3, .ref o), (4, .int (nI i))]) (st' := [.int ((nI i) + 2), .ref b, .int (xs (i + 1)), .ref m]) _ (ms_deC dL_law_1039 (ms_deC dL_law_1040 (ms_deC dL_law_1042 (ms_deC dL_law_1043 ms_deN)))) rfl rfl ?_
    refine ms_sld dL_law_1044 rfl (sc_in (j := 2) (by omega) (by omega)) ?_
    rw [show (nI i + 2).toNatClampNeg = i + 2 from sc_at (j := 2) (by omega)]
    refine ms_W.room (k2 := 9 + kr) (z2 := 1572 + zr) ?_ (by omega) (by omega)
    refine ms_callV (As := [.int (xs (i + 1)), .int (xs (i + 2))]) dL_law_1045 (c_X6_ofWalker hM6 hl9 hW hH hW0 hc hne hL9 hmm hds hd (show 20 * k < 1000000 by omega) hV (xs (i + 1)) (xs (i + 2))) cv_L_137 hM6.1 rfl ⟨Nat.le_of_ble_eq_true rfl, Nat.le_of_ble_eq_true rfl⟩ rfl (Nat.le_of_ble_eq_true rfl) (fun v8 n8 K8 hp8 => ?_)
    obtain ⟨hn8, hF8, hv7, hq8⟩ := hp8.t hth
    subst hv7
    have hM8 : md_at K8 m aw am ai ah W H t9 X.2.2.2 dr pa cnt wl mm X.2.1 X.1 := by rw [← ht9]; exact hq8
    have hS8 := hS5.co ho9 (fun a ha => hF8 a (by omega) (by rintro (z9 | z9 | z9 | z9 | z9) <;> omega))
    have hro8 := (hF8 o (by omega) (by rintro (z9 | z9 | z9 | z9 | z9) <;> omega)).trans hro
    refine ms_run (pc' := 1051) (lv' := [(6, .int 0), (5, .int t9), (0, .ref b), (1, .ref x), (2, .ref m), (3, .ref o), (4, .int (nI i))]) (st' := [.ref m]) _ (ms_deC dL_law_1048 (ms_deC dL_law_1050 ms_deN)) rfl rfl ?_
    refine ms_callVp (As := []) dL_law_1051 (c_X6_thrown hM8) cv_L_93 hM8.1 rfl ⟨Nat.le_of_ble_eq_true rfl, Nat.le_of_ble_eq_true rfl⟩ rfl (Nat.le_of_ble_eq_true rfl) ?_
    refine ms_run (pc' := 1056) (lv' := [(6, .int 0), (5, .int t9), (0, .ref b), (1, .ref x), (2, .ref m), (3, .ref o), (4, .int (nI i))]) (st' := [.int t9, .int t9]) _ (ms_deC dL_law_1054 ms_deN) rfl rfl ?_
    refine ms_icmp_eq (tgt := 1061) dL_law_1056 (by decide) (fun h_1056 => ?_) (fun h_1056 => ?_)
    · skip
      refine ms_run (pc' := 1063) (lv' := [(6, .int 0), (5, .int t9), (0, .ref b), (1, .ref x), (2, .ref m), (3, .ref o), (4, .int (nI i))]) (st' := [.int t9]) _ (ms_deC dL_law_1061 ms_deN) rfl rfl ?_
      refine ms_if_ne (tgt := 1078) dL_law_1063 (by decide) (fun h_1063 => ?_) (fun h_1063 => ?_)
      · skip
        refine ms_goto (tgt := 1736) dL_law_1078 (by decide) ?_
        refine ms_W.room (k2 := kr) (z2 := zr) ?_ (by omega) (by omega)
        refine ms_W.sub (lv2 := [(0, _), (1, _), (2, _), (3, _), (4, _)]) ?_ [2, 3, 4, 5, 6] rfl
        exact kk n8 K8 ⟨aw, am, ai, ah, W, H, cnt, _, dr, pa, X, nr, wl, mk, ds, mm, hS8, hM8, ⟨by omega, by omega, by omega, by omega, by omega⟩, hne, hge, hnoe, ⟨hW0, hW, hH0, hH⟩, hc, hL9, hmm, hds, hd, hwl, (hV.mono (by omega)), (hhe.mono (by omega))⟩ ⟨by omega, _, hro8⟩
      · skip
        exact absurd (by first | exact h_1063 | exact Decidable.not_not.mp h_1063) ht0
    · skip
      exact absurd rfl h_1056
  | none =>
    obtain ⟨hn9, hv9, K7, f7, hQ7, hf7, hK9⟩ := hp9.n hth
    subst hv9
    obtain ⟨hS7, hF7⟩ := hQ7
    have hK9o : K9 o = some (oR f7) := by rw [hK9]; exact ms_up_s _ _ _
    have hfr7 : ∀ a, a ≠ o → K9 a = K7 a := fun a h1 => by rw [hK9]; exact ms_up_n _ _ h1
    have hM9 : md_at K9 m aw am ai ah W H th X.2.2.2 dr pa cnt wl mm X.2.1 X.1 := hM6.co (fun a h1 => (hfr7 a (by rcases h1 with z9 | z9 | z9 | z9 | z9 <;> omega)).trans (hF7 a (by rcases h1 with z9 | z9 | z9 | z9 | z9 <;> omega)))
    have hl9 : md_lt n9 m aw am ai ah := ⟨by omega, by omega, by omega, by omega, by omega⟩
    refine ms_run (pc' := 1038) (lv' := [(5, .int 0), (0, .ref b), (1, .ref x), (2, .ref m), (3, .ref o), (4, .int (nI i))]) (st' := [.int ((nI i) + 1), .ref b, .ref m]) _ (ms_deC dL_law_1030 (ms_deC dL_law_1032 (ms_deC dL_law_1033 (ms_deC dL_law_1034 (ms_deC dL_law_1036 (ms_deC dL_law_1037 ms_deN)))))) rfl rfl ?_
    refine ms_sld dL_law_1038 rfl (sc_in (j := 1) (by omega) (by omega)) ?_
    rw [show (nI i + 1).toNatClampNeg = i + 1 from sc_at (j := 1) (by omega)]
    refine ms_run (pc' := 1044) (lv' := [(5, .int 0), (0, .ref b), (1, .ref x), (2, .ref m), (3, .ref o), (4, .int (nI i))]) (st' := [.int ((nI i) + 2), .ref b, .int (xs (i + 1)), .ref m]) _ (ms_deC dL_law_1039 (ms_deC dL_law_1040 (ms_deC dL_law_1042 (ms_deC dL_law_1043 ms_deN)))) rfl rfl ?_
    refine ms_sld dL_law_1044 rfl (sc_in (j := 2) (by omega) (by omega)) ?_
    rw [show (nI i + 2).toNatClampNeg = i + 2 from sc_at (j := 2) (by omega)]
    refine ms_W.room (k2 := 9 + kr) (z2 := 1572 + zr) ?_ (by omega) (by omega)
    refine ms_callV (As := [.int (xs (i + 1)), .int (xs (i + 2))]) dL_law_1045 (c_X6_ofWalker hM9 hl9 hW hH hW0 hc hne hL9 hmm hds hd (show 20 * k < 1000000 by omega) hV (xs (i + 1)) (xs (i + 2))) cv_L_137 hM9.1 rfl ⟨Nat.le_of_ble_eq_true rfl, Nat.le_of_ble_eq_true rfl⟩ rfl (Nat.le_of_ble_eq_true rfl) (fun v8 n8 K8 hp8 => ?_)
    obtain ⟨hn8, hF8, hv7, hq8⟩ := hp8.n hth
    subst hv7
    have hM8 := hq8
    have hS8 := hS7.co ho9 (fun a ha => (hF8 a (by omega) (by rintro (z9 | z9 | z9 | z9 | z9) <;> omega)).trans (hfr7 a (by omega)))
    have hro8 := (hF8 o (by omega) (by rintro (z9 | z9 | z9 | z9 | z9) <;> omega)).trans hK9o
    refine ms_run (pc' := 1051) (lv' := [(6, .int (cr_fig (nI (W * H)) ds (X.1 (xs (i + 1)).toNatClampNeg) (xs (i + 2)).toNatClampNeg)), (5, .int 0), (0, .ref b), (1, .ref x), (2, .ref m), (3, .ref o), (4, .int (nI i))]) (st' := [.ref m]) _ (ms_deC dL_law_1048 (ms_deC dL_law_1050 ms_deN)) rfl rfl ?_
    refine ms_callVp (As := []) dL_law_1051 (c_X6_thrown hM8) cv_L_93 hM8.1 rfl ⟨Nat.le_of_ble_eq_true rfl, Nat.le_of_ble_eq_true rfl⟩ rfl (Nat.le_of_ble_eq_true rfl) ?_
    refine ms_run (pc' := 1056) (lv' := [(6, .int (cr_fig (nI (W * H)) ds (X.1 (xs (i + 1)).toNatClampNeg) (xs (i + 2)).toNatClampNeg)), (5, .int 0), (0, .ref b), (1, .ref x), (2, .ref m), (3, .ref o), (4, .int (nI i))]) (st' := [.int 0, .int 0]) _ (ms_deC dL_law_1054 ms_deN) rfl rfl ?_
    refine ms_icmp_eq (tgt := 1061) dL_law_1056 (by decide) (fun _ => ?_) (fun h9 => absurd h9 (by decide))
    refine ms_run (pc' := 1063) (lv' := [(6, .int (cr_fig (nI (W * H)) ds (X.1 (xs (i + 1)).toNatClampNeg) (xs (i + 2)).toNatClampNeg)), (5, .int 0), (0, .ref b), (1, .ref x), (2, .ref m), (3, .ref o), (4, .int (nI i))]) (st' := [.int 0]) _ (ms_deC dL_law_1061 ms_deN) rfl rfl ?_
    refine ms_if_ne (tgt := 1078) dL_law_1063 (by decide) (fun h9 => absurd h9 (by decide)) (fun _ => ?_)
    refine ms_run (pc' := 1068) (lv' := [(6, .int (cr_fig (nI (W * H)) ds (X.1 (xs (i + 1)).toNatClampNeg) (xs (i + 2)).toNatClampNeg)), (5, .int 0), (0, .ref b), (1, .ref x), (2, .ref m), (3, .ref o), (4, .int (nI i))]) (st' := [.int 0, .ref o]) _ (ms_deC dL_law_1066 (ms_deC dL_law_1067 ms_deN)) rfl rfl ?_
    refine ms_laload dL_law_1068 hro8 (by unfold vp_in; decide) ?_
    rw [show f7 (0 : Int32).toNatClampNeg = ((cr_fig (nI (W * H)) ds (X.1 (xs (i + 1)).toNatClampNeg) (xs (i + 2)).toNatClampNeg)).toInt64 from hf7]
    refine ms_run (pc' := 1072) (lv' := [(6, .int (cr_fig (nI (W * H)) ds (X.1 (xs (i + 1)).toNatClampNeg) (xs (i + 2)).toNatClampNeg)), (5, .int 0), (0, .ref b), (1, .ref x), (2, .ref m), (3, .ref o), (4, .int (nI i))]) (st' := [.long ((cr_fig (nI (W * H)) ds (X.1 (xs (i + 1)).toNatClampNeg) (xs (i + 2)).toNatClampNeg).toInt64), .long ((cr_fig (nI (W * H)) ds (X.1 (xs (i + 1)).toNatClampNeg) (xs (i + 2)).toNatClampNeg).toInt64)]) _ (ms_deC dL_law_1069 (ms_deC dL_law_1071 ms_deN)) rfl rfl ?_
    refine ms_lcmp dL_law_1072 ?_
    rw [lg_same]
    refine ms_if_eq (tgt := 1078) dL_law_1073 (by decide) (fun _ => ?_) (fun h9 => absurd h9 (by decide))
    refine ms_goto (tgt := 1736) dL_law_1078 (by decide) ?_
    refine ms_W.room (k2 := kr) (z2 := zr) ?_ (by omega) (by omega)
    refine ms_W.sub (lv2 := [(0, _), (1, _), (2, _), (3, _), (4, _)]) ?_ [2, 3, 4, 5, 6] rfl
    exact kk n8 K8 ⟨aw, am, ai, ah, W, H, cnt, _, dr, pa, X, nr, wl, mk, ds, mm, hS8, hM8, ⟨by omega, by omega, by omega, by omega, by omega⟩, hne, hge, hnoe, ⟨hW0, hW, hH0, hH⟩, hc, hL9, hmm, hds, hd, hwl, (hV.mono (by omega)), (hhe.mono (by omega))⟩ ⟨by omega, _, hro8⟩
set_option maxHeartbeats 1000000 in
set_option maxRecDepth 20000 in
theorem cs_cost {x g q c j q2 c2 o m b L k i n : Nat} {xs : Nat → Int32} {G : ms_H} {P : ms_P} {kr zr : Nat} (ho : ox x g q c j q2 c2) (hoo : c2 + 29 ≤ o) (hS : lS x g q c j q2 c2 o m k n G) (hO : lo_at o n G) (hk : k < 512) (hi : i + 5 < L) (hL : L ≤ 3072) (kk : ∀ n1 G1, lS x g q c j q2 c2 o m (k + 1) n1 G1 → lo_at o n1 G1 → ms_W false (m_L_lw b L xs) P 1736 [(0, .ref b), (1, .ref x), (2, .ref m), (3, .ref o), (4, .int (nI i))] [] n1 G1 kr zr) : ms_W false (m_L_lw b L xs) P 1081 [(0, .ref b), (1, .ref x), (2, .ref m), (3, .ref o), (4, .int (nI i))] [] n G (394 + kr) (12720 + zr) := by
  obtain ⟨aw, am, ai, ah, W, H, cnt, th, dr, pa, X, nr, wl, mk, ds, mm, hS5, hM6, hl, hne, hge, hnoe, hWH, hc, hL9, hmm, hds, hd, hwl, hV, hhe⟩ := hS
  obtain ⟨hW0, hW, hH0, hH⟩ := hWH
  obtain ⟨hon, fo, hro⟩ := hO
  have hp : 0 < W * H := Nat.mul_pos hW0 hH0
  obtain ⟨l1, l2, l3, l4, l5⟩ := id hl
  obtain ⟨g1, g2, g3, g4, g5⟩ := id hge
  obtain ⟨e1, e2, e3, e4, e5⟩ := id hnoe
  have ho9 := ho
  obtain ⟨o1, o2, o3, o4, o5, o6⟩ := ho
  have h196 := fd_196 hW hH
  refine ms_run (pc' := 1087) (lv' := [(0, .ref b), (1, .ref x), (2, .ref m), (3, .ref o), (4, .int (nI i))]) (st' := [.int ((nI i) + 1), .ref b, .ref x]) _ (ms_deC dL_law_1081 (ms_deC dL_law_1082 (ms_deC dL_law_1083 (ms_deC dL_law_1085 (ms_deC dL_law_1086 ms_deN))))) rfl rfl ?_
  refine ms_sld dL_law_1087 rfl (sc_in (j := 1) (by omega) (by omega)) ?_
  rw [show (nI i + 1).toNatClampNeg = i + 1 from sc_at (j := 1) (by omega)]
  refine ms_run (pc' := 1093) (lv' := [(0, .ref b), (1, .ref x), (2, .ref m), (3, .ref o), (4, .int (nI i))]) (st' := [.int ((nI i) + 2), .ref b, .int (xs (i + 1)), .ref x]) _ (ms_deC dL_law_1088 (ms_deC dL_law_1089 (ms_deC dL_law_1091 (ms_deC dL_law_1092 ms_deN)))) rfl rfl ?_
  refine ms_sld dL_law_1093 rfl (sc_in (j := 2) (by omega) (by omega)) ?_
  rw [show (nI i + 2).toNatClampNeg = i + 2 from sc_at (j := 2) (by omega)]
  refine ms_run (pc' := 1095) (lv' := [(0, .ref b), (1, .ref x), (2, .ref m), (3, .ref o), (4, .int (nI i))]) (st' := [.ref o, .int (xs (i + 2)), .int (xs (i + 1)), .ref x]) _ (ms_deC dL_law_1094 ms_deN) rfl rfl ?_
  refine ms_W.room (k2 := 1 + (393 + kr)) (z2 := 6 + (12714 + zr)) ?_ (by omega) (by omega)
  refine ms_callSX (As := [.ref x, .int (xs (i + 1)), .int (xs (i + 2)), .ref o]) dL_law_1095 (c_L_cost ho9 hS5 hoo hro hc (xs (i + 1)) (xs (i + 2))) cs_L_138 (List.cons_ne_nil _ _) rfl ⟨Nat.le_of_ble_eq_true rfl, Nat.le_of_ble_eq_true rfl⟩ rfl (Nat.le_of_ble_eq_true rfl) (fun v9 n9 K9 hp9 => ?_) (fun E9 n9 K9 hp9 => hp9.noX)
  cases hth : (th_onw cnt X.1 (xs (i + 1)) ((xs (i + 2)) < 0 ∨ 4 < (xs (i + 2)))) with
  | some E9 =>
    obtain ⟨hn9, hv9, hG9⟩ := hp9.t hth
    obtain ⟨t9, ht9, ht0⟩ : ∃ t9 : Int32, (fun e => if e = IOB then 1 else 2) E9 = t9 ∧ ¬ t9 = 0 := ⟨_, rfl, cdb_n E9⟩
    have hv8 : v9 = some (Value.int t9) := hv9.trans (congrArg (fun q => some (Value.int q)) ht9)
    subst hv8
    subst hG9
    have hl9 : md_lt n9 m aw am ai ah := ⟨by omega, by omega, by omega, by omega, by omega⟩
    refine ms_run (pc' := 1106) (lv' := [(5, .int t9), (0, .ref b), (1, .ref x), (2, .ref m), (3, .ref o), (4, .int (nI i))]) (st' := [.int ((nI i) + 1), .ref b, .ref m]) _ (ms_deC dL_law_1098 (ms_deC dL_law_1100 (ms_deC dL_law_1101 (ms_deC dL_law_1102 (ms_deC dL_law_1104 (ms_deC dL_law_1105 ms_deN)))))) rfl rfl ?_
    refine ms_sld dL_law_1106 rfl (sc_in (j := 1) (by omega) (by omega)) ?_
    rw [show (nI i + 1).toNatClampNeg = i + 1 from sc_at (j := 1) (by omega)]
    refine ms_run (pc' := 1112) (lv' := [(5, .int t9), (0, .ref b), (1, .ref x), (2, .ref m), (3, .ref o), (4, .int (nI i))]) (st' := [.int ((nI i) + 2), .ref b, .int (xs (i + 1)), .ref m]) _ (ms_deC dL_law_1107 (ms_deC dL_law_1108 (ms_deC dL_law_1110 (ms_deC dL_law_1111 ms_deN)))) rfl rfl ?_
    refine ms_sld dL_law_1112 rfl (sc_in (j := 2) (by omega) (by omega)) ?_
    rw [show (nI i + 2).toNatClampNeg = i + 2 from sc_at (j := 2) (by omega)]
    refine ms_W.room (k2 := 2 + kr) (z2 := 392 + zr) ?_ (by omega) (by omega)
    refine ms_callV (As := [.int (xs (i + 1)), .int (xs (i + 2))]) dL_law_1113 (c_X6_cost hM6 hl9 hW hH hW0 hc hne hL9 hmm hds hd (show 20 * k < 1000000 by omega) hV (xs (i + 1)) (xs (i + 2))) cv_L_140 hM6.1 rfl ⟨Nat.le_of_ble_eq_true rfl, Nat.le_of_ble_eq_true rfl⟩ rfl (Nat.le_of_ble_eq_true rfl) (fun v8 n8 K8 hp8 => ?_)
    obtain ⟨hn8, hF8, hv7, hq8⟩ := hp8.t hth
    subst hv7
    have hM8 : md_at K8 m aw am ai ah W H t9 X.2.2.2 dr pa cnt wl mm X.2.1 X.1 := by rw [← ht9]; exact hq8
    have hS8 := hS5.co ho9 (fun a ha => hF8 a (by omega) (by rintro (z9 | z9 | z9 | z9 | z9) <;> omega))
    have hro8 := (hF8 o (by omega) (by rintro (z9 | z9 | z9 | z9 | z9) <;> omega)).trans hro
    refine ms_run (pc' := 1119) (lv' := [(6, .int 0), (5, .int t9), (0, .ref b), (1, .ref x), (2, .ref m), (3, .ref o), (4, .int (nI i))]) (st' := [.ref m]) _ (ms_deC dL_law_1116 (ms_deC dL_law_1118 ms_deN)) rfl rfl ?_
    refine ms_callVp (As := []) dL_law_1119 (c_X6_thrown hM8) cv_L_93 hM8.1 rfl ⟨Nat.le_of_ble_eq_true rfl, Nat.le_of_ble_eq_true rfl⟩ rfl (Nat.le_of_ble_eq_true rfl) ?_
    refine ms_run (pc' := 1124) (lv' := [(6, .int 0), (5, .int t9), (0, .ref b), (1, .ref x), (2, .ref m), (3, .ref o), (4, .int (nI i))]) (st' := [.int t9, .int t9]) _ (ms_deC dL_law_1122 ms_deN) rfl rfl ?_
    refine ms_icmp_eq (tgt := 1129) dL_law_1124 (by decide) (fun h_1124 => ?_) (fun h_1124 => ?_)
    · skip
      refine ms_run (pc' := 1131) (lv' := [(6, .int 0), (5, .int t9), (0, .ref b), (1, .ref x), (2, .ref m), (3, .ref o), (4, .int (nI i))]) (st' := [.int t9]) _ (ms_deC dL_law_1129 ms_deN) rfl rfl ?_
      refine ms_if_ne (tgt := 1146) dL_law_1131 (by decide) (fun h_1131 => ?_) (fun h_1131 => ?_)
      · skip
        refine ms_goto (tgt := 1736) dL_law_1146 (by decide) ?_
        refine ms_W.room (k2 := kr) (z2 := zr) ?_ (by omega) (by omega)
        refine ms_W.sub (lv2 := [(0, _), (1, _), (2, _), (3, _), (4, _)]) ?_ [2, 3, 4, 5, 6] rfl
        exact kk n8 K8 ⟨aw, am, ai, ah, W, H, cnt, _, dr, pa, X, nr, wl, mk, ds, mm, hS8, hM8, ⟨by omega, by omega, by omega, by omega, by omega⟩, hne, hge, hnoe, ⟨hW0, hW, hH0, hH⟩, hc, hL9, hmm, hds, hd, hwl, (hV.mono (by omega)), (hhe.mono (by omega))⟩ ⟨by omega, _, hro8⟩
      · skip
        exact absurd (by first | exact h_1131 | exact Decidable.not_not.mp h_1131) ht0
    · skip
      exact absurd rfl h_1124
  | none =>
    obtain ⟨hn9, hv9, K7, f7, hQ7, hf7, hK9⟩ := hp9.n hth
    subst hv9
    obtain ⟨hS7, hF7⟩ := hQ7
    have hK9o : K9 o = some (oR f7) := by rw [hK9]; exact ms_up_s _ _ _
    have hfr7 : ∀ a, a ≠ o → K9 a = K7 a := fun a h1 => by rw [hK9]; exact ms_up_n _ _ h1
    have hM9 : md_at K9 m aw am ai ah W H th X.2.2.2 dr pa cnt wl mm X.2.1 X.1 := hM6.co (fun a h1 => (hfr7 a (by rcases h1 with z9 | z9 | z9 | z9 | z9 <;> omega)).trans (hF7 a (by rcases h1 with z9 | z9 | z9 | z9 | z9 <;> omega)))
    have hl9 : md_lt n9 m aw am ai ah := ⟨by omega, by omega, by omega, by omega, by omega⟩
    refine ms_run (pc' := 1106) (lv' := [(5, .int 0), (0, .ref b), (1, .ref x), (2, .ref m), (3, .ref o), (4, .int (nI i))]) (st' := [.int ((nI i) + 1), .ref b, .ref m]) _ (ms_deC dL_law_1098 (ms_deC dL_law_1100 (ms_deC dL_law_1101 (ms_deC dL_law_1102 (ms_deC dL_law_1104 (ms_deC dL_law_1105 ms_deN)))))) rfl rfl ?_
    refine ms_sld dL_law_1106 rfl (sc_in (j := 1) (by omega) (by omega)) ?_
    rw [show (nI i + 1).toNatClampNeg = i + 1 from sc_at (j := 1) (by omega)]
    refine ms_run (pc' := 1112) (lv' := [(5, .int 0), (0, .ref b), (1, .ref x), (2, .ref m), (3, .ref o), (4, .int (nI i))]) (st' := [.int ((nI i) + 2), .ref b, .int (xs (i + 1)), .ref m]) _ (ms_deC dL_law_1107 (ms_deC dL_law_1108 (ms_deC dL_law_1110 (ms_deC dL_law_1111 ms_deN)))) rfl rfl ?_
    refine ms_sld dL_law_1112 rfl (sc_in (j := 2) (by omega) (by omega)) ?_
    rw [show (nI i + 2).toNatClampNeg = i + 2 from sc_at (j := 2) (by omega)]
    refine ms_W.room (k2 := 2 + kr) (z2 := 392 + zr) ?_ (by omega) (by omega)
    refine ms_callV (As := [.int (xs (i + 1)), .int (xs (i + 2))]) dL_law_1113 (c_X6_cost hM9 hl9 hW hH hW0 hc hne hL9 hmm hds hd (show 20 * k < 1000000 by omega) hV (xs (i + 1)) (xs (i + 2))) cv_L_140 hM9.1 rfl ⟨Nat.le_of_ble_eq_true rfl, Nat.le_of_ble_eq_true rfl⟩ rfl (Nat.le_of_ble_eq_true rfl) (fun v8 n8 K8 hp8 => ?_)
    obtain ⟨hn8, hF8, hv7, hq8⟩ := hp8.n hth
    subst hv7
    have hM8 := hq8
    have hS8 := hS7.co ho9 (fun a ha => (hF8 a (by omega) (by rintro (z9 | z9 | z9 | z9 | z9) <;> omega)).trans (hfr7 a (by omega)))
    have hro8 := (hF8 o (by omega) (by rintro (z9 | z9 | z9 | z9 | z9) <;> omega)).trans hK9o
    refine ms_run (pc' := 1119) (lv' := [(6, .int (cr_cost (nI (W * H)) nr ds X.2.2.1 (hdX cnt dr) X.1 (X.1 (xs (i + 1)).toNatClampNeg) (xs (i + 2)))), (5, .int 0), (0, .ref b), (1, .ref x), (2, .ref m), (3, .ref o), (4, .int (nI i))]) (st' := [.ref m]) _ (ms_deC dL_law_1116 (ms_deC dL_law_1118 ms_deN)) rfl rfl ?_
    refine ms_callVp (As := []) dL_law_1119 (c_X6_thrown hM8) cv_L_93 hM8.1 rfl ⟨Nat.le_of_ble_eq_true rfl, Nat.le_of_ble_eq_true rfl⟩ rfl (Nat.le_of_ble_eq_true rfl) ?_
    refine ms_run (pc' := 1124) (lv' := [(6, .int (cr_cost (nI (W * H)) nr ds X.2.2.1 (hdX cnt dr) X.1 (X.1 (xs (i + 1)).toNatClampNeg) (xs (i + 2)))), (5, .int 0), (0, .ref b), (1, .ref x), (2, .ref m), (3, .ref o), (4, .int (nI i))]) (st' := [.int 0, .int 0]) _ (ms_deC dL_law_1122 ms_deN) rfl rfl ?_
    refine ms_icmp_eq (tgt := 1129) dL_law_1124 (by decide) (fun _ => ?_) (fun h9 => absurd h9 (by decide))
    refine ms_run (pc' := 1131) (lv' := [(6, .int (cr_cost (nI (W * H)) nr ds X.2.2.1 (hdX cnt dr) X.1 (X.1 (xs (i + 1)).toNatClampNeg) (xs (i + 2)))), (5, .int 0), (0, .ref b), (1, .ref x), (2, .ref m), (3, .ref o), (4, .int (nI i))]) (st' := [.int 0]) _ (ms_deC dL_law_1129 ms_deN) rfl rfl ?_
    refine ms_if_ne (tgt := 1146) dL_law_1131 (by decide) (fun h9 => absurd h9 (by decide)) (fun _ => ?_)
    refine ms_run (pc' := 1136) (lv' := [(6, .int (cr_cost (nI (W * H)) nr ds X.2.2.1 (hdX cnt dr) X.1 (X.1 (xs (i + 1)).toNatClampNeg) (xs (i + 2)))), (5, .int 0), (0, .ref b), (1, .ref x), (2, .ref m), (3, .ref o), (4, .int (nI i))]) (st' := [.int 0, .ref o]) _ (ms_deC dL_law_1134 (ms_deC dL_law_1135 ms_deN)) rfl rfl ?_
    refine ms_laload dL_law_1136 hro8 (by unfold vp_in; decide) ?_
    rw [show f7 (0 : Int32).toNatClampNeg = ((cr_cost (nI (W * H)) nr ds X.2.2.1 (hdX cnt dr) X.1 (X.1 (xs (i + 1)).toNatClampNeg) (xs (i + 2)))).toInt64 from hf7]
    refine ms_run (pc' := 1140) (lv' := [(6, .int (cr_cost (nI (W * H)) nr ds X.2.2.1 (hdX cnt dr) X.1 (X.1 (xs (i + 1)).toNatClampNeg) (xs (i + 2)))), (5, .int 0), (0, .ref b), (1, .ref x), (2, .ref m), (3, .ref o), (4, .int (nI i))]) (st' := [.long ((cr_cost (nI (W * H)) nr ds X.2.2.1 (hdX cnt dr) X.1 (X.1 (xs (i + 1)).toNatClampNeg) (xs (i + 2))).toInt64), .long ((cr_cost (nI (W * H)) nr ds X.2.2.1 (hdX cnt dr) X.1 (X.1 (xs (i + 1)).toNatClampNeg) (xs (i + 2))).toInt64)]) _ (ms_deC dL_law_1137 (ms_deC dL_law_1139 ms_deN)) rfl rfl ?_
    refine ms_lcmp dL_law_1140 ?_
    rw [lg_same]
    refine ms_if_eq (tgt := 1146) dL_law_1141 (by decide) (fun _ => ?_) (fun h9 => absurd h9 (by decide))
    refine ms_goto (tgt := 1736) dL_law_1146 (by decide) ?_
    refine ms_W.room (k2 := kr) (z2 := zr) ?_ (by omega) (by omega)
    refine ms_W.sub (lv2 := [(0, _), (1, _), (2, _), (3, _), (4, _)]) ?_ [2, 3, 4, 5, 6] rfl
    exact kk n8 K8 ⟨aw, am, ai, ah, W, H, cnt, _, dr, pa, X, nr, wl, mk, ds, mm, hS8, hM8, ⟨by omega, by omega, by omega, by omega, by omega⟩, hne, hge, hnoe, ⟨hW0, hW, hH0, hH⟩, hc, hL9, hmm, hds, hd, hwl, (hV.mono (by omega)), (hhe.mono (by omega))⟩ ⟨by omega, _, hro8⟩
set_option maxHeartbeats 1000000 in
set_option maxRecDepth 20000 in
theorem cs_wants {x g q c j q2 c2 o m b L k i n : Nat} {xs : Nat → Int32} {G : ms_H} {P : ms_P} {kr zr : Nat} (ho : ox x g q c j q2 c2) (hoo : c2 + 29 ≤ o) (hS : lS x g q c j q2 c2 o m k n G) (hO : lo_at o n G) (hk : k < 512) (hi : i + 5 < L) (hL : L ≤ 3072) (kk : ∀ n1 G1, lS x g q c j q2 c2 o m (k + 1) n1 G1 → lo_at o n1 G1 → ms_W false (m_L_lw b L xs) P 1736 [(0, .ref b), (1, .ref x), (2, .ref m), (3, .ref o), (4, .int (nI i))] [] n1 G1 kr zr) : ms_W false (m_L_lw b L xs) P 1149 [(0, .ref b), (1, .ref x), (2, .ref m), (3, .ref o), (4, .int (nI i))] [] n G (394 + kr) (12720 + zr) := by
  obtain ⟨aw, am, ai, ah, W, H, cnt, th, dr, pa, X, nr, wl, mk, ds, mm, hS5, hM6, hl, hne, hge, hnoe, hWH, hc, hL9, hmm, hds, hd, hwl, hV, hhe⟩ := hS
  obtain ⟨hW0, hW, hH0, hH⟩ := hWH
  obtain ⟨hon, fo, hro⟩ := hO
  have hp : 0 < W * H := Nat.mul_pos hW0 hH0
  obtain ⟨l1, l2, l3, l4, l5⟩ := id hl
  obtain ⟨g1, g2, g3, g4, g5⟩ := id hge
  obtain ⟨e1, e2, e3, e4, e5⟩ := id hnoe
  have ho9 := ho
  obtain ⟨o1, o2, o3, o4, o5, o6⟩ := ho
  have h196 := fd_196 hW hH
  refine ms_run (pc' := 1155) (lv' := [(0, .ref b), (1, .ref x), (2, .ref m), (3, .ref o), (4, .int (nI i))]) (st' := [.int ((nI i) + 1), .ref b, .ref x]) _ (ms_deC dL_law_1149 (ms_deC dL_law_1150 (ms_deC dL_law_1151 (ms_deC dL_law_1153 (ms_deC dL_law_1154 ms_deN))))) rfl rfl ?_
  refine ms_sld dL_law_1155 rfl (sc_in (j := 1) (by omega) (by omega)) ?_
  rw [show (nI i + 1).toNatClampNeg = i + 1 from sc_at (j := 1) (by omega)]
  refine ms_run (pc' := 1157) (lv' := [(0, .ref b), (1, .ref x), (2, .ref m), (3, .ref o), (4, .int (nI i))]) (st' := [.ref o, .int (xs (i + 1)), .ref x]) _ (ms_deC dL_law_1156 ms_deN) rfl rfl ?_
  refine ms_W.room (k2 := 1 + (393 + kr)) (z2 := 6 + (12714 + zr)) ?_ (by omega) (by omega)
  refine ms_callSX (As := [.ref x, .int (xs (i + 1)), .ref o]) dL_law_1157 (c_L_wants ho9 hS5 hoo hro hc (xs (i + 1))) cs_L_141 (List.cons_ne_nil _ _) rfl ⟨Nat.le_of_ble_eq_true rfl, Nat.le_of_ble_eq_true rfl⟩ rfl (Nat.le_of_ble_eq_true rfl) (fun v9 n9 K9 hp9 => ?_) (fun E9 n9 K9 hp9 => hp9.noX)
  cases hth : (th_wan cnt X.1 (xs (i + 1))) with
  | some E9 =>
    obtain ⟨hn9, hv9, hG9⟩ := hp9.t hth
    obtain ⟨t9, ht9, ht0⟩ : ∃ t9 : Int32, (fun _ => 1) E9 = t9 ∧ ¬ t9 = 0 := ⟨_, rfl, cd1_n E9⟩
    have hv8 : v9 = some (Value.int t9) := hv9.trans (congrArg (fun q => some (Value.int q)) ht9)
    subst hv8
    subst hG9
    have hl9 : md_lt n9 m aw am ai ah := ⟨by omega, by omega, by omega, by omega, by omega⟩
    refine ms_run (pc' := 1168) (lv' := [(5, .int t9), (0, .ref b), (1, .ref x), (2, .ref m), (3, .ref o), (4, .int (nI i))]) (st' := [.int ((nI i) + 1), .ref b, .ref m]) _ (ms_deC dL_law_1160 (ms_deC dL_law_1162 (ms_deC dL_law_1163 (ms_deC dL_law_1164 (ms_deC dL_law_1166 (ms_deC dL_law_1167 ms_deN)))))) rfl rfl ?_
    refine ms_sld dL_law_1168 rfl (sc_in (j := 1) (by omega) (by omega)) ?_
    rw [show (nI i + 1).toNatClampNeg = i + 1 from sc_at (j := 1) (by omega)]
    refine ms_W.room (k2 := 2 + kr) (z2 := 392 + zr) ?_ (by omega) (by omega)
    refine ms_callV (As := [.int (xs (i + 1))]) dL_law_1169 (c_X6_wants hM6 hl9 hW hH hW0 hc hne hL9 hmm hds hd (show 20 * k < 1000000 by omega) hV (xs (i + 1))) cv_L_143 hM6.1 rfl ⟨Nat.le_of_ble_eq_true rfl, Nat.le_of_ble_eq_true rfl⟩ rfl (Nat.le_of_ble_eq_true rfl) (fun v8 n8 K8 hp8 => ?_)
    obtain ⟨hn8, hF8, hv7, hq8⟩ := hp8.t hth
    subst hv7
    have hM8 : md_at K8 m aw am ai ah W H t9 X.2.2.2 dr pa cnt wl mm X.2.1 X.1 := by rw [← ht9]; exact hq8
    have hS8 := hS5.co ho9 (fun a ha => hF8 a (by omega) (by rintro (z9 | z9 | z9 | z9 | z9) <;> omega))
    have hro8 := (hF8 o (by omega) (by rintro (z9 | z9 | z9 | z9 | z9) <;> omega)).trans hro
    refine ms_run (pc' := 1175) (lv' := [(6, .int 0), (5, .int t9), (0, .ref b), (1, .ref x), (2, .ref m), (3, .ref o), (4, .int (nI i))]) (st' := [.ref m]) _ (ms_deC dL_law_1172 (ms_deC dL_law_1174 ms_deN)) rfl rfl ?_
    refine ms_callVp (As := []) dL_law_1175 (c_X6_thrown hM8) cv_L_93 hM8.1 rfl ⟨Nat.le_of_ble_eq_true rfl, Nat.le_of_ble_eq_true rfl⟩ rfl (Nat.le_of_ble_eq_true rfl) ?_
    refine ms_run (pc' := 1180) (lv' := [(6, .int 0), (5, .int t9), (0, .ref b), (1, .ref x), (2, .ref m), (3, .ref o), (4, .int (nI i))]) (st' := [.int t9, .int t9]) _ (ms_deC dL_law_1178 ms_deN) rfl rfl ?_
    refine ms_icmp_eq (tgt := 1185) dL_law_1180 (by decide) (fun h_1180 => ?_) (fun h_1180 => ?_)
    · skip
      refine ms_run (pc' := 1187) (lv' := [(6, .int 0), (5, .int t9), (0, .ref b), (1, .ref x), (2, .ref m), (3, .ref o), (4, .int (nI i))]) (st' := [.int t9]) _ (ms_deC dL_law_1185 ms_deN) rfl rfl ?_
      refine ms_if_ne (tgt := 1202) dL_law_1187 (by decide) (fun h_1187 => ?_) (fun h_1187 => ?_)
      · skip
        refine ms_goto (tgt := 1736) dL_law_1202 (by decide) ?_
        refine ms_W.room (k2 := kr) (z2 := zr) ?_ (by omega) (by omega)
        refine ms_W.sub (lv2 := [(0, _), (1, _), (2, _), (3, _), (4, _)]) ?_ [2, 3, 4, 5, 6] rfl
        exact kk n8 K8 ⟨aw, am, ai, ah, W, H, cnt, _, dr, pa, X, nr, wl, mk, ds, mm, hS8, hM8, ⟨by omega, by omega, by omega, by omega, by omega⟩, hne, hge, hnoe, ⟨hW0, hW, hH0, hH⟩, hc, hL9, hmm, hds, hd, hwl, (hV.mono (by omega)), (hhe.mono (by omega))⟩ ⟨by omega, _, hro8⟩
      · skip
        exact absurd (by first | exact h_1187 | exact Decidable.not_not.mp h_1187) ht0
    · skip
      exact absurd rfl h_1180
  | none =>
    obtain ⟨hn9, hv9, K7, f7, hQ7, hf7, hK9⟩ := hp9.n hth
    subst hv9
    obtain ⟨hS7, hF7⟩ := hQ7
    have hK9o : K9 o = some (oR f7) := by rw [hK9]; exact ms_up_s _ _ _
    have hfr7 : ∀ a, a ≠ o → K9 a = K7 a := fun a h1 => by rw [hK9]; exact ms_up_n _ _ h1
    have hM9 : md_at K9 m aw am ai ah W H th X.2.2.2 dr pa cnt wl mm X.2.1 X.1 := hM6.co (fun a h1 => (hfr7 a (by rcases h1 with z9 | z9 | z9 | z9 | z9 <;> omega)).trans (hF7 a (by rcases h1 with z9 | z9 | z9 | z9 | z9 <;> omega)))
    have hl9 : md_lt n9 m aw am ai ah := ⟨by omega, by omega, by omega, by omega, by omega⟩
    refine ms_run (pc' := 1168) (lv' := [(5, .int 0), (0, .ref b), (1, .ref x), (2, .ref m), (3, .ref o), (4, .int (nI i))]) (st' := [.int ((nI i) + 1), .ref b, .ref m]) _ (ms_deC dL_law_1160 (ms_deC dL_law_1162 (ms_deC dL_law_1163 (ms_deC dL_law_1164 (ms_deC dL_law_1166 (ms_deC dL_law_1167 ms_deN)))))) rfl rfl ?_
    refine ms_sld dL_law_1168 rfl (sc_in (j := 1) (by omega) (by omega)) ?_
    rw [show (nI i + 1).toNatClampNeg = i + 1 from sc_at (j := 1) (by omega)]
    refine ms_W.room (k2 := 2 + kr) (z2 := 392 + zr) ?_ (by omega) (by omega)
    refine ms_callV (As := [.int (xs (i + 1))]) dL_law_1169 (c_X6_wants hM9 hl9 hW hH hW0 hc hne hL9 hmm hds hd (show 20 * k < 1000000 by omega) hV (xs (i + 1))) cv_L_143 hM9.1 rfl ⟨Nat.le_of_ble_eq_true rfl, Nat.le_of_ble_eq_true rfl⟩ rfl (Nat.le_of_ble_eq_true rfl) (fun v8 n8 K8 hp8 => ?_)
    obtain ⟨hn8, hF8, hv7, hq8⟩ := hp8.n hth
    subst hv7
    have hM8 := hq8
    have hS8 := hS7.co ho9 (fun a ha => (hF8 a (by omega) (by rintro (z9 | z9 | z9 | z9 | z9) <;> omega)).trans (hfr7 a (by omega)))
    have hro8 := (hF8 o (by omega) (by rintro (z9 | z9 | z9 | z9 | z9) <;> omega)).trans hK9o
    refine ms_run (pc' := 1175) (lv' := [(6, .int (bsX (nI (W * H)) nr ds cnt dr X.2.2.1 X.1 (xs (i + 1)).toNatClampNeg)), (5, .int 0), (0, .ref b), (1, .ref x), (2, .ref m), (3, .ref o), (4, .int (nI i))]) (st' := [.ref m]) _ (ms_deC dL_law_1172 (ms_deC dL_law_1174 ms_deN)) rfl rfl ?_
    refine ms_callVp (As := []) dL_law_1175 (c_X6_thrown hM8) cv_L_93 hM8.1 rfl ⟨Nat.le_of_ble_eq_true rfl, Nat.le_of_ble_eq_true rfl⟩ rfl (Nat.le_of_ble_eq_true rfl) ?_
    refine ms_run (pc' := 1180) (lv' := [(6, .int (bsX (nI (W * H)) nr ds cnt dr X.2.2.1 X.1 (xs (i + 1)).toNatClampNeg)), (5, .int 0), (0, .ref b), (1, .ref x), (2, .ref m), (3, .ref o), (4, .int (nI i))]) (st' := [.int 0, .int 0]) _ (ms_deC dL_law_1178 ms_deN) rfl rfl ?_
    refine ms_icmp_eq (tgt := 1185) dL_law_1180 (by decide) (fun _ => ?_) (fun h9 => absurd h9 (by decide))
    refine ms_run (pc' := 1187) (lv' := [(6, .int (bsX (nI (W * H)) nr ds cnt dr X.2.2.1 X.1 (xs (i + 1)).toNatClampNeg)), (5, .int 0), (0, .ref b), (1, .ref x), (2, .ref m), (3, .ref o), (4, .int (nI i))]) (st' := [.int 0]) _ (ms_deC dL_law_1185 ms_deN) rfl rfl ?_
    refine ms_if_ne (tgt := 1202) dL_law_1187 (by decide) (fun h9 => absurd h9 (by decide)) (fun _ => ?_)
    refine ms_run (pc' := 1192) (lv' := [(6, .int (bsX (nI (W * H)) nr ds cnt dr X.2.2.1 X.1 (xs (i + 1)).toNatClampNeg)), (5, .int 0), (0, .ref b), (1, .ref x), (2, .ref m), (3, .ref o), (4, .int (nI i))]) (st' := [.int 0, .ref o]) _ (ms_deC dL_law_1190 (ms_deC dL_law_1191 ms_deN)) rfl rfl ?_
    refine ms_laload dL_law_1192 hro8 (by unfold vp_in; decide) ?_
    rw [show f7 (0 : Int32).toNatClampNeg = ((bsX (nI (W * H)) nr ds cnt dr X.2.2.1 X.1 (xs (i + 1)).toNatClampNeg)).toInt64 from hf7]
    refine ms_run (pc' := 1196) (lv' := [(6, .int (bsX (nI (W * H)) nr ds cnt dr X.2.2.1 X.1 (xs (i + 1)).toNatClampNeg)), (5, .int 0), (0, .ref b), (1, .ref x), (2, .ref m), (3, .ref o), (4, .int (nI i))]) (st' := [.long ((bsX (nI (W * H)) nr ds cnt dr X.2.2.1 X.1 (xs (i + 1)).toNatClampNeg).toInt64), .long ((bsX (nI (W * H)) nr ds cnt dr X.2.2.1 X.1 (xs (i + 1)).toNatClampNeg).toInt64)]) _ (ms_deC dL_law_1193 (ms_deC dL_law_1195 ms_deN)) rfl rfl ?_
    refine ms_lcmp dL_law_1196 ?_
    rw [lg_same]
    refine ms_if_eq (tgt := 1202) dL_law_1197 (by decide) (fun _ => ?_) (fun h9 => absurd h9 (by decide))
    refine ms_goto (tgt := 1736) dL_law_1202 (by decide) ?_
    refine ms_W.room (k2 := kr) (z2 := zr) ?_ (by omega) (by omega)
    refine ms_W.sub (lv2 := [(0, _), (1, _), (2, _), (3, _), (4, _)]) ?_ [2, 3, 4, 5, 6] rfl
    exact kk n8 K8 ⟨aw, am, ai, ah, W, H, cnt, _, dr, pa, X, nr, wl, mk, ds, mm, hS8, hM8, ⟨by omega, by omega, by omega, by omega, by omega⟩, hne, hge, hnoe, ⟨hW0, hW, hH0, hH⟩, hc, hL9, hmm, hds, hd, hwl, (hV.mono (by omega)), (hhe.mono (by omega))⟩ ⟨by omega, _, hro8⟩
set_option maxHeartbeats 1000000 in
set_option maxRecDepth 20000 in
theorem cs_way {x g q c j q2 c2 o m b L k i n : Nat} {xs : Nat → Int32} {G : ms_H} {P : ms_P} {kr zr : Nat} (ho : ox x g q c j q2 c2) (hoo : c2 + 29 ≤ o) (hS : lS x g q c j q2 c2 o m k n G) (hO : lo_at o n G) (hk : k < 512) (hi : i + 5 < L) (hL : L ≤ 3072) (kk : ∀ n1 G1, lS x g q c j q2 c2 o m (k + 1) n1 G1 → lo_at o n1 G1 → ms_W false (m_L_lw b L xs) P 1736 [(0, .ref b), (1, .ref x), (2, .ref m), (3, .ref o), (4, .int (nI i))] [] n1 G1 kr zr) : ms_W false (m_L_lw b L xs) P 1205 [(0, .ref b), (1, .ref x), (2, .ref m), (3, .ref o), (4, .int (nI i))] [] n G (394 + kr) (12720 + zr) := by
  obtain ⟨aw, am, ai, ah, W, H, cnt, th, dr, pa, X, nr, wl, mk, ds, mm, hS5, hM6, hl, hne, hge, hnoe, hWH, hc, hL9, hmm, hds, hd, hwl, hV, hhe⟩ := hS
  obtain ⟨hW0, hW, hH0, hH⟩ := hWH
  obtain ⟨hon, fo, hro⟩ := hO
  have hp : 0 < W * H := Nat.mul_pos hW0 hH0
  obtain ⟨l1, l2, l3, l4, l5⟩ := id hl
  obtain ⟨g1, g2, g3, g4, g5⟩ := id hge
  obtain ⟨e1, e2, e3, e4, e5⟩ := id hnoe
  have ho9 := ho
  obtain ⟨o1, o2, o3, o4, o5, o6⟩ := ho
  have h196 := fd_196 hW hH
  refine ms_run (pc' := 1211) (lv' := [(0, .ref b), (1, .ref x), (2, .ref m), (3, .ref o), (4, .int (nI i))]) (st' := [.int ((nI i) + 1), .ref b, .ref x]) _ (ms_deC dL_law_1205 (ms_deC dL_law_1206 (ms_deC dL_law_1207 (ms_deC dL_law_1209 (ms_deC dL_law_1210 ms_deN))))) rfl rfl ?_
  refine ms_sld dL_law_1211 rfl (sc_in (j := 1) (by omega) (by omega)) ?_
  rw [show (nI i + 1).toNatClampNeg = i + 1 from sc_at (j := 1) (by omega)]
  refine ms_run (pc' := 1217) (lv' := [(0, .ref b), (1, .ref x), (2, .ref m), (3, .ref o), (4, .int (nI i))]) (st' := [.int ((nI i) + 2), .ref b, .int (xs (i + 1)), .ref x]) _ (ms_deC dL_law_1212 (ms_deC dL_law_1213 (ms_deC dL_law_1215 (ms_deC dL_law_1216 ms_deN)))) rfl rfl ?_
  refine ms_sld dL_law_1217 rfl (sc_in (j := 2) (by omega) (by omega)) ?_
  rw [show (nI i + 2).toNatClampNeg = i + 2 from sc_at (j := 2) (by omega)]
  refine ms_run (pc' := 1219) (lv' := [(0, .ref b), (1, .ref x), (2, .ref m), (3, .ref o), (4, .int (nI i))]) (st' := [.ref o, .int (xs (i + 2)), .int (xs (i + 1)), .ref x]) _ (ms_deC dL_law_1218 ms_deN) rfl rfl ?_
  refine ms_W.room (k2 := 1 + (393 + kr)) (z2 := 6 + (12714 + zr)) ?_ (by omega) (by omega)
  refine ms_callSX (As := [.ref x, .int (xs (i + 1)), .int (xs (i + 2)), .ref o]) dL_law_1219 (c_L_way ho9 hS5 hoo hro hc (xs (i + 1)) (xs (i + 2))) cs_L_144 (List.cons_ne_nil _ _) rfl ⟨Nat.le_of_ble_eq_true rfl, Nat.le_of_ble_eq_true rfl⟩ rfl (Nat.le_of_ble_eq_true rfl) (fun v9 n9 K9 hp9 => ?_) (fun E9 n9 K9 hp9 => hp9.noX)
  cases hth : (th_onw cnt X.1 (xs (i + 1)) ((xs (i + 2)) < 0)) with
  | some E9 =>
    obtain ⟨hn9, hv9, hG9⟩ := hp9.t hth
    obtain ⟨t9, ht9, ht0⟩ : ∃ t9 : Int32, (fun e => if e = IOB then 1 else 2) E9 = t9 ∧ ¬ t9 = 0 := ⟨_, rfl, cdb_n E9⟩
    have hv8 : v9 = some (Value.int t9) := hv9.trans (congrArg (fun q => some (Value.int q)) ht9)
    subst hv8
    subst hG9
    have hl9 : md_lt n9 m aw am ai ah := ⟨by omega, by omega, by omega, by omega, by omega⟩
    refine ms_run (pc' := 1230) (lv' := [(5, .int t9), (0, .ref b), (1, .ref x), (2, .ref m), (3, .ref o), (4, .int (nI i))]) (st' := [.int ((nI i) + 1), .ref b, .ref m]) _ (ms_deC dL_law_1222 (ms_deC dL_law_1224 (ms_deC dL_law_1225 (ms_deC dL_law_1226 (ms_deC dL_law_1228 (ms_deC dL_law_1229 ms_deN)))))) rfl rfl ?_
    refine ms_sld dL_law_1230 rfl (sc_in (j := 1) (by omega) (by omega)) ?_
    rw [show (nI i + 1).toNatClampNeg = i + 1 from sc_at (j := 1) (by omega)]
    refine ms_run (pc' := 1236) (lv' := [(5, .int t9), (0, .ref b), (1, .ref x), (2, .ref m), (3, .ref o), (4, .int (nI i))]) (st' := [.int ((nI i) + 2), .ref b, .int (xs (i + 1)), .ref m]) _ (ms_deC dL_law_1231 (ms_deC dL_law_1232 (ms_deC dL_law_1234 (ms_deC dL_law_1235 ms_deN)))) rfl rfl ?_
    refine ms_sld dL_law_1236 rfl (sc_in (j := 2) (by omega) (by omega)) ?_
    rw [show (nI i + 2).toNatClampNeg = i + 2 from sc_at (j := 2) (by omega)]
    refine ms_W.room (k2 := 2 + kr) (z2 := 392 + zr) ?_ (by omega) (by omega)
    refine ms_callV (As := [.int (xs (i + 1)), .int (xs (i + 2))]) dL_law_1237 (c_X6_way hM6 hl9 hW hH hW0 hc hne hL9 hmm hds hd (show 20 * k < 1000000 by omega) hV (xs (i + 1)) (xs (i + 2))) cv_L_146 hM6.1 rfl ⟨Nat.le_of_ble_eq_true rfl, Nat.le_of_ble_eq_true rfl⟩ rfl (Nat.le_of_ble_eq_true rfl) (fun v8 n8 K8 hp8 => ?_)
    obtain ⟨hn8, hF8, hv7, hq8⟩ := hp8.t hth
    subst hv7
    have hM8 : md_at K8 m aw am ai ah W H t9 X.2.2.2 dr pa cnt wl mm X.2.1 X.1 := by rw [← ht9]; exact hq8
    have hS8 := hS5.co ho9 (fun a ha => hF8 a (by omega) (by rintro (z9 | z9 | z9 | z9 | z9) <;> omega))
    have hro8 := (hF8 o (by omega) (by rintro (z9 | z9 | z9 | z9 | z9) <;> omega)).trans hro
    refine ms_run (pc' := 1243) (lv' := [(6, .int 0), (5, .int t9), (0, .ref b), (1, .ref x), (2, .ref m), (3, .ref o), (4, .int (nI i))]) (st' := [.ref m]) _ (ms_deC dL_law_1240 (ms_deC dL_law_1242 ms_deN)) rfl rfl ?_
    refine ms_callVp (As := []) dL_law_1243 (c_X6_thrown hM8) cv_L_93 hM8.1 rfl ⟨Nat.le_of_ble_eq_true rfl, Nat.le_of_ble_eq_true rfl⟩ rfl (Nat.le_of_ble_eq_true rfl) ?_
    refine ms_run (pc' := 1248) (lv' := [(6, .int 0), (5, .int t9), (0, .ref b), (1, .ref x), (2, .ref m), (3, .ref o), (4, .int (nI i))]) (st' := [.int t9, .int t9]) _ (ms_deC dL_law_1246 ms_deN) rfl rfl ?_
    refine ms_icmp_eq (tgt := 1253) dL_law_1248 (by decide) (fun h_1248 => ?_) (fun h_1248 => ?_)
    · skip
      refine ms_run (pc' := 1255) (lv' := [(6, .int 0), (5, .int t9), (0, .ref b), (1, .ref x), (2, .ref m), (3, .ref o), (4, .int (nI i))]) (st' := [.int t9]) _ (ms_deC dL_law_1253 ms_deN) rfl rfl ?_
      refine ms_if_ne (tgt := 1270) dL_law_1255 (by decide) (fun h_1255 => ?_) (fun h_1255 => ?_)
      · skip
        refine ms_goto (tgt := 1736) dL_law_1270 (by decide) ?_
        refine ms_W.room (k2 := kr) (z2 := zr) ?_ (by omega) (by omega)
        refine ms_W.sub (lv2 := [(0, _), (1, _), (2, _), (3, _), (4, _)]) ?_ [2, 3, 4, 5, 6] rfl
        exact kk n8 K8 ⟨aw, am, ai, ah, W, H, cnt, _, dr, pa, X, nr, wl, mk, ds, mm, hS8, hM8, ⟨by omega, by omega, by omega, by omega, by omega⟩, hne, hge, hnoe, ⟨hW0, hW, hH0, hH⟩, hc, hL9, hmm, hds, hd, hwl, (hV.mono (by omega)), (hhe.mono (by omega))⟩ ⟨by omega, _, hro8⟩
      · skip
        exact absurd (by first | exact h_1255 | exact Decidable.not_not.mp h_1255) ht0
    · skip
      exact absurd rfl h_1248
  | none =>
    obtain ⟨hn9, hv9, K7, f7, hQ7, hf7, hK9⟩ := hp9.n hth
    subst hv9
    obtain ⟨hS7, hF7⟩ := hQ7
    have hK9o : K9 o = some (oR f7) := by rw [hK9]; exact ms_up_s _ _ _
    have hfr7 : ∀ a, a ≠ o → K9 a = K7 a := fun a h1 => by rw [hK9]; exact ms_up_n _ _ h1
    have hM9 : md_at K9 m aw am ai ah W H th X.2.2.2 dr pa cnt wl mm X.2.1 X.1 := hM6.co (fun a h1 => (hfr7 a (by rcases h1 with z9 | z9 | z9 | z9 | z9 <;> omega)).trans (hF7 a (by rcases h1 with z9 | z9 | z9 | z9 | z9 <;> omega)))
    have hl9 : md_lt n9 m aw am ai ah := ⟨by omega, by omega, by omega, by omega, by omega⟩
    refine ms_run (pc' := 1230) (lv' := [(5, .int 0), (0, .ref b), (1, .ref x), (2, .ref m), (3, .ref o), (4, .int (nI i))]) (st' := [.int ((nI i) + 1), .ref b, .ref m]) _ (ms_deC dL_law_1222 (ms_deC dL_law_1224 (ms_deC dL_law_1225 (ms_deC dL_law_1226 (ms_deC dL_law_1228 (ms_deC dL_law_1229 ms_deN)))))) rfl rfl ?_
    refine ms_sld dL_law_1230 rfl (sc_in (j := 1) (by omega) (by omega)) ?_
    rw [show (nI i + 1).toNatClampNeg = i + 1 from sc_at (j := 1) (by omega)]
    refine ms_run (pc' := 1236) (lv' := [(5, .int 0), (0, .ref b), (1, .ref x), (2, .ref m), (3, .ref o), (4, .int (nI i))]) (st' := [.int ((nI i) + 2), .ref b, .int (xs (i + 1)), .ref m]) _ (ms_deC dL_law_1231 (ms_deC dL_law_1232 (ms_deC dL_law_1234 (ms_deC dL_law_1235 ms_deN)))) rfl rfl ?_
    refine ms_sld dL_law_1236 rfl (sc_in (j := 2) (by omega) (by omega)) ?_
    rw [show (nI i + 2).toNatClampNeg = i + 2 from sc_at (j := 2) (by omega)]
    refine ms_W.room (k2 := 2 + kr) (z2 := 392 + zr) ?_ (by omega) (by omega)
    refine ms_callV (As := [.int (xs (i + 1)), .int (xs (i + 2))]) dL_law_1237 (c_X6_way hM9 hl9 hW hH hW0 hc hne hL9 hmm hds hd (show 20 * k < 1000000 by omega) hV (xs (i + 1)) (xs (i + 2))) cv_L_146 hM9.1 rfl ⟨Nat.le_of_ble_eq_true rfl, Nat.le_of_ble_eq_true rfl⟩ rfl (Nat.le_of_ble_eq_true rfl) (fun v8 n8 K8 hp8 => ?_)
    obtain ⟨hn8, hF8, hv7, hq8⟩ := hp8.n hth
    subst hv7
    have hM8 := hq8
    have hS8 := hS7.co ho9 (fun a ha => (hF8 a (by omega) (by rintro (z9 | z9 | z9 | z9 | z9) <;> omega)).trans (hfr7 a (by omega)))
    have hro8 := (hF8 o (by omega) (by rintro (z9 | z9 | z9 | z9 | z9) <;> omega)).trans hK9o
    refine ms_run (pc' := 1243) (lv' := [(6, .int (wyX (nI (W * H)) nr ds (X.1 (xs (i + 1)).toNatClampNeg) (xs (i + 2)).toNatClampNeg)), (5, .int 0), (0, .ref b), (1, .ref x), (2, .ref m), (3, .ref o), (4, .int (nI i))]) (st' := [.ref m]) _ (ms_deC dL_law_1240 (ms_deC dL_law_1242 ms_deN)) rfl rfl ?_
    refine ms_callVp (As := []) dL_law_1243 (c_X6_thrown hM8) cv_L_93 hM8.1 rfl ⟨Nat.le_of_ble_eq_true rfl, Nat.le_of_ble_eq_true rfl⟩ rfl (Nat.le_of_ble_eq_true rfl) ?_
    refine ms_run (pc' := 1248) (lv' := [(6, .int (wyX (nI (W * H)) nr ds (X.1 (xs (i + 1)).toNatClampNeg) (xs (i + 2)).toNatClampNeg)), (5, .int 0), (0, .ref b), (1, .ref x), (2, .ref m), (3, .ref o), (4, .int (nI i))]) (st' := [.int 0, .int 0]) _ (ms_deC dL_law_1246 ms_deN) rfl rfl ?_
    refine ms_icmp_eq (tgt := 1253) dL_law_1248 (by decide) (fun _ => ?_) (fun h9 => absurd h9 (by decide))
    refine ms_run (pc' := 1255) (lv' := [(6, .int (wyX (nI (W * H)) nr ds (X.1 (xs (i + 1)).toNatClampNeg) (xs (i + 2)).toNatClampNeg)), (5, .int 0), (0, .ref b), (1, .ref x), (2, .ref m), (3, .ref o), (4, .int (nI i))]) (st' := [.int 0]) _ (ms_deC dL_law_1253 ms_deN) rfl rfl ?_
    refine ms_if_ne (tgt := 1270) dL_law_1255 (by decide) (fun h9 => absurd h9 (by decide)) (fun _ => ?_)
    refine ms_run (pc' := 1260) (lv' := [(6, .int (wyX (nI (W * H)) nr ds (X.1 (xs (i + 1)).toNatClampNeg) (xs (i + 2)).toNatClampNeg)), (5, .int 0), (0, .ref b), (1, .ref x), (2, .ref m), (3, .ref o), (4, .int (nI i))]) (st' := [.int 0, .ref o]) _ (ms_deC dL_law_1258 (ms_deC dL_law_1259 ms_deN)) rfl rfl ?_
    refine ms_laload dL_law_1260 hro8 (by unfold vp_in; decide) ?_
    rw [show f7 (0 : Int32).toNatClampNeg = ((wyX (nI (W * H)) nr ds (X.1 (xs (i + 1)).toNatClampNeg) (xs (i + 2)).toNatClampNeg)).toInt64 from hf7]
    refine ms_run (pc' := 1264) (lv' := [(6, .int (wyX (nI (W * H)) nr ds (X.1 (xs (i + 1)).toNatClampNeg) (xs (i + 2)).toNatClampNeg)), (5, .int 0), (0, .ref b), (1, .ref x), (2, .ref m), (3, .ref o), (4, .int (nI i))]) (st' := [.long ((wyX (nI (W * H)) nr ds (X.1 (xs (i + 1)).toNatClampNeg) (xs (i + 2)).toNatClampNeg).toInt64), .long ((wyX (nI (W * H)) nr ds (X.1 (xs (i + 1)).toNatClampNeg) (xs (i + 2)).toNatClampNeg).toInt64)]) _ (ms_deC dL_law_1261 (ms_deC dL_law_1263 ms_deN)) rfl rfl ?_
    refine ms_lcmp dL_law_1264 ?_
    rw [lg_same]
    refine ms_if_eq (tgt := 1270) dL_law_1265 (by decide) (fun _ => ?_) (fun h9 => absurd h9 (by decide))
    refine ms_goto (tgt := 1736) dL_law_1270 (by decide) ?_
    refine ms_W.room (k2 := kr) (z2 := zr) ?_ (by omega) (by omega)
    refine ms_W.sub (lv2 := [(0, _), (1, _), (2, _), (3, _), (4, _)]) ?_ [2, 3, 4, 5, 6] rfl
    exact kk n8 K8 ⟨aw, am, ai, ah, W, H, cnt, _, dr, pa, X, nr, wl, mk, ds, mm, hS8, hM8, ⟨by omega, by omega, by omega, by omega, by omega⟩, hne, hge, hnoe, ⟨hW0, hW, hH0, hH⟩, hc, hL9, hmm, hds, hd, hwl, (hV.mono (by omega)), (hhe.mono (by omega))⟩ ⟨by omega, _, hro8⟩

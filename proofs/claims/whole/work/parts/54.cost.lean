/-! the model: costNow, wantsNow -/
def pFm (W : Nat) (u : Nat → Nat → Int32) (i own : Nat) (sd : Int32) (k : Nat) : Bool := decide (¬ k = i ∧ ¬ u k 3 = -1 ∧ arR W own (u k 3).toNatClampNeg ∧ u k 4 = sd)
/-- what a side costs by the model: s below 4, or 4 to stay -/
def mcS (W : Nat) (cnt : Nat) (u : Nat → Nat → Int32) (D : Nat → Int32) (i own : Nat) : Int32 := if D own = -1 then 10000 else 10 * D own + u i 2 * nI (ct (pRo W u own (nI i)) cnt)
def mcM (W : Nat) (cnt : Nat) (nr on : Nat → Int32) (dr : Int32) (u : Nat → Nat → Int32) (D : Nat → Int32) (i own s : Nat) : Int32 :=
  if nbX nr own s = -1 ∨ D (nbX nr own s).toNatClampNeg = -1 ∨ ¬ on (nbX nr own s).toNatClampNeg = -1 then 10000
  else 10 * D (nbX nr own s).toNatClampNeg + u i 2 * nI (ct (pRo W u (nbX nr own s).toNatClampNeg (nI i)) cnt) - dr * nI (ct (pFm W u i own (nI s)) cnt)
theorem pf_t {dr B : Int32} {c : Nat} : B - dr * nI c - dr = B - dr * nI (c + 1) := by rw [← nI_1]; grind
set_option maxHeartbeats 2000000 in
set_option maxRecDepth 20000 in
theorem c_X6_costStay {n m aw am ai ah W H cnt : Nat} {G : ms_H} {th cl dr pa : Int32} {wl mm ht : Nat → Int32} {u : Nat → Nat → Int32} (hM : md_at G m aw am ai ah W H th cl dr pa cnt wl mm ht u) (hW : W ≤ 14) (hH : H ≤ 14) (hc : cnt ≤ 24) (hW0 : 0 < W) {nr on D : Nat → Int32} (hL : lk_ok W H (W * H) nr) (hon : onV (W * H) cnt u on) (hv : hvX (nI (W * H)) cnt u) {fa : Nat} (hfa : G fa = some (.inl (0, W * H, .inl D))) {i own : Nat} (hi : i < cnt) (hpo : u i 3 = nI own) (ho : own < W * H) : ms_M m_X6_costNow [.ref m, .int (nI i), .int 4, .ref fa] n G 0 0 (ms_p1 (some (.int (mcS W cnt u D i own))) n G) := by
  refine ms_M.of (by decide) (Nat.le_of_ble_eq_true rfl) ?_
  show ms_W false m_X6_costNow _ 0 [(0, .ref m), (1, .int (nI i)), (2, .int 4), (3, .ref fa)] [] n G 0 0
  obtain ⟨hm, hw_, hk_, ⟨it, hi_, hit⟩, hh_⟩ := hM
  have h196 := fd_196 hW hH
  refine ms_run (pc' := 1) (lv' := [(0, .ref m), (1, .int (nI i)), (2, .int 4), (3, .ref fa)]) (st' := [.ref m]) _ (ms_deC dX6_costNow_0 ms_deN) rfl rfl ?_
  refine ms_getf dX6_costNow_1 fg_X6_39 hm rfl ?_
  refine ms_run (pc' := 10) (lv' := [(0, .ref m), (1, .int (nI i)), (2, .int 4), (3, .ref fa)]) (st' := [.int (((nI i) * 8) + 3), .ref ai]) _ (ms_deC dX6_costNow_4 (ms_deC dX6_costNow_5 (ms_deC dX6_costNow_7 (ms_deC dX6_costNow_8 (ms_deC dX6_costNow_9 ms_deN))))) rfl rfl ?_
  refine ms_iaload dX6_costNow_10 hi_ (md_in (k := i) (j := 3) (Nat.lt_of_lt_of_le hi hc) (by omega)) ?_
  rw [show it (((nI i) * 8) + 3).toNatClampNeg = u i 3 from md_it (k := i) (j := 3) hit hi hc (by omega)]
  rw [hpo]
  refine ms_run (pc' := 15) (lv' := [(4, .int (nI own)), (0, .ref m), (1, .int (nI i)), (2, .int 4), (3, .ref fa)]) (st' := [.int 4, .int 4]) _ (ms_deC dX6_costNow_11 (ms_deC dX6_costNow_13 (ms_deC dX6_costNow_14 ms_deN))) rfl rfl ?_
  refine ms_icmp_ne (tgt := 23) dX6_costNow_15 (by decide) (fun h9 => absurd h9 (by decide)) (fun _ => ?_)
  refine ms_run (pc' := 20) (lv' := [(4, .int (nI own)), (0, .ref m), (1, .int (nI i)), (2, .int 4), (3, .ref fa)]) (st' := [.int (nI own)]) _ (ms_deC dX6_costNow_18 ms_deN) rfl rfl ?_
  refine ms_goto (tgt := 30) dX6_costNow_20 (by decide) ?_
  refine ms_run (pc' := 35) (lv' := [(5, .int (nI own)), (4, .int (nI own)), (0, .ref m), (1, .int (nI i)), (2, .int 4), (3, .ref fa)]) (st' := [.int (-1), .int (nI own)]) _ (ms_deC dX6_costNow_30 (ms_deC dX6_costNow_32 (ms_deC dX6_costNow_34 ms_deN))) rfl rfl ?_
  refine ms_icmp_eq (tgt := 61) dX6_costNow_35 (by decide) (fun h_35 => ?_) (fun h_35 => ?_)
  · skip
    exact absurd h_35 (nI_m1 (by omega))
  · skip
    refine ms_run (pc' := 41) (lv' := [(5, .int (nI own)), (4, .int (nI own)), (0, .ref m), (1, .int (nI i)), (2, .int 4), (3, .ref fa)]) (st' := [.int (nI own), .ref fa]) _ (ms_deC dX6_costNow_38 (ms_deC dX6_costNow_39 ms_deN)) rfl rfl ?_
    refine ms_iaload dX6_costNow_41 hfa (vp_in_nI (by omega) (by omega)) ?_
    rw [nI_clamp (n := own) (by omega)]
    refine ms_run (pc' := 43) (lv' := [(5, .int (nI own)), (4, .int (nI own)), (0, .ref m), (1, .int (nI i)), (2, .int 4), (3, .ref fa)]) (st' := [.int (-1), .int (D own)]) _ (ms_deC dX6_costNow_42 ms_deN) rfl rfl ?_
    refine ms_icmp_eq (tgt := 61) dX6_costNow_43 (by decide) (fun h_43 => ?_) (fun h_43 => ?_)
    · skip
      refine ms_run (pc' := 64) (lv' := [(5, .int (nI own)), (4, .int (nI own)), (0, .ref m), (1, .int (nI i)), (2, .int 4), (3, .ref fa)]) (st' := [.int 10000]) _ (ms_deC dX6_costNow_61 ms_deN) rfl rfl ?_
      refine ms_reti (st := []) (ty := .int) dX6_costNow_64 rfl rfl ?_
      exact ms_p1.mk (ms_int_eq (by unfold mcS; rw [if_pos h_43])) rfl
    · skip
      refine ms_run (pc' := 48) (lv' := [(5, .int (nI own)), (4, .int (nI own)), (0, .ref m), (1, .int (nI i)), (2, .int 4), (3, .ref fa)]) (st' := [.int 4, .int 4]) _ (ms_deC dX6_costNow_46 (ms_deC dX6_costNow_47 ms_deN)) rfl rfl ?_
      refine ms_icmp_eq (tgt := 65) dX6_costNow_48 (by decide) (fun _ => ?_) (fun h9 => absurd h9 (by decide))
      refine ms_run (pc' := 70) (lv' := [(5, .int (nI own)), (4, .int (nI own)), (0, .ref m), (1, .int (nI i)), (2, .int 4), (3, .ref fa)]) (st' := [.int (nI own), .ref fa, .int 10]) _ (ms_deC dX6_costNow_65 (ms_deC dX6_costNow_67 (ms_deC dX6_costNow_68 ms_deN))) rfl rfl ?_
      refine ms_iaload dX6_costNow_70 hfa (vp_in_nI (by omega) (by omega)) ?_
      rw [nI_clamp (n := own) (by omega)]
      refine ms_run (pc' := 73) (lv' := [(5, .int (nI own)), (4, .int (nI own)), (0, .ref m), (1, .int (nI i)), (2, .int 4), (3, .ref fa)]) (st' := [.ref m, .int (10 * (D own))]) _ (ms_deC dX6_costNow_71 (ms_deC dX6_costNow_72 ms_deN)) rfl rfl ?_
      refine ms_getf dX6_costNow_73 fg_X6_39 hm rfl ?_
      refine ms_run (pc' := 82) (lv' := [(5, .int (nI own)), (4, .int (nI own)), (0, .ref m), (1, .int (nI i)), (2, .int 4), (3, .ref fa)]) (st' := [.int (((nI i) * 8) + 2), .ref ai, .int (10 * (D own))]) _ (ms_deC dX6_costNow_76 (ms_deC dX6_costNow_77 (ms_deC dX6_costNow_79 (ms_deC dX6_costNow_80 (ms_deC dX6_costNow_81 ms_deN))))) rfl rfl ?_
      refine ms_iaload dX6_costNow_82 hi_ (md_in (k := i) (j := 2) (Nat.lt_of_lt_of_le hi hc) (by omega)) ?_
      rw [show it (((nI i) * 8) + 2).toNatClampNeg = u i 2 from md_it (k := i) (j := 2) hit hi hc (by omega)]
      refine ms_run (pc' := 87) (lv' := [(5, .int (nI own)), (4, .int (nI own)), (0, .ref m), (1, .int (nI i)), (2, .int 4), (3, .ref fa)]) (st' := [.int (nI i), .int (nI own), .ref m, .int (u i 2), .int (10 * (D own))]) _ (ms_deC dX6_costNow_83 (ms_deC dX6_costNow_84 (ms_deC dX6_costNow_86 ms_deN))) rfl rfl ?_
      refine ms_callVp (As := [.int (nI own), .int (nI i)]) dX6_costNow_87 (c_X6_round ⟨hm, hw_, hk_, ⟨it, hi_, hit⟩, hh_⟩ hW hH hc hW0 hv (f := own) (by omega) (nI i)) cv_X6_94 hm rfl ⟨Nat.le_of_ble_eq_true rfl, Nat.le_of_ble_eq_true rfl⟩ rfl (Nat.le_of_ble_eq_true rfl) ?_
      refine ms_run (pc' := 100) (lv' := [(7, .int 0), (6, .int ((10 * (D own)) + ((u i 2) * (nI (ct (pRo W u own (nI i)) cnt))))), (5, .int (nI own)), (4, .int (nI own)), (0, .ref m), (1, .int (nI i)), (2, .int 4), (3, .ref fa)]) (st' := [.ref m, .int 0]) _ (ms_deC dX6_costNow_90 (ms_deC dX6_costNow_91 (ms_deC dX6_costNow_92 (ms_deC dX6_costNow_94 (ms_deC dX6_costNow_95 (ms_deC dX6_costNow_97 (ms_deC dX6_costNow_99 ms_deN))))))) rfl rfl ?_
      refine ms_getf dX6_costNow_100 fg_X6_36 hm rfl ?_
      refine ms_icmp_ge (tgt := 179) dX6_costNow_103 (by decide) (fun h_103 => ?_) (fun h_103 => ?_)
      · skip
        refine ms_run (pc' := 181) (lv' := [(7, .int 0), (6, .int ((10 * (D own)) + ((u i 2) * (nI (ct (pRo W u own (nI i)) cnt))))), (5, .int (nI own)), (4, .int (nI own)), (0, .ref m), (1, .int (nI i)), (2, .int 4), (3, .ref fa)]) (st' := [.int ((10 * (D own)) + ((u i 2) * (nI (ct (pRo W u own (nI i)) cnt))))]) _ (ms_deC dX6_costNow_179 ms_deN) rfl rfl ?_
        refine ms_reti (st := []) (ty := .int) dX6_costNow_181 rfl rfl ?_
        exact ms_p1.mk (ms_int_eq (by unfold mcS; rw [if_neg h_43])) rfl
      · skip
        refine ms_run (pc' := 108) (lv' := [(7, .int 0), (6, .int ((10 * (D own)) + ((u i 2) * (nI (ct (pRo W u own (nI i)) cnt))))), (5, .int (nI own)), (4, .int (nI own)), (0, .ref m), (1, .int (nI i)), (2, .int 4), (3, .ref fa)]) (st' := [.int 4, .int 4]) _ (ms_deC dX6_costNow_106 (ms_deC dX6_costNow_107 ms_deN)) rfl rfl ?_
        refine ms_icmp_eq (tgt := 179) dX6_costNow_108 (by decide) (fun _ => ?_) (fun h9 => absurd h9 (by decide))
        refine ms_run (pc' := 181) (lv' := [(7, .int 0), (6, .int ((10 * (D own)) + ((u i 2) * (nI (ct (pRo W u own (nI i)) cnt))))), (5, .int (nI own)), (4, .int (nI own)), (0, .ref m), (1, .int (nI i)), (2, .int 4), (3, .ref fa)]) (st' := [.int ((10 * (D own)) + ((u i 2) * (nI (ct (pRo W u own (nI i)) cnt))))]) _ (ms_deC dX6_costNow_179 ms_deN) rfl rfl ?_
        refine ms_reti (st := []) (ty := .int) dX6_costNow_181 rfl rfl ?_
        exact ms_p1.mk (ms_int_eq (by unfold mcS; rw [if_neg h_43])) rfl
set_option maxHeartbeats 1000000 in
set_option maxRecDepth 20000 in
theorem l_X6_costNow {n m aw am ai ah W H cnt : Nat} {G : ms_H} {th cl dr pa : Int32} {wl mm ht : Nat → Int32} {u : Nat → Nat → Int32} (hM : md_at G m aw am ai ah W H th cl dr pa cnt wl mm ht u) (hW : W ≤ 14) (hH : H ≤ 14) (hc : cnt ≤ 24) (hW0 : 0 < W) {nr on D : Nat → Int32} (hL : lk_ok W H (W * H) nr) (hon : onV (W * H) cnt u on) (hv : hvX (nI (W * H)) cnt u) {fa : Nat} (hfa : G fa = some (.inl (0, W * H, .inl D))) {i own : Nat} (hi : i < cnt) (hpo : u i 3 = nI own) (ho : own < W * H) {s : Nat} (hs : s < 4) {B T : Int32} : ∀ (r k : Nat), k + r = cnt →  ms_W false m_X6_costNow (ms_p1 (some (.int (B - dr * nI (ct (pFm W u i own (nI s)) cnt)))) n G) 97 [(0, .ref m), (1, .int (nI i)), (2, .int (nI s)), (3, .ref fa), (4, .int (nI own)), (5, .int T), (6, .int (B - dr * nI (ct (pFm W u i own (nI s)) k))), (7, .int (nI k))] [] n G 0 0 := by
  obtain ⟨hm, hw_, hk_, ⟨it, hi_, hit⟩, hh_⟩ := hM
  have h196 := fd_196 hW hH
  intro r
  induction r with
  | zero =>
    intro k hk 
    have hkN : k = cnt := by omega
    refine ms_run (pc' := 100) (lv' := [(0, .ref m), (1, .int (nI i)), (2, .int (nI s)), (3, .ref fa), (4, .int (nI own)), (5, .int T), (6, .int (B - dr * nI (ct (pFm W u i own (nI s)) k))), (7, .int (nI k))]) (st' := [.ref m, .int (nI k)]) _ (ms_deC dX6_costNow_97 (ms_deC dX6_costNow_99 ms_deN)) rfl rfl ?_
    refine ms_getf dX6_costNow_100 fg_X6_36 hm rfl ?_
    refine ms_icmp_ge (tgt := 179) dX6_costNow_103 (by decide) (fun h_103 => ?_) (fun h_103 => ?_)
    · skip
      refine ms_run (pc' := 181) (lv' := [(0, .ref m), (1, .int (nI i)), (2, .int (nI s)), (3, .ref fa), (4, .int (nI own)), (5, .int T), (6, .int (B - dr * nI (ct (pFm W u i own (nI s)) k))), (7, .int (nI k))]) (st' := [.int (B - dr * nI (ct (pFm W u i own (nI s)) k))]) _ (ms_deC dX6_costNow_179 ms_deN) rfl rfl ?_
      refine ms_reti (st := []) (ty := .int) dX6_costNow_181 rfl rfl ?_
      exact ms_p1.mk (by rw [hkN]) rfl
    · skip
      exact absurd (by exact nI_le (b := k) (by omega) (by omega)) h_103
  | succ r ih =>
    intro k hk 
    have hlt : k < cnt := by omega
    refine ms_run (pc' := 100) (lv' := [(0, .ref m), (1, .int (nI i)), (2, .int (nI s)), (3, .ref fa), (4, .int (nI own)), (5, .int T), (6, .int (B - dr * nI (ct (pFm W u i own (nI s)) k))), (7, .int (nI k))]) (st' := [.ref m, .int (nI k)]) _ (ms_deC dX6_costNow_97 (ms_deC dX6_costNow_99 ms_deN)) rfl rfl ?_
    refine ms_getf dX6_costNow_100 fg_X6_36 hm rfl ?_
    refine ms_icmp_ge (tgt := 179) dX6_costNow_103 (by decide) (fun h_103 => ?_) (fun h_103 => ?_)
    · skip
      exact absurd h_103 (by exact nI_ge (b := cnt) (by omega) (by omega))
    · skip
      refine ms_run (pc' := 108) (lv' := [(0, .ref m), (1, .int (nI i)), (2, .int (nI s)), (3, .ref fa), (4, .int (nI own)), (5, .int T), (6, .int (B - dr * nI (ct (pFm W u i own (nI s)) k))), (7, .int (nI k))]) (st' := [.int 4, .int (nI s)]) _ (ms_deC dX6_costNow_106 (ms_deC dX6_costNow_107 ms_deN)) rfl rfl ?_
      refine ms_icmp_eq (tgt := 179) dX6_costNow_108 (by decide) (fun h_108 => ?_) (fun h_108 => ?_)
      · skip
        exact absurd h_108 (show ¬ nI s = 4 from fun z9 => by have := (nI_eq (b := 4) (by omega) (by omega)).mp z9; omega)
      · skip
        refine ms_run (pc' := 112) (lv' := [(0, .ref m), (1, .int (nI i)), (2, .int (nI s)), (3, .ref fa), (4, .int (nI own)), (5, .int T), (6, .int (B - dr * nI (ct (pFm W u i own (nI s)) k))), (7, .int (nI k))]) (st' := [.ref m]) _ (ms_deC dX6_costNow_111 ms_deN) rfl rfl ?_
        refine ms_getf dX6_costNow_112 fg_X6_39 hm rfl ?_
        refine ms_run (pc' := 122) (lv' := [(0, .ref m), (1, .int (nI i)), (2, .int (nI s)), (3, .ref fa), (4, .int (nI own)), (5, .int T), (6, .int (B - dr * nI (ct (pFm W u i own (nI s)) k))), (7, .int (nI k))]) (st' := [.int (((nI k) * 8) + 3), .ref ai]) _ (ms_deC dX6_costNow_115 (ms_deC dX6_costNow_117 (ms_deC dX6_costNow_119 (ms_deC dX6_costNow_120 (ms_deC dX6_costNow_121 ms_deN))))) rfl rfl ?_
        refine ms_iaload dX6_costNow_122 hi_ (md_in (k := k) (j := 3) (Nat.lt_of_lt_of_le hlt hc) (by omega)) ?_
        rw [show it (((nI k) * 8) + 3).toNatClampNeg = u k 3 from md_it (k := k) (j := 3) hit hlt hc (by omega)]
        refine ms_run (pc' := 128) (lv' := [(8, .int (u k 3)), (0, .ref m), (1, .int (nI i)), (2, .int (nI s)), (3, .ref fa), (4, .int (nI own)), (5, .int T), (6, .int (B - dr * nI (ct (pFm W u i own (nI s)) k))), (7, .int (nI k))]) (st' := [.int (nI i), .int (nI k)]) _ (ms_deC dX6_costNow_123 (ms_deC dX6_costNow_125 (ms_deC dX6_costNow_127 ms_deN))) rfl rfl ?_
        refine ms_icmp_eq (tgt := 173) dX6_costNow_128 (by decide) (fun h_128 => ?_) (fun h_128 => ?_)
        · skip
          refine ms_run (pc' := 176) (lv' := [(7, .int ((nI k) + 1)), (8, .int (u k 3)), (0, .ref m), (1, .int (nI i)), (2, .int (nI s)), (3, .ref fa), (4, .int (nI own)), (5, .int T), (6, .int (B - dr * nI (ct (pFm W u i own (nI s)) k)))]) (st' := []) _ (ms_deC dX6_costNow_173 ms_deN) rfl rfl ?_
          refine ms_goto (tgt := 97) dX6_costNow_176 (by decide) ?_
          have hp : (pFm W u i own (nI s)) k = false := decide_eq_false (fun z9 => by first | exact z9.1 ((nI_eq (by omega) (by omega)).mp h_128) | exact z9.2.1 h_134 | exact h_161 z9.2.2.2 | exact har (by have := z9.2.2.1; rw [hoe, nI_clamp (by omega)] at this; exact this))
          rw [show ct (pFm W u i own (nI s)) k = ct (pFm W u i own (nI s)) (k + 1) from by show _ = _ + (if (pFm W u i own (nI s)) k = true then 1 else 0); rw [hp]; rfl]
          rw [nI_1 k]
          refine ms_W.sub (lv2 := [(0, _), (1, _), (2, _), (3, _), (4, _), (5, _), (6, _), (7, _)]) ?_ [2, 3, 4, 5, 6, 7, 8, 0] rfl
          exact ih (k + 1) (by omega)
        · skip
          refine ms_run (pc' := 134) (lv' := [(8, .int (u k 3)), (0, .ref m), (1, .int (nI i)), (2, .int (nI s)), (3, .ref fa), (4, .int (nI own)), (5, .int T), (6, .int (B - dr * nI (ct (pFm W u i own (nI s)) k))), (7, .int (nI k))]) (st' := [.int (-1), .int (u k 3)]) _ (ms_deC dX6_costNow_131 (ms_deC dX6_costNow_133 ms_deN)) rfl rfl ?_
          refine ms_icmp_eq (tgt := 173) dX6_costNow_134 (by decide) (fun h_134 => ?_) (fun h_134 => ?_)
          · skip
            refine ms_run (pc' := 176) (lv' := [(7, .int ((nI k) + 1)), (8, .int (u k 3)), (0, .ref m), (1, .int (nI i)), (2, .int (nI s)), (3, .ref fa), (4, .int (nI own)), (5, .int T), (6, .int (B - dr * nI (ct (pFm W u i own (nI s)) k)))]) (st' := []) _ (ms_deC dX6_costNow_173 ms_deN) rfl rfl ?_
            refine ms_goto (tgt := 97) dX6_costNow_176 (by decide) ?_
            have hp : (pFm W u i own (nI s)) k = false := decide_eq_false (fun z9 => by first | exact z9.1 ((nI_eq (by omega) (by omega)).mp h_128) | exact z9.2.1 h_134 | exact h_161 z9.2.2.2 | exact har (by have := z9.2.2.1; rw [hoe, nI_clamp (by omega)] at this; exact this))
            rw [show ct (pFm W u i own (nI s)) k = ct (pFm W u i own (nI s)) (k + 1) from by show _ = _ + (if (pFm W u i own (nI s)) k = true then 1 else 0); rw [hp]; rfl]
            rw [nI_1 k]
            refine ms_W.sub (lv2 := [(0, _), (1, _), (2, _), (3, _), (4, _), (5, _), (6, _), (7, _)]) ?_ [2, 3, 4, 5, 6, 7, 8, 0] rfl
            exact ih (k + 1) (by omega)
          · skip
            refine ms_run (pc' := 142) (lv' := [(8, .int (u k 3)), (0, .ref m), (1, .int (nI i)), (2, .int (nI s)), (3, .ref fa), (4, .int (nI own)), (5, .int T), (6, .int (B - dr * nI (ct (pFm W u i own (nI s)) k))), (7, .int (nI k))]) (st' := [.int (u k 3), .int (nI own), .ref m]) _ (ms_deC dX6_costNow_137 (ms_deC dX6_costNow_138 (ms_deC dX6_costNow_140 ms_deN))) rfl rfl ?_
            obtain ⟨o, ho9, hoe⟩ := has_nat ((hv k hlt).resolve_left h_134)
            rw [hoe]
            refine ms_callVp (As := [.int (nI own), .int (nI o)]) dX6_costNow_142 (c_X6_areRound ⟨hm, hw_, hk_, ⟨it, hi_, hit⟩, hh_⟩ hW hH hc hW0 (f := own) (o := o) (by omega) (by omega)) cv_X6_67 hm rfl ⟨Nat.le_of_ble_eq_true rfl, Nat.le_of_ble_eq_true rfl⟩ rfl (Nat.le_of_ble_eq_true rfl) ?_
            by_cases har : arR W own o
            · rw [show ms_b (arR W own o) = 1 from if_pos har]
              refine ms_if_eq (tgt := 173) dX6_costNow_145 (by decide) (fun h9 => absurd h9 (by decide)) (fun _ => ?_)
              refine ms_run (pc' := 149) (lv' := [(8, .int (nI o)), (0, .ref m), (1, .int (nI i)), (2, .int (nI s)), (3, .ref fa), (4, .int (nI own)), (5, .int T), (6, .int (B - dr * nI (ct (pFm W u i own (nI s)) k))), (7, .int (nI k))]) (st' := [.ref m]) _ (ms_deC dX6_costNow_148 ms_deN) rfl rfl ?_
              refine ms_getf dX6_costNow_149 fg_X6_39 hm rfl ?_
              refine ms_run (pc' := 159) (lv' := [(8, .int (nI o)), (0, .ref m), (1, .int (nI i)), (2, .int (nI s)), (3, .ref fa), (4, .int (nI own)), (5, .int T), (6, .int (B - dr * nI (ct (pFm W u i own (nI s)) k))), (7, .int (nI k))]) (st' := [.int (((nI k) * 8) + 4), .ref ai]) _ (ms_deC dX6_costNow_152 (ms_deC dX6_costNow_154 (ms_deC dX6_costNow_156 (ms_deC dX6_costNow_157 (ms_deC dX6_costNow_158 ms_deN))))) rfl rfl ?_
              refine ms_iaload dX6_costNow_159 hi_ (md_in (k := k) (j := 4) (Nat.lt_of_lt_of_le hlt hc) (by omega)) ?_
              rw [show it (((nI k) * 8) + 4).toNatClampNeg = u k 4 from md_it (k := k) (j := 4) hit hlt hc (by omega)]
              refine ms_run (pc' := 161) (lv' := [(8, .int (nI o)), (0, .ref m), (1, .int (nI i)), (2, .int (nI s)), (3, .ref fa), (4, .int (nI own)), (5, .int T), (6, .int (B - dr * nI (ct (pFm W u i own (nI s)) k))), (7, .int (nI k))]) (st' := [.int (nI s), .int (u k 4)]) _ (ms_deC dX6_costNow_160 ms_deN) rfl rfl ?_
              refine ms_icmp_ne (tgt := 173) dX6_costNow_161 (by decide) (fun h_161 => ?_) (fun h_161 => ?_)
              · skip
                refine ms_run (pc' := 176) (lv' := [(7, .int ((nI k) + 1)), (8, .int (nI o)), (0, .ref m), (1, .int (nI i)), (2, .int (nI s)), (3, .ref fa), (4, .int (nI own)), (5, .int T), (6, .int (B - dr * nI (ct (pFm W u i own (nI s)) k)))]) (st' := []) _ (ms_deC dX6_costNow_173 ms_deN) rfl rfl ?_
                refine ms_goto (tgt := 97) dX6_costNow_176 (by decide) ?_
                have hp : (pFm W u i own (nI s)) k = false := decide_eq_false (fun z9 => by first | exact z9.1 ((nI_eq (by omega) (by omega)).mp h_128) | exact z9.2.1 h_134 | exact h_161 z9.2.2.2 | exact har (by have := z9.2.2.1; rw [hoe, nI_clamp (by omega)] at this; exact this))
                rw [show ct (pFm W u i own (nI s)) k = ct (pFm W u i own (nI s)) (k + 1) from by show _ = _ + (if (pFm W u i own (nI s)) k = true then 1 else 0); rw [hp]; rfl]
                rw [nI_1 k]
                refine ms_W.sub (lv2 := [(0, _), (1, _), (2, _), (3, _), (4, _), (5, _), (6, _), (7, _)]) ?_ [2, 3, 4, 5, 6, 7, 8, 0] rfl
                exact ih (k + 1) (by omega)
              · skip
                refine ms_run (pc' := 167) (lv' := [(8, .int (nI o)), (0, .ref m), (1, .int (nI i)), (2, .int (nI s)), (3, .ref fa), (4, .int (nI own)), (5, .int T), (6, .int (B - dr * nI (ct (pFm W u i own (nI s)) k))), (7, .int (nI k))]) (st' := [.ref m, .int (B - dr * nI (ct (pFm W u i own (nI s)) k))]) _ (ms_deC dX6_costNow_164 (ms_deC dX6_costNow_166 ms_deN)) rfl rfl ?_
                refine ms_getf dX6_costNow_167 fg_X6_7 hm rfl ?_
                refine ms_run (pc' := 176) (lv' := [(7, .int ((nI k) + 1)), (6, .int ((B - dr * nI (ct (pFm W u i own (nI s)) k)) - dr)), (8, .int (nI o)), (0, .ref m), (1, .int (nI i)), (2, .int (nI s)), (3, .ref fa), (4, .int (nI own)), (5, .int T)]) (st' := []) _ (ms_deC dX6_costNow_170 (ms_deC dX6_costNow_171 (ms_deC dX6_costNow_173 ms_deN))) rfl rfl ?_
                refine ms_goto (tgt := 97) dX6_costNow_176 (by decide) ?_
                have hp : (pFm W u i own (nI s)) k = true := decide_eq_true ⟨fun z9 => h_128 (by rw [z9]), h_134, by rw [hoe, nI_clamp (by omega)]; exact har, by first | exact h_161 | exact Decidable.not_not.mp h_161⟩
                rw [pf_t, show ct (pFm W u i own (nI s)) k + 1 = ct (pFm W u i own (nI s)) (k + 1) from by show _ = _ + (if (pFm W u i own (nI s)) k = true then 1 else 0); rw [if_pos hp]]
                rw [nI_1 k]
                refine ms_W.sub (lv2 := [(0, _), (1, _), (2, _), (3, _), (4, _), (5, _), (6, _), (7, _)]) ?_ [3, 4, 5, 6, 7, 8, 1, 0] rfl
                exact ih (k + 1) (by omega)
            · rw [show ms_b (arR W own o) = 0 from if_neg har]
              refine ms_if_eq (tgt := 173) dX6_costNow_145 (by decide) (fun _ => ?_) (fun h9 => absurd h9 (by decide))
              refine ms_run (pc' := 176) (lv' := [(7, .int ((nI k) + 1)), (8, .int (nI o)), (0, .ref m), (1, .int (nI i)), (2, .int (nI s)), (3, .ref fa), (4, .int (nI own)), (5, .int T), (6, .int (B - dr * nI (ct (pFm W u i own (nI s)) k)))]) (st' := []) _ (ms_deC dX6_costNow_173 ms_deN) rfl rfl ?_
              refine ms_goto (tgt := 97) dX6_costNow_176 (by decide) ?_
              have hp : (pFm W u i own (nI s)) k = false := decide_eq_false (fun z9 => by first | exact z9.1 ((nI_eq (by omega) (by omega)).mp h_128) | exact z9.2.1 h_134 | exact h_161 z9.2.2.2 | exact har (by have := z9.2.2.1; rw [hoe, nI_clamp (by omega)] at this; exact this))
              rw [show ct (pFm W u i own (nI s)) k = ct (pFm W u i own (nI s)) (k + 1) from by show _ = _ + (if (pFm W u i own (nI s)) k = true then 1 else 0); rw [hp]; rfl]
              rw [nI_1 k]
              refine ms_W.sub (lv2 := [(0, _), (1, _), (2, _), (3, _), (4, _), (5, _), (6, _), (7, _)]) ?_ [2, 3, 4, 5, 6, 7, 8, 0] rfl
              exact ih (k + 1) (by omega)
set_option maxHeartbeats 2000000 in
set_option maxRecDepth 20000 in
theorem c_X6_costMove {n m aw am ai ah W H cnt : Nat} {G : ms_H} {th cl dr pa : Int32} {wl mm ht : Nat → Int32} {u : Nat → Nat → Int32} (hM : md_at G m aw am ai ah W H th cl dr pa cnt wl mm ht u) (hW : W ≤ 14) (hH : H ≤ 14) (hc : cnt ≤ 24) (hW0 : 0 < W) {nr on D : Nat → Int32} (hL : lk_ok W H (W * H) nr) (hon : onV (W * H) cnt u on) (hv : hvX (nI (W * H)) cnt u) {fa : Nat} (hfa : G fa = some (.inl (0, W * H, .inl D))) {i own : Nat} (hi : i < cnt) (hpo : u i 3 = nI own) (ho : own < W * H) {s : Nat} (hs : s < 4) : ms_M m_X6_costNow [.ref m, .int (nI i), .int (nI s), .ref fa] n G 0 0 (ms_p1 (some (.int (mcM W cnt nr on dr u D i own s))) n G) := by
  refine ms_M.of (by decide) (Nat.le_of_ble_eq_true rfl) ?_
  show ms_W false m_X6_costNow _ 0 [(0, .ref m), (1, .int (nI i)), (2, .int (nI s)), (3, .ref fa)] [] n G 0 0
  obtain ⟨hm, hw_, hk_, ⟨it, hi_, hit⟩, hh_⟩ := hM
  have h196 := fd_196 hW hH
  refine ms_run (pc' := 1) (lv' := [(0, .ref m), (1, .int (nI i)), (2, .int (nI s)), (3, .ref fa)]) (st' := [.ref m]) _ (ms_deC dX6_costNow_0 ms_deN) rfl rfl ?_
  refine ms_getf dX6_costNow_1 fg_X6_39 hm rfl ?_
  refine ms_run (pc' := 10) (lv' := [(0, .ref m), (1, .int (nI i)), (2, .int (nI s)), (3, .ref fa)]) (st' := [.int (((nI i) * 8) + 3), .ref ai]) _ (ms_deC dX6_costNow_4 (ms_deC dX6_costNow_5 (ms_deC dX6_costNow_7 (ms_deC dX6_costNow_8 (ms_deC dX6_costNow_9 ms_deN))))) rfl rfl ?_
  refine ms_iaload dX6_costNow_10 hi_ (md_in (k := i) (j := 3) (Nat.lt_of_lt_of_le hi hc) (by omega)) ?_
  rw [show it (((nI i) * 8) + 3).toNatClampNeg = u i 3 from md_it (k := i) (j := 3) hit hi hc (by omega)]
  rw [hpo]
  refine ms_run (pc' := 15) (lv' := [(4, .int (nI own)), (0, .ref m), (1, .int (nI i)), (2, .int (nI s)), (3, .ref fa)]) (st' := [.int 4, .int (nI s)]) _ (ms_deC dX6_costNow_11 (ms_deC dX6_costNow_13 (ms_deC dX6_costNow_14 ms_deN))) rfl rfl ?_
  refine ms_icmp_ne (tgt := 23) dX6_costNow_15 (by decide) (fun h_15 => ?_) (fun h_15 => ?_)
  · skip
    refine ms_run (pc' := 27) (lv' := [(4, .int (nI own)), (0, .ref m), (1, .int (nI i)), (2, .int (nI s)), (3, .ref fa)]) (st' := [.int (nI s), .int (nI own), .ref m]) _ (ms_deC dX6_costNow_23 (ms_deC dX6_costNow_24 (ms_deC dX6_costNow_26 ms_deN))) rfl rfl ?_
    refine ms_callVp (As := [.int (nI own), .int (nI s)]) dX6_costNow_27 (c_X6_beside ⟨hm, hw_, hk_, ⟨it, hi_, hit⟩, hh_⟩ hW hH hc hW0 hL ho (s := s) hs) cv_X6_70 hm rfl ⟨Nat.le_of_ble_eq_true rfl, Nat.le_of_ble_eq_true rfl⟩ rfl (Nat.le_of_ble_eq_true rfl) ?_
    refine ms_run (pc' := 35) (lv' := [(5, .int (nbX nr own s)), (4, .int (nI own)), (0, .ref m), (1, .int (nI i)), (2, .int (nI s)), (3, .ref fa)]) (st' := [.int (-1), .int (nbX nr own s)]) _ (ms_deC dX6_costNow_30 (ms_deC dX6_costNow_32 (ms_deC dX6_costNow_34 ms_deN))) rfl rfl ?_
    refine ms_icmp_eq (tgt := 61) dX6_costNow_35 (by decide) (fun h_35 => ?_) (fun h_35 => ?_)
    · skip
      unfold mcM
      refine ms_run (pc' := 64) (lv' := [(5, .int (nbX nr own s)), (4, .int (nI own)), (0, .ref m), (1, .int (nI i)), (2, .int (nI s)), (3, .ref fa)]) (st' := [.int 10000]) _ (ms_deC dX6_costNow_61 ms_deN) rfl rfl ?_
      refine ms_reti (st := []) (ty := .int) dX6_costNow_64 rfl rfl ?_
      exact ms_p1.mk (ms_int_eq (if_pos (by first | exact Or.inl h_35 | exact Or.inr (Or.inl h_43) | exact Or.inr (Or.inr h_58))).symm) rfl
    · skip
      obtain ⟨o, ho9, hoe⟩ := (nbX_val hL ho hW hH (s := s) (by omega)).resolve_left h_35
      unfold mcM
      rw [hoe, nI_clamp (n := o) (by omega)]
      refine ms_run (pc' := 41) (lv' := [(5, .int (nI o)), (4, .int (nI own)), (0, .ref m), (1, .int (nI i)), (2, .int (nI s)), (3, .ref fa)]) (st' := [.int (nI o), .ref fa]) _ (ms_deC dX6_costNow_38 (ms_deC dX6_costNow_39 ms_deN)) rfl rfl ?_
      refine ms_iaload dX6_costNow_41 hfa (vp_in_nI (by omega) (by omega)) ?_
      rw [nI_clamp (n := o) (by omega)]
      refine ms_run (pc' := 43) (lv' := [(5, .int (nI o)), (4, .int (nI own)), (0, .ref m), (1, .int (nI i)), (2, .int (nI s)), (3, .ref fa)]) (st' := [.int (-1), .int (D o)]) _ (ms_deC dX6_costNow_42 ms_deN) rfl rfl ?_
      refine ms_icmp_eq (tgt := 61) dX6_costNow_43 (by decide) (fun h_43 => ?_) (fun h_43 => ?_)
      · skip
        refine ms_run (pc' := 64) (lv' := [(5, .int (nI o)), (4, .int (nI own)), (0, .ref m), (1, .int (nI i)), (2, .int (nI s)), (3, .ref fa)]) (st' := [.int 10000]) _ (ms_deC dX6_costNow_61 ms_deN) rfl rfl ?_
        refine ms_reti (st := []) (ty := .int) dX6_costNow_64 rfl rfl ?_
        exact ms_p1.mk (ms_int_eq (if_pos (by first | exact Or.inl h_35 | exact Or.inr (Or.inl h_43) | exact Or.inr (Or.inr h_58))).symm) rfl
      · skip
        refine ms_run (pc' := 48) (lv' := [(5, .int (nI o)), (4, .int (nI own)), (0, .ref m), (1, .int (nI i)), (2, .int (nI s)), (3, .ref fa)]) (st' := [.int 4, .int (nI s)]) _ (ms_deC dX6_costNow_46 (ms_deC dX6_costNow_47 ms_deN)) rfl rfl ?_
        refine ms_icmp_eq (tgt := 65) dX6_costNow_48 (by decide) (fun h_48 => ?_) (fun h_48 => ?_)
        · skip
          exact absurd h_48 (show ¬ nI s = 4 from fun z9 => by have := (nI_eq (b := 4) (by omega) (by omega)).mp z9; omega)
        · skip
          refine ms_run (pc' := 54) (lv' := [(5, .int (nI o)), (4, .int (nI own)), (0, .ref m), (1, .int (nI i)), (2, .int (nI s)), (3, .ref fa)]) (st' := [.int (nI o), .ref m]) _ (ms_deC dX6_costNow_51 (ms_deC dX6_costNow_52 ms_deN)) rfl rfl ?_
          refine ms_callVp (As := [.int (nI o)]) dX6_costNow_54 (c_X6_walkerOn ⟨hm, hw_, hk_, ⟨it, hi_, hit⟩, hh_⟩ hW hH hc hon (f := o) ho9) cv_X6_88 hm rfl ⟨Nat.le_of_ble_eq_true rfl, Nat.le_of_ble_eq_true rfl⟩ rfl (Nat.le_of_ble_eq_true rfl) ?_
          refine ms_run (pc' := 58) (lv' := [(5, .int (nI o)), (4, .int (nI own)), (0, .ref m), (1, .int (nI i)), (2, .int (nI s)), (3, .ref fa)]) (st' := [.int (-1), .int (on o)]) _ (ms_deC dX6_costNow_57 ms_deN) rfl rfl ?_
          refine ms_icmp_eq (tgt := 65) dX6_costNow_58 (by decide) (fun h_58 => ?_) (fun h_58 => ?_)
          · skip
            refine ms_run (pc' := 70) (lv' := [(5, .int (nI o)), (4, .int (nI own)), (0, .ref m), (1, .int (nI i)), (2, .int (nI s)), (3, .ref fa)]) (st' := [.int (nI o), .ref fa, .int 10]) _ (ms_deC dX6_costNow_65 (ms_deC dX6_costNow_67 (ms_deC dX6_costNow_68 ms_deN))) rfl rfl ?_
            refine ms_iaload dX6_costNow_70 hfa (vp_in_nI (by omega) (by omega)) ?_
            rw [nI_clamp (n := o) (by omega)]
            refine ms_run (pc' := 73) (lv' := [(5, .int (nI o)), (4, .int (nI own)), (0, .ref m), (1, .int (nI i)), (2, .int (nI s)), (3, .ref fa)]) (st' := [.ref m, .int (10 * (D o))]) _ (ms_deC dX6_costNow_71 (ms_deC dX6_costNow_72 ms_deN)) rfl rfl ?_
            refine ms_getf dX6_costNow_73 fg_X6_39 hm rfl ?_
            refine ms_run (pc' := 82) (lv' := [(5, .int (nI o)), (4, .int (nI own)), (0, .ref m), (1, .int (nI i)), (2, .int (nI s)), (3, .ref fa)]) (st' := [.int (((nI i) * 8) + 2), .ref ai, .int (10 * (D o))]) _ (ms_deC dX6_costNow_76 (ms_deC dX6_costNow_77 (ms_deC dX6_costNow_79 (ms_deC dX6_costNow_80 (ms_deC dX6_costNow_81 ms_deN))))) rfl rfl ?_
            refine ms_iaload dX6_costNow_82 hi_ (md_in (k := i) (j := 2) (Nat.lt_of_lt_of_le hi hc) (by omega)) ?_
            rw [show it (((nI i) * 8) + 2).toNatClampNeg = u i 2 from md_it (k := i) (j := 2) hit hi hc (by omega)]
            refine ms_run (pc' := 87) (lv' := [(5, .int (nI o)), (4, .int (nI own)), (0, .ref m), (1, .int (nI i)), (2, .int (nI s)), (3, .ref fa)]) (st' := [.int (nI i), .int (nI o), .ref m, .int (u i 2), .int (10 * (D o))]) _ (ms_deC dX6_costNow_83 (ms_deC dX6_costNow_84 (ms_deC dX6_costNow_86 ms_deN))) rfl rfl ?_
            refine ms_callVp (As := [.int (nI o), .int (nI i)]) dX6_costNow_87 (c_X6_round ⟨hm, hw_, hk_, ⟨it, hi_, hit⟩, hh_⟩ hW hH hc hW0 hv (f := o) (by omega) (nI i)) cv_X6_94 hm rfl ⟨Nat.le_of_ble_eq_true rfl, Nat.le_of_ble_eq_true rfl⟩ rfl (Nat.le_of_ble_eq_true rfl) ?_
            refine ms_run (pc' := 97) (lv' := [(7, .int 0), (6, .int ((10 * (D o)) + ((u i 2) * (nI (ct (pRo W u o (nI i)) cnt))))), (5, .int (nI o)), (4, .int (nI own)), (0, .ref m), (1, .int (nI i)), (2, .int (nI s)), (3, .ref fa)]) (st' := []) _ (ms_deC dX6_costNow_90 (ms_deC dX6_costNow_91 (ms_deC dX6_costNow_92 (ms_deC dX6_costNow_94 (ms_deC dX6_costNow_95 ms_deN))))) rfl rfl ?_
            have hno9 : ¬ (nI o = -1 ∨ D o = -1 ∨ ¬ on o = -1) := by rintro (z9 | z9 | z9); exact nI_m1 (by omega) z9; exact h_43 z9; exact z9 (by first | exact h_58 | exact Decidable.not_not.mp h_58)
            rw [if_neg hno9]
            have e0 : (10 * (D o)) + ((u i 2) * (nI (ct (pRo W u o (nI i)) cnt))) = ((10 * (D o)) + ((u i 2) * (nI (ct (pRo W u o (nI i)) cnt)))) - dr * nI (ct (pFm W u i own (nI s)) 0) := by show _ = _ - dr * 0; grind
            have h7 := l_X6_costNow (n := n) (dr := dr) (B := (10 * (D o)) + ((u i 2) * (nI (ct (pRo W u o (nI i)) cnt)))) (T := nI o) ⟨hm, hw_, hk_, ⟨it, hi_, hit⟩, hh_⟩ hW hH hc hW0 hL hon hv hfa hi hpo ho hs cnt 0 (by omega)
            rw [← e0] at h7
            refine ms_W.sub (lv2 := [(0, _), (1, _), (2, _), (3, _), (4, _), (5, _), (6, _), (7, _)]) ?_ [4, 5, 6, 7, 3, 2, 1, 0] rfl
            exact h7
          · skip
            refine ms_run (pc' := 64) (lv' := [(5, .int (nI o)), (4, .int (nI own)), (0, .ref m), (1, .int (nI i)), (2, .int (nI s)), (3, .ref fa)]) (st' := [.int 10000]) _ (ms_deC dX6_costNow_61 ms_deN) rfl rfl ?_
            refine ms_reti (st := []) (ty := .int) dX6_costNow_64 rfl rfl ?_
            exact ms_p1.mk (ms_int_eq (if_pos (by first | exact Or.inl h_35 | exact Or.inr (Or.inl h_43) | exact Or.inr (Or.inr h_58))).symm) rfl
  · skip
    exact absurd h_15 (show ¬ nI s = 4 from fun z9 => by have := (nI_eq (b := 4) (by omega) (by omega)).mp z9; omega)

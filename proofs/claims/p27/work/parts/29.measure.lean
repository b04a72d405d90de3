/-! Square: measure, measureAll -/
theorem filt_ext {st : Nat → Bool} {nf : Nat} (h : ∀ f, nf ≤ f → st f = false) : ∀ m, nf ≤ m → (List.range m).filter st = (List.range nf).filter st
  | 0, h0 => by rw [show nf = 0 by omega]
  | m + 1, h0 => by
    by_cases e : nf = m + 1
    · rw [e]
    · rw [List.range_succ, List.filter_append, filt_ext h m (by omega)]
      simp [h m (by omega)]
theorem filt_le {st : Nat → Bool} (m : Nat) : ((List.range m).filter st).length ≤ m := by
  have := List.length_filter_le st (List.range m)
  simpa using this
theorem filt_t {st : Nat → Bool} {m : Nat} (h : st m = true) : (List.range (m + 1)).filter st = (List.range m).filter st ++ [m] := by
  rw [List.range_succ, List.filter_append]
  simp [h]
theorem filt_f {st : Nat → Bool} {m : Nat} (h : st m = false) : (List.range (m + 1)).filter st = (List.range m).filter st := by
  rw [List.range_succ, List.filter_append]
  simp [h]
theorem bfM_s {nb : Nat → Nat → Int32} {fr : Nat → Bool} {r h f : Nat} {S : bf_S} (hk : S.2[h]? = some f) : bfM nb fr (r + 1) h S = bfM nb fr r (h + 1) (bfS nb fr f S 4) := by
  show (match S.2[h]? with
    | some f => bfM nb fr r (h + 1) (bfS nb fr f S 4)
    | none => S) = _
  rw [hk]
theorem bfM_n {nb : Nat → Nat → Int32} {fr : Nat → Bool} {r h : Nat} {S : bf_S} (hk : S.2[h]? = none) : bfM nb fr (r + 1) h S = S := by
  show (match S.2[h]? with
    | some f => bfM nb fr r (h + 1) (bfS nb fr f S 4)
    | none => S) = _
  rw [hk]
/-- the first k numbers of a row written -/
def bfI (st : Nat → Bool) (d : Nat → Int32) (k : Nat) : Nat → Int32 := fun f => if f < k then (if st f then 0 else -1) else d f
theorem bfI_t {st : Nat → Bool} {d : Nat → Int32} {k : Nat} (h : st k = true) : upd (bfI st d k) k 0 = bfI st d (k + 1) := by
  funext f
  unfold upd bfI
  by_cases e : f = k
  · subst e; simp [h]
  · rw [if_neg e]
    by_cases h1 : f < k
    · rw [if_pos h1, if_pos (show f < k + 1 by omega)]
    · rw [if_neg h1, if_neg (show ¬ f < k + 1 by omega)]
theorem bfI_f {st : Nat → Bool} {d : Nat → Int32} {k : Nat} (h : st k = false) : upd (bfI st d k) k (-1) = bfI st d (k + 1) := by
  funext f
  unfold upd bfI
  by_cases e : f = k
  · subst e; simp [h]
  · rw [if_neg e]
    by_cases h1 : f < k
    · rw [if_pos h1, if_pos (show f < k + 1 by omega)]
    · rw [if_neg h1, if_neg (show ¬ f < k + 1 by omega)]
theorem stX_t {fl : Int32} {nf gi k : Nat} {wl mk : Nat → Int32} (hf : fl = nI nf) (h9 : nf ≤ 196) (hk : k < 196) (h1 : sq_fr fl wl (nI k)) (h2 : sq_mk fl mk (nI gi) (nI k)) : stX nf wl mk gi k = true := by
  obtain ⟨j, hj, e, hw⟩ := sq_frJ hf h9 h1
  have e2 := (nI_eq (by omega) (by omega)).mp e
  subst e2
  have h3 := h2.2.2
  rw [nI_clamp (by omega)] at h3
  exact decide_eq_true ⟨hj, hw, h3⟩
theorem stX_f1 {fl : Int32} {nf gi k : Nat} {wl mk : Nat → Int32} (hf : fl = nI nf) (h9 : nf ≤ 196) (hk : k < 196) (h1 : ¬ sq_fr fl wl (nI k)) : stX nf wl mk gi k = false :=
  decide_eq_false (fun z => h1 ((sq_frI hf h9).mpr ⟨nI_pos' (by omega), by rw [nI_clamp (by omega)]; exact decide_eq_true ⟨z.1, z.2.1⟩⟩))
theorem stX_f2 {fl : Int32} {nf gi k : Nat} {wl mk : Nat → Int32} (hf : fl = nI nf) (h9 : nf ≤ 196) (hg : gi < 4) (hk : k < 196) (h1 : sq_fr fl wl (nI k)) (h2 : ¬ sq_mk fl mk (nI gi) (nI k)) : stX nf wl mk gi k = false :=
  decide_eq_false (fun z => h2 ⟨gl_isI hg, h1.1, by rw [nI_clamp (by omega)]; exact z.2.2⟩)
abbrev dXg (nf : Nat) (nr wl mk : Nat → Int32) (gi : Nat) : Nat → Int32 := bfD (nbX nr) (frX nf wl) (stX nf wl mk gi) nf
def dXa (nf : Nat) (nr wl mk ds : Nat → Int32) : Nat → Nat → Int32
  | 0 => ds
  | k + 1 => rq nf (dXa nf nr wl mk ds k) k (dXg nf nr wl mk k)
set_option maxHeartbeats 1000000 in
set_option maxRecDepth 20000 in
theorem l2_X3_measure {n g q : Nat} {G : ms_H} {fl w h : Int32} {nr wl mk ds : Nat → Int32} {nf gi : Nat} (hs : g + 1 < q) (hf : fl = nI nf) (h9 : nf ≤ 196) (hg : gi < 4) : ∀ (r k : Nat), k + r = nf → ∀ (K : ms_H) (qu : Nat → Int32) (S : bf_S), bfJ nf S → gr_at K g fl w h nr → sq_at K g q wl mk (rq nf ds gi S.1) qu → bf_q S.2 qu → ms_fr q 5 G K → ms_W false m_X3_measure (sq_P g q n G wl mk (rq nf ds gi (bfM (nbX nr) (frX nf wl) r k S).1)) 79 [(0, .ref q), (1, .int (nI gi)), (2, .int (nI S.2.length)), (3, .int (nI k))] [] n K 0 0 := by
  intro r
  induction r with
  | zero =>
    intro k hk K qu S hJ hG hQ hU hF
    have hkN : k = nf := by omega
    refine ms_run (pc' := 81) (lv' := [(0, .ref q), (1, .int (nI gi)), (2, .int (nI S.2.length)), (3, .int (nI k))]) (st' := [.int (nI S.2.length), .int (nI k)]) _ (ms_deC dX3_measure_79 (ms_deC dX3_measure_80 ms_deN)) rfl rfl ?_
    refine ms_icmp_ge (tgt := 110) dX3_measure_81 (by decide) (fun h_81 => ?_) (fun h_81 => ?_)
    · skip
      refine ms_retv (st := []) dX3_measure_110 rfl ?_
      exact ⟨rfl, rfl, ⟨_, hQ⟩, hF⟩
    · skip
      exact absurd (nI_le (by have := hJ.len; omega) (by omega)) h_81
  | succ r ih =>
    intro k hk K qu S hJ hG hQ hU hF
    have hlt : k < nf := by omega
    refine ms_run (pc' := 81) (lv' := [(0, .ref q), (1, .int (nI gi)), (2, .int (nI S.2.length)), (3, .int (nI k))]) (st' := [.int (nI S.2.length), .int (nI k)]) _ (ms_deC dX3_measure_79 (ms_deC dX3_measure_80 ms_deN)) rfl rfl ?_
    refine ms_icmp_ge (tgt := 110) dX3_measure_81 (by decide) (fun h_81 => ?_) (fun h_81 => ?_)
    · skip
      have e7 : bfM (nbX nr) (frX nf wl) (r + 1) k S = S := bfM_n (List.getElem?_eq_none (Nat.not_lt.mp (fun z => (nI_ge z (by have := hJ.len; omega)) h_81)))
      refine ms_retv (st := []) dX3_measure_110 rfl ?_
      exact ⟨rfl, rfl, ⟨_, by rw [e7]; exact hQ⟩, hF⟩
    · skip
      have hlk : k < S.2.length := Nat.not_le.mp (fun z => h_81 (nI_le z (by omega)))
      obtain ⟨f, hfk⟩ : ∃ f, S.2[k]? = some f := ⟨_, List.getElem?_eq_getElem hlk⟩
      have hfm : f ∈ S.2 := List.mem_of_getElem? hfk
      refine ms_run (pc' := 88) (lv' := [(0, .ref q), (1, .int (nI gi)), (2, .int (nI S.2.length)), (3, .int (nI k))]) (st' := [.int 196, .int (nI k)]) _ (ms_deC dX3_measure_84 (ms_deC dX3_measure_85 ms_deN)) rfl rfl ?_
      refine ms_icmp_ge (tgt := 110) dX3_measure_88 (by decide) (fun h_88 => ?_) (fun h_88 => ?_)
      · skip
        exact absurd h_88 (show ¬ nI 196 ≤ nI k from nI_ge (by omega) (by omega))
      · skip
        refine ms_run (pc' := 94) (lv' := [(0, .ref q), (1, .int (nI gi)), (2, .int (nI S.2.length)), (3, .int (nI k))]) (st' := [.ref q, .int (nI gi), .ref q]) _ (ms_deC dX3_measure_91 (ms_deC dX3_measure_92 (ms_deC dX3_measure_93 ms_deN))) rfl rfl ?_
        refine ms_getf dX3_measure_94 fg_X3_21 hQ.1 rfl ?_
        refine ms_run (pc' := 98) (lv' := [(0, .ref q), (1, .int (nI gi)), (2, .int (nI S.2.length)), (3, .int (nI k))]) (st' := [.int (nI k), .ref (q + 4), .int (nI gi), .ref q]) _ (ms_deC dX3_measure_97 ms_deN) rfl rfl ?_
        refine ms_iaload dX3_measure_98 hQ.2.2.2.2 (vp_in_nI (by omega) (by omega)) ?_
        rw [nI_clamp (by omega), hU k f hfk]
        refine ms_run (pc' := 100) (lv' := [(0, .ref q), (1, .int (nI gi)), (2, .int (nI S.2.length)), (3, .int (nI k))]) (st' := [.int (nI S.2.length), .int (nI f), .int (nI gi), .ref q]) _ (ms_deC dX3_measure_99 ms_deN) rfl rfl ?_
        refine ms_callV0 (As := [.int (nI gi), .int (nI f), .int (nI S.2.length)]) dX3_measure_100 (c_X3_spread hs hf h9 hg (hJ.2.1 f hfm).1 hJ (hJ.2.1 f hfm).2 hG hQ hU) cv_X3_74 hQ.1 rfl ⟨Nat.le_of_ble_eq_true rfl, Nat.le_of_ble_eq_true rfl⟩ rfl (Nat.le_of_ble_eq_true rfl) (fun v9 n9 K_sp hp9 => ?_)
        obtain ⟨hv9, rfl, ⟨qu2, hQ2, hU2⟩, hF2⟩ := hp9
        cases hv9
        have hG_1 : gr_at K_sp g fl w h nr := gr_at.fr hG hF2 (by omega)
        have hF_2 : ms_fr q 5 G K_sp := ms_fr.trans hF (ms_fr.mono hF2 (by omega) (by omega))
        refine ms_run (pc' := 107) (lv' := [(3, .int ((nI k) + 1)), (2, .int (nI (bfS (nbX nr) (frX nf wl) f S 4).2.length)), (0, .ref q), (1, .int (nI gi))]) (st' := []) _ (ms_deC dX3_measure_103 (ms_deC dX3_measure_104 ms_deN)) rfl rfl ?_
        refine ms_goto (tgt := 79) dX3_measure_107 (by decide) ?_
        have h7 := ih (k + 1) (by omega) K_sp qu2 _ (bfS_J hJ h9 (frX_lt (wl := wl)) (hJ.2.1 f hfm).2 4).1 hG_1 hQ2 hU2 hF_2
        have e7 : bfM (nbX nr) (frX nf wl) (r + 1) k S = bfM (nbX nr) (frX nf wl) r (k + 1) (bfS (nbX nr) (frX nf wl) f S 4) := bfM_s hfk
        rw [e7, nI_1 k]
        refine ms_W.sub (lv2 := [(0, _), (1, _), (2, _), (3, _)]) ?_ [2, 3, 1, 0] rfl
        exact h7
set_option maxHeartbeats 1000000 in
set_option maxRecDepth 20000 in
theorem l1_X3_measure {n g q : Nat} {G : ms_H} {fl w h : Int32} {nr wl mk ds : Nat → Int32} {nf gi : Nat} (hs : g + 1 < q) (hf : fl = nI nf) (h9 : nf ≤ 196) (hg : gi < 4) {d : Nat → Int32} : ∀ (r k : Nat), k + r = nf → ∀ (K : ms_H) (qu : Nat → Int32), gr_at K g fl w h nr → sq_at K g q wl mk (rq nf ds gi (bfI (stX nf wl mk gi) d k)) qu → bf_q ((List.range k).filter (stX nf wl mk gi)) qu → ms_fr q 5 G K → ms_W false m_X3_measure (sq_P g q n G wl mk (rq nf ds gi (dXg nf nr wl mk gi))) 4 [(0, .ref q), (1, .int (nI gi)), (2, .int (nI ((List.range k).filter (stX nf wl mk gi)).length)), (3, .int (nI k))] [] n K 0 0 := by
  intro r
  induction r with
  | zero =>
    intro k hk K qu hG hQ hU hF
    have hkN : k = nf := by omega
    refine ms_run (pc' := 6) (lv' := [(0, .ref q), (1, .int (nI gi)), (2, .int (nI ((List.range k).filter (stX nf wl mk gi)).length)), (3, .int (nI k))]) (st' := [.ref q, .int (nI k)]) _ (ms_deC dX3_measure_4 (ms_deC dX3_measure_5 ms_deN)) rfl rfl ?_
    refine ms_getf dX3_measure_6 fg_X3_24 hQ.1 rfl ?_
    refine ms_getf dX3_measure_9 fg_X3_43 hG.1 rfl ?_
    refine ms_icmp_ge (tgt := 77) dX3_measure_12 (by decide) (fun h_12 => ?_) (fun h_12 => ?_)
    · skip
      refine ms_run (pc' := 79) (lv' := [(3, .int 0), (0, .ref q), (1, .int (nI gi)), (2, .int (nI ((List.range k).filter (stX nf wl mk gi)).length))]) (st' := []) _ (ms_deC dX3_measure_77 (ms_deC dX3_measure_78 ms_deN)) rfl rfl ?_
      have e5 : rq nf ds gi (bfI (stX nf wl mk gi) d k) = rq nf ds gi (bf0 (stX nf wl mk gi) nf).1 := rq_congr (fun f hf5 => by unfold bfI bf0; rw [if_pos (by omega)])
      have e6 : (List.range k).filter (stX nf wl mk gi) = (bf0 (stX nf wl mk gi) nf).2 := by rw [hkN]; rfl
      rw [e5] at hQ
      rw [e6] at hU ⊢
      refine ms_W.sub (lv2 := [(0, _), (1, _), (2, _), (3, _)]) ?_ [1, 2, 3, 0] rfl
      exact l2_X3_measure hs hf h9 hg nf 0 (by omega) K qu _ (bf0_J h9) hG hQ hU hF
    · skip
      exact absurd (by rw [hf]; exact nI_le (b := k) (by omega) (by omega)) h_12
  | succ r ih =>
    intro k hk K qu hG hQ hU hF
    have hlt : k < nf := by omega
    refine ms_run (pc' := 6) (lv' := [(0, .ref q), (1, .int (nI gi)), (2, .int (nI ((List.range k).filter (stX nf wl mk gi)).length)), (3, .int (nI k))]) (st' := [.ref q, .int (nI k)]) _ (ms_deC dX3_measure_4 (ms_deC dX3_measure_5 ms_deN)) rfl rfl ?_
    refine ms_getf dX3_measure_6 fg_X3_24 hQ.1 rfl ?_
    refine ms_getf dX3_measure_9 fg_X3_43 hG.1 rfl ?_
    refine ms_icmp_ge (tgt := 77) dX3_measure_12 (by decide) (fun h_12 => ?_) (fun h_12 => ?_)
    · skip
      exact absurd h_12 (by rw [hf]; exact nI_ge (b := nf) (by omega) (by omega))
    · skip
      refine ms_run (pc' := 17) (lv' := [(0, .ref q), (1, .int (nI gi)), (2, .int (nI ((List.range k).filter (stX nf wl mk gi)).length)), (3, .int (nI k))]) (st' := [.int (nI k), .ref q]) _ (ms_deC dX3_measure_15 (ms_deC dX3_measure_16 ms_deN)) rfl rfl ?_
      refine ms_callVp (As := [.int (nI k)]) dX3_measure_17 (c_X3_isFree hG hQ (nI k)) cv_X3_47 hQ.1 rfl ⟨Nat.le_of_ble_eq_true rfl, Nat.le_of_ble_eq_true rfl⟩ rfl (Nat.le_of_ble_eq_true rfl) ?_
      by_cases h1 : sq_fr fl wl (nI k)
      · rw [show ms_b (sq_fr fl wl (nI k)) = 1 from if_pos h1]
        refine ms_if_eq (tgt := 36) dX3_measure_20 (by decide) (fun h9 => absurd h9 (by decide)) (fun _ => ?_)
        refine ms_run (pc' := 26) (lv' := [(0, .ref q), (1, .int (nI gi)), (2, .int (nI ((List.range k).filter (stX nf wl mk gi)).length)), (3, .int (nI k))]) (st' := [.int (nI k), .int (nI gi), .ref q]) _ (ms_deC dX3_measure_23 (ms_deC dX3_measure_24 (ms_deC dX3_measure_25 ms_deN))) rfl rfl ?_
        refine ms_callVp (As := [.int (nI gi), .int (nI k)]) dX3_measure_26 (c_X3_isMarked hG hQ (nI gi) (nI k)) cv_X3_50 hQ.1 rfl ⟨Nat.le_of_ble_eq_true rfl, Nat.le_of_ble_eq_true rfl⟩ rfl (Nat.le_of_ble_eq_true rfl) ?_
        by_cases h2 : sq_mk fl mk (nI gi) (nI k)
        · rw [show ms_b (sq_mk fl mk (nI gi) (nI k)) = 1 from if_pos h2]
          have hst : stX nf wl mk gi k = true := stX_t hf h9 (by omega) h1 h2
          refine ms_if_eq (tgt := 36) dX3_measure_29 (by decide) (fun h9 => absurd h9 (by decide)) (fun _ => ?_)
          refine ms_run (pc' := 33) (lv' := [(0, .ref q), (1, .int (nI gi)), (2, .int (nI ((List.range k).filter (stX nf wl mk gi)).length)), (3, .int (nI k))]) (st' := [.int 1]) _ (ms_deC dX3_measure_32 ms_deN) rfl rfl ?_
          refine ms_goto (tgt := 37) dX3_measure_33 (by decide) ?_
          refine ms_run (pc' := 44) (lv' := [(4, .int 1), (0, .ref q), (1, .int (nI gi)), (2, .int (nI ((List.range k).filter (stX nf wl mk gi)).length)), (3, .int (nI k))]) (st' := [.int 1, .int (nI k), .int (nI gi), .ref q]) _ (ms_deC dX3_measure_37 (ms_deC dX3_measure_39 (ms_deC dX3_measure_40 (ms_deC dX3_measure_41 (ms_deC dX3_measure_42 ms_deN))))) rfl rfl ?_
          refine ms_if_eq (tgt := 51) dX3_measure_44 (by decide) (fun h9 => absurd h9 (by decide)) (fun _ => ?_)
          refine ms_run (pc' := 48) (lv' := [(4, .int 1), (0, .ref q), (1, .int (nI gi)), (2, .int (nI ((List.range k).filter (stX nf wl mk gi)).length)), (3, .int (nI k))]) (st' := [.int 0, .int (nI k), .int (nI gi), .ref q]) _ (ms_deC dX3_measure_47 ms_deN) rfl rfl ?_
          refine ms_goto (tgt := 52) dX3_measure_48 (by decide) ?_
          refine ms_callV0 (As := [.int (nI gi), .int (nI k), .int 0]) dX3_measure_52 (c_X3_keepDistance hs hf h9 hg hlt hG hQ 0) cv_X3_67 hQ.1 rfl ⟨Nat.le_of_ble_eq_true rfl, Nat.le_of_ble_eq_true rfl⟩ rfl (Nat.le_of_ble_eq_true rfl) (fun v9 n9 K_kd hp9 => ?_)
          obtain ⟨hv9, rfl, hQkd, hFkd⟩ := hp9
          cases hv9
          rw [rq_set hlt, bfI_t hst] at hQkd
          have hG_1 : gr_at K_kd g fl w h nr := gr_at.fr hG hFkd (by omega)
          have hF_2 : ms_fr q 5 G K_kd := ms_fr.trans hF (ms_fr.mono hFkd (by omega) (by omega))
          refine ms_run (pc' := 57) (lv' := [(4, .int 1), (0, .ref q), (1, .int (nI gi)), (2, .int (nI ((List.range k).filter (stX nf wl mk gi)).length)), (3, .int (nI k))]) (st' := [.int 1]) _ (ms_deC dX3_measure_55 ms_deN) rfl rfl ?_
          refine ms_if_eq (tgt := 69) dX3_measure_57 (by decide) (fun h9 => absurd h9 (by decide)) (fun _ => ?_)
          refine ms_run (pc' := 63) (lv' := [(4, .int 1), (0, .ref q), (1, .int (nI gi)), (2, .int (nI ((List.range k).filter (stX nf wl mk gi)).length)), (3, .int (nI k))]) (st' := [.int (nI ((List.range k).filter (stX nf wl mk gi)).length), .int (nI k), .ref q]) _ (ms_deC dX3_measure_60 (ms_deC dX3_measure_61 (ms_deC dX3_measure_62 ms_deN))) rfl rfl ?_
          refine ms_callV0 (As := [.int (nI k), .int (nI ((List.range k).filter (stX nf wl mk gi)).length)]) dX3_measure_63 (c_X3_enqueue hs (e := ((List.range k).filter (stX nf wl mk gi)).length) (by have := filt_le (st := (stX nf wl mk gi)) k; omega) hQkd k) cv_X3_71 hQkd.1 rfl ⟨Nat.le_of_ble_eq_true rfl, Nat.le_of_ble_eq_true rfl⟩ rfl (Nat.le_of_ble_eq_true rfl) (fun v9 n9 K_en hp9 => ?_)
          obtain ⟨hv9, rfl, hQen, hFen⟩ := hp9
          cases hv9
          have hG_3 : gr_at K_en g fl w h nr := gr_at.fr hG_1 hFen (by omega)
          have hF_4 : ms_fr q 5 G K_en := ms_fr.trans hF_2 (ms_fr.mono hFen (by omega) (by omega))
          refine ms_goto (tgt := 70) dX3_measure_66 (by decide) ?_
          refine ms_run (pc' := 74) (lv' := [(3, .int ((nI k) + 1)), (2, .int (nI (((List.range k).filter (stX nf wl mk gi)).length + 1))), (4, .int 1), (0, .ref q), (1, .int (nI gi))]) (st' := []) _ (ms_deC dX3_measure_70 (ms_deC dX3_measure_71 ms_deN)) rfl rfl ?_
          refine ms_goto (tgt := 4) dX3_measure_74 (by decide) ?_
          have h7 := ih (k + 1) (by omega) K_en _ hG_3 hQen (by rw [filt_t hst]; exact hU.add) hF_4
          rw [filt_t hst] at h7
          rw [List.length_append] at h7
          rw [nI_1 k]
          refine ms_W.sub (lv2 := [(0, _), (1, _), (2, _), (3, _)]) ?_ [3, 4, 1, 0] rfl
          exact h7
        · rw [show ms_b (sq_mk fl mk (nI gi) (nI k)) = 0 from if_neg h2]
          have hst : stX nf wl mk gi k = false := stX_f2 hf h9 hg (by omega) h1 h2
          refine ms_if_eq (tgt := 36) dX3_measure_29 (by decide) (fun _ => ?_) (fun h9 => absurd h9 (by decide))
          refine ms_run (pc' := 44) (lv' := [(4, .int 0), (0, .ref q), (1, .int (nI gi)), (2, .int (nI ((List.range k).filter (stX nf wl mk gi)).length)), (3, .int (nI k))]) (st' := [.int 0, .int (nI k), .int (nI gi), .ref q]) _ (ms_deC dX3_measure_36 (ms_deC dX3_measure_37 (ms_deC dX3_measure_39 (ms_deC dX3_measure_40 (ms_deC dX3_measure_41 (ms_deC dX3_measure_42 ms_deN)))))) rfl rfl ?_
          refine ms_if_eq (tgt := 51) dX3_measure_44 (by decide) (fun _ => ?_) (fun h9 => absurd h9 (by decide))
          refine ms_run (pc' := 52) (lv' := [(4, .int 0), (0, .ref q), (1, .int (nI gi)), (2, .int (nI ((List.range k).filter (stX nf wl mk gi)).length)), (3, .int (nI k))]) (st' := [.int (-1), .int (nI k), .int (nI gi), .ref q]) _ (ms_deC dX3_measure_51 ms_deN) rfl rfl ?_
          refine ms_callV0 (As := [.int (nI gi), .int (nI k), .int (-1)]) dX3_measure_52 (c_X3_keepDistance hs hf h9 hg hlt hG hQ (-1)) cv_X3_67 hQ.1 rfl ⟨Nat.le_of_ble_eq_true rfl, Nat.le_of_ble_eq_true rfl⟩ rfl (Nat.le_of_ble_eq_true rfl) (fun v9 n9 K_kd hp9 => ?_)
          obtain ⟨hv9, rfl, hQkd, hFkd⟩ := hp9
          cases hv9
          rw [rq_set hlt, bfI_f hst] at hQkd
          have hG_5 : gr_at K_kd g fl w h nr := gr_at.fr hG hFkd (by omega)
          have hF_6 : ms_fr q 5 G K_kd := ms_fr.trans hF (ms_fr.mono hFkd (by omega) (by omega))
          refine ms_run (pc' := 57) (lv' := [(4, .int 0), (0, .ref q), (1, .int (nI gi)), (2, .int (nI ((List.range k).filter (stX nf wl mk gi)).length)), (3, .int (nI k))]) (st' := [.int 0]) _ (ms_deC dX3_measure_55 ms_deN) rfl rfl ?_
          refine ms_if_eq (tgt := 69) dX3_measure_57 (by decide) (fun _ => ?_) (fun h9 => absurd h9 (by decide))
          refine ms_run (pc' := 74) (lv' := [(3, .int ((nI k) + 1)), (2, .int (nI ((List.range k).filter (stX nf wl mk gi)).length)), (4, .int 0), (0, .ref q), (1, .int (nI gi))]) (st' := []) _ (ms_deC dX3_measure_69 (ms_deC dX3_measure_70 (ms_deC dX3_measure_71 ms_deN))) rfl rfl ?_
          refine ms_goto (tgt := 4) dX3_measure_74 (by decide) ?_
          have h7 := ih (k + 1) (by omega) K_kd _ hG_5 hQkd (by rw [filt_f hst]; exact hU) hF_6
          rw [filt_f hst] at h7
          rw [nI_1 k]
          refine ms_W.sub (lv2 := [(0, _), (1, _), (2, _), (3, _)]) ?_ [3, 4, 1, 0] rfl
          exact h7
      · rw [show ms_b (sq_fr fl wl (nI k)) = 0 from if_neg h1]
        have hst : stX nf wl mk gi k = false := stX_f1 hf h9 (by omega) h1
        refine ms_if_eq (tgt := 36) dX3_measure_20 (by decide) (fun _ => ?_) (fun h9 => absurd h9 (by decide))
        refine ms_run (pc' := 44) (lv' := [(4, .int 0), (0, .ref q), (1, .int (nI gi)), (2, .int (nI ((List.range k).filter (stX nf wl mk gi)).length)), (3, .int (nI k))]) (st' := [.int 0, .int (nI k), .int (nI gi), .ref q]) _ (ms_deC dX3_measure_36 (ms_deC dX3_measure_37 (ms_deC dX3_measure_39 (ms_deC dX3_measure_40 (ms_deC dX3_measure_41 (ms_deC dX3_measure_42 ms_deN)))))) rfl rfl ?_
        refine ms_if_eq (tgt := 51) dX3_measure_44 (by decide) (fun _ => ?_) (fun h9 => absurd h9 (by decide))
        refine ms_run (pc' := 52) (lv' := [(4, .int 0), (0, .ref q), (1, .int (nI gi)), (2, .int (nI ((List.range k).filter (stX nf wl mk gi)).length)), (3, .int (nI k))]) (st' := [.int (-1), .int (nI k), .int (nI gi), .ref q]) _ (ms_deC dX3_measure_51 ms_deN) rfl rfl ?_
        refine ms_callV0 (As := [.int (nI gi), .int (nI k), .int (-1)]) dX3_measure_52 (c_X3_keepDistance hs hf h9 hg hlt hG hQ (-1)) cv_X3_67 hQ.1 rfl ⟨Nat.le_of_ble_eq_true rfl, Nat.le_of_ble_eq_true rfl⟩ rfl (Nat.le_of_ble_eq_true rfl) (fun v9 n9 K_kd hp9 => ?_)
        obtain ⟨hv9, rfl, hQkd, hFkd⟩ := hp9
        cases hv9
        rw [rq_set hlt, bfI_f hst] at hQkd
        have hG_7 : gr_at K_kd g fl w h nr := gr_at.fr hG hFkd (by omega)
        have hF_8 : ms_fr q 5 G K_kd := ms_fr.trans hF (ms_fr.mono hFkd (by omega) (by omega))
        refine ms_run (pc' := 57) (lv' := [(4, .int 0), (0, .ref q), (1, .int (nI gi)), (2, .int (nI ((List.range k).filter (stX nf wl mk gi)).length)), (3, .int (nI k))]) (st' := [.int 0]) _ (ms_deC dX3_measure_55 ms_deN) rfl rfl ?_
        refine ms_if_eq (tgt := 69) dX3_measure_57 (by decide) (fun _ => ?_) (fun h9 => absurd h9 (by decide))
        refine ms_run (pc' := 74) (lv' := [(3, .int ((nI k) + 1)), (2, .int (nI ((List.range k).filter (stX nf wl mk gi)).length)), (4, .int 0), (0, .ref q), (1, .int (nI gi))]) (st' := []) _ (ms_deC dX3_measure_69 (ms_deC dX3_measure_70 (ms_deC dX3_measure_71 ms_deN))) rfl rfl ?_
        refine ms_goto (tgt := 4) dX3_measure_74 (by decide) ?_
        have h7 := ih (k + 1) (by omega) K_kd _ hG_7 hQkd (by rw [filt_f hst]; exact hU) hF_8
        rw [filt_f hst] at h7
        rw [nI_1 k]
        refine ms_W.sub (lv2 := [(0, _), (1, _), (2, _), (3, _)]) ?_ [3, 4, 1, 0] rfl
        exact h7
set_option maxHeartbeats 1000000 in
set_option maxRecDepth 20000 in
theorem c_X3_measure {n g q : Nat} {G : ms_H} {fl w h : Int32} {nr wl mk ds : Nat → Int32} {nf gi : Nat} (hs : g + 1 < q) (hf : fl = nI nf) (h9 : nf ≤ 196) (hg : gi < 4) (hG : gr_at G g fl w h nr) {qu : Nat → Int32} (hQ : sq_at G g q wl mk ds qu) : ms_M m_X3_measure [.ref q, .int (nI gi)] n G 0 0 (sq_P g q n G wl mk (rq nf ds gi (dXg nf nr wl mk gi))) := by
  refine ms_M.of (by decide) (Nat.le_of_ble_eq_true rfl) ?_
  show ms_W false m_X3_measure _ 0 [(0, .ref q), (1, .int (nI gi))] [] n G 0 0
  refine ms_run (pc' := 4) (lv' := [(3, .int 0), (2, .int 0), (0, .ref q), (1, .int (nI gi))]) (st' := []) _ (ms_deC dX3_measure_0 (ms_deC dX3_measure_1 (ms_deC dX3_measure_2 (ms_deC dX3_measure_3 ms_deN)))) rfl rfl ?_
  refine ms_W.sub (lv2 := [(0, _), (1, _), (2, _), (3, _)]) ?_ [2, 3, 1, 0] rfl
  exact l1_X3_measure (d := fun f => ds (gi * 196 + f)) hs hf h9 hg nf 0 (by omega) G qu hG (by rw [show bfI (stX nf wl mk gi) (fun f => ds (gi * 196 + f)) 0 = (fun f => ds (gi * 196 + f)) from by funext f; simp [bfI], rq_id]; exact hQ) (fun i f h => by simp at h) ms_fr.rf
set_option maxHeartbeats 1000000 in
set_option maxRecDepth 20000 in
theorem l_X3_measureAll {n g q : Nat} {G : ms_H} {fl w h : Int32} {nr wl mk ds : Nat → Int32} {nf : Nat} (hs : g + 1 < q) (hf : fl = nI nf) (h9 : nf ≤ 196) : ∀ (r k : Nat), k + r = 4 → ∀ (K : ms_H) (qu : Nat → Int32), gr_at K g fl w h nr → sq_at K g q wl mk (dXa nf nr wl mk ds k) qu → ms_fr q 5 G K → ms_W false m_X3_measureAll (sq_P g q n G wl mk (dXa nf nr wl mk ds 4)) 2 [(0, .ref q), (1, .int (nI k))] [] n K 0 0 := by
  intro r
  induction r with
  | zero =>
    intro k hk K qu hG hQ hF
    have hkN : k = 4 := by omega
    refine ms_run (pc' := 4) (lv' := [(0, .ref q), (1, .int (nI k))]) (st' := [.int 4, .int (nI k)]) _ (ms_deC dX3_measureAll_2 (ms_deC dX3_measureAll_3 ms_deN)) rfl rfl ?_
    refine ms_icmp_ge (tgt := 18) dX3_measureAll_4 (by decide) (fun h_4 => ?_) (fun h_4 => ?_)
    · skip
      refine ms_retv (st := []) dX3_measureAll_18 rfl ?_
      exact ⟨rfl, rfl, ⟨_, by rw [← hkN]; exact hQ⟩, hF⟩
    · skip
      exact absurd (by show nI 4 ≤ nI k; exact nI_le (b := k) (by omega) (by omega)) h_4
  | succ r ih =>
    intro k hk K qu hG hQ hF
    have hlt : k < 4 := by omega
    refine ms_run (pc' := 4) (lv' := [(0, .ref q), (1, .int (nI k))]) (st' := [.int 4, .int (nI k)]) _ (ms_deC dX3_measureAll_2 (ms_deC dX3_measureAll_3 ms_deN)) rfl rfl ?_
    refine ms_icmp_ge (tgt := 18) dX3_measureAll_4 (by decide) (fun h_4 => ?_) (fun h_4 => ?_)
    · skip
      exact absurd h_4 (by show ¬ nI 4 ≤ nI k; exact nI_ge (b := 4) (by omega) (by omega))
    · skip
      refine ms_run (pc' := 9) (lv' := [(0, .ref q), (1, .int (nI k))]) (st' := [.int (nI k), .ref q]) _ (ms_deC dX3_measureAll_7 (ms_deC dX3_measureAll_8 ms_deN)) rfl rfl ?_
      refine ms_callV0 (As := [.int (nI k)]) dX3_measureAll_9 (c_X3_measure hs hf h9 hlt hG hQ) cv_X3_63 hQ.1 rfl ⟨Nat.le_of_ble_eq_true rfl, Nat.le_of_ble_eq_true rfl⟩ rfl (Nat.le_of_ble_eq_true rfl) (fun v9 n9 K_me hp9 => ?_)
      obtain ⟨hv9, rfl, ⟨qu2, hQ2⟩, hF2⟩ := hp9
      cases hv9
      have hG_1 : gr_at K_me g fl w h nr := gr_at.fr hG hF2 (by omega)
      have hF_2 : ms_fr q 5 G K_me := ms_fr.trans hF (ms_fr.mono hF2 (by omega) (by omega))
      refine ms_run (pc' := 15) (lv' := [(1, .int ((nI k) + 1)), (0, .ref q)]) (st' := []) _ (ms_deC dX3_measureAll_12 ms_deN) rfl rfl ?_
      refine ms_goto (tgt := 2) dX3_measureAll_15 (by decide) ?_
      rw [nI_1 k]
      refine ms_W.sub (lv2 := [(0, _), (1, _)]) ?_ [1, 0] rfl
      exact ih (k + 1) (by omega) K_me qu2 hG_1 hQ2 hF_2
set_option maxHeartbeats 1000000 in
set_option maxRecDepth 20000 in
theorem c_X3_measureAll {n g q : Nat} {G : ms_H} {fl w h : Int32} {nr wl mk ds : Nat → Int32} {nf : Nat} (hs : g + 1 < q) (hf : fl = nI nf) (h9 : nf ≤ 196) (hG : gr_at G g fl w h nr) {qu : Nat → Int32} (hQ : sq_at G g q wl mk ds qu) : ms_M m_X3_measureAll [.ref q] n G 0 0 (sq_P g q n G wl mk (dXa nf nr wl mk ds 4)) := by
  refine ms_M.of (by decide) (Nat.le_of_ble_eq_true rfl) ?_
  show ms_W false m_X3_measureAll _ 0 [(0, .ref q)] [] n G 0 0
  refine ms_run (pc' := 2) (lv' := [(1, .int 0), (0, .ref q)]) (st' := []) _ (ms_deC dX3_measureAll_0 (ms_deC dX3_measureAll_1 ms_deN)) rfl rfl ?_
  refine ms_W.sub (lv2 := [(0, _), (1, _)]) ?_ [1, 0] rfl
  exact l_X3_measureAll hs hf h9 4 0 rfl G qu hG hQ ms_fr.rf

/-! Jams: as the code finds them. jb: who is in a jam; nb: who is beside whom -/
abbrev jmS : Type := (Nat → Int32) × List Nat
abbrev pNew (jb : Nat → Bool) (jo : Nat → Int32) (o : Int32) : Prop := 0 ≤ o ∧ o < 24 ∧ jo o.toNatClampNeg = -1 ∧ jb o.toNatClampNeg = true
def gb1 (jb : Nat → Bool) (nb : Nat → Nat → Int32) (cn : Int32) (k s : Nat) (S : jmS) : jmS := if pNew jb S.1 (nb k s) ∧ S.2.length < 24 then (upd S.1 (nb k s).toNatClampNeg cn, S.2 ++ [(nb k s).toNatClampNeg]) else S
def gbS (jb : Nat → Bool) (nb : Nat → Nat → Int32) (cn : Int32) (k : Nat) (S : jmS) : Nat → jmS
  | 0 => S
  | s + 1 => gb1 jb nb cn k s (gbS jb nb cn k S s)
def gbM (jb : Nat → Bool) (nb : Nat → Nat → Int32) (cn : Int32) : Nat → Nat → jmS → jmS
  | 0, _, S => S
  | r + 1, h, S => match S.2[h]? with
    | some k => gbM jb nb cn r (h + 1) (gbS jb nb cn k S 4)
    | none => S
def gaX (jb : Nat → Bool) (nb : Nat → Nat → Int32) (jo : Nat → Int32) (cn : Int32) (i : Nat) : jmS := gbM jb nb cn 24 0 (upd jo i cn, [i])
/-- what is found: whose jam, how great, how many, how many in them -/
abbrev fdS : Type := (Nat → Int32) × (Nat → Int32) × Nat × Int32
def fdX (jb : Nat → Bool) (nb : Nat → Nat → Int32) : Nat → fdS
  | 0 => (fun _ => -1, fun _ => 0, 0, 0)
  | i + 1 => if pNew jb (fdX jb nb i).1 (nI i) ∧ (fdX jb nb i).2.2.1 < 24 then
      ((gaX jb nb (fdX jb nb i).1 (nI (fdX jb nb i).2.2.1) i).1, upd (fdX jb nb i).2.1 (fdX jb nb i).2.2.1 (nI (gaX jb nb (fdX jb nb i).1 (nI (fdX jb nb i).2.2.1) i).2.length), (fdX jb nb i).2.2.1 + 1, (fdX jb nb i).2.2.2 + nI (gaX jb nb (fdX jb nb i).1 (nI (fdX jb nb i).2.2.1) i).2.length)
    else fdX jb nb i
def jbR (cnt : Nat) (pa : Int32) (wk : Nat → Nat → Int32) : Nat → Bool := fun k => decide (k < cnt ∧ pJam pa (wk k))
def nbR (cnt : Nat) (nr on : Nat → Int32) (wk : Nat → Nat → Int32) : Nat → Nat → Int32 := fun k s => if k < cnt then cr_on on (gr_next nr (wk k 3) (nI s)) else -1
theorem jbR_c {cnt : Nat} {pa : Int32} {wk u : Nat → Nat → Int32} (ha : ∀ k, k < cnt → ∀ j, j < 8 → wk k j = u k j) : jbR cnt pa wk = jbR cnt pa u := by
  funext k
  unfold jbR
  refine decide_eq_decide.mpr ⟨fun z => ⟨z.1, ?_⟩, fun z => ⟨z.1, ?_⟩⟩
  · have h := z.2
    unfold pJam at h ⊢
    rwa [ha k z.1 3 (by omega), ha k z.1 5 (by omega)] at h
  · have h := z.2
    unfold pJam at h ⊢
    rwa [ha k z.1 3 (by omega), ha k z.1 5 (by omega)]
theorem nbR_c {cnt : Nat} {nr on : Nat → Int32} {wk u : Nat → Nat → Int32} (ha : ∀ k, k < cnt → ∀ j, j < 8 → wk k j = u k j) : nbR cnt nr on wk = nbR cnt nr on u := by
  funext k s
  unfold nbR
  by_cases h : k < cnt
  · rw [if_pos h, if_pos h, ha k h 3 (by omega)]
  · rw [if_neg h, if_neg h]
/-- what the queue holds are walkers, and it fits -/
def gbI (cnt : Nat) (S : jmS) : Prop := S.2.length ≤ 24 ∧ ∀ k ∈ S.2, k < cnt
theorem gb1_I {cnt : Nat} {pa : Int32} {wk : Nat → Nat → Int32} {nb : Nat → Nat → Int32} {cn : Int32} {k s : Nat} {S : jmS} (h : gbI cnt S) : gbI cnt (gb1 (jbR cnt pa wk) nb cn k s S) := by
  unfold gb1
  split
  · next hc =>
    refine ⟨by simp only [List.length_append, List.length_singleton]; omega, fun x hx => ?_⟩
    rcases List.mem_append.mp hx with h1 | h1
    · exact h.2 x h1
    · rw [List.mem_singleton.mp h1]
      exact (of_decide_eq_true hc.1.2.2.2).1
  · exact h
theorem gbS_I {cnt : Nat} {pa : Int32} {wk : Nat → Nat → Int32} {nb : Nat → Nat → Int32} {cn : Int32} {k : Nat} {S : jmS} (h : gbI cnt S) : ∀ s, gbI cnt (gbS (jbR cnt pa wk) nb cn k S s)
  | 0 => h
  | s + 1 => gb1_I (gbS_I h s)
theorem gbM_I {cnt : Nat} {pa : Int32} {wk : Nat → Nat → Int32} {nb : Nat → Nat → Int32} {cn : Int32} : ∀ (r h : Nat) (S : jmS), gbI cnt S → gbI cnt (gbM (jbR cnt pa wk) nb cn r h S)
  | 0, _, _, hS => hS
  | r + 1, h, S, hS => by
    unfold gbM
    split
    · exact gbM_I r (h + 1) _ (gbS_I hS 4)
    · exact hS
theorem gbM_s {jb : Nat → Bool} {nb : Nat → Nat → Int32} {cn : Int32} {r h k : Nat} {S : jmS} (hk : S.2[h]? = some k) : gbM jb nb cn (r + 1) h S = gbM jb nb cn r (h + 1) (gbS jb nb cn k S 4) := by
  show (match S.2[h]? with
    | some k => gbM jb nb cn r (h + 1) (gbS jb nb cn k S 4)
    | none => S) = _
  rw [hk]
theorem gbM_n {jb : Nat → Bool} {nb : Nat → Nat → Int32} {cn : Int32} {r h : Nat} {S : jmS} (hk : S.2[h]? = none) : gbM jb nb cn (r + 1) h S = S := by
  show (match S.2[h]? with
    | some k => gbM jb nb cn r (h + 1) (gbS jb nb cn k S 4)
    | none => S) = _
  rw [hk]
theorem fdX_n {jb : Nat → Bool} {nb : Nat → Nat → Int32} : ∀ i, (fdX jb nb i).2.2.1 ≤ i
  | 0 => Nat.le_refl 0
  | i + 1 => by
    have := fdX_n (jb := jb) (nb := nb) i
    unfold fdX
    split
    · show _ + 1 ≤ i + 1
      omega
    · omega
def jm_P (j n : Nat) (G : ms_H) (v : Option Value) (cn wi : Int32) (jo sz : Nat → Int32) (L : List Nat) : ms_P := fun r n1 G1 => r = .inl v ∧ n1 = n ∧ (∃ qu, jm_at G1 j cn wi jo sz qu ∧ bf_q L qu) ∧ ms_fr j 4 G G1
theorem has_cnt {o : Int32} {cnt : Nat} (h0 : 0 ≤ o) (hc : cnt ≤ 24) : o < nI cnt ↔ o.toNatClampNeg < cnt := by
  obtain ⟨k, hk, rfl⟩ := nI_of (Int32.not_lt.mpr h0)
  rw [nI_clamp hk, nI_ltI hk (by omega)]
set_option maxHeartbeats 4000000 in
set_option maxRecDepth 20000 in
theorem c_X2_isNewOne {n g q c j : Nat} {G : ms_H} {fl w h : Int32} {nr : Nat → Int32} (hG : gr_at G g fl w h nr) {hd on ht cm : Nat → Int32} {wk : Nat → Nat → Int32} (hC : cr_at G g q c hd on ht cm wk) {cnt : Nat} (hx : hd 0 = nI cnt) (hc : cnt ≤ 24) {cn wi : Int32} {jo sz qu : Nat → Int32} (hJ : jm_at G j cn wi jo sz qu) (o : Int32) : ms_M m_X2_isNewOne [.ref j, .ref c, .int o] n G 0 0 (ms_p1 (some (.int (ms_b (pNew (jbR cnt (hd 3) wk) jo o)))) n G) := by
  refine ms_M.of (by decide) (Nat.le_of_ble_eq_true rfl) ?_
  show ms_W false m_X2_isNewOne _ 0 [(0, .ref j), (1, .ref c), (2, .int o)] [] n G 0 0
  refine ms_run (pc' := 1) (lv' := [(0, .ref j), (1, .ref c), (2, .int o)]) (st' := [.int o]) _ (ms_deC dX2_isNewOne_0 ms_deN) rfl rfl ?_
  refine ms_if_lt (tgt := 36) dX2_isNewOne_1 (by decide) (fun h_1 => ?_) (fun h_1 => ?_)
  · skip
    refine ms_run (pc' := 37) (lv' := [(0, .ref j), (1, .ref c), (2, .int o)]) (st' := [.int 0]) _ (ms_deC dX2_isNewOne_36 ms_deN) rfl rfl ?_
    refine ms_reti (st := []) (ty := .boolean) dX2_isNewOne_37 rfl rfl ?_
    exact ms_p1.mk (ms_int_eq (if_neg (by rintro ⟨z1, z2, z3, z4⟩; first | exact absurd h_1 (Int32.not_lt.mpr z1) | exact absurd h_7 (Int32.not_le.mpr z2) | exact h_17 z3 | exact hnj z4)).symm) rfl
  · skip
    refine ms_run (pc' := 7) (lv' := [(0, .ref j), (1, .ref c), (2, .int o)]) (st' := [.int 24, .int o]) _ (ms_deC dX2_isNewOne_4 (ms_deC dX2_isNewOne_5 ms_deN)) rfl rfl ?_
    refine ms_icmp_ge (tgt := 36) dX2_isNewOne_7 (by decide) (fun h_7 => ?_) (fun h_7 => ?_)
    · skip
      refine ms_run (pc' := 37) (lv' := [(0, .ref j), (1, .ref c), (2, .int o)]) (st' := [.int 0]) _ (ms_deC dX2_isNewOne_36 ms_deN) rfl rfl ?_
      refine ms_reti (st := []) (ty := .boolean) dX2_isNewOne_37 rfl rfl ?_
      exact ms_p1.mk (ms_int_eq (if_neg (by rintro ⟨z1, z2, z3, z4⟩; first | exact absurd h_1 (Int32.not_lt.mpr z1) | exact absurd h_7 (Int32.not_le.mpr z2) | exact h_17 z3 | exact hnj z4)).symm) rfl
    · skip
      refine ms_run (pc' := 11) (lv' := [(0, .ref j), (1, .ref c), (2, .int o)]) (st' := [.ref j]) _ (ms_deC dX2_isNewOne_10 ms_deN) rfl rfl ?_
      refine ms_getf dX2_isNewOne_11 fg_X2_9 hJ.1 rfl ?_
      refine ms_run (pc' := 15) (lv' := [(0, .ref j), (1, .ref c), (2, .int o)]) (st' := [.int o, .ref (j + 1)]) _ (ms_deC dX2_isNewOne_14 ms_deN) rfl rfl ?_
      refine ms_iaload dX2_isNewOne_15 hJ.2.1 (nb_inM (M := 24) rfl (by assumption) (by assumption)) ?_
      refine ms_run (pc' := 17) (lv' := [(0, .ref j), (1, .ref c), (2, .int o)]) (st' := [.int (-1), .int (jo o.toNatClampNeg)]) _ (ms_deC dX2_isNewOne_16 ms_deN) rfl rfl ?_
      refine ms_icmp_ne (tgt := 36) dX2_isNewOne_17 (by decide) (fun h_17 => ?_) (fun h_17 => ?_)
      · skip
        refine ms_run (pc' := 37) (lv' := [(0, .ref j), (1, .ref c), (2, .int o)]) (st' := [.int 0]) _ (ms_deC dX2_isNewOne_36 ms_deN) rfl rfl ?_
        refine ms_reti (st := []) (ty := .boolean) dX2_isNewOne_37 rfl rfl ?_
        exact ms_p1.mk (ms_int_eq (if_neg (by rintro ⟨z1, z2, z3, z4⟩; first | exact absurd h_1 (Int32.not_lt.mpr z1) | exact absurd h_7 (Int32.not_le.mpr z2) | exact h_17 z3 | exact hnj z4)).symm) rfl
      · skip
        refine ms_run (pc' := 23) (lv' := [(0, .ref j), (1, .ref c), (2, .int o)]) (st' := [.int o, .ref c, .ref c]) _ (ms_deC dX2_isNewOne_20 (ms_deC dX2_isNewOne_21 (ms_deC dX2_isNewOne_22 ms_deN))) rfl rfl ?_
        refine ms_callVp (As := [.int o]) dX2_isNewOne_23 (c_X0_get hC o) cv_X2_39 hC.1 rfl ⟨Nat.le_of_ble_eq_true rfl, Nat.le_of_ble_eq_true rfl⟩ rfl (Nat.le_of_ble_eq_true rfl) ?_
        by_cases hc_23 : pIs (hd 0) o
        · rw [show cr_get c (hd 0) o = .ref (c + 5 + o.toNatClampNeg) from if_pos hc_23]
          have hcn : o.toNatClampNeg < cnt := pIs_cnt hc (by rw [← hx]; exact hc_23)
          have hw := hC.2.2.2.2.2 o.toNatClampNeg (pIs_lt hc_23)
          refine ms_callVp (As := [.ref (c + 5 + o.toNatClampNeg)]) dX2_isNewOne_26 (c_X0_isJammed hC hw) cv_X2_43 hC.1 rfl ⟨Nat.le_of_ble_eq_true rfl, Nat.le_of_ble_eq_true rfl⟩ rfl (Nat.le_of_ble_eq_true rfl) ?_
          by_cases hja : pJam (hd 3) (wk o.toNatClampNeg)
          · rw [show ms_b (pJam (hd 3) (wk o.toNatClampNeg)) = 1 from if_pos hja]
            have hyj : (jbR cnt (hd 3) wk) o.toNatClampNeg = true := decide_eq_true ⟨hcn, hja⟩
            refine ms_if_eq (tgt := 36) dX2_isNewOne_29 (by decide) (fun h9 => absurd h9 (by decide)) (fun _ => ?_)
            refine ms_run (pc' := 33) (lv' := [(0, .ref j), (1, .ref c), (2, .int o)]) (st' := [.int 1]) _ (ms_deC dX2_isNewOne_32 ms_deN) rfl rfl ?_
            refine ms_goto (tgt := 37) dX2_isNewOne_33 (by decide) ?_
            refine ms_reti (st := []) (ty := .boolean) dX2_isNewOne_37 rfl rfl ?_
            exact ms_p1.mk (ms_int_eq (if_pos ⟨Int32.not_lt.mp h_1, Int32.not_le.mp h_7, h_17, hyj⟩).symm) rfl
          · rw [show ms_b (pJam (hd 3) (wk o.toNatClampNeg)) = 0 from if_neg hja]
            have hnj : ¬ (jbR cnt (hd 3) wk) o.toNatClampNeg = true := fun z => hja (of_decide_eq_true z).2
            refine ms_if_eq (tgt := 36) dX2_isNewOne_29 (by decide) (fun _ => ?_) (fun h9 => absurd h9 (by decide))
            refine ms_run (pc' := 37) (lv' := [(0, .ref j), (1, .ref c), (2, .int o)]) (st' := [.int 0]) _ (ms_deC dX2_isNewOne_36 ms_deN) rfl rfl ?_
            refine ms_reti (st := []) (ty := .boolean) dX2_isNewOne_37 rfl rfl ?_
            exact ms_p1.mk (ms_int_eq (if_neg (by rintro ⟨z1, z2, z3, z4⟩; first | exact absurd h_1 (Int32.not_lt.mpr z1) | exact absurd h_7 (Int32.not_le.mpr z2) | exact h_17 z3 | exact hnj z4)).symm) rfl
        · rw [show cr_get c (hd 0) o = .null from if_neg hc_23]
          have hnj : ¬ (jbR cnt (hd 3) wk) o.toNatClampNeg = true := fun z => hc_23 ⟨Int32.not_lt.mp h_1, by rw [hx]; exact (has_cnt (Int32.not_lt.mp h_1) hc).mpr (of_decide_eq_true z).1, Int32.not_le.mp h_7⟩
          refine ms_callVp (As := [.null]) dX2_isNewOne_26 (c_X0_isJammedN) cv_X2_43 hC.1 rfl ⟨Nat.le_of_ble_eq_true rfl, Nat.le_of_ble_eq_true rfl⟩ rfl (Nat.le_of_ble_eq_true rfl) ?_
          refine ms_if_eq (tgt := 36) dX2_isNewOne_29 (by decide) (fun _ => ?_) (fun h9 => absurd h9 (by decide))
          refine ms_run (pc' := 37) (lv' := [(0, .ref j), (1, .ref c), (2, .int o)]) (st' := [.int 0]) _ (ms_deC dX2_isNewOne_36 ms_deN) rfl rfl ?_
          refine ms_reti (st := []) (ty := .boolean) dX2_isNewOne_37 rfl rfl ?_
          exact ms_p1.mk (ms_int_eq (if_neg (by rintro ⟨z1, z2, z3, z4⟩; first | exact absurd h_1 (Int32.not_lt.mpr z1) | exact absurd h_7 (Int32.not_le.mpr z2) | exact h_17 z3 | exact hnj z4)).symm) rfl
theorem Int32lt {n : Nat} (h : ¬ (24 : Int32) ≤ nI n) (h2 : n ≤ 24) : n < 24 := Nat.not_le.mp (fun z => h (show nI 24 ≤ nI n from nI_le z (by omega)))
theorem Int32ge {n : Nat} (h : (24 : Int32) ≤ nI n) (h2 : n ≤ 24) : ¬ n < 24 := fun z => nI_ge (a := n) (b := 24) z (by omega) h
set_option maxHeartbeats 4000000 in
set_option maxRecDepth 20000 in
theorem l_X2_gatherBeside {n g q c j : Nat} {G : ms_H} {fl w h : Int32} {nr : Nat → Int32} {hd on ht cm : Nat → Int32} {wk : Nat → Nat → Int32} {cnt : Nat} (hx : hd 0 = nI cnt) (hc : cnt ≤ 24) (hs : g + 1 < j) (hs2 : c + 28 < j) {cn wi : Int32} {sz : Nat → Int32} {f : Nat} (hf0 : f < cnt) {S : jmS} (hI0 : gbI cnt S) : ∀ (r k : Nat), k + r = 4 → ∀ (K : ms_H) (qu : Nat → Int32), gr_at K g fl w h nr → cr_at K g q c hd on ht cm wk → jm_at K j cn wi (gbS (jbR cnt (hd 3) wk) (nbR cnt nr on wk) cn f S k).1 sz qu → bf_q (gbS (jbR cnt (hd 3) wk) (nbR cnt nr on wk) cn f S k).2 qu → ms_fr j 4 G K → ms_W false m_X2_gatherBeside (jm_P j n G (some (.int (nI (gbS (jbR cnt (hd 3) wk) (nbR cnt nr on wk) cn f S 4).2.length))) cn wi (gbS (jbR cnt (hd 3) wk) (nbR cnt nr on wk) cn f S 4).1 sz (gbS (jbR cnt (hd 3) wk) (nbR cnt nr on wk) cn f S 4).2) 20 [(0, .ref j), (1, .ref c), (2, .int (nI f)), (4, .ref (c + 5 + f)), (5, .int (nI (gbS (jbR cnt (hd 3) wk) (nbR cnt nr on wk) cn f S k).2.length)), (6, .int (nI k))] [] n K 0 0 := by
  intro r
  induction r with
  | zero =>
    intro k hk K qu hG hC hJ hU hF
    have hkN : k = 4 := by omega
    have hI := gbS_I (pa := hd 3) (wk := wk) (nb := (nbR cnt nr on wk)) (cn := cn) (k := f) hI0 k
    generalize hS : gbS (jbR cnt (hd 3) wk) (nbR cnt nr on wk) cn f S k = Sk at hJ hU hI ⊢
    obtain ⟨jo, L⟩ := Sk
    have hL : L.length ≤ 24 := hI.1
    dsimp only at hJ hU ⊢
    have hnb : cr_on on (gr_next nr (wk f 3) (nI k)) = (nbR cnt nr on wk) f k := (if_pos hf0).symm
    refine ms_run (pc' := 23) (lv' := [(0, .ref j), (1, .ref c), (2, .int (nI f)), (4, .ref (c + 5 + f)), (5, .int (nI L.length)), (6, .int (nI k))]) (st' := [.int 4, .int (nI k)]) _ (ms_deC dX2_gatherBeside_20 (ms_deC dX2_gatherBeside_22 ms_deN)) rfl rfl ?_
    refine ms_icmp_ge (tgt := 92) dX2_gatherBeside_23 (by decide) (fun h_23 => ?_) (fun h_23 => ?_)
    · skip
      refine ms_run (pc' := 94) (lv' := [(0, .ref j), (1, .ref c), (2, .int (nI f)), (4, .ref (c + 5 + f)), (5, .int (nI L.length)), (6, .int (nI k))]) (st' := [.int (nI L.length)]) _ (ms_deC dX2_gatherBeside_92 ms_deN) rfl rfl ?_
      refine ms_reti (st := []) (ty := .int) dX2_gatherBeside_94 rfl rfl ?_
      refine ⟨?_, rfl, ⟨qu, ?_, ?_⟩, hF⟩
      · rw [← hkN, hS]
      · rw [← hkN, hS]; exact hJ
      · rw [← hkN, hS]; exact hU
    · skip
      exact absurd (by show nI 4 ≤ nI k; exact nI_le (b := k) (by omega) (by omega)) h_23
  | succ r ih =>
    intro k hk K qu hG hC hJ hU hF
    have hlt : k < 4 := by omega
    have hI := gbS_I (pa := hd 3) (wk := wk) (nb := (nbR cnt nr on wk)) (cn := cn) (k := f) hI0 k
    generalize hS : gbS (jbR cnt (hd 3) wk) (nbR cnt nr on wk) cn f S k = Sk at hJ hU hI ⊢
    obtain ⟨jo, L⟩ := Sk
    have hL : L.length ≤ 24 := hI.1
    dsimp only at hJ hU ⊢
    have hnb : cr_on on (gr_next nr (wk f 3) (nI k)) = (nbR cnt nr on wk) f k := (if_pos hf0).symm
    refine ms_run (pc' := 23) (lv' := [(0, .ref j), (1, .ref c), (2, .int (nI f)), (4, .ref (c + 5 + f)), (5, .int (nI L.length)), (6, .int (nI k))]) (st' := [.int 4, .int (nI k)]) _ (ms_deC dX2_gatherBeside_20 (ms_deC dX2_gatherBeside_22 ms_deN)) rfl rfl ?_
    refine ms_icmp_ge (tgt := 92) dX2_gatherBeside_23 (by decide) (fun h_23 => ?_) (fun h_23 => ?_)
    · skip
      exact absurd h_23 (by show ¬ nI 4 ≤ nI k; exact nI_ge (b := 4) (by omega) (by omega))
    · skip
      refine ms_run (pc' := 28) (lv' := [(0, .ref j), (1, .ref c), (2, .int (nI f)), (4, .ref (c + 5 + f)), (5, .int (nI L.length)), (6, .int (nI k))]) (st' := [.ref c, .ref c]) _ (ms_deC dX2_gatherBeside_26 (ms_deC dX2_gatherBeside_27 ms_deN)) rfl rfl ?_
      refine ms_getN (j := 4) (ci := 0) (host := RX5) dX2_gatherBeside_28 ⟨RX0, TX0, 10, rfl, by decide, iwX0, by decide +kernel, rfl⟩ hC.1 rfl ?_
      refine ms_run (pc' := 33) (lv' := [(0, .ref j), (1, .ref c), (2, .int (nI f)), (4, .ref (c + 5 + f)), (5, .int (nI L.length)), (6, .int (nI k))]) (st' := [.ref (c + 5 + f), .ref g, .ref c]) _ (ms_deC dX2_gatherBeside_31 ms_deN) rfl rfl ?_
      refine ms_getf (v := .int (wk f 3)) dX2_gatherBeside_33 fg_X2_55 (hC.2.2.2.2.2 f (by omega)) rfl ?_
      refine ms_run (pc' := 38) (lv' := [(0, .ref j), (1, .ref c), (2, .int (nI f)), (4, .ref (c + 5 + f)), (5, .int (nI L.length)), (6, .int (nI k))]) (st' := [.int (nI k), .int (wk f 3), .ref g, .ref c]) _ (ms_deC dX2_gatherBeside_36 ms_deN) rfl rfl ?_
      refine ms_callVp (As := [.int (wk f 3), .int (nI k)]) dX2_gatherBeside_38 (c_X1_next hG (wk f 3) (nI k)) cv_X2_60 hG.1 rfl ⟨Nat.le_of_ble_eq_true rfl, Nat.le_of_ble_eq_true rfl⟩ rfl (Nat.le_of_ble_eq_true rfl) ?_
      refine ms_callVp (As := [.int (gr_next nr (wk f 3) (nI k))]) dX2_gatherBeside_41 (c_X0_numberOn hC (gr_next nr (wk f 3) (nI k))) cv_X2_66 hC.1 rfl ⟨Nat.le_of_ble_eq_true rfl, Nat.le_of_ble_eq_true rfl⟩ rfl (Nat.le_of_ble_eq_true rfl) ?_
      rw [hnb]
      refine ms_run (pc' := 50) (lv' := [(7, .int ((nbR cnt nr on wk) f k)), (0, .ref j), (1, .ref c), (2, .int (nI f)), (4, .ref (c + 5 + f)), (5, .int (nI L.length)), (6, .int (nI k))]) (st' := [.int ((nbR cnt nr on wk) f k), .ref c, .ref j]) _ (ms_deC dX2_gatherBeside_44 (ms_deC dX2_gatherBeside_46 (ms_deC dX2_gatherBeside_47 (ms_deC dX2_gatherBeside_48 ms_deN)))) rfl rfl ?_
      refine ms_callVp (As := [.ref c, .int ((nbR cnt nr on wk) f k)]) dX2_gatherBeside_50 (c_X2_isNewOne hG hC hx hc hJ ((nbR cnt nr on wk) f k)) cv_X2_31 hJ.1 rfl ⟨Nat.le_of_ble_eq_true rfl, Nat.le_of_ble_eq_true rfl⟩ rfl (Nat.le_of_ble_eq_true rfl) ?_
      by_cases hn : pNew (jbR cnt (hd 3) wk) jo ((nbR cnt nr on wk) f k)
      · rw [show ms_b (pNew (jbR cnt (hd 3) wk) jo ((nbR cnt nr on wk) f k)) = 1 from if_pos hn]
        refine ms_if_eq (tgt := 86) dX2_gatherBeside_53 (by decide) (fun h9 => absurd h9 (by decide)) (fun _ => ?_)
        refine ms_run (pc' := 60) (lv' := [(7, .int ((nbR cnt nr on wk) f k)), (0, .ref j), (1, .ref c), (2, .int (nI f)), (4, .ref (c + 5 + f)), (5, .int (nI L.length)), (6, .int (nI k))]) (st' := [.int 24, .int (nI L.length)]) _ (ms_deC dX2_gatherBeside_56 (ms_deC dX2_gatherBeside_58 ms_deN)) rfl rfl ?_
        refine ms_icmp_ge (tgt := 86) dX2_gatherBeside_60 (by decide) (fun h_60 => ?_) (fun h_60 => ?_)
        · skip
          refine ms_run (pc' := 89) (lv' := [(6, .int ((nI k) + 1)), (7, .int ((nbR cnt nr on wk) f k)), (0, .ref j), (1, .ref c), (2, .int (nI f)), (4, .ref (c + 5 + f)), (5, .int (nI L.length))]) (st' := []) _ (ms_deC dX2_gatherBeside_86 ms_deN) rfl rfl ?_
          refine ms_goto (tgt := 20) dX2_gatherBeside_89 (by decide) ?_
          have e9 : gbS (jbR cnt (hd 3) wk) (nbR cnt nr on wk) cn f S (k + 1) = (jo, L) := by show gb1 _ _ _ _ _ (gbS (jbR cnt (hd 3) wk) (nbR cnt nr on wk) cn f S k) = _; rw [hS]; exact if_neg (fun z => by first | exact hn z.1 | exact Int32ge h_60 hL z.2)
          have h7 := ih (k + 1) (by omega) K qu hG hC (by rw [e9]; exact hJ) (by rw [e9]; exact hU) hF
          rw [e9] at h7
          rw [nI_1 k]
          refine ms_W.sub (lv2 := [(0, _), (1, _), (2, _), (4, _), (5, _), (6, _)]) ?_ [2, 3, 4, 5, 6, 0] rfl
          exact h7
        · skip
          refine ms_run (pc' := 64) (lv' := [(7, .int ((nbR cnt nr on wk) f k)), (0, .ref j), (1, .ref c), (2, .int (nI f)), (4, .ref (c + 5 + f)), (5, .int (nI L.length)), (6, .int (nI k))]) (st' := [.ref j]) _ (ms_deC dX2_gatherBeside_63 ms_deN) rfl rfl ?_
          refine ms_getf dX2_gatherBeside_64 fg_X2_9 hJ.1 rfl ?_
          refine ms_run (pc' := 70) (lv' := [(7, .int ((nbR cnt nr on wk) f k)), (0, .ref j), (1, .ref c), (2, .int (nI f)), (4, .ref (c + 5 + f)), (5, .int (nI L.length)), (6, .int (nI k))]) (st' := [.ref j, .int ((nbR cnt nr on wk) f k), .ref (j + 1)]) _ (ms_deC dX2_gatherBeside_67 (ms_deC dX2_gatherBeside_69 ms_deN)) rfl rfl ?_
          refine ms_getf dX2_gatherBeside_70 fg_X2_21 hJ.1 rfl ?_
          refine ms_iastore dX2_gatherBeside_73 hJ.2.1 (nb_inM (M := 24) rfl (Int32.not_lt.mpr hn.1) (Int32.not_le.mpr hn.2.1)) ?_
          obtain ⟨G_1, eG_1⟩ : ∃ K9 : ms_H, K9 = ms_up K (j + 1) (.inl (0, 24, .inl (upd jo ((nbR cnt nr on wk) f k).toNatClampNeg cn))) := ⟨_, rfl⟩
          refine ms_W.heq eG_1 ?_
          have hG_2 : gr_at G_1 g fl w h nr := by rw [eG_1]; exact gr_at.up hG (by omega)
          have hC_3 : cr_at G_1 g q c hd on ht cm wk := by rw [eG_1]; exact cr_at.up hC (by omega)
          have hJ_4 : jm_at G_1 j cn wi (upd jo ((nbR cnt nr on wk) f k).toNatClampNeg cn) sz qu := by rw [eG_1]; exact jm_at.s_jo hJ (upd jo ((nbR cnt nr on wk) f k).toNatClampNeg cn)
          have hF_5 : ms_fr j 4 G G_1 := by rw [eG_1]; exact ms_fr.up hF (by omega)
          have hf_6 := (congrFun eG_1 (c + 5 + f)).trans ((ms_up_n K _ (by omega)).trans (hC.2.2.2.2.2 f (by omega)))
          refine ms_run (pc' := 75) (lv' := [(7, .int ((nbR cnt nr on wk) f k)), (0, .ref j), (1, .ref c), (2, .int (nI f)), (4, .ref (c + 5 + f)), (5, .int (nI L.length)), (6, .int (nI k))]) (st' := [.ref j]) _ (ms_deC dX2_gatherBeside_74 ms_deN) rfl rfl ?_
          refine ms_getf dX2_gatherBeside_75 fg_X2_18 hJ_4.1 rfl ?_
          refine ms_run (pc' := 82) (lv' := [(7, .int ((nbR cnt nr on wk) f k)), (0, .ref j), (1, .ref c), (2, .int (nI f)), (4, .ref (c + 5 + f)), (5, .int (nI L.length)), (6, .int (nI k))]) (st' := [.int ((nbR cnt nr on wk) f k), .int (nI L.length), .ref (j + 3)]) _ (ms_deC dX2_gatherBeside_78 (ms_deC dX2_gatherBeside_80 ms_deN)) rfl rfl ?_
          refine ms_iastore dX2_gatherBeside_82 hJ_4.2.2.2 (vp_in_nI (Int32lt h_60 hL) (by omega)) ?_
          rw [nI_clamp (by omega)]
          have hon : ((nbR cnt nr on wk) f k) = nI ((nbR cnt nr on wk) f k).toNatClampNeg := by obtain ⟨j9, hj9, e9⟩ := nI_of (Int32.not_lt.mpr hn.1); rw [e9, nI_clamp hj9]
          rw [show upd qu L.length ((nbR cnt nr on wk) f k) = upd qu L.length (nI ((nbR cnt nr on wk) f k).toNatClampNeg) from congrArg _ hon]
          obtain ⟨G_7, eG_7⟩ : ∃ K9 : ms_H, K9 = ms_up G_1 (j + 3) (.inl (0, 24, .inl (upd qu L.length (nI ((nbR cnt nr on wk) f k).toNatClampNeg)))) := ⟨_, rfl⟩
          refine ms_W.heq eG_7 ?_
          have hG_8 : gr_at G_7 g fl w h nr := by rw [eG_7]; exact gr_at.up hG_2 (by omega)
          have hC_9 : cr_at G_7 g q c hd on ht cm wk := by rw [eG_7]; exact cr_at.up hC_3 (by omega)
          have hJ_10 : jm_at G_7 j cn wi (upd jo ((nbR cnt nr on wk) f k).toNatClampNeg cn) sz (upd qu L.length (nI ((nbR cnt nr on wk) f k).toNatClampNeg)) := by rw [eG_7]; exact jm_at.s_qu hJ_4 (upd qu L.length (nI ((nbR cnt nr on wk) f k).toNatClampNeg))
          have hF_11 : ms_fr j 4 G G_7 := by rw [eG_7]; exact ms_fr.up hF_5 (by omega)
          have hf_12 := (congrFun eG_7 (c + 5 + f)).trans ((ms_up_n G_1 _ (by omega)).trans hf_6)
          refine ms_run (pc' := 89) (lv' := [(6, .int ((nI k) + 1)), (5, .int ((nI L.length) + 1)), (7, .int ((nbR cnt nr on wk) f k)), (0, .ref j), (1, .ref c), (2, .int (nI f)), (4, .ref (c + 5 + f))]) (st' := []) _ (ms_deC dX2_gatherBeside_83 (ms_deC dX2_gatherBeside_86 ms_deN)) rfl rfl ?_
          refine ms_goto (tgt := 20) dX2_gatherBeside_89 (by decide) ?_
          have e9 : gbS (jbR cnt (hd 3) wk) (nbR cnt nr on wk) cn f S (k + 1) = (upd jo ((nbR cnt nr on wk) f k).toNatClampNeg cn, L ++ [((nbR cnt nr on wk) f k).toNatClampNeg]) := by show gb1 _ _ _ _ _ (gbS (jbR cnt (hd 3) wk) (nbR cnt nr on wk) cn f S k) = _; rw [hS]; exact if_pos ⟨hn, Int32lt h_60 hL⟩
          have h7 := ih (k + 1) (by omega) G_7 (upd qu L.length (nI ((nbR cnt nr on wk) f k).toNatClampNeg)) hG_8 hC_9 (by rw [e9]; exact hJ_10) (by rw [e9]; exact hU.add) hF_11
          rw [e9] at h7
          dsimp only at h7
          rw [List.length_append] at h7
          rw [nI_1 k, nI_1 L.length]
          refine ms_W.sub (lv2 := [(0, _), (1, _), (2, _), (4, _), (5, _), (6, _)]) ?_ [3, 4, 5, 6, 1, 0] rfl
          exact h7
      · rw [show ms_b (pNew (jbR cnt (hd 3) wk) jo ((nbR cnt nr on wk) f k)) = 0 from if_neg hn]
        refine ms_if_eq (tgt := 86) dX2_gatherBeside_53 (by decide) (fun _ => ?_) (fun h9 => absurd h9 (by decide))
        refine ms_run (pc' := 89) (lv' := [(6, .int ((nI k) + 1)), (7, .int ((nbR cnt nr on wk) f k)), (0, .ref j), (1, .ref c), (2, .int (nI f)), (4, .ref (c + 5 + f)), (5, .int (nI L.length))]) (st' := []) _ (ms_deC dX2_gatherBeside_86 ms_deN) rfl rfl ?_
        refine ms_goto (tgt := 20) dX2_gatherBeside_89 (by decide) ?_
        have e9 : gbS (jbR cnt (hd 3) wk) (nbR cnt nr on wk) cn f S (k + 1) = (jo, L) := by show gb1 _ _ _ _ _ (gbS (jbR cnt (hd 3) wk) (nbR cnt nr on wk) cn f S k) = _; rw [hS]; exact if_neg (fun z => by first | exact hn z.1 | exact Int32ge h_60 hL z.2)
        have h7 := ih (k + 1) (by omega) K qu hG hC (by rw [e9]; exact hJ) (by rw [e9]; exact hU) hF
        rw [e9] at h7
        rw [nI_1 k]
        refine ms_W.sub (lv2 := [(0, _), (1, _), (2, _), (4, _), (5, _), (6, _)]) ?_ [2, 3, 4, 5, 6, 0] rfl
        exact h7
set_option maxHeartbeats 4000000 in
set_option maxRecDepth 20000 in
theorem c_X2_gatherBeside {n g q c j : Nat} {G : ms_H} {fl w h : Int32} {nr : Nat → Int32} {hd on ht cm : Nat → Int32} {wk : Nat → Nat → Int32} {cnt : Nat} (hx : hd 0 = nI cnt) (hc : cnt ≤ 24) (hs : g + 1 < j) (hs2 : c + 28 < j) {cn wi : Int32} {sz : Nat → Int32} {f : Nat} (hf0 : f < cnt) {S : jmS} (hI0 : gbI cnt S) (hG : gr_at G g fl w h nr) (hC : cr_at G g q c hd on ht cm wk) {qu : Nat → Int32} (hJ : jm_at G j cn wi S.1 sz qu) (hU : bf_q S.2 qu) : ms_M m_X2_gatherBeside [.ref j, .ref c, .int (nI f), .int (nI S.2.length)] n G 0 0 (jm_P j n G (some (.int (nI (gbS (jbR cnt (hd 3) wk) (nbR cnt nr on wk) cn f S 4).2.length))) cn wi (gbS (jbR cnt (hd 3) wk) (nbR cnt nr on wk) cn f S 4).1 sz (gbS (jbR cnt (hd 3) wk) (nbR cnt nr on wk) cn f S 4).2) := by
  refine ms_M.of (by decide) (Nat.le_of_ble_eq_true rfl) ?_
  show ms_W false m_X2_gatherBeside _ 0 [(0, .ref j), (1, .ref c), (2, .int (nI f)), (3, .int (nI S.2.length))] [] n G 0 0
  refine ms_run (pc' := 2) (lv' := [(0, .ref j), (1, .ref c), (2, .int (nI f)), (3, .int (nI S.2.length))]) (st' := [.int (nI f), .ref c]) _ (ms_deC dX2_gatherBeside_0 (ms_deC dX2_gatherBeside_1 ms_deN)) rfl rfl ?_
  refine ms_callVp (As := [.int (nI f)]) dX2_gatherBeside_2 (c_X0_getI hC hx hc hf0) cv_X2_39 hC.1 rfl ⟨Nat.le_of_ble_eq_true rfl, Nat.le_of_ble_eq_true rfl⟩ rfl (Nat.le_of_ble_eq_true rfl) ?_
  refine ms_run (pc' := 9) (lv' := [(4, .ref (c + 5 + f)), (0, .ref j), (1, .ref c), (2, .int (nI f)), (3, .int (nI S.2.length))]) (st' := [.ref (c + 5 + f)]) _ (ms_deC dX2_gatherBeside_5 (ms_deC dX2_gatherBeside_7 ms_deN)) rfl rfl ?_
  refine ms_ifnonnull (tgt := 14) dX2_gatherBeside_9 (by decide) ?_
  refine ms_run (pc' := 20) (lv' := [(6, .int 0), (5, .int (nI S.2.length)), (4, .ref (c + 5 + f)), (0, .ref j), (1, .ref c), (2, .int (nI f)), (3, .int (nI S.2.length))]) (st' := []) _ (ms_deC dX2_gatherBeside_14 (ms_deC dX2_gatherBeside_15 (ms_deC dX2_gatherBeside_17 (ms_deC dX2_gatherBeside_18 ms_deN)))) rfl rfl ?_
  refine ms_W.sub (lv2 := [(0, _), (1, _), (2, _), (4, _), (5, _), (6, _)]) ?_ [3, 4, 5, 2, 1, 0] rfl
  exact l_X2_gatherBeside hx hc hs hs2 hf0 hI0 4 0 rfl G qu hG hC hJ hU ms_fr.rf
set_option maxHeartbeats 4000000 in
set_option maxRecDepth 20000 in
theorem l_X2_gather {n g q c j : Nat} {G : ms_H} {fl w h : Int32} {nr : Nat → Int32} {hd on ht cm : Nat → Int32} {wk : Nat → Nat → Int32} {cnt : Nat} (hx : hd 0 = nI cnt) (hc : cnt ≤ 24) (hs : g + 1 < j) (hs2 : c + 28 < j) {cn wi : Int32} {sz : Nat → Int32} {i9 : Int32} : ∀ (r k : Nat), k + r = 24 → ∀ (K : ms_H) (qu : Nat → Int32) (S : jmS), gbI cnt S → gr_at K g fl w h nr → cr_at K g q c hd on ht cm wk → jm_at K j cn wi S.1 sz qu → bf_q S.2 qu → ms_fr j 4 G K → ms_W false m_X2_gather (jm_P j n G (some (.int (nI (gbM (jbR cnt (hd 3) wk) (nbR cnt nr on wk) cn r k S).2.length))) cn wi (gbM (jbR cnt (hd 3) wk) (nbR cnt nr on wk) cn r k S).1 sz (gbM (jbR cnt (hd 3) wk) (nbR cnt nr on wk) cn r k S).2) 34 [(0, .ref j), (1, .ref c), (2, .int i9), (3, .int (nI S.2.length)), (4, .int (nI k))] [] n K 0 0 := by
  intro r
  induction r with
  | zero =>
    intro k hk K qu S hI hG hC hJ hU hF
    have hkN : k = 24 := by omega
    refine ms_run (pc' := 37) (lv' := [(0, .ref j), (1, .ref c), (2, .int i9), (3, .int (nI S.2.length)), (4, .int (nI k))]) (st' := [.int (nI S.2.length), .int (nI k)]) _ (ms_deC dX2_gather_34 (ms_deC dX2_gather_36 ms_deN)) rfl rfl ?_
    refine ms_icmp_ge (tgt := 67) dX2_gather_37 (by decide) (fun h_37 => ?_) (fun h_37 => ?_)
    · skip
      have hn9 : S.2[k]? = none := List.getElem?_eq_none (Nat.not_lt.mp (fun z => nI_ge z (by have := hI.1; omega) h_37))
      refine ms_run (pc' := 68) (lv' := [(0, .ref j), (1, .ref c), (2, .int i9), (3, .int (nI S.2.length)), (4, .int (nI k))]) (st' := [.int (nI S.2.length)]) _ (ms_deC dX2_gather_67 ms_deN) rfl rfl ?_
      refine ms_reti (st := []) (ty := .int) dX2_gather_68 rfl rfl ?_
      exact ⟨rfl, rfl, ⟨qu, hJ, hU⟩, hF⟩
    · skip
      have hlk : k < S.2.length := Nat.not_le.mp (fun z => h_37 (nI_le z (by have := hI.1; omega)))
      refine ms_run (pc' := 44) (lv' := [(0, .ref j), (1, .ref c), (2, .int i9), (3, .int (nI S.2.length)), (4, .int (nI k))]) (st' := [.int 24, .int (nI k)]) _ (ms_deC dX2_gather_40 (ms_deC dX2_gather_42 ms_deN)) rfl rfl ?_
      refine ms_icmp_ge (tgt := 67) dX2_gather_44 (by decide) (fun h_44 => ?_) (fun h_44 => ?_)
      · skip
        refine ms_run (pc' := 68) (lv' := [(0, .ref j), (1, .ref c), (2, .int i9), (3, .int (nI S.2.length)), (4, .int (nI k))]) (st' := [.int (nI S.2.length)]) _ (ms_deC dX2_gather_67 ms_deN) rfl rfl ?_
        refine ms_reti (st := []) (ty := .int) dX2_gather_68 rfl rfl ?_
        exact ⟨rfl, rfl, ⟨qu, hJ, hU⟩, hF⟩
      · skip
        exact absurd (show nI 24 ≤ nI k from nI_le (by omega) (by omega)) h_44
  | succ r ih =>
    intro k hk K qu S hI hG hC hJ hU hF
    have hlt : k < 24 := by omega
    refine ms_run (pc' := 37) (lv' := [(0, .ref j), (1, .ref c), (2, .int i9), (3, .int (nI S.2.length)), (4, .int (nI k))]) (st' := [.int (nI S.2.length), .int (nI k)]) _ (ms_deC dX2_gather_34 (ms_deC dX2_gather_36 ms_deN)) rfl rfl ?_
    refine ms_icmp_ge (tgt := 67) dX2_gather_37 (by decide) (fun h_37 => ?_) (fun h_37 => ?_)
    · skip
      have hn9 : S.2[k]? = none := List.getElem?_eq_none (Nat.not_lt.mp (fun z => nI_ge z (by have := hI.1; omega) h_37))
      rw [gbM_n hn9]
      refine ms_run (pc' := 68) (lv' := [(0, .ref j), (1, .ref c), (2, .int i9), (3, .int (nI S.2.length)), (4, .int (nI k))]) (st' := [.int (nI S.2.length)]) _ (ms_deC dX2_gather_67 ms_deN) rfl rfl ?_
      refine ms_reti (st := []) (ty := .int) dX2_gather_68 rfl rfl ?_
      exact ⟨rfl, rfl, ⟨qu, hJ, hU⟩, hF⟩
    · skip
      have hlk : k < S.2.length := Nat.not_le.mp (fun z => h_37 (nI_le z (by have := hI.1; omega)))
      refine ms_run (pc' := 44) (lv' := [(0, .ref j), (1, .ref c), (2, .int i9), (3, .int (nI S.2.length)), (4, .int (nI k))]) (st' := [.int 24, .int (nI k)]) _ (ms_deC dX2_gather_40 (ms_deC dX2_gather_42 ms_deN)) rfl rfl ?_
      refine ms_icmp_ge (tgt := 67) dX2_gather_44 (by decide) (fun h_44 => ?_) (fun h_44 => ?_)
      · skip
        exact absurd h_44 (show ¬ nI 24 ≤ nI k from nI_ge (by omega) (by omega))
      · skip
        obtain ⟨f, hfk⟩ : ∃ f, S.2[k]? = some f := ⟨_, List.getElem?_eq_getElem hlk⟩
        have hfm : f ∈ S.2 := List.mem_of_getElem? hfk
        rw [gbM_s hfk]
        refine ms_run (pc' := 50) (lv' := [(0, .ref j), (1, .ref c), (2, .int i9), (3, .int (nI S.2.length)), (4, .int (nI k))]) (st' := [.ref j, .ref c, .ref j]) _ (ms_deC dX2_gather_47 (ms_deC dX2_gather_48 (ms_deC dX2_gather_49 ms_deN))) rfl rfl ?_
        refine ms_getf dX2_gather_50 fg_X2_18 hJ.1 rfl ?_
        refine ms_run (pc' := 55) (lv' := [(0, .ref j), (1, .ref c), (2, .int i9), (3, .int (nI S.2.length)), (4, .int (nI k))]) (st' := [.int (nI k), .ref (j + 3), .ref c, .ref j]) _ (ms_deC dX2_gather_53 ms_deN) rfl rfl ?_
        refine ms_iaload dX2_gather_55 hJ.2.2.2 (vp_in_nI (by omega) (by omega)) ?_
        rw [nI_clamp (by omega), hU k f hfk]
        refine ms_run (pc' := 57) (lv' := [(0, .ref j), (1, .ref c), (2, .int i9), (3, .int (nI S.2.length)), (4, .int (nI k))]) (st' := [.int (nI S.2.length), .int (nI f), .ref c, .ref j]) _ (ms_deC dX2_gather_56 ms_deN) rfl rfl ?_
        refine ms_callV0 (As := [.ref c, .int (nI f), .int (nI S.2.length)]) dX2_gather_57 (c_X2_gatherBeside hx hc hs hs2 (hI.2 f hfm) hI hG hC hJ hU) cv_X2_47 hJ.1 rfl ⟨Nat.le_of_ble_eq_true rfl, Nat.le_of_ble_eq_true rfl⟩ rfl (Nat.le_of_ble_eq_true rfl) (fun v9 n9 K_gb hp9 => ?_)
        obtain ⟨hv9, rfl, ⟨qu2, hJ2, hU2⟩, hF2⟩ := hp9
        cases hv9
        have hG_1 : gr_at K_gb g fl w h nr := gr_at.fr hG hF2 (by omega)
        have hC_2 : cr_at K_gb g q c hd on ht cm wk := cr_at.fr hC hF2 (by omega)
        have hF_3 : ms_fr j 4 G K_gb := ms_fr.trans hF (ms_fr.mono hF2 (by omega) (by omega))
        refine ms_run (pc' := 64) (lv' := [(4, .int ((nI k) + 1)), (3, .int (nI (gbS (jbR cnt (hd 3) wk) (nbR cnt nr on wk) cn f S 4).2.length)), (0, .ref j), (1, .ref c), (2, .int i9)]) (st' := []) _ (ms_deC dX2_gather_60 (ms_deC dX2_gather_61 ms_deN)) rfl rfl ?_
        refine ms_goto (tgt := 34) dX2_gather_64 (by decide) ?_
        rw [nI_1 k]
        refine ms_W.sub (lv2 := [(0, _), (1, _), (2, _), (3, _), (4, _)]) ?_ [2, 3, 4, 1, 0] rfl
        exact ih (k + 1) (by omega) K_gb qu2 _ (gbS_I hI 4) hG_1 hC_2 hJ2 hU2 hF_3
set_option maxHeartbeats 4000000 in
set_option maxRecDepth 20000 in
theorem c_X2_gather {n g q c j : Nat} {G : ms_H} {fl w h : Int32} {nr : Nat → Int32} {hd on ht cm : Nat → Int32} {wk : Nat → Nat → Int32} {cnt : Nat} (hx : hd 0 = nI cnt) (hc : cnt ≤ 24) (hs : g + 1 < j) (hs2 : c + 28 < j) {cn wi : Int32} {sz : Nat → Int32} {jo qu : Nat → Int32} {i : Nat} (hi : i < cnt) (hG : gr_at G g fl w h nr) (hC : cr_at G g q c hd on ht cm wk) (hJ : jm_at G j cn wi jo sz qu) : ms_M m_X2_gather [.ref j, .ref c, .int (nI i)] n G 0 0 (jm_P j n G (some (.int (nI (gaX (jbR cnt (hd 3) wk) (nbR cnt nr on wk) jo cn i).2.length))) cn wi (gaX (jbR cnt (hd 3) wk) (nbR cnt nr on wk) jo cn i).1 sz (gaX (jbR cnt (hd 3) wk) (nbR cnt nr on wk) jo cn i).2) := by
  refine ms_M.of (by decide) (Nat.le_of_ble_eq_true rfl) ?_
  show ms_W false m_X2_gather _ 0 [(0, .ref j), (1, .ref c), (2, .int (nI i))] [] n G 0 0
  have hF : ms_fr j 4 G G := ms_fr.rf
  refine ms_run (pc' := 1) (lv' := [(0, .ref j), (1, .ref c), (2, .int (nI i))]) (st' := [.int (nI i)]) _ (ms_deC dX2_gather_0 ms_deN) rfl rfl ?_
  refine ms_if_lt (tgt := 10) dX2_gather_1 (by decide) (fun h_1 => ?_) (fun h_1 => ?_)
  · skip
    exact absurd h_1 (nI_pos (by omega))
  · skip
    refine ms_run (pc' := 7) (lv' := [(0, .ref j), (1, .ref c), (2, .int (nI i))]) (st' := [.int 24, .int (nI i)]) _ (ms_deC dX2_gather_4 (ms_deC dX2_gather_5 ms_deN)) rfl rfl ?_
    refine ms_icmp_lt (tgt := 12) dX2_gather_7 (by decide) (fun h_7 => ?_) (fun h_7 => ?_)
    · skip
      refine ms_run (pc' := 13) (lv' := [(0, .ref j), (1, .ref c), (2, .int (nI i))]) (st' := [.ref j]) _ (ms_deC dX2_gather_12 ms_deN) rfl rfl ?_
      refine ms_getf dX2_gather_13 fg_X2_9 hJ.1 rfl ?_
      refine ms_run (pc' := 18) (lv' := [(0, .ref j), (1, .ref c), (2, .int (nI i))]) (st' := [.ref j, .int (nI i), .ref (j + 1)]) _ (ms_deC dX2_gather_16 (ms_deC dX2_gather_17 ms_deN)) rfl rfl ?_
      refine ms_getf dX2_gather_18 fg_X2_21 hJ.1 rfl ?_
      refine ms_iastore dX2_gather_21 hJ.2.1 (vp_in_nI (by omega) (by omega)) ?_
      rw [nI_clamp (by omega)]
      obtain ⟨G_1, eG_1⟩ : ∃ K9 : ms_H, K9 = ms_up G (j + 1) (.inl (0, 24, .inl (upd jo i cn))) := ⟨_, rfl⟩
      refine ms_W.heq eG_1 ?_
      have hG_2 : gr_at G_1 g fl w h nr := by rw [eG_1]; exact gr_at.up hG (by omega)
      have hC_3 : cr_at G_1 g q c hd on ht cm wk := by rw [eG_1]; exact cr_at.up hC (by omega)
      have hJ_4 : jm_at G_1 j cn wi (upd jo i cn) sz qu := by rw [eG_1]; exact jm_at.s_jo hJ (upd jo i cn)
      have hF_5 : ms_fr j 4 G G_1 := by rw [eG_1]; exact ms_fr.up hF (by omega)
      refine ms_run (pc' := 23) (lv' := [(0, .ref j), (1, .ref c), (2, .int (nI i))]) (st' := [.ref j]) _ (ms_deC dX2_gather_22 ms_deN) rfl rfl ?_
      refine ms_getf dX2_gather_23 fg_X2_18 hJ_4.1 rfl ?_
      refine ms_run (pc' := 28) (lv' := [(0, .ref j), (1, .ref c), (2, .int (nI i))]) (st' := [.int (nI i), .int 0, .ref (j + 3)]) _ (ms_deC dX2_gather_26 (ms_deC dX2_gather_27 ms_deN)) rfl rfl ?_
      refine ms_iastore dX2_gather_28 hJ_4.2.2.2 (show vp_in (nI 0) 24 from vp_in_nI (by omega) (by omega)) ?_
      rw [show (0 : Int32).toNatClampNeg = 0 from rfl]
      obtain ⟨G_6, eG_6⟩ : ∃ K9 : ms_H, K9 = ms_up G_1 (j + 3) (.inl (0, 24, .inl (upd qu 0 (nI i)))) := ⟨_, rfl⟩
      refine ms_W.heq eG_6 ?_
      have hG_7 : gr_at G_6 g fl w h nr := by rw [eG_6]; exact gr_at.up hG_2 (by omega)
      have hC_8 : cr_at G_6 g q c hd on ht cm wk := by rw [eG_6]; exact cr_at.up hC_3 (by omega)
      have hJ_9 : jm_at G_6 j cn wi (upd jo i cn) sz (upd qu 0 (nI i)) := by rw [eG_6]; exact jm_at.s_qu hJ_4 (upd qu 0 (nI i))
      have hF_10 : ms_fr j 4 G G_6 := by rw [eG_6]; exact ms_fr.up hF_5 (by omega)
      refine ms_run (pc' := 34) (lv' := [(4, .int 0), (3, .int 1), (0, .ref j), (1, .ref c), (2, .int (nI i))]) (st' := []) _ (ms_deC dX2_gather_29 (ms_deC dX2_gather_30 (ms_deC dX2_gather_31 (ms_deC dX2_gather_32 ms_deN)))) rfl rfl ?_
      refine ms_W.sub (lv2 := [(0, _), (1, _), (2, _), (3, _), (4, _)]) ?_ [2, 3, 4, 1, 0] rfl
      exact l_X2_gather hx hc hs hs2 24 0 rfl _ _ (upd jo i cn, [i]) ⟨(show ([i] : List Nat).length ≤ 24 from by simp), fun x9 h9 => by rw [List.mem_singleton.mp h9]; exact hi⟩ hG_7 hC_8 hJ_9 (fun i9 f9 h9 => by cases i9 with | zero => simp at h9; subst h9; rfl | succ i9 => simp at h9) hF_10
    · skip
      exact absurd (show nI i < nI 24 from nI_lt (by omega) (by omega)) h_7
def fd_P (j n : Nat) (G : ms_H) (F : fdS) : ms_P := fun r n1 G1 => r = .inl none ∧ n1 = n ∧ (∃ qu, jm_at G1 j (nI F.2.2.1) F.2.2.2 F.1 F.2.1 qu) ∧ ms_fr j 4 G G1
set_option maxHeartbeats 4000000 in
set_option maxRecDepth 20000 in
theorem l2_X2_find {n g q c j : Nat} {G : ms_H} {fl w h : Int32} {nr : Nat → Int32} {hd on ht cm : Nat → Int32} {wk : Nat → Nat → Int32} {cnt : Nat} (hx : hd 0 = nI cnt) (hc : cnt ≤ 24) (hs : g + 1 < j) (hs2 : c + 28 < j) : ∀ (r k : Nat), k + r = cnt → ∀ (K : ms_H) (qu : Nat → Int32), gr_at K g fl w h nr → cr_at K g q c hd on ht cm wk → jm_at K j (nI (fdX (jbR cnt (hd 3) wk) (nbR cnt nr on wk) k).2.2.1) (fdX (jbR cnt (hd 3) wk) (nbR cnt nr on wk) k).2.2.2 (fdX (jbR cnt (hd 3) wk) (nbR cnt nr on wk) k).1 (fdX (jbR cnt (hd 3) wk) (nbR cnt nr on wk) k).2.1 qu → ms_fr j 4 G K → ms_W false m_X2_find (fd_P j n G (fdX (jbR cnt (hd 3) wk) (nbR cnt nr on wk) cnt)) 40 [(0, .ref j), (1, .ref c), (2, .int (nI k))] [] n K 0 0 := by
  intro r
  induction r with
  | zero =>
    intro k hk K qu hG hC hJ hF
    have hkN : k = cnt := by omega
    have hfn := fdX_n (jb := (jbR cnt (hd 3) wk)) (nb := (nbR cnt nr on wk)) k
    refine ms_run (pc' := 42) (lv' := [(0, .ref j), (1, .ref c), (2, .int (nI k))]) (st' := [.ref c, .int (nI k)]) _ (ms_deC dX2_find_40 (ms_deC dX2_find_41 ms_deN)) rfl rfl ?_
    refine ms_getf dX2_find_42 fg_X2_28 hC.1 rfl ?_
    refine ms_icmp_ge (tgt := 115) dX2_find_45 (by decide) (fun h_45 => ?_) (fun h_45 => ?_)
    · skip
      refine ms_retv (st := []) dX2_find_115 rfl ?_
      rw [hkN] at hJ
      exact ⟨rfl, rfl, ⟨qu, hJ⟩, hF⟩
    · skip
      exact absurd (by rw [hx]; exact nI_le (b := k) (by omega) (by omega)) h_45
  | succ r ih =>
    intro k hk K qu hG hC hJ hF
    have hlt : k < cnt := by omega
    have hfn := fdX_n (jb := (jbR cnt (hd 3) wk)) (nb := (nbR cnt nr on wk)) k
    refine ms_run (pc' := 42) (lv' := [(0, .ref j), (1, .ref c), (2, .int (nI k))]) (st' := [.ref c, .int (nI k)]) _ (ms_deC dX2_find_40 (ms_deC dX2_find_41 ms_deN)) rfl rfl ?_
    refine ms_getf dX2_find_42 fg_X2_28 hC.1 rfl ?_
    refine ms_icmp_ge (tgt := 115) dX2_find_45 (by decide) (fun h_45 => ?_) (fun h_45 => ?_)
    · skip
      exact absurd h_45 (by rw [hx]; exact nI_ge (b := cnt) (by omega) (by omega))
    · skip
      refine ms_run (pc' := 51) (lv' := [(0, .ref j), (1, .ref c), (2, .int (nI k))]) (st' := [.int (nI k), .ref c, .ref j]) _ (ms_deC dX2_find_48 (ms_deC dX2_find_49 (ms_deC dX2_find_50 ms_deN))) rfl rfl ?_
      refine ms_callVp (As := [.ref c, .int (nI k)]) dX2_find_51 (c_X2_isNewOne hG hC hx hc hJ (nI k)) cv_X2_31 hJ.1 rfl ⟨Nat.le_of_ble_eq_true rfl, Nat.le_of_ble_eq_true rfl⟩ rfl (Nat.le_of_ble_eq_true rfl) ?_
      by_cases hn : pNew (jbR cnt (hd 3) wk) (fdX (jbR cnt (hd 3) wk) (nbR cnt nr on wk) k).1 (nI k)
      · rw [show ms_b (pNew (jbR cnt (hd 3) wk) (fdX (jbR cnt (hd 3) wk) (nbR cnt nr on wk) k).1 (nI k)) = 1 from if_pos hn]
        refine ms_if_eq (tgt := 109) dX2_find_54 (by decide) (fun h9 => absurd h9 (by decide)) (fun _ => ?_)
        refine ms_run (pc' := 58) (lv' := [(0, .ref j), (1, .ref c), (2, .int (nI k))]) (st' := [.ref j]) _ (ms_deC dX2_find_57 ms_deN) rfl rfl ?_
        refine ms_getf dX2_find_58 fg_X2_21 hJ.1 rfl ?_
        refine ms_run (pc' := 63) (lv' := [(0, .ref j), (1, .ref c), (2, .int (nI k))]) (st' := [.int 24, .int (nI (fdX (jbR cnt (hd 3) wk) (nbR cnt nr on wk) k).2.2.1)]) _ (ms_deC dX2_find_61 ms_deN) rfl rfl ?_
        refine ms_icmp_ge (tgt := 109) dX2_find_63 (by decide) (fun h_63 => ?_) (fun h_63 => ?_)
        · skip
          exact absurd h_63 (show ¬ nI 24 ≤ nI (fdX (jbR cnt (hd 3) wk) (nbR cnt nr on wk) k).2.2.1 from nI_ge (by omega) (by omega))
        · skip
          refine ms_run (pc' := 67) (lv' := [(0, .ref j), (1, .ref c), (2, .int (nI k))]) (st' := [.ref j]) _ (ms_deC dX2_find_66 ms_deN) rfl rfl ?_
          refine ms_getf dX2_find_67 fg_X2_15 hJ.1 rfl ?_
          refine ms_run (pc' := 71) (lv' := [(0, .ref j), (1, .ref c), (2, .int (nI k))]) (st' := [.ref j, .ref (j + 2)]) _ (ms_deC dX2_find_70 ms_deN) rfl rfl ?_
          refine ms_getf dX2_find_71 fg_X2_21 hJ.1 rfl ?_
          refine ms_run (pc' := 77) (lv' := [(0, .ref j), (1, .ref c), (2, .int (nI k))]) (st' := [.int (nI k), .ref c, .ref j, .int (nI (fdX (jbR cnt (hd 3) wk) (nbR cnt nr on wk) k).2.2.1), .ref (j + 2)]) _ (ms_deC dX2_find_74 (ms_deC dX2_find_75 (ms_deC dX2_find_76 ms_deN))) rfl rfl ?_
          refine ms_callV0 (As := [.ref c, .int (nI k)]) dX2_find_77 (c_X2_gather hx hc hs hs2 hlt hG hC hJ) cv_X2_35 hJ.1 rfl ⟨Nat.le_of_ble_eq_true rfl, Nat.le_of_ble_eq_true rfl⟩ rfl (Nat.le_of_ble_eq_true rfl) (fun v9 n9 K_ga hp9 => ?_)
          obtain ⟨hv9, rfl, ⟨qu2, hJ2, hU2⟩, hF2⟩ := hp9
          cases hv9
          have hG_1 : gr_at K_ga g fl w h nr := gr_at.fr hG hF2 (by omega)
          have hC_2 : cr_at K_ga g q c hd on ht cm wk := cr_at.fr hC hF2 (by omega)
          have hF_3 : ms_fr j 4 G K_ga := ms_fr.trans hF (ms_fr.mono hF2 (by omega) (by omega))
          refine ms_iastore dX2_find_80 hJ2.2.2.1 (vp_in_nI (by omega) (by omega)) ?_
          rw [nI_clamp (by omega)]
          obtain ⟨G_4, eG_4⟩ : ∃ K9 : ms_H, K9 = ms_up K_ga (j + 2) (.inl (0, 24, .inl (upd (fdX (jbR cnt (hd 3) wk) (nbR cnt nr on wk) k).2.1 (fdX (jbR cnt (hd 3) wk) (nbR cnt nr on wk) k).2.2.1 (nI (gaX (jbR cnt (hd 3) wk) (nbR cnt nr on wk) (fdX (jbR cnt (hd 3) wk) (nbR cnt nr on wk) k).1 (nI (fdX (jbR cnt (hd 3) wk) (nbR cnt nr on wk) k).2.2.1) k).2.length)))) := ⟨_, rfl⟩
          refine ms_W.heq eG_4 ?_
          have hG_5 : gr_at G_4 g fl w h nr := by rw [eG_4]; exact gr_at.up hG_1 (by omega)
          have hC_6 : cr_at G_4 g q c hd on ht cm wk := by rw [eG_4]; exact cr_at.up hC_2 (by omega)
          have hJ2_7 : jm_at G_4 j (nI (fdX (jbR cnt (hd 3) wk) (nbR cnt nr on wk) k).2.2.1) ((fdX (jbR cnt (hd 3) wk) (nbR cnt nr on wk) k).2.2.2) ((gaX (jbR cnt (hd 3) wk) (nbR cnt nr on wk) (fdX (jbR cnt (hd 3) wk) (nbR cnt nr on wk) k).1 (nI (fdX (jbR cnt (hd 3) wk) (nbR cnt nr on wk) k).2.2.1) k).1) (upd (fdX (jbR cnt (hd 3) wk) (nbR cnt nr on wk) k).2.1 (fdX (jbR cnt (hd 3) wk) (nbR cnt nr on wk) k).2.2.1 (nI (gaX (jbR cnt (hd 3) wk) (nbR cnt nr on wk) (fdX (jbR cnt (hd 3) wk) (nbR cnt nr on wk) k).1 (nI (fdX (jbR cnt (hd 3) wk) (nbR cnt nr on wk) k).2.2.1) k).2.length)) qu2 := by rw [eG_4]; exact jm_at.s_sz hJ2 (upd (fdX (jbR cnt (hd 3) wk) (nbR cnt nr on wk) k).2.1 (fdX (jbR cnt (hd 3) wk) (nbR cnt nr on wk) k).2.2.1 (nI (gaX (jbR cnt (hd 3) wk) (nbR cnt nr on wk) (fdX (jbR cnt (hd 3) wk) (nbR cnt nr on wk) k).1 (nI (fdX (jbR cnt (hd 3) wk) (nbR cnt nr on wk) k).2.2.1) k).2.length))
          have hF_8 : ms_fr j 4 G G_4 := by rw [eG_4]; exact ms_fr.up hF_3 (by omega)
          refine ms_run (pc' := 83) (lv' := [(0, .ref j), (1, .ref c), (2, .int (nI k))]) (st' := [.ref j, .ref j]) _ (ms_deC dX2_find_81 (ms_deC dX2_find_82 ms_deN)) rfl rfl ?_
          refine ms_getf dX2_find_83 fg_X2_25 hJ2_7.1 rfl ?_
          refine ms_run (pc' := 87) (lv' := [(0, .ref j), (1, .ref c), (2, .int (nI k))]) (st' := [.ref j, .int ((fdX (jbR cnt (hd 3) wk) (nbR cnt nr on wk) k).2.2.2), .ref j]) _ (ms_deC dX2_find_86 ms_deN) rfl rfl ?_
          refine ms_getf dX2_find_87 fg_X2_15 hJ2_7.1 rfl ?_
          refine ms_run (pc' := 91) (lv' := [(0, .ref j), (1, .ref c), (2, .int (nI k))]) (st' := [.ref j, .ref (j + 2), .int ((fdX (jbR cnt (hd 3) wk) (nbR cnt nr on wk) k).2.2.2), .ref j]) _ (ms_deC dX2_find_90 ms_deN) rfl rfl ?_
          refine ms_getf dX2_find_91 fg_X2_21 hJ2_7.1 rfl ?_
          refine ms_iaload dX2_find_94 hJ2_7.2.2.1 (vp_in_nI (by omega) (by omega)) ?_
          rw [nI_clamp (by omega), pk_us]
          refine ms_run (pc' := 96) (lv' := [(0, .ref j), (1, .ref c), (2, .int (nI k))]) (st' := [.int (((fdX (jbR cnt (hd 3) wk) (nbR cnt nr on wk) k).2.2.2) + (nI (gaX (jbR cnt (hd 3) wk) (nbR cnt nr on wk) (fdX (jbR cnt (hd 3) wk) (nbR cnt nr on wk) k).1 (nI (fdX (jbR cnt (hd 3) wk) (nbR cnt nr on wk) k).2.2.1) k).2.length)), .ref j]) _ (ms_deC dX2_find_95 ms_deN) rfl rfl ?_
          refine ms_putf dX2_find_96 fp_X2_25 hJ2_7.1 (Nat.le_of_ble_eq_true rfl) rfl rfl ?_
          obtain ⟨G_9, eG_9⟩ : ∃ K9 : ms_H, K9 = ms_up G_4 j (.inr (2, [.int (nI (fdX (jbR cnt (hd 3) wk) (nbR cnt nr on wk) k).2.2.1), .int (((fdX (jbR cnt (hd 3) wk) (nbR cnt nr on wk) k).2.2.2) + (nI (gaX (jbR cnt (hd 3) wk) (nbR cnt nr on wk) (fdX (jbR cnt (hd 3) wk) (nbR cnt nr on wk) k).1 (nI (fdX (jbR cnt (hd 3) wk) (nbR cnt nr on wk) k).2.2.1) k).2.length)), .ref (j + 1), .ref (j + 2), .ref (j + 3)])) := ⟨_, rfl⟩
          refine ms_W.heq eG_9 ?_
          have hG_10 : gr_at G_9 g fl w h nr := by rw [eG_9]; exact gr_at.up hG_5 (by omega)
          have hC_11 : cr_at G_9 g q c hd on ht cm wk := by rw [eG_9]; exact cr_at.up hC_6 (by omega)
          have hJ2_12 : jm_at G_9 j (nI (fdX (jbR cnt (hd 3) wk) (nbR cnt nr on wk) k).2.2.1) (((fdX (jbR cnt (hd 3) wk) (nbR cnt nr on wk) k).2.2.2) + (nI (gaX (jbR cnt (hd 3) wk) (nbR cnt nr on wk) (fdX (jbR cnt (hd 3) wk) (nbR cnt nr on wk) k).1 (nI (fdX (jbR cnt (hd 3) wk) (nbR cnt nr on wk) k).2.2.1) k).2.length)) ((gaX (jbR cnt (hd 3) wk) (nbR cnt nr on wk) (fdX (jbR cnt (hd 3) wk) (nbR cnt nr on wk) k).1 (nI (fdX (jbR cnt (hd 3) wk) (nbR cnt nr on wk) k).2.2.1) k).1) (upd (fdX (jbR cnt (hd 3) wk) (nbR cnt nr on wk) k).2.1 (fdX (jbR cnt (hd 3) wk) (nbR cnt nr on wk) k).2.2.1 (nI (gaX (jbR cnt (hd 3) wk) (nbR cnt nr on wk) (fdX (jbR cnt (hd 3) wk) (nbR cnt nr on wk) k).1 (nI (fdX (jbR cnt (hd 3) wk) (nbR cnt nr on wk) k).2.2.1) k).2.length)) qu2 := by rw [eG_9]; exact jm_at.s_ob hJ2_7 (nI (fdX (jbR cnt (hd 3) wk) (nbR cnt nr on wk) k).2.2.1) (((fdX (jbR cnt (hd 3) wk) (nbR cnt nr on wk) k).2.2.2) + (nI (gaX (jbR cnt (hd 3) wk) (nbR cnt nr on wk) (fdX (jbR cnt (hd 3) wk) (nbR cnt nr on wk) k).1 (nI (fdX (jbR cnt (hd 3) wk) (nbR cnt nr on wk) k).2.2.1) k).2.length))
          have hF_13 : ms_fr j 4 G G_9 := by rw [eG_9]; exact ms_fr.up hF_8 (by omega)
          refine ms_run (pc' := 101) (lv' := [(0, .ref j), (1, .ref c), (2, .int (nI k))]) (st' := [.ref j, .ref j]) _ (ms_deC dX2_find_99 (ms_deC dX2_find_100 ms_deN)) rfl rfl ?_
          refine ms_getf dX2_find_101 fg_X2_21 hJ2_12.1 rfl ?_
          refine ms_run (pc' := 106) (lv' := [(0, .ref j), (1, .ref c), (2, .int (nI k))]) (st' := [.int ((nI (fdX (jbR cnt (hd 3) wk) (nbR cnt nr on wk) k).2.2.1) + 1), .ref j]) _ (ms_deC dX2_find_104 (ms_deC dX2_find_105 ms_deN)) rfl rfl ?_
          refine ms_putf dX2_find_106 fp_X2_21 hJ2_12.1 (Nat.le_of_ble_eq_true rfl) rfl rfl ?_
          rw [nI_1 (fdX (jbR cnt (hd 3) wk) (nbR cnt nr on wk) k).2.2.1]
          obtain ⟨G_14, eG_14⟩ : ∃ K9 : ms_H, K9 = ms_up G_9 j (.inr (2, [.int (nI ((fdX (jbR cnt (hd 3) wk) (nbR cnt nr on wk) k).2.2.1 + 1)), .int (((fdX (jbR cnt (hd 3) wk) (nbR cnt nr on wk) k).2.2.2) + (nI (gaX (jbR cnt (hd 3) wk) (nbR cnt nr on wk) (fdX (jbR cnt (hd 3) wk) (nbR cnt nr on wk) k).1 (nI (fdX (jbR cnt (hd 3) wk) (nbR cnt nr on wk) k).2.2.1) k).2.length)), .ref (j + 1), .ref (j + 2), .ref (j + 3)])) := ⟨_, rfl⟩
          refine ms_W.heq eG_14 ?_
          have hG_15 : gr_at G_14 g fl w h nr := by rw [eG_14]; exact gr_at.up hG_10 (by omega)
          have hC_16 : cr_at G_14 g q c hd on ht cm wk := by rw [eG_14]; exact cr_at.up hC_11 (by omega)
          have hJ2_17 : jm_at G_14 j (nI ((fdX (jbR cnt (hd 3) wk) (nbR cnt nr on wk) k).2.2.1 + 1)) (((fdX (jbR cnt (hd 3) wk) (nbR cnt nr on wk) k).2.2.2) + (nI (gaX (jbR cnt (hd 3) wk) (nbR cnt nr on wk) (fdX (jbR cnt (hd 3) wk) (nbR cnt nr on wk) k).1 (nI (fdX (jbR cnt (hd 3) wk) (nbR cnt nr on wk) k).2.2.1) k).2.length)) ((gaX (jbR cnt (hd 3) wk) (nbR cnt nr on wk) (fdX (jbR cnt (hd 3) wk) (nbR cnt nr on wk) k).1 (nI (fdX (jbR cnt (hd 3) wk) (nbR cnt nr on wk) k).2.2.1) k).1) (upd (fdX (jbR cnt (hd 3) wk) (nbR cnt nr on wk) k).2.1 (fdX (jbR cnt (hd 3) wk) (nbR cnt nr on wk) k).2.2.1 (nI (gaX (jbR cnt (hd 3) wk) (nbR cnt nr on wk) (fdX (jbR cnt (hd 3) wk) (nbR cnt nr on wk) k).1 (nI (fdX (jbR cnt (hd 3) wk) (nbR cnt nr on wk) k).2.2.1) k).2.length)) qu2 := by rw [eG_14]; exact jm_at.s_ob hJ2_12 (nI ((fdX (jbR cnt (hd 3) wk) (nbR cnt nr on wk) k).2.2.1 + 1)) (((fdX (jbR cnt (hd 3) wk) (nbR cnt nr on wk) k).2.2.2) + (nI (gaX (jbR cnt (hd 3) wk) (nbR cnt nr on wk) (fdX (jbR cnt (hd 3) wk) (nbR cnt nr on wk) k).1 (nI (fdX (jbR cnt (hd 3) wk) (nbR cnt nr on wk) k).2.2.1) k).2.length))
          have hF_18 : ms_fr j 4 G G_14 := by rw [eG_14]; exact ms_fr.up hF_13 (by omega)
          refine ms_run (pc' := 112) (lv' := [(2, .int ((nI k) + 1)), (0, .ref j), (1, .ref c)]) (st' := []) _ (ms_deC dX2_find_109 ms_deN) rfl rfl ?_
          refine ms_goto (tgt := 40) dX2_find_112 (by decide) ?_
          have e9 : fdX (jbR cnt (hd 3) wk) (nbR cnt nr on wk) (k + 1) = ((gaX (jbR cnt (hd 3) wk) (nbR cnt nr on wk) (fdX (jbR cnt (hd 3) wk) (nbR cnt nr on wk) k).1 (nI (fdX (jbR cnt (hd 3) wk) (nbR cnt nr on wk) k).2.2.1) k).1, upd (fdX (jbR cnt (hd 3) wk) (nbR cnt nr on wk) k).2.1 (fdX (jbR cnt (hd 3) wk) (nbR cnt nr on wk) k).2.2.1 (nI (gaX (jbR cnt (hd 3) wk) (nbR cnt nr on wk) (fdX (jbR cnt (hd 3) wk) (nbR cnt nr on wk) k).1 (nI (fdX (jbR cnt (hd 3) wk) (nbR cnt nr on wk) k).2.2.1) k).2.length), (fdX (jbR cnt (hd 3) wk) (nbR cnt nr on wk) k).2.2.1 + 1, (fdX (jbR cnt (hd 3) wk) (nbR cnt nr on wk) k).2.2.2 + nI (gaX (jbR cnt (hd 3) wk) (nbR cnt nr on wk) (fdX (jbR cnt (hd 3) wk) (nbR cnt nr on wk) k).1 (nI (fdX (jbR cnt (hd 3) wk) (nbR cnt nr on wk) k).2.2.1) k).2.length) := if_pos ⟨hn, by omega⟩
          have h7 := ih (k + 1) (by omega) G_14 qu2 hG_15 hC_16 (by rw [e9]; exact hJ2_17) hF_18
          rw [nI_1 k]
          refine ms_W.sub (lv2 := [(0, _), (1, _), (2, _)]) ?_ [1, 2, 0] rfl
          exact h7
      · rw [show ms_b (pNew (jbR cnt (hd 3) wk) (fdX (jbR cnt (hd 3) wk) (nbR cnt nr on wk) k).1 (nI k)) = 0 from if_neg hn]
        refine ms_if_eq (tgt := 109) dX2_find_54 (by decide) (fun _ => ?_) (fun h9 => absurd h9 (by decide))
        refine ms_run (pc' := 112) (lv' := [(2, .int ((nI k) + 1)), (0, .ref j), (1, .ref c)]) (st' := []) _ (ms_deC dX2_find_109 ms_deN) rfl rfl ?_
        refine ms_goto (tgt := 40) dX2_find_112 (by decide) ?_
        have e9 : fdX (jbR cnt (hd 3) wk) (nbR cnt nr on wk) (k + 1) = (fdX (jbR cnt (hd 3) wk) (nbR cnt nr on wk) k) := if_neg (fun z => hn z.1)
        have h7 := ih (k + 1) (by omega) K qu hG hC (by rw [e9]; exact hJ) hF
        rw [nI_1 k]
        refine ms_W.sub (lv2 := [(0, _), (1, _), (2, _)]) ?_ [1, 2, 0] rfl
        exact h7
set_option maxHeartbeats 4000000 in
set_option maxRecDepth 20000 in
theorem l1_X2_find {n g q c j : Nat} {G : ms_H} {fl w h : Int32} {nr : Nat → Int32} {hd on ht cm : Nat → Int32} {wk : Nat → Nat → Int32} {cnt : Nat} (hx : hd 0 = nI cnt) (hc : cnt ≤ 24) (hs : g + 1 < j) (hs2 : c + 28 < j) {jo sz qu : Nat → Int32} : ∀ (r k : Nat), k + r = 24 → ∀ (K : ms_H), gr_at K g fl w h nr → cr_at K g q c hd on ht cm wk → jm_at K j 0 0 (fl_ jo (-1) k) (fl_ sz 0 k) qu → ms_fr j 4 G K → ms_W false m_X2_find (fd_P j n G (fdX (jbR cnt (hd 3) wk) (nbR cnt nr on wk) cnt)) 12 [(0, .ref j), (1, .ref c), (2, .int (nI k))] [] n K 0 0 := by
  intro r
  induction r with
  | zero =>
    intro k hk K hG hC hJ hF
    have hkN : k = 24 := by omega
    refine ms_run (pc' := 15) (lv' := [(0, .ref j), (1, .ref c), (2, .int (nI k))]) (st' := [.int 24, .int (nI k)]) _ (ms_deC dX2_find_12 (ms_deC dX2_find_13 ms_deN)) rfl rfl ?_
    refine ms_icmp_ge (tgt := 38) dX2_find_15 (by decide) (fun h_15 => ?_) (fun h_15 => ?_)
    · skip
      refine ms_run (pc' := 40) (lv' := [(2, .int 0), (0, .ref j), (1, .ref c)]) (st' := []) _ (ms_deC dX2_find_38 (ms_deC dX2_find_39 ms_deN)) rfl rfl ?_
      refine ms_extI (f' := (fun _ => -1)) hJ.2.1 (fun j9 h9 => by rw [hkN]; exact fl_n j9 h9) ?_
      obtain ⟨G_1, eG_1⟩ : ∃ K9 : ms_H, K9 = ms_up K (j + 1) (.inl (0, 24, .inl (fun _ => -1))) := ⟨_, rfl⟩
      refine ms_W.heq eG_1 ?_
      have hG_2 : gr_at G_1 g fl w h nr := by rw [eG_1]; exact gr_at.up hG (by omega)
      have hC_3 : cr_at G_1 g q c hd on ht cm wk := by rw [eG_1]; exact cr_at.up hC (by omega)
      have hJ_4 : jm_at G_1 j 0 0 (fun _ => -1) (fl_ sz 0 k) qu := by rw [eG_1]; exact jm_at.s_jo hJ (fun _ => -1)
      have hF_5 : ms_fr j 4 G G_1 := by rw [eG_1]; exact ms_fr.up hF (by omega)
      refine ms_extI (f' := (fun _ => 0)) hJ_4.2.2.1 (fun j9 h9 => by rw [hkN]; exact fl_n j9 h9) ?_
      obtain ⟨G_6, eG_6⟩ : ∃ K9 : ms_H, K9 = ms_up G_1 (j + 2) (.inl (0, 24, .inl (fun _ => 0))) := ⟨_, rfl⟩
      refine ms_W.heq eG_6 ?_
      have hG_7 : gr_at G_6 g fl w h nr := by rw [eG_6]; exact gr_at.up hG_2 (by omega)
      have hC_8 : cr_at G_6 g q c hd on ht cm wk := by rw [eG_6]; exact cr_at.up hC_3 (by omega)
      have hJ_9 : jm_at G_6 j 0 0 (fun _ => -1) (fun _ => 0) qu := by rw [eG_6]; exact jm_at.s_sz hJ_4 (fun _ => 0)
      have hF_10 : ms_fr j 4 G G_6 := by rw [eG_6]; exact ms_fr.up hF_5 (by omega)
      refine ms_W.sub (lv2 := [(0, _), (1, _), (2, _)]) ?_ [1, 2, 0] rfl
      exact l2_X2_find hx hc hs hs2 cnt 0 (by omega) _ qu hG_7 hC_8 hJ_9 hF_10
    · skip
      exact absurd (by show nI 24 ≤ nI k; exact nI_le (b := k) (by omega) (by omega)) h_15
  | succ r ih =>
    intro k hk K hG hC hJ hF
    have hlt : k < 24 := by omega
    refine ms_run (pc' := 15) (lv' := [(0, .ref j), (1, .ref c), (2, .int (nI k))]) (st' := [.int 24, .int (nI k)]) _ (ms_deC dX2_find_12 (ms_deC dX2_find_13 ms_deN)) rfl rfl ?_
    refine ms_icmp_ge (tgt := 38) dX2_find_15 (by decide) (fun h_15 => ?_) (fun h_15 => ?_)
    · skip
      exact absurd h_15 (by show ¬ nI 24 ≤ nI k; exact nI_ge (b := 24) (by omega) (by omega))
    · skip
      refine ms_run (pc' := 19) (lv' := [(0, .ref j), (1, .ref c), (2, .int (nI k))]) (st' := [.ref j]) _ (ms_deC dX2_find_18 ms_deN) rfl rfl ?_
      refine ms_getf dX2_find_19 fg_X2_9 hJ.1 rfl ?_
      refine ms_run (pc' := 24) (lv' := [(0, .ref j), (1, .ref c), (2, .int (nI k))]) (st' := [.int (-1), .int (nI k), .ref (j + 1)]) _ (ms_deC dX2_find_22 (ms_deC dX2_find_23 ms_deN)) rfl rfl ?_
      refine ms_iastore dX2_find_24 hJ.2.1 (vp_in_nI (by omega) (by omega)) ?_
      rw [nI_clamp (by omega), fl_s]
      obtain ⟨G_1, eG_1⟩ : ∃ K9 : ms_H, K9 = ms_up K (j + 1) (.inl (0, 24, .inl (fl_ jo (-1) (k + 1)))) := ⟨_, rfl⟩
      refine ms_W.heq eG_1 ?_
      have hG_2 : gr_at G_1 g fl w h nr := by rw [eG_1]; exact gr_at.up hG (by omega)
      have hC_3 : cr_at G_1 g q c hd on ht cm wk := by rw [eG_1]; exact cr_at.up hC (by omega)
      have hJ_4 : jm_at G_1 j 0 0 (fl_ jo (-1) (k + 1)) (fl_ sz 0 k) qu := by rw [eG_1]; exact jm_at.s_jo hJ (fl_ jo (-1) (k + 1))
      have hF_5 : ms_fr j 4 G G_1 := by rw [eG_1]; exact ms_fr.up hF (by omega)
      refine ms_run (pc' := 26) (lv' := [(0, .ref j), (1, .ref c), (2, .int (nI k))]) (st' := [.ref j]) _ (ms_deC dX2_find_25 ms_deN) rfl rfl ?_
      refine ms_getf dX2_find_26 fg_X2_15 hJ_4.1 rfl ?_
      refine ms_run (pc' := 31) (lv' := [(0, .ref j), (1, .ref c), (2, .int (nI k))]) (st' := [.int 0, .int (nI k), .ref (j + 2)]) _ (ms_deC dX2_find_29 (ms_deC dX2_find_30 ms_deN)) rfl rfl ?_
      refine ms_iastore dX2_find_31 hJ_4.2.2.1 (vp_in_nI (by omega) (by omega)) ?_
      rw [nI_clamp (by omega), fl_s]
      obtain ⟨G_6, eG_6⟩ : ∃ K9 : ms_H, K9 = ms_up G_1 (j + 2) (.inl (0, 24, .inl (fl_ sz 0 (k + 1)))) := ⟨_, rfl⟩
      refine ms_W.heq eG_6 ?_
      have hG_7 : gr_at G_6 g fl w h nr := by rw [eG_6]; exact gr_at.up hG_2 (by omega)
      have hC_8 : cr_at G_6 g q c hd on ht cm wk := by rw [eG_6]; exact cr_at.up hC_3 (by omega)
      have hJ_9 : jm_at G_6 j 0 0 (fl_ jo (-1) (k + 1)) (fl_ sz 0 (k + 1)) qu := by rw [eG_6]; exact jm_at.s_sz hJ_4 (fl_ sz 0 (k + 1))
      have hF_10 : ms_fr j 4 G G_6 := by rw [eG_6]; exact ms_fr.up hF_5 (by omega)
      refine ms_run (pc' := 35) (lv' := [(2, .int ((nI k) + 1)), (0, .ref j), (1, .ref c)]) (st' := []) _ (ms_deC dX2_find_32 ms_deN) rfl rfl ?_
      refine ms_goto (tgt := 12) dX2_find_35 (by decide) ?_
      rw [nI_1 k]
      refine ms_W.sub (lv2 := [(0, _), (1, _), (2, _)]) ?_ [1, 2, 0] rfl
      exact ih (k + 1) (by omega) G_6 hG_7 hC_8 hJ_9 hF_10
set_option maxHeartbeats 4000000 in
set_option maxRecDepth 20000 in
theorem c_X2_find {n g q c j : Nat} {G : ms_H} {fl w h : Int32} {nr : Nat → Int32} {hd on ht cm : Nat → Int32} {wk : Nat → Nat → Int32} {cnt : Nat} (hx : hd 0 = nI cnt) (hc : cnt ≤ 24) (hs : g + 1 < j) (hs2 : c + 28 < j) {cn wi : Int32} {jo sz qu : Nat → Int32} (hG : gr_at G g fl w h nr) (hC : cr_at G g q c hd on ht cm wk) (hJ : jm_at G j cn wi jo sz qu) : ms_M m_X2_find [.ref j, .ref c] n G 0 0 (fd_P j n G (fdX (jbR cnt (hd 3) wk) (nbR cnt nr on wk) cnt)) := by
  refine ms_M.of (by decide) (Nat.le_of_ble_eq_true rfl) ?_
  show ms_W false m_X2_find _ 0 [(0, .ref j), (1, .ref c)] [] n G 0 0
  have hF : ms_fr j 4 G G := ms_fr.rf
  refine ms_run (pc' := 2) (lv' := [(0, .ref j), (1, .ref c)]) (st' := [.int 0, .ref j]) _ (ms_deC dX2_find_0 (ms_deC dX2_find_1 ms_deN)) rfl rfl ?_
  refine ms_putf dX2_find_2 fp_X2_21 hJ.1 (Nat.le_of_ble_eq_true rfl) rfl rfl ?_
  obtain ⟨G_1, eG_1⟩ : ∃ K9 : ms_H, K9 = ms_up G j (.inr (2, [.int 0, .int wi, .ref (j + 1), .ref (j + 2), .ref (j + 3)])) := ⟨_, rfl⟩
  refine ms_W.heq eG_1 ?_
  have hG_2 : gr_at G_1 g fl w h nr := by rw [eG_1]; exact gr_at.up hG (by omega)
  have hC_3 : cr_at G_1 g q c hd on ht cm wk := by rw [eG_1]; exact cr_at.up hC (by omega)
  have hJ_4 : jm_at G_1 j 0 wi jo sz qu := by rw [eG_1]; exact jm_at.s_ob hJ 0 wi
  have hF_5 : ms_fr j 4 G G_1 := by rw [eG_1]; exact ms_fr.up hF (by omega)
  refine ms_run (pc' := 7) (lv' := [(0, .ref j), (1, .ref c)]) (st' := [.int 0, .ref j]) _ (ms_deC dX2_find_5 (ms_deC dX2_find_6 ms_deN)) rfl rfl ?_
  refine ms_putf dX2_find_7 fp_X2_25 hJ_4.1 (Nat.le_of_ble_eq_true rfl) rfl rfl ?_
  obtain ⟨G_6, eG_6⟩ : ∃ K9 : ms_H, K9 = ms_up G_1 j (.inr (2, [.int 0, .int 0, .ref (j + 1), .ref (j + 2), .ref (j + 3)])) := ⟨_, rfl⟩
  refine ms_W.heq eG_6 ?_
  have hG_7 : gr_at G_6 g fl w h nr := by rw [eG_6]; exact gr_at.up hG_2 (by omega)
  have hC_8 : cr_at G_6 g q c hd on ht cm wk := by rw [eG_6]; exact cr_at.up hC_3 (by omega)
  have hJ_9 : jm_at G_6 j 0 0 jo sz qu := by rw [eG_6]; exact jm_at.s_ob hJ_4 0 0
  have hF_10 : ms_fr j 4 G G_6 := by rw [eG_6]; exact ms_fr.up hF_5 (by omega)
  refine ms_run (pc' := 12) (lv' := [(2, .int 0), (0, .ref j), (1, .ref c)]) (st' := []) _ (ms_deC dX2_find_10 (ms_deC dX2_find_11 ms_deN)) rfl rfl ?_
  refine ms_W.sub (lv2 := [(0, _), (1, _), (2, _)]) ?_ [1, 2, 0] rfl
  exact l1_X2_find (jo := jo) (sz := sz) hx hc hs hs2 24 0 rfl _ hG_7 hC_8 (by rw [fl_0, fl_0]; exact hJ_9) hF_10
/-- the greatest of the first k numbers, 0 at least -/
def mx0 (f : Nat → Int32) : Nat → Int32
  | 0 => 0
  | k + 1 => if mx0 f k < f k then f k else mx0 f k
def jm_sz (jo sz : Nat → Int32) (o : Int32) : Int32 := if 0 ≤ o ∧ o < 24 then (if 0 ≤ jo o.toNatClampNeg ∧ jo o.toNatClampNeg < 24 then sz (jo o.toNatClampNeg).toNatClampNeg else 0) else 0
set_option maxHeartbeats 2000000 in
set_option maxRecDepth 20000 in
theorem l_X2_greatest {n j cn : Nat} {G : ms_H} {wi : Int32} {jo sz qu : Nat → Int32} (hJ : jm_at G j (nI cn) wi jo sz qu) (hcn : cn ≤ 24) : ∀ (r k : Nat), k + r = cn → ms_W false m_X2_greatest (ms_p1 (some (.int (mx0 sz cn))) n G) 4 [(0, .ref j), (1, .int (mx0 sz k)), (2, .int (nI k))] [] n G 0 0 := by
  intro r
  induction r with
  | zero =>
    intro k hk
    have hkN : k = cn := by omega
    refine ms_run (pc' := 6) (lv' := [(0, .ref j), (1, .int (mx0 sz k)), (2, .int (nI k))]) (st' := [.ref j, .int (nI k)]) _ (ms_deC dX2_greatest_4 (ms_deC dX2_greatest_5 ms_deN)) rfl rfl ?_
    refine ms_getf dX2_greatest_6 fg_X2_21 hJ.1 rfl ?_
    refine ms_icmp_ge (tgt := 35) dX2_greatest_9 (by decide) (fun h_9 => ?_) (fun h_9 => ?_)
    · skip
      refine ms_run (pc' := 36) (lv' := [(0, .ref j), (1, .int (mx0 sz k)), (2, .int (nI k))]) (st' := [.int (mx0 sz k)]) _ (ms_deC dX2_greatest_35 ms_deN) rfl rfl ?_
      refine ms_reti (st := []) (ty := .int) dX2_greatest_36 rfl rfl ?_
      exact ms_p1.mk (by rw [hkN]) rfl
    · skip
      exact absurd (by exact nI_le (b := k) (by omega) (by omega)) h_9
  | succ r ih =>
    intro k hk
    have hlt : k < cn := by omega
    refine ms_run (pc' := 6) (lv' := [(0, .ref j), (1, .int (mx0 sz k)), (2, .int (nI k))]) (st' := [.ref j, .int (nI k)]) _ (ms_deC dX2_greatest_4 (ms_deC dX2_greatest_5 ms_deN)) rfl rfl ?_
    refine ms_getf dX2_greatest_6 fg_X2_21 hJ.1 rfl ?_
    refine ms_icmp_ge (tgt := 35) dX2_greatest_9 (by decide) (fun h_9 => ?_) (fun h_9 => ?_)
    · skip
      exact absurd h_9 (by exact nI_ge (b := cn) (by omega) (by omega))
    · skip
      refine ms_run (pc' := 15) (lv' := [(0, .ref j), (1, .int (mx0 sz k)), (2, .int (nI k))]) (st' := [.int 24, .int (nI k)]) _ (ms_deC dX2_greatest_12 (ms_deC dX2_greatest_13 ms_deN)) rfl rfl ?_
      refine ms_icmp_ge (tgt := 35) dX2_greatest_15 (by decide) (fun h_15 => ?_) (fun h_15 => ?_)
      · skip
        exact absurd h_15 (show ¬ nI 24 ≤ nI k from nI_ge (by omega) (by omega))
      · skip
        refine ms_run (pc' := 20) (lv' := [(0, .ref j), (1, .int (mx0 sz k)), (2, .int (nI k))]) (st' := [.ref j, .int (mx0 sz k)]) _ (ms_deC dX2_greatest_18 (ms_deC dX2_greatest_19 ms_deN)) rfl rfl ?_
        refine ms_getf dX2_greatest_20 fg_X2_15 hJ.1 rfl ?_
        refine ms_run (pc' := 24) (lv' := [(0, .ref j), (1, .int (mx0 sz k)), (2, .int (nI k))]) (st' := [.int (nI k), .ref (j + 2), .int (mx0 sz k)]) _ (ms_deC dX2_greatest_23 ms_deN) rfl rfl ?_
        refine ms_iaload dX2_greatest_24 hJ.2.2.1 (vp_in_nI (by omega) (by omega)) ?_
        rw [nI_clamp (by omega)]
        refine ms_max dX2_greatest_25 mm_X2_70 ⟨Nat.le_of_ble_eq_true rfl, Nat.le_of_ble_eq_true rfl⟩ (Nat.le_of_ble_eq_true rfl) ?_
        refine ms_run (pc' := 32) (lv' := [(2, .int ((nI k) + 1)), (1, .int (if mx0 sz k < sz k then sz k else mx0 sz k)), (0, .ref j)]) (st' := []) _ (ms_deC dX2_greatest_28 (ms_deC dX2_greatest_29 ms_deN)) rfl rfl ?_
        refine ms_goto (tgt := 4) dX2_greatest_32 (by decide) ?_
        show ms_W _ _ _ _ [(2, .int (nI k + 1)), (1, .int (mx0 sz (k + 1))), (0, .ref j)] _ _ _ _ _
        rw [nI_1 k]
        refine ms_W.sub (lv2 := [(0, _), (1, _), (2, _)]) ?_ [2, 1, 0] rfl
        exact ih (k + 1) (by omega)
set_option maxHeartbeats 2000000 in
set_option maxRecDepth 20000 in
theorem c_X2_greatest {n j cn : Nat} {G : ms_H} {wi : Int32} {jo sz qu : Nat → Int32} (hJ : jm_at G j (nI cn) wi jo sz qu) (hcn : cn ≤ 24) : ms_M m_X2_greatest [.ref j] n G 0 0 (ms_p1 (some (.int (mx0 sz cn))) n G) := by
  refine ms_M.of (by decide) (Nat.le_of_ble_eq_true rfl) ?_
  show ms_W false m_X2_greatest _ 0 [(0, .ref j)] [] n G 0 0
  refine ms_run (pc' := 4) (lv' := [(2, .int 0), (1, .int 0), (0, .ref j)]) (st' := []) _ (ms_deC dX2_greatest_0 (ms_deC dX2_greatest_1 (ms_deC dX2_greatest_2 (ms_deC dX2_greatest_3 ms_deN)))) rfl rfl ?_
  refine ms_W.sub (lv2 := [(0, _), (1, _), (2, _)]) ?_ [2, 1, 0] rfl
  exact l_X2_greatest hJ hcn cn 0 (by omega)
set_option maxHeartbeats 2000000 in
set_option maxRecDepth 20000 in
theorem c_X2_sizeAround {n j : Nat} {G : ms_H} {cn wi : Int32} {jo sz qu : Nat → Int32} (hJ : jm_at G j cn wi jo sz qu) (o : Int32) : ms_M m_X2_sizeAround [.ref j, .int o] n G 0 0 (ms_p1 (some (.int (jm_sz jo sz o))) n G) := by
  refine ms_M.of (by decide) (Nat.le_of_ble_eq_true rfl) ?_
  show ms_W false m_X2_sizeAround _ 0 [(0, .ref j), (1, .int o)] [] n G 0 0
  refine ms_run (pc' := 1) (lv' := [(0, .ref j), (1, .int o)]) (st' := [.int o]) _ (ms_deC dX2_sizeAround_0 ms_deN) rfl rfl ?_
  refine ms_if_lt (tgt := 10) dX2_sizeAround_1 (by decide) (fun h_1 => ?_) (fun h_1 => ?_)
  · skip
    refine ms_run (pc' := 11) (lv' := [(0, .ref j), (1, .int o)]) (st' := [.int 0]) _ (ms_deC dX2_sizeAround_10 ms_deN) rfl rfl ?_
    refine ms_reti (st := []) (ty := .int) dX2_sizeAround_11 rfl rfl ?_
    exact ms_p1.mk (ms_int_eq (by unfold jm_sz; grind)) rfl
  · skip
    refine ms_run (pc' := 7) (lv' := [(0, .ref j), (1, .int o)]) (st' := [.int 24, .int o]) _ (ms_deC dX2_sizeAround_4 (ms_deC dX2_sizeAround_5 ms_deN)) rfl rfl ?_
    refine ms_icmp_lt (tgt := 12) dX2_sizeAround_7 (by decide) (fun h_7 => ?_) (fun h_7 => ?_)
    · skip
      refine ms_run (pc' := 13) (lv' := [(0, .ref j), (1, .int o)]) (st' := [.ref j]) _ (ms_deC dX2_sizeAround_12 ms_deN) rfl rfl ?_
      refine ms_getf dX2_sizeAround_13 fg_X2_9 hJ.1 rfl ?_
      refine ms_run (pc' := 17) (lv' := [(0, .ref j), (1, .int o)]) (st' := [.int o, .ref (j + 1)]) _ (ms_deC dX2_sizeAround_16 ms_deN) rfl rfl ?_
      refine ms_iaload dX2_sizeAround_17 hJ.2.1 (nb_inM (M := 24) rfl (by first | assumption | exact Int32.not_lt.mpr (by assumption)) (by first | assumption | exact Int32.not_le.mpr (by assumption))) ?_
      refine ms_run (pc' := 20) (lv' := [(2, .int (jo o.toNatClampNeg)), (0, .ref j), (1, .int o)]) (st' := [.int (jo o.toNatClampNeg)]) _ (ms_deC dX2_sizeAround_18 (ms_deC dX2_sizeAround_19 ms_deN)) rfl rfl ?_
      refine ms_if_lt (tgt := 38) dX2_sizeAround_20 (by decide) (fun h_20 => ?_) (fun h_20 => ?_)
      · skip
        refine ms_run (pc' := 39) (lv' := [(2, .int (jo o.toNatClampNeg)), (0, .ref j), (1, .int o)]) (st' := [.int 0]) _ (ms_deC dX2_sizeAround_38 ms_deN) rfl rfl ?_
        refine ms_reti (st := []) (ty := .int) dX2_sizeAround_39 rfl rfl ?_
        exact ms_p1.mk (ms_int_eq (by unfold jm_sz; grind)) rfl
      · skip
        refine ms_run (pc' := 26) (lv' := [(2, .int (jo o.toNatClampNeg)), (0, .ref j), (1, .int o)]) (st' := [.int 24, .int (jo o.toNatClampNeg)]) _ (ms_deC dX2_sizeAround_23 (ms_deC dX2_sizeAround_24 ms_deN)) rfl rfl ?_
        refine ms_icmp_ge (tgt := 38) dX2_sizeAround_26 (by decide) (fun h_26 => ?_) (fun h_26 => ?_)
        · skip
          refine ms_run (pc' := 39) (lv' := [(2, .int (jo o.toNatClampNeg)), (0, .ref j), (1, .int o)]) (st' := [.int 0]) _ (ms_deC dX2_sizeAround_38 ms_deN) rfl rfl ?_
          refine ms_reti (st := []) (ty := .int) dX2_sizeAround_39 rfl rfl ?_
          exact ms_p1.mk (ms_int_eq (by unfold jm_sz; grind)) rfl
        · skip
          refine ms_run (pc' := 30) (lv' := [(2, .int (jo o.toNatClampNeg)), (0, .ref j), (1, .int o)]) (st' := [.ref j]) _ (ms_deC dX2_sizeAround_29 ms_deN) rfl rfl ?_
          refine ms_getf dX2_sizeAround_30 fg_X2_15 hJ.1 rfl ?_
          refine ms_run (pc' := 34) (lv' := [(2, .int (jo o.toNatClampNeg)), (0, .ref j), (1, .int o)]) (st' := [.int (jo o.toNatClampNeg), .ref (j + 2)]) _ (ms_deC dX2_sizeAround_33 ms_deN) rfl rfl ?_
          refine ms_iaload dX2_sizeAround_34 hJ.2.2.1 (nb_inM (M := 24) rfl (by assumption) (by assumption)) ?_
          refine ms_goto (tgt := 39) dX2_sizeAround_35 (by decide) ?_
          refine ms_reti (st := []) (ty := .int) dX2_sizeAround_39 rfl rfl ?_
          exact ms_p1.mk (ms_int_eq (by unfold jm_sz; grind)) rfl
    · skip
      refine ms_run (pc' := 11) (lv' := [(0, .ref j), (1, .int o)]) (st' := [.int 0]) _ (ms_deC dX2_sizeAround_10 ms_deN) rfl rfl ?_
      refine ms_reti (st := []) (ty := .int) dX2_sizeAround_11 rfl rfl ?_
      exact ms_p1.mk (ms_int_eq (by unfold jm_sz; grind)) rfl

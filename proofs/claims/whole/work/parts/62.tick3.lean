/-! the model: tickNow, then they go -/
def mnu (fl : Int32) (mk : Nat → Int32) (to sd go : Nat → Int32) (t : Int32) (u : Nat → Nat → Int32) (j : Nat) : Nat → Int32 :=
  if go j = 0 then (if to j = -1 then u j else upd (u j) 5 (u j 5 + 1))
  else if sq_mk fl mk (u j 0) (to j) then upd (upd (upd (upd (upd (upd (u j) 4 (sd j)) 5 0) 6 (u j 6 + 1)) 3 (to j)) 3 (-1)) 7 t
  else upd (upd (upd (upd (u j) 4 (sd j)) 5 0) 6 (u j 6 + 1)) 3 (to j)
def mht (to go ht : Nat → Int32) : Nat → (Nat → Int32)
  | 0 => ht
  | k + 1 => if go k = 0 then mht to go ht k else upd (mht to go ht k) (to k).toNatClampNeg (mht to go ht k (to k).toNatClampNeg + 1)
def pGo (fl : Int32) (mk : Nat → Int32) (to go : Nat → Int32) (u : Nat → Nat → Int32) (j : Nat) : Bool := decide (¬ go j = 0 ∧ sq_mk fl mk (u j 0) (to j))
def uw (nu u : Nat → Nat → Int32) (k : Nat) : Nat → Nat → Int32 := fun j => if j < k then nu j else u j
theorem uw_0 {nu u : Nat → Nat → Int32} : uw nu u 0 = u := by funext j; exact if_neg (Nat.not_lt_zero j)
theorem ix8 {k j : Nat} (hk : k < 24) (hj : j < 8) : (nI k * 8 + nI j).toNatClampNeg = k * 8 + j := by rw [nI_8j, nI_clamp (by omega)]
theorem rw_up {it R : Nat → Int32} {k c : Nat} {v : Int32} (h : ∀ i, i < 8 → it (k * 8 + i) = R i) : ∀ i, i < 8 → upd it (k * 8 + c) v (k * 8 + i) = upd R c v i := fun i hi => by
  unfold upd
  by_cases e : i = c
  · rw [if_pos (by rw [e]), if_pos e]
  · rw [if_neg (by omega), if_neg e]; exact h i hi
theorem ot_up {it : Nat → Int32} {U : Nat → Nat → Int32} {k c cnt : Nat} {v : Int32} (hc : c < 8) (h : ∀ j, j < cnt → ¬ j = k → ∀ i, i < 8 → it (j * 8 + i) = U j i) : ∀ j, j < cnt → ¬ j = k → ∀ i, i < 8 → upd it (k * 8 + c) v (j * 8 + i) = U j i := fun j hj hne i hi => by
  unfold upd
  rw [if_neg (by omega)]
  exact h j hj hne i hi
theorem uw_next {it R : Nat → Int32} {nu u : Nat → Nat → Int32} {k cnt : Nat} (h1 : ∀ i, i < 8 → it (k * 8 + i) = R i) (h2 : ∀ j, j < cnt → ¬ j = k → ∀ i, i < 8 → it (j * 8 + i) = uw nu u k j i) (e : nu k = R) : ∀ j, j < cnt → ∀ i, i < 8 → it (j * 8 + i) = uw nu u (k + 1) j i := fun j hj i hi => by
  by_cases hjk : j = k
  · subst hjk
    rw [h1 i hi, ← e]
    unfold uw
    rw [if_pos (Nat.lt_succ_self j)]
  · rw [h2 j hj hjk i hi]
    unfold uw
    by_cases h3 : j < k
    · rw [if_pos h3, if_pos (by omega)]
    · rw [if_neg h3, if_neg (by omega)]
theorem mm_a {g W H : Nat} : nI g * nI W * nI H = nI g * nI (W * H) := by rw [pk_mul, pk_mul, pk_mul, Nat.mul_assoc]
theorem sq_mkI {n g o : Nat} {mk : Nat → Int32} (hg : g < 4) (ho : o < n) (h9 : n ≤ 196) : sq_mk (nI n) mk (nI g) (nI o) ↔ ¬ mk o &&& (1 <<< (nI g &&& 31)) = 0 := by
  constructor
  · intro h
    have := h.2.2
    rw [nI_clamp (by omega)] at this
    exact this
  · intro h
    exact ⟨gl_isI hg, gr_hasI rfl ho h9, by rw [nI_clamp (by omega)]; exact h⟩
set_option maxHeartbeats 1000000 in
set_option maxRecDepth 20000 in
theorem l4_X6_tickNow {n m aw am ai ah W H cnt : Nat} {G : ms_H} {th cl dr pa : Int32} {wl mm ht : Nat → Int32} {u : Nat → Nat → Int32} (hl : md_lt n m aw am ai ah) (hne : md_ne m aw am ai ah) (hW : W ≤ 14) (hH : H ≤ 14) (hc : cnt ≤ 24) {mk : Nat → Int32} (hmm : mmR (W * H) mk mm) {to sd go : Nat → Int32} (hgo9 : ∀ k, k < cnt → ¬ go k = 0 → ∃ o, o < W * H ∧ to k = nI o) (hgl : ∀ k, k < cnt → gl_is (u k 0)) {fr : Nat} : ∀ (r k : Nat), k + r = cnt → ∀ (K : ms_H), md_at K m aw am ai ah W H th cl dr pa cnt wl mm (mht to go ht k) (uw (mnu (nI (W * H)) mk to sd go cl u) u k) → ms_fb (E3 m ai ah) n G K → K n = some (.inl (0, 24, .inl (fl2 to cnt))) → K (n + 1) = some (.inl (0, 24, .inl (fl2 sd cnt))) → K (n + 2) = some (.inl (1, 24, .inl (fl2 go cnt))) →  ms_W false m_X6_tickNow (fun r9 n1 G1 => r9 = .inl (some (.int (nI (ct (pGo (nI (W * H)) mk to go u) cnt)))) ∧ n1 = n + 3 ∧ ms_fb (E3 m ai ah) n G G1 ∧ md_at G1 m aw am ai ah W H th cl dr pa cnt wl mm (mht to go ht cnt) (uw (mnu (nI (W * H)) mk to sd go cl u) u cnt)) 311 [(0, .ref m), (1, .ref fr), (2, .ref n), (3, .ref (n + 1)), (4, .ref (n + 2)), (5, .int (nI (ct (pGo (nI (W * H)) mk to go u) k))), (6, .int (nI k))] [] (n + 3) K 0 0 := by
  obtain ⟨l1, l2, l3, l4, l5⟩ := hl
  obtain ⟨n1, n2, n3, n4, n5, n6, n7, n8, n9, n10⟩ := hne
  have h196 := fd_196 hW hH
  intro r
  induction r with
  | zero =>
    intro k hk K hM9 hF hto hsi hgo
    have hkN : k = cnt := by omega
    obtain ⟨hm, hw_, hk_, ⟨it, hi_, hit⟩, hh_⟩ := hM9
    refine ms_run (pc' := 314) (lv' := [(0, .ref m), (1, .ref fr), (2, .ref n), (3, .ref (n + 1)), (4, .ref (n + 2)), (5, .int (nI (ct (pGo (nI (W * H)) mk to go u) k))), (6, .int (nI k))]) (st' := [.ref m, .int (nI k)]) _ (ms_deC dX6_tickNow_311 (ms_deC dX6_tickNow_313 ms_deN)) rfl rfl ?_
    refine ms_getf dX6_tickNow_314 fg_X6_36 hm rfl ?_
    refine ms_icmp_ge (tgt := 498) dX6_tickNow_317 (by decide) (fun h_317 => ?_) (fun h_317 => ?_)
    · skip
      refine ms_run (pc' := 500) (lv' := [(0, .ref m), (1, .ref fr), (2, .ref n), (3, .ref (n + 1)), (4, .ref (n + 2)), (5, .int (nI (ct (pGo (nI (W * H)) mk to go u) k))), (6, .int (nI k))]) (st' := [.int (nI (ct (pGo (nI (W * H)) mk to go u) k))]) _ (ms_deC dX6_tickNow_498 ms_deN) rfl rfl ?_
      refine ms_reti (st := []) (ty := .int) dX6_tickNow_500 rfl rfl ?_
      rw [hkN] at hit hh_
      exact ⟨by rw [hkN], rfl, hF, hm, hw_, hk_, ⟨it, hi_, hit⟩, hh_⟩
    · skip
      exact absurd (by exact nI_le (b := k) (by omega) (by omega)) h_317
  | succ r ih =>
    intro k hk K hM9 hF hto hsi hgo
    have hlt : k < cnt := by omega
    obtain ⟨hm, hw_, hk_, ⟨it, hi_, hit⟩, hh_⟩ := hM9
    have hr : ∀ i, i < 8 → it (k * 8 + i) = (u k) i := fun i hi => (hit k hlt i hi).trans (by unfold uw; rw [if_neg (Nat.lt_irrefl k)])
    have ho9 : ∀ j, j < cnt → ¬ j = k → ∀ i, i < 8 → it (j * 8 + i) = uw (mnu (nI (W * H)) mk to sd go cl u) u k j i := fun j hj _ i hi => hit j hj i hi
    refine ms_run (pc' := 314) (lv' := [(0, .ref m), (1, .ref fr), (2, .ref n), (3, .ref (n + 1)), (4, .ref (n + 2)), (5, .int (nI (ct (pGo (nI (W * H)) mk to go u) k))), (6, .int (nI k))]) (st' := [.ref m, .int (nI k)]) _ (ms_deC dX6_tickNow_311 (ms_deC dX6_tickNow_313 ms_deN)) rfl rfl ?_
    refine ms_getf dX6_tickNow_314 fg_X6_36 hm rfl ?_
    refine ms_icmp_ge (tgt := 498) dX6_tickNow_317 (by decide) (fun h_317 => ?_) (fun h_317 => ?_)
    · skip
      exact absurd h_317 (by exact nI_ge (b := cnt) (by omega) (by omega))
    · skip
      refine ms_run (pc' := 330) (lv' := [(7, .int ((nI k) * 8)), (0, .ref m), (1, .ref fr), (2, .ref n), (3, .ref (n + 1)), (4, .ref (n + 2)), (5, .int (nI (ct (pGo (nI (W * H)) mk to go u) k))), (6, .int (nI k))]) (st' := [.int (nI k), .ref n]) _ (ms_deC dX6_tickNow_320 (ms_deC dX6_tickNow_322 (ms_deC dX6_tickNow_324 (ms_deC dX6_tickNow_325 (ms_deC dX6_tickNow_327 (ms_deC dX6_tickNow_328 ms_deN)))))) rfl rfl ?_
      refine ms_iaload dX6_tickNow_330 hto (vp_in_nI (by omega) (by omega)) ?_
      rw [nI_clamp (n := k) (by omega), fl2_at hlt]
      refine ms_run (pc' := 332) (lv' := [(7, .int ((nI k) * 8)), (0, .ref m), (1, .ref fr), (2, .ref n), (3, .ref (n + 1)), (4, .ref (n + 2)), (5, .int (nI (ct (pGo (nI (W * H)) mk to go u) k))), (6, .int (nI k))]) (st' := [.int (-1), .int (to k)]) _ (ms_deC dX6_tickNow_331 ms_deN) rfl rfl ?_
      refine ms_icmp_eq (tgt := 356) dX6_tickNow_332 (by decide) (fun h_332 => ?_) (fun h_332 => ?_)
      · skip
        refine ms_run (pc' := 360) (lv' := [(7, .int ((nI k) * 8)), (0, .ref m), (1, .ref fr), (2, .ref n), (3, .ref (n + 1)), (4, .ref (n + 2)), (5, .int (nI (ct (pGo (nI (W * H)) mk to go u) k))), (6, .int (nI k))]) (st' := [.int (nI k), .ref (n + 2)]) _ (ms_deC dX6_tickNow_356 (ms_deC dX6_tickNow_358 ms_deN)) rfl rfl ?_
        refine ms_zaload dX6_tickNow_360 hgo (vp_in_nI (by omega) (by omega)) ?_
        rw [nI_clamp (n := k) (by omega), fl2_at hlt]
        refine ms_if_ne (tgt := 367) dX6_tickNow_361 (by decide) (fun h_361 => ?_) (fun h_361 => ?_)
        · skip
          obtain ⟨o, ho, hoe⟩ := hgo9 k hlt h_361
          exact absurd (hoe.symm.trans h_332) (nI_m1 (by omega))
        · skip
          refine ms_goto (tgt := 492) dX6_tickNow_364 (by decide) ?_
          refine ms_run (pc' := 495) (lv' := [(6, .int ((nI k) + 1)), (7, .int ((nI k) * 8)), (0, .ref m), (1, .ref fr), (2, .ref n), (3, .ref (n + 1)), (4, .ref (n + 2)), (5, .int (nI (ct (pGo (nI (W * H)) mk to go u) k)))]) (st' := []) _ (ms_deC dX6_tickNow_492 ms_deN) rfl rfl ?_
          refine ms_goto (tgt := 311) dX6_tickNow_495 (by decide) ?_
          have enu : (mnu (nI (W * H)) mk to sd go cl u) k = (u k) := by unfold mnu; rw [if_pos h_361, if_pos h_332]
          have eht : (mht to go ht (k + 1)) = (mht to go ht k) := if_pos h_361
          have hp : (pGo (nI (W * H)) mk to go u) k = false := decide_eq_false (fun z9 => z9.1 h_361)
          rw [ct_f (p := (pGo (nI (W * H)) mk to go u)) hp]
          rw [nI_1 k]
          refine ms_W.sub (lv2 := [(0, _), (1, _), (2, _), (3, _), (4, _), (5, _), (6, _)]) ?_ [2, 3, 4, 5, 6, 7, 0] rfl
          exact ih (k + 1) (by omega) K ⟨hm, hw_, hk_, ⟨it, hi_, uw_next hr ho9 enu⟩, by rw [eht]; exact hh_⟩ hF hto hsi hgo
      · skip
        refine ms_run (pc' := 339) (lv' := [(7, .int ((nI k) * 8)), (0, .ref m), (1, .ref fr), (2, .ref n), (3, .ref (n + 1)), (4, .ref (n + 2)), (5, .int (nI (ct (pGo (nI (W * H)) mk to go u) k))), (6, .int (nI k))]) (st' := [.int (nI k), .ref (n + 2)]) _ (ms_deC dX6_tickNow_335 (ms_deC dX6_tickNow_337 ms_deN)) rfl rfl ?_
        refine ms_zaload dX6_tickNow_339 hgo (vp_in_nI (by omega) (by omega)) ?_
        rw [nI_clamp (n := k) (by omega), fl2_at hlt]
        refine ms_if_ne (tgt := 356) dX6_tickNow_340 (by decide) (fun h_340 => ?_) (fun h_340 => ?_)
        · skip
          refine ms_run (pc' := 360) (lv' := [(7, .int ((nI k) * 8)), (0, .ref m), (1, .ref fr), (2, .ref n), (3, .ref (n + 1)), (4, .ref (n + 2)), (5, .int (nI (ct (pGo (nI (W * H)) mk to go u) k))), (6, .int (nI k))]) (st' := [.int (nI k), .ref (n + 2)]) _ (ms_deC dX6_tickNow_356 (ms_deC dX6_tickNow_358 ms_deN)) rfl rfl ?_
          refine ms_zaload dX6_tickNow_360 hgo (vp_in_nI (by omega) (by omega)) ?_
          rw [nI_clamp (n := k) (by omega), fl2_at hlt]
          refine ms_if_ne (tgt := 367) dX6_tickNow_361 (by decide) (fun h_361 => ?_) (fun h_361 => ?_)
          · skip
            obtain ⟨o, ho, hoe⟩ := hgo9 k hlt h_361
            obtain ⟨g, hg, hge⟩ := gl_nI (hgl k hlt)
            have hmq := sq_mkI (mk := mk) hg ho h196
            refine ms_run (pc' := 368) (lv' := [(7, .int ((nI k) * 8)), (0, .ref m), (1, .ref fr), (2, .ref n), (3, .ref (n + 1)), (4, .ref (n + 2)), (5, .int (nI (ct (pGo (nI (W * H)) mk to go u) k))), (6, .int (nI k))]) (st' := [.ref m]) _ (ms_deC dX6_tickNow_367 ms_deN) rfl rfl ?_
            refine ms_getf dX6_tickNow_368 fg_X6_39 hm rfl ?_
            refine ms_run (pc' := 378) (lv' := [(7, .int ((nI k) * 8)), (0, .ref m), (1, .ref fr), (2, .ref n), (3, .ref (n + 1)), (4, .ref (n + 2)), (5, .int (nI (ct (pGo (nI (W * H)) mk to go u) k))), (6, .int (nI k))]) (st' := [.int (nI k), .ref (n + 1), .int (((nI k) * 8) + 4), .ref ai]) _ (ms_deC dX6_tickNow_371 (ms_deC dX6_tickNow_373 (ms_deC dX6_tickNow_374 (ms_deC dX6_tickNow_375 (ms_deC dX6_tickNow_376 ms_deN))))) rfl rfl ?_
            refine ms_iaload dX6_tickNow_378 hsi (vp_in_nI (by omega) (by omega)) ?_
            rw [nI_clamp (n := k) (by omega), fl2_at hlt]
            refine ms_iastore dX6_tickNow_379 hi_ (md_in (k := k) (j := 4) (Nat.lt_of_lt_of_le hlt hc) (by omega)) ?_
            rw [show (nI k * 8 + 4).toNatClampNeg = k * 8 + 4 from ix8 (j := 4) (Nat.lt_of_lt_of_le hlt hc) (by omega)]
            obtain ⟨it2, e_it2⟩ : ∃ it9, it9 = upd it (k * 8 + 4) (sd k) := ⟨_, rfl⟩
            rw [← e_it2]
            have hr2 : ∀ i, i < 8 → it2 (k * 8 + i) = (upd (u k) 4 (sd k)) i := by rw [e_it2]; exact rw_up hr
            have ho2 : ∀ j, j < cnt → ¬ j = k → ∀ i, i < 8 → it2 (j * 8 + i) = uw (mnu (nI (W * H)) mk to sd go cl u) u k j i := by rw [e_it2]; exact ot_up (by omega) ho9
            obtain ⟨G_1, eG_1⟩ : ∃ K9 : ms_H, K9 = ms_up K ai (.inl (0, 192, .inl it2)) := ⟨_, rfl⟩
            refine ms_W.heq eG_1 ?_
            have hF_2 : ms_fb (E3 m ai ah) n G G_1 := by rw [eG_1]; exact ms_fb.up hF (by first | exact Or.inl (by omega) | exact Or.inr rfl | exact Or.inr (Or.inl rfl) | exact Or.inr (Or.inr (Or.inl rfl)) | exact Or.inr (Or.inr (Or.inr rfl)) | exact Or.inr (Or.inr rfl))
            have hf_3 := (congrFun eG_1 m).trans ((ms_up_n K _ (by omega)).trans hm)
            have hf_4 := (congrFun eG_1 aw).trans ((ms_up_n K _ (by omega)).trans hw_)
            have hf_5 := (congrFun eG_1 am).trans ((ms_up_n K _ (by omega)).trans hk_)
            have hf_6 : G_1 ai = some (.inl (0, 192, .inl it2)) := by rw [eG_1]; exact ms_up_s _ _ _
            have hf_7 := (congrFun eG_1 ah).trans ((ms_up_n K _ (by omega)).trans hh_)
            have hf_8 := (congrFun eG_1 n).trans ((ms_up_n K _ (by omega)).trans hto)
            have hf_9 := (congrFun eG_1 (n + 1)).trans ((ms_up_n K _ (by omega)).trans hsi)
            have hf_10 := (congrFun eG_1 (n + 2)).trans ((ms_up_n K _ (by omega)).trans hgo)
            refine ms_run (pc' := 381) (lv' := [(7, .int ((nI k) * 8)), (0, .ref m), (1, .ref fr), (2, .ref n), (3, .ref (n + 1)), (4, .ref (n + 2)), (5, .int (nI (ct (pGo (nI (W * H)) mk to go u) k))), (6, .int (nI k))]) (st' := [.ref m]) _ (ms_deC dX6_tickNow_380 ms_deN) rfl rfl ?_
            refine ms_getf dX6_tickNow_381 fg_X6_39 hf_3 rfl ?_
            refine ms_run (pc' := 389) (lv' := [(7, .int ((nI k) * 8)), (0, .ref m), (1, .ref fr), (2, .ref n), (3, .ref (n + 1)), (4, .ref (n + 2)), (5, .int (nI (ct (pGo (nI (W * H)) mk to go u) k))), (6, .int (nI k))]) (st' := [.int 0, .int (((nI k) * 8) + 5), .ref ai]) _ (ms_deC dX6_tickNow_384 (ms_deC dX6_tickNow_386 (ms_deC dX6_tickNow_387 (ms_deC dX6_tickNow_388 ms_deN)))) rfl rfl ?_
            refine ms_iastore dX6_tickNow_389 hf_6 (md_in (k := k) (j := 5) (Nat.lt_of_lt_of_le hlt hc) (by omega)) ?_
            rw [show (nI k * 8 + 5).toNatClampNeg = k * 8 + 5 from ix8 (j := 5) (Nat.lt_of_lt_of_le hlt hc) (by omega)]
            obtain ⟨it3, e_it3⟩ : ∃ it9, it9 = upd it2 (k * 8 + 5) 0 := ⟨_, rfl⟩
            rw [← e_it3]
            have hr3 : ∀ i, i < 8 → it3 (k * 8 + i) = (upd (upd (u k) 4 (sd k)) 5 0) i := by rw [e_it3]; exact rw_up hr2
            have ho3 : ∀ j, j < cnt → ¬ j = k → ∀ i, i < 8 → it3 (j * 8 + i) = uw (mnu (nI (W * H)) mk to sd go cl u) u k j i := by rw [e_it3]; exact ot_up (by omega) ho2
            obtain ⟨G_11, eG_11⟩ : ∃ K9 : ms_H, K9 = ms_up G_1 ai (.inl (0, 192, .inl it3)) := ⟨_, rfl⟩
            refine ms_W.heq eG_11 ?_
            have hF_12 : ms_fb (E3 m ai ah) n G G_11 := by rw [eG_11]; exact ms_fb.up hF_2 (by first | exact Or.inl (by omega) | exact Or.inr rfl | exact Or.inr (Or.inl rfl) | exact Or.inr (Or.inr (Or.inl rfl)) | exact Or.inr (Or.inr (Or.inr rfl)) | exact Or.inr (Or.inr rfl))
            have hf_13 := (congrFun eG_11 m).trans ((ms_up_n G_1 _ (by omega)).trans hf_3)
            have hf_14 := (congrFun eG_11 aw).trans ((ms_up_n G_1 _ (by omega)).trans hf_4)
            have hf_15 := (congrFun eG_11 am).trans ((ms_up_n G_1 _ (by omega)).trans hf_5)
            have hf_16 : G_11 ai = some (.inl (0, 192, .inl it3)) := by rw [eG_11]; exact ms_up_s _ _ _
            have hf_17 := (congrFun eG_11 ah).trans ((ms_up_n G_1 _ (by omega)).trans hf_7)
            have hf_18 := (congrFun eG_11 n).trans ((ms_up_n G_1 _ (by omega)).trans hf_8)
            have hf_19 := (congrFun eG_11 (n + 1)).trans ((ms_up_n G_1 _ (by omega)).trans hf_9)
            have hf_20 := (congrFun eG_11 (n + 2)).trans ((ms_up_n G_1 _ (by omega)).trans hf_10)
            refine ms_run (pc' := 391) (lv' := [(7, .int ((nI k) * 8)), (0, .ref m), (1, .ref fr), (2, .ref n), (3, .ref (n + 1)), (4, .ref (n + 2)), (5, .int (nI (ct (pGo (nI (W * H)) mk to go u) k))), (6, .int (nI k))]) (st' := [.ref m]) _ (ms_deC dX6_tickNow_390 ms_deN) rfl rfl ?_
            refine ms_getf dX6_tickNow_391 fg_X6_39 hf_13 rfl ?_
            refine ms_run (pc' := 400) (lv' := [(7, .int ((nI k) * 8)), (0, .ref m), (1, .ref fr), (2, .ref n), (3, .ref (n + 1)), (4, .ref (n + 2)), (5, .int (nI (ct (pGo (nI (W * H)) mk to go u) k))), (6, .int (nI k))]) (st' := [.int (((nI k) * 8) + 6), .ref ai, .int (((nI k) * 8) + 6), .ref ai]) _ (ms_deC dX6_tickNow_394 (ms_deC dX6_tickNow_396 (ms_deC dX6_tickNow_398 (ms_deC dX6_tickNow_399 ms_deN)))) rfl rfl ?_
            refine ms_iaload dX6_tickNow_400 hf_16 (md_in (k := k) (j := 6) (Nat.lt_of_lt_of_le hlt hc) (by omega)) ?_
            rw [show it3 (nI k * 8 + 6).toNatClampNeg = u k 6 from (congrArg it3 (ix8 (j := 6) (Nat.lt_of_lt_of_le hlt hc) (by omega))).trans ((hr3 6 (by omega)).trans rfl)]
            refine ms_run (pc' := 403) (lv' := [(7, .int ((nI k) * 8)), (0, .ref m), (1, .ref fr), (2, .ref n), (3, .ref (n + 1)), (4, .ref (n + 2)), (5, .int (nI (ct (pGo (nI (W * H)) mk to go u) k))), (6, .int (nI k))]) (st' := [.int ((u k 6) + 1), .int (((nI k) * 8) + 6), .ref ai]) _ (ms_deC dX6_tickNow_401 (ms_deC dX6_tickNow_402 ms_deN)) rfl rfl ?_
            refine ms_iastore dX6_tickNow_403 hf_16 (md_in (k := k) (j := 6) (Nat.lt_of_lt_of_le hlt hc) (by omega)) ?_
            rw [show (nI k * 8 + 6).toNatClampNeg = k * 8 + 6 from ix8 (j := 6) (Nat.lt_of_lt_of_le hlt hc) (by omega)]
            obtain ⟨it4, e_it4⟩ : ∃ it9, it9 = upd it3 (k * 8 + 6) ((u k 6) + 1) := ⟨_, rfl⟩
            rw [← e_it4]
            have hr4 : ∀ i, i < 8 → it4 (k * 8 + i) = (upd (upd (upd (u k) 4 (sd k)) 5 0) 6 ((u k 6) + 1)) i := by rw [e_it4]; exact rw_up hr3
            have ho4 : ∀ j, j < cnt → ¬ j = k → ∀ i, i < 8 → it4 (j * 8 + i) = uw (mnu (nI (W * H)) mk to sd go cl u) u k j i := by rw [e_it4]; exact ot_up (by omega) ho3
            obtain ⟨G_21, eG_21⟩ : ∃ K9 : ms_H, K9 = ms_up G_11 ai (.inl (0, 192, .inl it4)) := ⟨_, rfl⟩
            refine ms_W.heq eG_21 ?_
            have hF_22 : ms_fb (E3 m ai ah) n G G_21 := by rw [eG_21]; exact ms_fb.up hF_12 (by first | exact Or.inl (by omega) | exact Or.inr rfl | exact Or.inr (Or.inl rfl) | exact Or.inr (Or.inr (Or.inl rfl)) | exact Or.inr (Or.inr (Or.inr rfl)) | exact Or.inr (Or.inr rfl))
            have hf_23 := (congrFun eG_21 m).trans ((ms_up_n G_11 _ (by omega)).trans hf_13)
            have hf_24 := (congrFun eG_21 aw).trans ((ms_up_n G_11 _ (by omega)).trans hf_14)
            have hf_25 := (congrFun eG_21 am).trans ((ms_up_n G_11 _ (by omega)).trans hf_15)
            have hf_26 : G_21 ai = some (.inl (0, 192, .inl it4)) := by rw [eG_21]; exact ms_up_s _ _ _
            have hf_27 := (congrFun eG_21 ah).trans ((ms_up_n G_11 _ (by omega)).trans hf_17)
            have hf_28 := (congrFun eG_21 n).trans ((ms_up_n G_11 _ (by omega)).trans hf_18)
            have hf_29 := (congrFun eG_21 (n + 1)).trans ((ms_up_n G_11 _ (by omega)).trans hf_19)
            have hf_30 := (congrFun eG_21 (n + 2)).trans ((ms_up_n G_11 _ (by omega)).trans hf_20)
            refine ms_run (pc' := 405) (lv' := [(7, .int ((nI k) * 8)), (0, .ref m), (1, .ref fr), (2, .ref n), (3, .ref (n + 1)), (4, .ref (n + 2)), (5, .int (nI (ct (pGo (nI (W * H)) mk to go u) k))), (6, .int (nI k))]) (st' := [.ref m]) _ (ms_deC dX6_tickNow_404 ms_deN) rfl rfl ?_
            refine ms_getf dX6_tickNow_405 fg_X6_43 hf_23 rfl ?_
            refine ms_run (pc' := 411) (lv' := [(7, .int ((nI k) * 8)), (0, .ref m), (1, .ref fr), (2, .ref n), (3, .ref (n + 1)), (4, .ref (n + 2)), (5, .int (nI (ct (pGo (nI (W * H)) mk to go u) k))), (6, .int (nI k))]) (st' := [.int (nI k), .ref n, .ref ah]) _ (ms_deC dX6_tickNow_408 (ms_deC dX6_tickNow_409 ms_deN)) rfl rfl ?_
            refine ms_iaload dX6_tickNow_411 hf_28 (vp_in_nI (by omega) (by omega)) ?_
            rw [nI_clamp (n := k) (by omega), fl2_at hlt]
            rw [hoe]
            refine ms_run (pc' := 413) (lv' := [(7, .int ((nI k) * 8)), (0, .ref m), (1, .ref fr), (2, .ref n), (3, .ref (n + 1)), (4, .ref (n + 2)), (5, .int (nI (ct (pGo (nI (W * H)) mk to go u) k))), (6, .int (nI k))]) (st' := [.int (nI o), .ref ah, .int (nI o), .ref ah]) _ (ms_deC dX6_tickNow_412 ms_deN) rfl rfl ?_
            refine ms_iaload dX6_tickNow_413 hf_27 (vp_in_nI (by omega) (by omega)) ?_
            rw [nI_clamp (n := o) (by omega)]
            refine ms_run (pc' := 416) (lv' := [(7, .int ((nI k) * 8)), (0, .ref m), (1, .ref fr), (2, .ref n), (3, .ref (n + 1)), (4, .ref (n + 2)), (5, .int (nI (ct (pGo (nI (W * H)) mk to go u) k))), (6, .int (nI k))]) (st' := [.int (((mht to go ht k) o) + 1), .int (nI o), .ref ah]) _ (ms_deC dX6_tickNow_414 (ms_deC dX6_tickNow_415 ms_deN)) rfl rfl ?_
            refine ms_iastore dX6_tickNow_416 hf_27 (vp_in_nI (by omega) (by omega)) ?_
            rw [nI_clamp (n := o) (by omega)]
            obtain ⟨G_31, eG_31⟩ : ∃ K9 : ms_H, K9 = ms_up G_21 ah (.inl (0, (W * H), .inl (upd (mht to go ht k) o (((mht to go ht k) o) + 1)))) := ⟨_, rfl⟩
            refine ms_W.heq eG_31 ?_
            have hF_32 : ms_fb (E3 m ai ah) n G G_31 := by rw [eG_31]; exact ms_fb.up hF_22 (by first | exact Or.inl (by omega) | exact Or.inr rfl | exact Or.inr (Or.inl rfl) | exact Or.inr (Or.inr (Or.inl rfl)) | exact Or.inr (Or.inr (Or.inr rfl)) | exact Or.inr (Or.inr rfl))
            have hf_33 := (congrFun eG_31 m).trans ((ms_up_n G_21 _ (by omega)).trans hf_23)
            have hf_34 := (congrFun eG_31 aw).trans ((ms_up_n G_21 _ (by omega)).trans hf_24)
            have hf_35 := (congrFun eG_31 am).trans ((ms_up_n G_21 _ (by omega)).trans hf_25)
            have hf_36 := (congrFun eG_31 ai).trans ((ms_up_n G_21 _ (by omega)).trans hf_26)
            have hf_37 : G_31 ah = some (.inl (0, (W * H), .inl (upd (mht to go ht k) o (((mht to go ht k) o) + 1)))) := by rw [eG_31]; exact ms_up_s _ _ _
            have hf_38 := (congrFun eG_31 n).trans ((ms_up_n G_21 _ (by omega)).trans hf_28)
            have hf_39 := (congrFun eG_31 (n + 1)).trans ((ms_up_n G_21 _ (by omega)).trans hf_29)
            have hf_40 := (congrFun eG_31 (n + 2)).trans ((ms_up_n G_21 _ (by omega)).trans hf_30)
            refine ms_run (pc' := 418) (lv' := [(7, .int ((nI k) * 8)), (0, .ref m), (1, .ref fr), (2, .ref n), (3, .ref (n + 1)), (4, .ref (n + 2)), (5, .int (nI (ct (pGo (nI (W * H)) mk to go u) k))), (6, .int (nI k))]) (st' := [.ref m]) _ (ms_deC dX6_tickNow_417 ms_deN) rfl rfl ?_
            refine ms_getf dX6_tickNow_418 fg_X6_39 hf_33 rfl ?_
            refine ms_run (pc' := 428) (lv' := [(7, .int ((nI k) * 8)), (0, .ref m), (1, .ref fr), (2, .ref n), (3, .ref (n + 1)), (4, .ref (n + 2)), (5, .int (nI (ct (pGo (nI (W * H)) mk to go u) k))), (6, .int (nI k))]) (st' := [.int (nI k), .ref n, .int (((nI k) * 8) + 3), .ref ai]) _ (ms_deC dX6_tickNow_421 (ms_deC dX6_tickNow_423 (ms_deC dX6_tickNow_424 (ms_deC dX6_tickNow_425 (ms_deC dX6_tickNow_426 ms_deN))))) rfl rfl ?_
            refine ms_iaload dX6_tickNow_428 hf_38 (vp_in_nI (by omega) (by omega)) ?_
            rw [nI_clamp (n := k) (by omega), fl2_at hlt]
            rw [hoe]
            refine ms_iastore dX6_tickNow_429 hf_36 (md_in (k := k) (j := 3) (Nat.lt_of_lt_of_le hlt hc) (by omega)) ?_
            rw [show (nI k * 8 + 3).toNatClampNeg = k * 8 + 3 from ix8 (j := 3) (Nat.lt_of_lt_of_le hlt hc) (by omega)]
            obtain ⟨it5, e_it5⟩ : ∃ it9, it9 = upd it4 (k * 8 + 3) (nI o) := ⟨_, rfl⟩
            rw [← e_it5]
            have hr5 : ∀ i, i < 8 → it5 (k * 8 + i) = (upd (upd (upd (upd (u k) 4 (sd k)) 5 0) 6 ((u k 6) + 1)) 3 (nI o)) i := by rw [e_it5]; exact rw_up hr4
            have ho5 : ∀ j, j < cnt → ¬ j = k → ∀ i, i < 8 → it5 (j * 8 + i) = uw (mnu (nI (W * H)) mk to sd go cl u) u k j i := by rw [e_it5]; exact ot_up (by omega) ho4
            obtain ⟨G_41, eG_41⟩ : ∃ K9 : ms_H, K9 = ms_up G_31 ai (.inl (0, 192, .inl it5)) := ⟨_, rfl⟩
            refine ms_W.heq eG_41 ?_
            have hF_42 : ms_fb (E3 m ai ah) n G G_41 := by rw [eG_41]; exact ms_fb.up hF_32 (by first | exact Or.inl (by omega) | exact Or.inr rfl | exact Or.inr (Or.inl rfl) | exact Or.inr (Or.inr (Or.inl rfl)) | exact Or.inr (Or.inr (Or.inr rfl)) | exact Or.inr (Or.inr rfl))
            have hf_43 := (congrFun eG_41 m).trans ((ms_up_n G_31 _ (by omega)).trans hf_33)
            have hf_44 := (congrFun eG_41 aw).trans ((ms_up_n G_31 _ (by omega)).trans hf_34)
            have hf_45 := (congrFun eG_41 am).trans ((ms_up_n G_31 _ (by omega)).trans hf_35)
            have hf_46 : G_41 ai = some (.inl (0, 192, .inl it5)) := by rw [eG_41]; exact ms_up_s _ _ _
            have hf_47 := (congrFun eG_41 ah).trans ((ms_up_n G_31 _ (by omega)).trans hf_37)
            have hf_48 := (congrFun eG_41 n).trans ((ms_up_n G_31 _ (by omega)).trans hf_38)
            have hf_49 := (congrFun eG_41 (n + 1)).trans ((ms_up_n G_31 _ (by omega)).trans hf_39)
            have hf_50 := (congrFun eG_41 (n + 2)).trans ((ms_up_n G_31 _ (by omega)).trans hf_40)
            refine ms_run (pc' := 431) (lv' := [(7, .int ((nI k) * 8)), (0, .ref m), (1, .ref fr), (2, .ref n), (3, .ref (n + 1)), (4, .ref (n + 2)), (5, .int (nI (ct (pGo (nI (W * H)) mk to go u) k))), (6, .int (nI k))]) (st' := [.ref m]) _ (ms_deC dX6_tickNow_430 ms_deN) rfl rfl ?_
            refine ms_getf dX6_tickNow_431 fg_X6_33 hf_43 rfl ?_
            refine ms_run (pc' := 435) (lv' := [(7, .int ((nI k) * 8)), (0, .ref m), (1, .ref fr), (2, .ref n), (3, .ref (n + 1)), (4, .ref (n + 2)), (5, .int (nI (ct (pGo (nI (W * H)) mk to go u) k))), (6, .int (nI k))]) (st' := [.ref m, .ref am]) _ (ms_deC dX6_tickNow_434 ms_deN) rfl rfl ?_
            refine ms_getf dX6_tickNow_435 fg_X6_39 hf_43 rfl ?_
            refine ms_run (pc' := 442) (lv' := [(7, .int ((nI k) * 8)), (0, .ref m), (1, .ref fr), (2, .ref n), (3, .ref (n + 1)), (4, .ref (n + 2)), (5, .int (nI (ct (pGo (nI (W * H)) mk to go u) k))), (6, .int (nI k))]) (st' := [.int (((nI k) * 8) + 0), .ref ai, .ref am]) _ (ms_deC dX6_tickNow_438 (ms_deC dX6_tickNow_440 (ms_deC dX6_tickNow_441 ms_deN))) rfl rfl ?_
            refine ms_iaload dX6_tickNow_442 hf_46 (md_in (k := k) (j := 0) (Nat.lt_of_lt_of_le hlt hc) (by omega)) ?_
            rw [show it5 (nI k * 8 + 0).toNatClampNeg = u k 0 from (congrArg it5 (ix8 (j := 0) (Nat.lt_of_lt_of_le hlt hc) (by omega))).trans ((hr5 0 (by omega)).trans rfl)]
            rw [hge]
            refine ms_run (pc' := 444) (lv' := [(7, .int ((nI k) * 8)), (0, .ref m), (1, .ref fr), (2, .ref n), (3, .ref (n + 1)), (4, .ref (n + 2)), (5, .int (nI (ct (pGo (nI (W * H)) mk to go u) k))), (6, .int (nI k))]) (st' := [.ref m, .int (nI g), .ref am]) _ (ms_deC dX6_tickNow_443 ms_deN) rfl rfl ?_
            refine ms_getf dX6_tickNow_444 fg_X6_20 hf_43 rfl ?_
            refine ms_run (pc' := 449) (lv' := [(7, .int ((nI k) * 8)), (0, .ref m), (1, .ref fr), (2, .ref n), (3, .ref (n + 1)), (4, .ref (n + 2)), (5, .int (nI (ct (pGo (nI (W * H)) mk to go u) k))), (6, .int (nI k))]) (st' := [.ref m, .int ((nI g) * (nI W)), .ref am]) _ (ms_deC dX6_tickNow_447 (ms_deC dX6_tickNow_448 ms_deN)) rfl rfl ?_
            refine ms_getf dX6_tickNow_449 fg_X6_23 hf_43 rfl ?_
            refine ms_run (pc' := 456) (lv' := [(7, .int ((nI k) * 8)), (0, .ref m), (1, .ref fr), (2, .ref n), (3, .ref (n + 1)), (4, .ref (n + 2)), (5, .int (nI (ct (pGo (nI (W * H)) mk to go u) k))), (6, .int (nI k))]) (st' := [.int (nI k), .ref n, .int (((nI g) * (nI W)) * (nI H)), .ref am]) _ (ms_deC dX6_tickNow_452 (ms_deC dX6_tickNow_453 (ms_deC dX6_tickNow_454 ms_deN))) rfl rfl ?_
            refine ms_iaload dX6_tickNow_456 hf_48 (vp_in_nI (by omega) (by omega)) ?_
            rw [nI_clamp (n := k) (by omega), fl2_at hlt]
            rw [hoe]
            refine ms_run (pc' := 458) (lv' := [(7, .int ((nI k) * 8)), (0, .ref m), (1, .ref fr), (2, .ref n), (3, .ref (n + 1)), (4, .ref (n + 2)), (5, .int (nI (ct (pGo (nI (W * H)) mk to go u) k))), (6, .int (nI k))]) (st' := [.int ((((nI g) * (nI W)) * (nI H)) + (nI o)), .ref am]) _ (ms_deC dX6_tickNow_457 ms_deN) rfl rfl ?_
            refine ms_zaload dX6_tickNow_458 hf_45 (by rw [mm_a]; exact mm_in hg ho h196) ?_
            rw [mm_a, mm_ld hmm hg ho h196]
            refine ms_if_ne (tgt := 465) dX6_tickNow_459 (by decide) (fun h_459 => ?_) (fun h_459 => ?_)
            · skip
              refine ms_run (pc' := 466) (lv' := [(7, .int ((nI k) * 8)), (0, .ref m), (1, .ref fr), (2, .ref n), (3, .ref (n + 1)), (4, .ref (n + 2)), (5, .int (nI (ct (pGo (nI (W * H)) mk to go u) k))), (6, .int (nI k))]) (st' := [.ref m]) _ (ms_deC dX6_tickNow_465 ms_deN) rfl rfl ?_
              refine ms_getf dX6_tickNow_466 fg_X6_39 hf_43 rfl ?_
              refine ms_run (pc' := 474) (lv' := [(7, .int ((nI k) * 8)), (0, .ref m), (1, .ref fr), (2, .ref n), (3, .ref (n + 1)), (4, .ref (n + 2)), (5, .int (nI (ct (pGo (nI (W * H)) mk to go u) k))), (6, .int (nI k))]) (st' := [.int (-1), .int (((nI k) * 8) + 3), .ref ai]) _ (ms_deC dX6_tickNow_469 (ms_deC dX6_tickNow_471 (ms_deC dX6_tickNow_472 (ms_deC dX6_tickNow_473 ms_deN)))) rfl rfl ?_
              refine ms_iastore dX6_tickNow_474 hf_46 (md_in (k := k) (j := 3) (Nat.lt_of_lt_of_le hlt hc) (by omega)) ?_
              rw [show (nI k * 8 + 3).toNatClampNeg = k * 8 + 3 from ix8 (j := 3) (Nat.lt_of_lt_of_le hlt hc) (by omega)]
              obtain ⟨it6, e_it6⟩ : ∃ it9, it9 = upd it5 (k * 8 + 3) (-1) := ⟨_, rfl⟩
              rw [← e_it6]
              have hr6 : ∀ i, i < 8 → it6 (k * 8 + i) = (upd (upd (upd (upd (upd (u k) 4 (sd k)) 5 0) 6 ((u k 6) + 1)) 3 (nI o)) 3 (-1)) i := by rw [e_it6]; exact rw_up hr5
              have ho6 : ∀ j, j < cnt → ¬ j = k → ∀ i, i < 8 → it6 (j * 8 + i) = uw (mnu (nI (W * H)) mk to sd go cl u) u k j i := by rw [e_it6]; exact ot_up (by omega) ho5
              obtain ⟨G_51, eG_51⟩ : ∃ K9 : ms_H, K9 = ms_up G_41 ai (.inl (0, 192, .inl it6)) := ⟨_, rfl⟩
              refine ms_W.heq eG_51 ?_
              have hF_52 : ms_fb (E3 m ai ah) n G G_51 := by rw [eG_51]; exact ms_fb.up hF_42 (by first | exact Or.inl (by omega) | exact Or.inr rfl | exact Or.inr (Or.inl rfl) | exact Or.inr (Or.inr (Or.inl rfl)) | exact Or.inr (Or.inr (Or.inr rfl)) | exact Or.inr (Or.inr rfl))
              have hf_53 := (congrFun eG_51 m).trans ((ms_up_n G_41 _ (by omega)).trans hf_43)
              have hf_54 := (congrFun eG_51 aw).trans ((ms_up_n G_41 _ (by omega)).trans hf_44)
              have hf_55 := (congrFun eG_51 am).trans ((ms_up_n G_41 _ (by omega)).trans hf_45)
              have hf_56 : G_51 ai = some (.inl (0, 192, .inl it6)) := by rw [eG_51]; exact ms_up_s _ _ _
              have hf_57 := (congrFun eG_51 ah).trans ((ms_up_n G_41 _ (by omega)).trans hf_47)
              have hf_58 := (congrFun eG_51 n).trans ((ms_up_n G_41 _ (by omega)).trans hf_48)
              have hf_59 := (congrFun eG_51 (n + 1)).trans ((ms_up_n G_41 _ (by omega)).trans hf_49)
              have hf_60 := (congrFun eG_51 (n + 2)).trans ((ms_up_n G_41 _ (by omega)).trans hf_50)
              refine ms_run (pc' := 476) (lv' := [(7, .int ((nI k) * 8)), (0, .ref m), (1, .ref fr), (2, .ref n), (3, .ref (n + 1)), (4, .ref (n + 2)), (5, .int (nI (ct (pGo (nI (W * H)) mk to go u) k))), (6, .int (nI k))]) (st' := [.ref m]) _ (ms_deC dX6_tickNow_475 ms_deN) rfl rfl ?_
              refine ms_getf dX6_tickNow_476 fg_X6_39 hf_53 rfl ?_
              refine ms_run (pc' := 485) (lv' := [(7, .int ((nI k) * 8)), (0, .ref m), (1, .ref fr), (2, .ref n), (3, .ref (n + 1)), (4, .ref (n + 2)), (5, .int (nI (ct (pGo (nI (W * H)) mk to go u) k))), (6, .int (nI k))]) (st' := [.ref m, .int (((nI k) * 8) + 7), .ref ai]) _ (ms_deC dX6_tickNow_479 (ms_deC dX6_tickNow_481 (ms_deC dX6_tickNow_483 (ms_deC dX6_tickNow_484 ms_deN)))) rfl rfl ?_
              refine ms_getf dX6_tickNow_485 fg_X6_26 hf_53 rfl ?_
              refine ms_iastore dX6_tickNow_488 hf_56 (md_in (k := k) (j := 7) (Nat.lt_of_lt_of_le hlt hc) (by omega)) ?_
              rw [show (nI k * 8 + 7).toNatClampNeg = k * 8 + 7 from ix8 (j := 7) (Nat.lt_of_lt_of_le hlt hc) (by omega)]
              obtain ⟨it7, e_it7⟩ : ∃ it9, it9 = upd it6 (k * 8 + 7) cl := ⟨_, rfl⟩
              rw [← e_it7]
              have hr7 : ∀ i, i < 8 → it7 (k * 8 + i) = (upd (upd (upd (upd (upd (upd (u k) 4 (sd k)) 5 0) 6 ((u k 6) + 1)) 3 (nI o)) 3 (-1)) 7 cl) i := by rw [e_it7]; exact rw_up hr6
              have ho7 : ∀ j, j < cnt → ¬ j = k → ∀ i, i < 8 → it7 (j * 8 + i) = uw (mnu (nI (W * H)) mk to sd go cl u) u k j i := by rw [e_it7]; exact ot_up (by omega) ho6
              obtain ⟨G_61, eG_61⟩ : ∃ K9 : ms_H, K9 = ms_up G_51 ai (.inl (0, 192, .inl it7)) := ⟨_, rfl⟩
              refine ms_W.heq eG_61 ?_
              have hF_62 : ms_fb (E3 m ai ah) n G G_61 := by rw [eG_61]; exact ms_fb.up hF_52 (by first | exact Or.inl (by omega) | exact Or.inr rfl | exact Or.inr (Or.inl rfl) | exact Or.inr (Or.inr (Or.inl rfl)) | exact Or.inr (Or.inr (Or.inr rfl)) | exact Or.inr (Or.inr rfl))
              have hf_63 := (congrFun eG_61 m).trans ((ms_up_n G_51 _ (by omega)).trans hf_53)
              have hf_64 := (congrFun eG_61 aw).trans ((ms_up_n G_51 _ (by omega)).trans hf_54)
              have hf_65 := (congrFun eG_61 am).trans ((ms_up_n G_51 _ (by omega)).trans hf_55)
              have hf_66 : G_61 ai = some (.inl (0, 192, .inl it7)) := by rw [eG_61]; exact ms_up_s _ _ _
              have hf_67 := (congrFun eG_61 ah).trans ((ms_up_n G_51 _ (by omega)).trans hf_57)
              have hf_68 := (congrFun eG_61 n).trans ((ms_up_n G_51 _ (by omega)).trans hf_58)
              have hf_69 := (congrFun eG_61 (n + 1)).trans ((ms_up_n G_51 _ (by omega)).trans hf_59)
              have hf_70 := (congrFun eG_61 (n + 2)).trans ((ms_up_n G_51 _ (by omega)).trans hf_60)
              refine ms_run (pc' := 495) (lv' := [(6, .int ((nI k) + 1)), (5, .int ((nI (ct (pGo (nI (W * H)) mk to go u) k)) + 1)), (7, .int ((nI k) * 8)), (0, .ref m), (1, .ref fr), (2, .ref n), (3, .ref (n + 1)), (4, .ref (n + 2))]) (st' := []) _ (ms_deC dX6_tickNow_489 (ms_deC dX6_tickNow_492 ms_deN)) rfl rfl ?_
              refine ms_goto (tgt := 311) dX6_tickNow_495 (by decide) ?_
              have enu : (mnu (nI (W * H)) mk to sd go cl u) k = (upd (upd (upd (upd (upd (upd (u k) 4 (sd k)) 5 0) 6 ((u k 6) + 1)) 3 (nI o)) 3 (-1)) 7 cl) := by unfold mnu; rw [if_neg h_361, if_pos (by rw [hge, hoe]; exact hmq.mpr (fun z9 => h_459 (ms_b_0.mpr (not_not_intro z9)))), hoe]
              have eht : (mht to go ht (k + 1)) = upd (mht to go ht k) o (((mht to go ht k) o) + 1) := (if_neg h_361).trans (by rw [hoe, nI_clamp (n := o) (by omega)])
              have hp : (pGo (nI (W * H)) mk to go u) k = true := decide_eq_true ⟨h_361, by rw [hge, hoe]; exact hmq.mpr (fun z9 => h_459 (ms_b_0.mpr (not_not_intro z9)))⟩
              rw [ct_t (p := (pGo (nI (W * H)) mk to go u)) hp]
              rw [nI_1 k]
              refine ms_W.sub (lv2 := [(0, _), (1, _), (2, _), (3, _), (4, _), (5, _), (6, _)]) ?_ [3, 4, 5, 6, 7, 1, 0] rfl
              exact ih (k + 1) (by omega) G_61 ⟨hf_63, hf_64, hf_65, ⟨it7, hf_66, uw_next hr7 ho7 enu⟩, by rw [eht]; exact hf_67⟩ hF_62 hf_68 hf_69 hf_70
            · skip
              refine ms_goto (tgt := 492) dX6_tickNow_462 (by decide) ?_
              refine ms_run (pc' := 495) (lv' := [(6, .int ((nI k) + 1)), (7, .int ((nI k) * 8)), (0, .ref m), (1, .ref fr), (2, .ref n), (3, .ref (n + 1)), (4, .ref (n + 2)), (5, .int (nI (ct (pGo (nI (W * H)) mk to go u) k)))]) (st' := []) _ (ms_deC dX6_tickNow_492 ms_deN) rfl rfl ?_
              refine ms_goto (tgt := 311) dX6_tickNow_495 (by decide) ?_
              have enu : (mnu (nI (W * H)) mk to sd go cl u) k = (upd (upd (upd (upd (u k) 4 (sd k)) 5 0) 6 ((u k 6) + 1)) 3 (nI o)) := by unfold mnu; rw [if_neg h_361, if_neg (by rw [hge, hoe]; exact fun z9 => ms_b_0.mp h_459 (hmq.mp z9)), hoe]
              have eht : (mht to go ht (k + 1)) = upd (mht to go ht k) o (((mht to go ht k) o) + 1) := (if_neg h_361).trans (by rw [hoe, nI_clamp (n := o) (by omega)])
              have hp : (pGo (nI (W * H)) mk to go u) k = false := decide_eq_false (fun z9 => ms_b_0.mp h_459 (hmq.mp (by have := z9.2; rw [hge, hoe] at this; exact this)))
              rw [ct_f (p := (pGo (nI (W * H)) mk to go u)) hp]
              rw [nI_1 k]
              refine ms_W.sub (lv2 := [(0, _), (1, _), (2, _), (3, _), (4, _), (5, _), (6, _)]) ?_ [2, 3, 4, 5, 6, 7, 0] rfl
              exact ih (k + 1) (by omega) G_41 ⟨hf_43, hf_44, hf_45, ⟨it5, hf_46, uw_next hr5 ho5 enu⟩, by rw [eht]; exact hf_47⟩ hF_42 hf_48 hf_49 hf_50
          · skip
            exact absurd h_361 h_340
        · skip
          refine ms_run (pc' := 344) (lv' := [(7, .int ((nI k) * 8)), (0, .ref m), (1, .ref fr), (2, .ref n), (3, .ref (n + 1)), (4, .ref (n + 2)), (5, .int (nI (ct (pGo (nI (W * H)) mk to go u) k))), (6, .int (nI k))]) (st' := [.ref m]) _ (ms_deC dX6_tickNow_343 ms_deN) rfl rfl ?_
          refine ms_getf dX6_tickNow_344 fg_X6_39 hm rfl ?_
          refine ms_run (pc' := 352) (lv' := [(7, .int ((nI k) * 8)), (0, .ref m), (1, .ref fr), (2, .ref n), (3, .ref (n + 1)), (4, .ref (n + 2)), (5, .int (nI (ct (pGo (nI (W * H)) mk to go u) k))), (6, .int (nI k))]) (st' := [.int (((nI k) * 8) + 5), .ref ai, .int (((nI k) * 8) + 5), .ref ai]) _ (ms_deC dX6_tickNow_347 (ms_deC dX6_tickNow_349 (ms_deC dX6_tickNow_350 (ms_deC dX6_tickNow_351 ms_deN)))) rfl rfl ?_
          refine ms_iaload dX6_tickNow_352 hi_ (md_in (k := k) (j := 5) (Nat.lt_of_lt_of_le hlt hc) (by omega)) ?_
          rw [show it (nI k * 8 + 5).toNatClampNeg = u k 5 from (congrArg it (ix8 (j := 5) (Nat.lt_of_lt_of_le hlt hc) (by omega))).trans ((hr 5 (by omega)).trans rfl)]
          refine ms_run (pc' := 355) (lv' := [(7, .int ((nI k) * 8)), (0, .ref m), (1, .ref fr), (2, .ref n), (3, .ref (n + 1)), (4, .ref (n + 2)), (5, .int (nI (ct (pGo (nI (W * H)) mk to go u) k))), (6, .int (nI k))]) (st' := [.int ((u k 5) + 1), .int (((nI k) * 8) + 5), .ref ai]) _ (ms_deC dX6_tickNow_353 (ms_deC dX6_tickNow_354 ms_deN)) rfl rfl ?_
          refine ms_iastore dX6_tickNow_355 hi_ (md_in (k := k) (j := 5) (Nat.lt_of_lt_of_le hlt hc) (by omega)) ?_
          rw [show (nI k * 8 + 5).toNatClampNeg = k * 8 + 5 from ix8 (j := 5) (Nat.lt_of_lt_of_le hlt hc) (by omega)]
          obtain ⟨it2, e_it2⟩ : ∃ it9, it9 = upd it (k * 8 + 5) ((u k 5) + 1) := ⟨_, rfl⟩
          rw [← e_it2]
          have hr2 : ∀ i, i < 8 → it2 (k * 8 + i) = (upd (u k) 5 ((u k 5) + 1)) i := by rw [e_it2]; exact rw_up hr
          have ho2 : ∀ j, j < cnt → ¬ j = k → ∀ i, i < 8 → it2 (j * 8 + i) = uw (mnu (nI (W * H)) mk to sd go cl u) u k j i := by rw [e_it2]; exact ot_up (by omega) ho9
          obtain ⟨G_71, eG_71⟩ : ∃ K9 : ms_H, K9 = ms_up K ai (.inl (0, 192, .inl it2)) := ⟨_, rfl⟩
          refine ms_W.heq eG_71 ?_
          have hF_72 : ms_fb (E3 m ai ah) n G G_71 := by rw [eG_71]; exact ms_fb.up hF (by first | exact Or.inl (by omega) | exact Or.inr rfl | exact Or.inr (Or.inl rfl) | exact Or.inr (Or.inr (Or.inl rfl)) | exact Or.inr (Or.inr (Or.inr rfl)) | exact Or.inr (Or.inr rfl))
          have hf_73 := (congrFun eG_71 m).trans ((ms_up_n K _ (by omega)).trans hm)
          have hf_74 := (congrFun eG_71 aw).trans ((ms_up_n K _ (by omega)).trans hw_)
          have hf_75 := (congrFun eG_71 am).trans ((ms_up_n K _ (by omega)).trans hk_)
          have hf_76 : G_71 ai = some (.inl (0, 192, .inl it2)) := by rw [eG_71]; exact ms_up_s _ _ _
          have hf_77 := (congrFun eG_71 ah).trans ((ms_up_n K _ (by omega)).trans hh_)
          have hf_78 := (congrFun eG_71 n).trans ((ms_up_n K _ (by omega)).trans hto)
          have hf_79 := (congrFun eG_71 (n + 1)).trans ((ms_up_n K _ (by omega)).trans hsi)
          have hf_80 := (congrFun eG_71 (n + 2)).trans ((ms_up_n K _ (by omega)).trans hgo)
          refine ms_run (pc' := 360) (lv' := [(7, .int ((nI k) * 8)), (0, .ref m), (1, .ref fr), (2, .ref n), (3, .ref (n + 1)), (4, .ref (n + 2)), (5, .int (nI (ct (pGo (nI (W * H)) mk to go u) k))), (6, .int (nI k))]) (st' := [.int (nI k), .ref (n + 2)]) _ (ms_deC dX6_tickNow_356 (ms_deC dX6_tickNow_358 ms_deN)) rfl rfl ?_
          refine ms_zaload dX6_tickNow_360 hf_80 (vp_in_nI (by omega) (by omega)) ?_
          rw [nI_clamp (n := k) (by omega), fl2_at hlt]
          refine ms_if_ne (tgt := 367) dX6_tickNow_361 (by decide) (fun h_361 => ?_) (fun h_361 => ?_)
          · skip
            exact absurd h_340 h_361
          · skip
            refine ms_goto (tgt := 492) dX6_tickNow_364 (by decide) ?_
            refine ms_run (pc' := 495) (lv' := [(6, .int ((nI k) + 1)), (7, .int ((nI k) * 8)), (0, .ref m), (1, .ref fr), (2, .ref n), (3, .ref (n + 1)), (4, .ref (n + 2)), (5, .int (nI (ct (pGo (nI (W * H)) mk to go u) k)))]) (st' := []) _ (ms_deC dX6_tickNow_492 ms_deN) rfl rfl ?_
            refine ms_goto (tgt := 311) dX6_tickNow_495 (by decide) ?_
            have enu : (mnu (nI (W * H)) mk to sd go cl u) k = (upd (u k) 5 ((u k 5) + 1)) := by unfold mnu; rw [if_pos h_361, if_neg h_332]
            have eht : (mht to go ht (k + 1)) = (mht to go ht k) := if_pos h_361
            have hp : (pGo (nI (W * H)) mk to go u) k = false := decide_eq_false (fun z9 => z9.1 h_361)
            rw [ct_f (p := (pGo (nI (W * H)) mk to go u)) hp]
            rw [nI_1 k]
            refine ms_W.sub (lv2 := [(0, _), (1, _), (2, _), (3, _), (4, _), (5, _), (6, _)]) ?_ [2, 3, 4, 5, 6, 7, 0] rfl
            exact ih (k + 1) (by omega) G_71 ⟨hf_73, hf_74, hf_75, ⟨it2, hf_76, uw_next hr2 ho2 enu⟩, by rw [eht]; exact hf_77⟩ hF_72 hf_78 hf_79 hf_80

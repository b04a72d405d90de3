/-! the law: what holds of each walker, of the jams -/
theorem ct_sub {p q : Nat → Bool} : ∀ {n : Nat}, (∀ i, i < n → p i = true → q i = true) → ct p n ≤ ct q n
  | 0, _ => Nat.le_refl _
  | n + 1, h => by
    show ct p n + (if p n = true then 1 else 0) ≤ ct q n + (if q n = true then 1 else 0)
    have h1 := ct_sub (n := n) (fun i hi => h i (by omega))
    by_cases e : p n = true
    · rw [if_pos e, if_pos (h n (by omega) e)]
      omega
    · rw [if_neg e]
      exact Nat.le_trans (show ct p n + 0 ≤ ct q n by omega) (Nat.le_add_right _ _)
theorem ct_pos {p : Nat → Bool} {j : Nat} (hp : p j = true) : ∀ {n : Nat}, j < n → 0 < ct p n
  | 0, h => absurd h (Nat.not_lt_zero _)
  | n + 1, h => by
    show 0 < ct p n + (if p n = true then 1 else 0)
    rcases Nat.lt_succ_iff_lt_or_eq.mp h with z | z
    · exact Nat.lt_of_lt_of_le (ct_pos hp z) (Nat.le_add_right _ _)
    · rw [← z, if_pos hp]
      omega
theorem nat_least {p : Nat → Prop} : ∀ (k : Nat), p k → ∃ v, v ≤ k ∧ p v ∧ ∀ w, w < v → ¬ p w := by
  intro k
  induction k using Nat.strongRecOn with
  | ind k ih =>
    intro hk
    by_cases h : ∃ w, w < k ∧ p w
    · obtain ⟨w, hw, hp⟩ := h
      obtain ⟨v, v1, v2, v3⟩ := ih w hw hp
      exact ⟨v, by omega, v2, v3⟩
    · exact ⟨k, Nat.le_refl k, hk, fun w hw hp => h ⟨w, hw, hp⟩⟩
theorem jL_ex {jb : Nat → Bool} {nb : Nat → Nat → Int32} (hsy : ∀ a b, jE jb nb a b → jE jb nb b a) : ∃ L, jL jb nb L := by
  have h : ∀ k, ∃ v, jb k = true → v ≤ k ∧ (jb v = true ∧ jR jb nb v k) ∧ ∀ w, w < v → ¬ (jb w = true ∧ jR jb nb w k) := fun k => by
    by_cases e : jb k = true
    · obtain ⟨v, v1, v2, v3⟩ := nat_least (p := fun w => jb w = true ∧ jR jb nb w k) k ⟨e, jR.rf⟩
      exact ⟨v, fun _ => ⟨v1, v2, v3⟩⟩
    · exact ⟨0, fun z => absurd z e⟩
  refine ⟨fun k => Classical.choose (h k), ⟨fun k hk => ?_, fun a b e => ?_⟩⟩
  · obtain ⟨h1, h2, -⟩ := Classical.choose_spec (h k) hk
    exact ⟨h1, h2.1, h2.2⟩
  · have ha := Classical.choose_spec (h a) e.1
    have hb := Classical.choose_spec (h b) e.2.1
    have h1 : ¬ Classical.choose (h b) < Classical.choose (h a) := fun z => ha.2.2 _ z ⟨hb.2.1.1, hb.2.1.2.to (hsy a b e)⟩
    have h2 : ¬ Classical.choose (h a) < Classical.choose (h b) := fun z => hb.2.2 _ z ⟨ha.2.1.1, ha.2.1.2.to e⟩
    show Classical.choose (h a) = Classical.choose (h b)
    omega
theorem mxc_v {f : Nat → Int32} {cnt : Nat} (hc : cnt ≤ 24) : ∀ k, ∃ M, mxc f cnt k = nI M ∧ M ≤ 24 ∧ (∀ v, v < k → ct (fun j => decide (f j = nI v)) cnt ≤ M) ∧ (M = 0 ∨ ∃ v, v < k ∧ M = ct (fun j => decide (f j = nI v)) cnt)
  | 0 => ⟨0, rfl, by omega, fun v hv => absurd hv (Nat.not_lt_zero v), Or.inl rfl⟩
  | k + 1 => by
    obtain ⟨M, e, hM, h1, h2⟩ := mxc_v (f := f) hc k
    have hl := ct_le (fun j => decide (f j = nI k)) cnt
    by_cases h : M < ct (fun j => decide (f j = nI k)) cnt
    · refine ⟨ct (fun j => decide (f j = nI k)) cnt, ?_, by omega, fun v hv => ?_, Or.inr ⟨k, by omega, rfl⟩⟩
      · show (if mxc f cnt k < nI (ct (fun j => decide (f j = nI k)) cnt) then nI (ct (fun j => decide (f j = nI k)) cnt) else mxc f cnt k) = _
        rw [e, if_pos (nI_lt h (by omega))]
      · rcases Nat.lt_succ_iff_lt_or_eq.mp hv with z | z
        · have := h1 v z
          omega
        · rw [z]
          exact Nat.le_refl _
    · refine ⟨M, ?_, hM, fun v hv => ?_, ?_⟩
      · show (if mxc f cnt k < nI (ct (fun j => decide (f j = nI k)) cnt) then nI (ct (fun j => decide (f j = nI k)) cnt) else mxc f cnt k) = _
        rw [e, if_neg (nI_nlt (by omega) (by omega))]
      · rcases Nat.lt_succ_iff_lt_or_eq.mp hv with z | z
        · exact h1 v z
        · rw [z]
          omega
      · rcases h2 with z | ⟨v, z, z2⟩
        · exact Or.inl z
        · exact Or.inr ⟨v, by omega, z2⟩
def pJ (pa : Int32) (X : cX) (k : Nat) : Bool := decide (pJam pa (X.1 k))
theorem jams_all {W H cnt : Nat} {pa : Int32} {nr : Nat → Int32} {X : cX} (hL : lk_ok W H (W * H) nr) (hW : W ≤ 14) (hH : H ≤ 14) (hc : cnt ≤ 24) (hon : onV (W * H) cnt X.1 X.2.2.1) (hv : hvX (nI (W * H)) cnt X.1) :
    ∃ (z : Nat → Nat) (M : Nat), (∀ k, k < cnt → jm_sz (jxX pa cnt nr X).1 (jxX pa cnt nr X).2.1 (nI k) = nI (z k) ∧ z k ≤ M ∧ (0 < z k ↔ pJam pa (X.1 k))) ∧ (jxX pa cnt nr X).2.2.2 = nI (ct (pJ pa X) cnt) ∧ (jxX pa cnt nr X).2.2.1 ≤ ct (pJ pa X) cnt ∧ mx0 (jxX pa cnt nr X).2.1 (jxX pa cnt nr X).2.2.1 = nI M ∧ M ≤ 24 ∧ M ≤ ct (pJ pa X) cnt := by
  unfold jxX
  have hjb : ∀ o, jbR cnt pa X.1 o = true → o < cnt := fun o z => (of_decide_eq_true z).1
  obtain ⟨L, hL9⟩ := jL_ex (fun a b e => jE_sy (pa := pa) hL hW hH hc hon hv a b e)
  obtain ⟨f, hf⟩ : ∃ f : Nat → Int32, f = fun k => if jbR cnt pa X.1 k = true then nI (L k) else -1 := ⟨_, rfl⟩
  have hF : jF (jbR cnt pa X.1) L cnt f := fun k _ => by rw [hf]
  obtain ⟨M, m1, m2, m3, m4⟩ := mxc_v (f := f) hc cnt
  have hin : ∀ v, v < cnt → ct (fun j => decide (f j = nI v)) cnt ≤ ct (pJ pa X) cnt := fun v hv9 => ct_sub (fun i hi z => by
    have h5 := ((hF.at hc hjb hL9 hi (v := v) (by omega)).mp (of_decide_eq_true z)).1
    exact decide_eq_true (of_decide_eq_true h5).2)
  refine ⟨fun k => if jbR cnt pa X.1 k = true then ct (fun j => decide (f j = f k)) cnt else 0, M, fun k hk => ?_, ?_, ?_, (jam_5 hc hjb hL9 hF).symm.trans m1, m2, ?_⟩
  · have hs := jam_sz hc hjb hL9 hF hk
    have hn := hF.no hc hL9 hk
    show _ = nI (if jbR cnt pa X.1 k = true then ct (fun j => decide (f j = f k)) cnt else 0) ∧ (if jbR cnt pa X.1 k = true then ct (fun j => decide (f j = f k)) cnt else 0) ≤ M ∧ (0 < (if jbR cnt pa X.1 k = true then ct (fun j => decide (f j = f k)) cnt else 0) ↔ pJam pa (X.1 k))
    by_cases e : jbR cnt pa X.1 k = true
    · have hk1 := (hL9.1 k e).1
      have hfk := (hF.at hc hjb hL9 hk (v := L k) (by omega)).mpr ⟨e, rfl⟩
      rw [if_pos e]
      refine ⟨?_, ?_, fun _ => (of_decide_eq_true e).2, fun _ => ct_pos (j := k) (decide_eq_true rfl) hk⟩
      · rw [← hs, if_neg (fun z => hn.mp z e)]
      · rw [hfk]
        exact m3 (L k) (by omega)
    · rw [if_neg e]
      refine ⟨?_, Nat.zero_le _, fun z => absurd z (Nat.lt_irrefl 0), fun z => absurd (decide_eq_true ⟨hk, z⟩) e⟩
      rw [← hs, if_pos (hn.mpr e)]
      rfl
  · rw [← jam_3 hc hjb hL9 hF, nI_sub (by omega) (ct_le _ _)]
    congr 1
    have e : ct (fun _ => true) cnt = ct (pJ pa X) cnt + ct (fun j => decide (f j = -1)) cnt := ct_or (fun k hk => by
      have h1 := hF.no hc hL9 hk
      unfold pJ
      by_cases e : jbR cnt pa X.1 k = true
      · have e1 : decide (pJam pa (X.1 k)) = true := decide_eq_true (of_decide_eq_true e).2
        have e2 : decide (f k = -1) = false := decide_eq_false (fun z => h1.mp z e)
        rw [e1, e2]
        exact ⟨rfl, rfl⟩
      · have e1 : decide (pJam pa (X.1 k)) = false := decide_eq_false (fun z => e (decide_eq_true ⟨hk, z⟩))
        have e2 : decide (f k = -1) = true := decide_eq_true (h1.mpr e)
        rw [e1, e2]
        exact ⟨rfl, rfl⟩)
    rw [ct_all (fun _ _ => rfl)] at e
    omega
  · rw [← jam_4 hc hjb hL9 hF]
    exact ct_sub (fun i hi z => by
      have h5 := ((hF.at hc hjb hL9 hi (v := i) (by omega)).mp (of_decide_eq_true z)).1
      exact decide_eq_true (of_decide_eq_true h5).2)
  · rcases m4 with z | ⟨v, z, z2⟩
    · omega
    · rw [z2]
      exact hin v z
theorem sqd_n {n g f : Nat} {nr wl mk ds : Nat → Int32} (h9 : n ≤ 196) (hds : dsR n nr wl mk ds) (hg : g < 4) (hf : f < n) : sq_ds (nI n) ds (nI g) (nI f) = dXg n nr wl mk g f := by
  unfold sq_ds
  rw [if_pos ⟨gl_n hg, nI_pos' (by omega), nI_lt hf (by omega), show _ < nI 196 from nI_lt (by omega) (by omega)⟩, show nI g * 196 + nI f = nI (g * 196 + f) from by rw [show (196 : Int32) = nI 196 from rfl, pk_mul, nI_add], nI_clamp (by omega), hds g hg f hf]
theorem far_no {W H own g s : Nat} {nr wl mk ds on hd : Nat → Int32} {u : Nat → Nat → Int32} {r : Nat → Int32} (hL : lk_ok W H (W * H) nr) (hW : W ≤ 14) (hH : H ≤ 14) (hds : dsR (W * H) nr wl mk ds) (hpo : r 3 = nI own) (ho : own < W * H) (hw : wl own = 0) (hg : g < 4) (eg : r 0 = nI g) (hD : dXg (W * H) nr wl mk g own = -1) (hs : s ≤ 4) : cr_cost (nI (W * H)) nr ds on hd u r (nI s) = 10000 := by
  have h9 : W * H ≤ 196 := Nat.mul_le_mul hW hH
  unfold cr_cost
  rw [hpo, eg]
  by_cases h4 : s = 4
  · subst h4
    rw [if_pos (show nI 4 = 4 from rfl), sqd_n h9 hds hg ho, if_pos hD]
  · rw [if_neg (show ¬ nI s = 4 from fun z => by have := (nI_eq (b := 4) (by omega) (by omega)).mp z; omega)]
    refine if_pos (Or.inl ?_)
    show sq_ds (nI (W * H)) ds (nI g) (nbX nr own s) = -1
    rcases nbX_val hL ho hW hH (show s < 8 by omega) with e | ⟨o, ho2, e⟩
    · rw [e]
      exact sq_ds_m
    · rw [e, sqd_n h9 hds hg ho2]
      by_cases z : dXg (W * H) nr wl mk g o = -1
      · exact z
      · obtain ⟨v, hv, ev⟩ := dX_n h9 z
        obtain ⟨w, hw1, ew⟩ := dX_lip h9 (show (s + 2) % 4 < 4 by omega) ho hw (nbX_opp hL hW hH ho ho2 (by omega) e) (by omega) ev
        exact absurd (hD.symm.trans ew).symm (nI_m1 (by omega))
theorem wn_min {W H cnt i own g : Nat} {nr on ds D : Nat → Int32} {dr : Int32} {u : Nat → Nat → Int32} (hL : lk_ok W H (W * H) nr) (hc : cnt ≤ 24) (hW : W ≤ 14) (hH : H ≤ 14) (hon : onV (W * H) cnt u on) (hv : hvX (nI (W * H)) cnt u) (hi : i < cnt) (hpo : u i 3 = nI own) (ho : own < W * H) (hg : g < 4) (hgo : u i 0 = nI g) (hds : ∀ f, f < W * H → ds (g * 196 + f) = D f) (hDv : ∀ f, D f = -1 ∨ ∃ v, v ≤ 196 ∧ D f = nI v) (h2 : 0 ≤ u i 2 ∧ u i 2 ≤ 9) (hd : 0 ≤ dr ∧ dr ≤ 9) :
    ∃ b, b ≤ 4 ∧ bsX (nI (W * H)) nr ds cnt dr on u i = nI b ∧ (∀ s, s ≤ 4 → cr_cost (nI (W * H)) nr ds on (hdX cnt dr) u (u i) (nI b) ≤ cr_cost (nI (W * H)) nr ds on (hdX cnt dr) u (u i) (nI s)) ∧ ((∀ s, s ≤ 4 → cr_cost (nI (W * H)) nr ds on (hdX cnt dr) u (u i) (nI s) = 10000) → b = 4) := by
  have hle : ∀ j, j ≤ 4 → cr_cost (nI (W * H)) nr ds on (hdX cnt dr) u (u i) (nI j) ≤ 10000 := fun j hj => by
    have e : cr_cost (nI (W * H)) nr ds on (hdX cnt dr) u (u i) (nI j) = mcA W cnt nr on dr u D i own j := by
      unfold mcA
      by_cases h4 : j = 4
      · subst h4
        rw [if_pos rfl]
        exact cost_S hL hc hW hH hon hv hi hpo ho hg hgo hds
      · rw [if_neg h4]
        exact cost_M hL hc hW hH hon hv hi hpo ho hg hgo hds hdX_0 hdX_2 (by omega)
    rw [e]
    exact mcA_le hc hDv h2 hd
  obtain ⟨b, ⟨p1, p2, p3, p4⟩, e2⟩ := cr_bsP (c := fun j => cr_cost (nI (W * H)) nr ds on (hdX cnt dr) u (u i) (nI j)) hle
  refine ⟨b, p1, e2, fun s hs => ?_, fun h => ?_⟩
  · rcases Nat.lt_trichotomy s b with z | z | z
    · rcases p2 s z with y | ⟨y, y2⟩
      · exact Int32.le_of_lt y
      · rw [show cr_cost (nI (W * H)) nr ds on (hdX cnt dr) u (u i) (nI s) = 10000 from y2]
        exact hle b p1
    · rw [z]
      exact Int32.le_refl _
    · exact p3 s z hs
  · rcases Nat.lt_or_eq_of_le p1 with z | z
    · have h5 : cr_cost (nI (W * H)) nr ds on (hdX cnt dr) u (u i) (nI b) < 10000 := p4 z
      rw [show cr_cost (nI (W * H)) nr ds on (hdX cnt dr) u (u i) (nI b) = 10000 from h b p1] at h5
      exact absurd h5 (by decide)
    · exact z
theorem out_1 {W H cnt k own g t : Nat} {nr wl mk ds : Nat → Int32} {dr : Int32} {X : cX} (hL : lk_ok W H (W * H) nr) (hW : W ≤ 14) (hH : H ≤ 14) (hc : cnt ≤ 24) (hds : dsR (W * H) nr wl mk ds) (hV : wdV W H cnt t X) (hk : k < cnt) (hpo : X.1 k 3 = nI own) (ho : own < W * H) (hw : wl own = 0) (hg : g < 4) (eg : X.1 k 0 = nI g) (hn0 : ¬ dXg (W * H) nr wl mk g own = 0) (h : (stX1 (nI (W * H)) nr mk ds cnt dr X).1 k 3 = -1) : dXg (W * H) nr wl mk g own = nI 1 := by
  have h9 : W * H ≤ 196 := Nat.mul_le_mul hW hH
  by_cases hgo : goB (W * H) nr ds cnt dr X k
  · obtain ⟨htn, s9, own2, o, hs9, hown, ho2, hpo2, hnb, hsd, hwf, htg, hon, -⟩ := goB_of hL hW hH hc hV hk hgo
    have eo : own = own2 := (nI_eq (by omega) (by omega)).mp (hpo.symm.trans hpo2)
    subst eo
    have hnu := nu_go (mk := mk) hL hW hH hc hV hk hgo hg eg ho2 hsd htg 3 (by omega)
    rw [h] at hnu
    have hbs : bsX (nI (W * H)) nr ds cnt dr X.2.2.1 X.1 k = nI s9 := by
      have h5 : wfX (W * H) nr ds cnt dr X k = bsX (nI (W * H)) nr ds cnt dr X.2.2.1 X.1 k := if_pos htn
      rw [← h5]
      exact hwf
    have hwl := bs_wl (mk := mk) hL hW hH hds hown hpo2 hs9 hg eg hbs ho2 hnb
    by_cases hmk : ¬ mk o &&& (1 <<< (nI g &&& 31)) = 0
    · have h0 : dXg (W * H) nr wl mk g o = 0 := (dX_0 h9).mpr (decide_eq_true ⟨ho2, hwl.1, hmk⟩)
      obtain ⟨w, hw1, ew⟩ := dX_lip (v := 0) h9 (show (s9 + 2) % 4 < 4 by omega) ho hw (nbX_opp hL hW hH ho ho2 hs9 hnb) (by omega) h0
      have hw0 : ¬ w = 0 := fun z => hn0 (by rw [ew, z]; rfl)
      rw [ew, show w = 1 by omega]
    · rw [if_neg hmk] at hnu
      exact absurd (show nI o = -1 from hnu.symm) (nI_m1 (by omega))
  · have hnu := nu_stay (mk := mk) hL hW hH hc hV hk hgo 3 (by omega)
    rw [h] at hnu
    have h6 : (if wk_turn (X.1 k) (X.2.2.2 + 1) then upd (X.1 k) 5 (X.1 k 5 + 1) 3 else X.1 k 3) = X.1 k 3 := by split <;> rfl
    rw [h6, hpo] at hnu
    exact absurd hnu.symm (nI_m1 (by omega))

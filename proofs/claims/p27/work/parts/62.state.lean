/-! what holds of the square and of everyone on it, whatever goes on -/
def fI (W H cnt t : Nat) (wl mk : Nat → Int32) (X : cX) : Prop := ∀ k, k < cnt →
  (∀ f, f < W * H → X.1 k 3 = nI f → wl f = 0 ∧ ∀ g, g < 4 → X.1 k 0 = nI g → mk f &&& (1 <<< (nI g &&& 31)) = 0) ∧
  (∃ s p, X.1 k 6 = nI s ∧ X.1 k 1 = nI p ∧ 1 ≤ p ∧ p ≤ 3 ∧ s ≤ t / p ∧ (X.1 k 4 = 4 ↔ s = 0)) ∧
  ((X.1 k 7 = -1 ∧ ¬ X.1 k 3 = -1) ∨ ∃ a, 1 ≤ a ∧ a ≤ t ∧ X.1 k 7 = nI a)
def fH (n cnt t : Nat) (X : cX) : Prop := ∃ hN sN : Nat → Nat, (∀ f, f < n → X.2.1 f = nI (hN f)) ∧ (∀ k, k < cnt → X.1 k 6 = nI (sN k) ∧ sN k ≤ t) ∧ sn hN n = sn sN cnt
def fK (W H cnt t : Nat) (dr pa : Int32) (X : cX) (nr wl mk ds : Nat → Int32) (fv : Nat → Nat → Int32) : Prop :=
  (3 ≤ W ∧ W ≤ 7 ∧ 2 ≤ H ∧ H ≤ 5) ∧ cnt ≤ 24 ∧ lk_ok W H (W * H) nr ∧ fvR (W * H) wl mk fv ∧ (∀ f, f < W * H → fv f 1 = X.2.1 f) ∧ dsR (W * H) nr wl mk ds ∧ (0 ≤ dr ∧ dr ≤ 9) ∧ (∃ p, 1 ≤ p ∧ p ≤ 4 ∧ pa = nI p) ∧ wl01 wl ∧ (X.2.2.2 = nI t ∧ t < 800) ∧ wdV W H cnt t X ∧ fI W H cnt t wl mk X ∧ fH (W * H) cnt t X
/-- a side that is wanted leads to a free field -/
theorem bs_wl {W H cnt k own s g : Nat} {nr wl mk ds on : Nat → Int32} {dr : Int32} {u : Nat → Nat → Int32} (hL : lk_ok W H (W * H) nr) (hW : W ≤ 14) (hH : H ≤ 14) (hds : dsR (W * H) nr wl mk ds) (ho : own < W * H) (hpo : u k 3 = nI own) (hs : s < 4) (hg : g < 4) (eg : u k 0 = nI g) (h : bsX (nI (W * H)) nr ds cnt dr on u k = nI s) {o : Nat} (ho2 : o < W * H) (hn : nbX nr own s = nI o) : wl o = 0 ∧ ¬ dXg (W * H) nr wl mk g o = -1 := by
  have h9 : W * H ≤ 196 := Nat.mul_le_mul hW hH
  have hlt : cr_cost (nI (W * H)) nr ds on (hdX cnt dr) u (u k) (nI s) < 10000 := by
    rcases cr_bsI (c := fun j => cr_cost (nI (W * H)) nr ds on (hdX cnt dr) u (u k) (nI j)) 5 (by omega) with ⟨h1, -⟩ | ⟨i, hi, h1, h2, -⟩
    · have h5 : bsX (nI (W * H)) nr ds cnt dr on u k = 4 := by unfold bsX; rw [h1]
      rw [h] at h5
      have := (nI_eq (b := 4) (by omega) (by omega)).mp h5
      omega
    · have h5 : bsX (nI (W * H)) nr ds cnt dr on u k = nI i := by unfold bsX; rw [h1]
      rw [h] at h5
      rw [(nI_eq (by omega) (by omega)).mp h5]
      exact h2
  have hD : ¬ dXg (W * H) nr wl mk g o = -1 := fun z => by
    unfold cr_cost at hlt
    rw [if_neg (show ¬ nI s = 4 from fun z => by have := (nI_eq (b := 4) (by omega) (by omega)).mp z; omega), hpo] at hlt
    have e1 : gr_next nr (nI own) (nI s) = nI o := hn
    have e2 : sq_ds (nI (W * H)) ds (u k 0) (gr_next nr (nI own) (nI s)) = -1 := by
      rw [e1, eg]
      unfold sq_ds
      split
      · rw [show nI g * 196 + nI o = nI (g * 196 + o) from by rw [show (196 : Int32) = nI 196 from rfl, pk_mul, nI_add], nI_clamp (by omega), hds g hg o ho2, z]
      · rfl
    rw [if_pos (Or.inl e2)] at hlt
    exact absurd hlt (by decide)
  exact ⟨(dX_free h9 hD).2, hD⟩
def pMv (n : Nat) (nr ds : Nat → Int32) (cnt : Nat) (dr : Int32) (X : cX) (k : Nat) : Bool := decide (¬ rwK n nr ds cnt dr X k 8 = 0 ∧ goP (nI n) (cmX (tgK n nr ds cnt dr X) X.1 cnt) (rwK n nr ds cnt dr X k) k)
theorem pMv_iff {W H cnt N : Nat} {nr ds : Nat → Int32} {dr : Int32} {X : cX} (hL : lk_ok W H (W * H) nr) (hW : W ≤ 14) (hH : H ≤ 14) (hc : cnt ≤ 24) (hV : wdV W H cnt N X) {k : Nat} (hk : k < cnt) : pMv (W * H) nr ds cnt dr X k = true ↔ goB (W * H) nr ds cnt dr X k := by
  unfold pMv
  rw [decide_eq_true_iff]
  exact mv_go hL hW hH hc hV hk
theorem sn_upd1 {a : Nat → Nat} {i n : Nat} (hi : i < n) : sn (fun j => if j = i then a j + 1 else a j) n = sn a n + 1 := by
  have e : sn (fun j => if j = i then a j + 1 else a j) n = sn (fun j => a j + (if decide (j = i) = true then 1 else 0)) n := sn_congr (fun j _ => by
    by_cases h : j = i
    · rw [if_pos h, if_pos (decide_eq_true h)]
    · rw [if_neg h, if_neg (by simp [h])]; rfl)
  rw [e, sn_add, ← ct_sn]
  congr 1
  have h1 := ct_one (p := fun j => decide (j = i)) (k := n) (fun a b _ _ ha hb => (of_decide_eq_true ha).trans (of_decide_eq_true hb).symm)
  rw [← h1, if_pos (an_iff.mpr ⟨i, hi, decide_eq_true rfl⟩)]
/-- the heat behind the first k of a tick -/
theorem ho_sum {W H cnt N : Nat} {nr mk ds : Nat → Int32} {dr : Int32} {X : cX} {hN : Nat → Nat} (hL : lk_ok W H (W * H) nr) (hW : W ≤ 14) (hH : H ≤ 14) (hc : cnt ≤ 24) (hV : wdV W H cnt N X) (h0 : ∀ f, f < W * H → X.2.1 f = nI (hN f)) : ∀ k, k ≤ cnt → ∃ hN2 : Nat → Nat, (∀ f, f < W * H → hoK (W * H) nr mk ds cnt dr X k f = nI (hN2 f)) ∧ sn hN2 (W * H) = sn hN (W * H) + ct (pMv (W * H) nr ds cnt dr X) k
  | 0, _ => ⟨hN, h0, rfl⟩
  | k + 1, hk => by
    obtain ⟨hN2, a, b⟩ := ho_sum (mk := mk) (ds := ds) (dr := dr) hL hW hH hc hV h0 k (by omega)
    have hm := pMv_iff (ds := ds) (dr := dr) hL hW hH hc hV (k := k) (by omega)
    show ∃ hN2 : Nat → Nat, _ ∧ _ = sn hN (W * H) + (ct (pMv (W * H) nr ds cnt dr X) k + (if pMv (W * H) nr ds cnt dr X k then 1 else 0))
    by_cases h : goB (W * H) nr ds cnt dr X k
    · obtain ⟨-, s, own, o, -, -, ho, -, -, -, -, et, -, -⟩ := goB_of hL hW hH hc hV (by omega) h
      refine ⟨fun f => if f = o then hN2 f + 1 else hN2 f, fun f hf => ?_, ?_⟩
      · rw [ho_go hL hW hH hc hV (by omega) h ho et]
        show (if f = o then _ else _) = nI (if f = o then hN2 f + 1 else hN2 f)
        by_cases e : f = o
        · rw [if_pos e, if_pos e, ← e, a f hf, nI_1]
        · rw [if_neg e, if_neg e, a f hf]
      · rw [sn_upd1 ho, b, if_pos (hm.mpr h)]
        omega
    · refine ⟨hN2, fun f hf => ?_, ?_⟩
      · rw [ho_stay hL hW hH hc hV (by omega) h, a f hf]
      · rw [b, if_neg (fun z => h (hm.mp z))]
        rfl
theorem div_step {t p : Nat} (hp : 1 ≤ p) : t / p ≤ (t + 1) / p := Nat.div_le_div_right (by omega)
theorem div_turn {t p : Nat} (hp : 1 ≤ p) (h : (t + 1) % p = 0) : t / p + 1 ≤ (t + 1) / p := by
  rw [Nat.le_div_iff_mul_le (by omega), Nat.succ_mul]
  have h1 := Nat.div_add_mod (t + 1) p
  have h2 := Nat.div_mul_le_self t p
  rw [h, Nat.add_zero] at h1
  have h3 : p * (t / p) < p * ((t + 1) / p) := by
    rw [h1, Nat.mul_comm]
    omega
  have h4 : t / p < (t + 1) / p := Nat.lt_of_mul_lt_mul_left h3
  have h5 := Nat.mul_le_mul_left p (show t / p + 1 ≤ (t + 1) / p from h4)
  rw [h1, Nat.mul_add, Nat.mul_one, Nat.mul_comm] at h5
  exact h5
theorem turn_rem {t p : Nat} {u : Nat → Int32} {T : Int32} (ht : t < 900) (hp : 1 ≤ p) (hp3 : p ≤ 3) (eT : T = nI (t + 1)) (ep : u 1 = nI p) (h : wk_turn u T) : (t + 1) % p = 0 := by
  have h1 := h.2.2
  rw [eT, ep, nI_rem (by omega) (by omega)] at h1
  have hl := Nat.mod_lt (t + 1) (show 0 < p by omega)
  exact (nI_eq (b := 0) (by omega) (by omega)).mp h1
theorem fI.tick {W H cnt t : Nat} {nr wl mk ds : Nat → Int32} {dr : Int32} {X : cX} (hL : lk_ok W H (W * H) nr) (hW : W ≤ 14) (hH : H ≤ 14) (hc : cnt ≤ 24) (hds : dsR (W * H) nr wl mk ds) (hV : wdV W H cnt t X) (hT : X.2.2.2 = nI t) (ht : t < 800) (h : fI W H cnt t wl mk X) : fI W H cnt (t + 1) wl mk (stX1 (nI (W * H)) nr mk ds cnt dr X) := fun k hk => by
  have h9 : W * H ≤ 196 := Nat.mul_le_mul hW hH
  obtain ⟨h1, ⟨s, p, e6, e1, hp1, hp3, hs, h4⟩, h7⟩ := h k hk
  have eT : X.2.2.2 + 1 = nI (t + 1) := by rw [hT, nI_1]
  have hdv := div_step (t := t) hp1
  by_cases hgo : goB (W * H) nr ds cnt dr X k
  · obtain ⟨htn, s9, own, o, hs9, hown, ho, hpo, hnb, hsd, hwf, htg, hon, -⟩ := goB_of hL hW hH hc hV hk hgo
    obtain ⟨g, hg, eg⟩ : ∃ g, g < 4 ∧ X.1 k 0 = nI g := by
      have h5 := (hV.2.2.1 k hk).1
      obtain ⟨g, hg, e⟩ := nI_of (Int32.not_lt.mpr h5.1)
      exact ⟨g, by rw [e] at h5; exact (nI_ltI (b := 4) hg (by omega)).mp h5.2, e⟩
    have hnu := nu_go (mk := mk) hL hW hH hc hV hk hgo hg eg ho hsd htg
    have hbs : bsX (nI (W * H)) nr ds cnt dr X.2.2.1 X.1 k = nI s9 := by
      have h5 : wfX (W * H) nr ds cnt dr X k = bsX (nI (W * H)) nr ds cnt dr X.2.2.1 X.1 k := if_pos htn
      rw [← h5]
      exact hwf
    have hwl := bs_wl (mk := mk) hL hW hH hds hown hpo hs9 hg eg hbs ho hnb
    have hdt := div_turn hp1 (turn_rem (by omega) hp1 hp3 eT e1 htn)
    have hn4 : ¬ nI s9 = 4 := fun z => by have := (nI_eq (b := 4) (by omega) (by omega)).mp z; omega
    by_cases hmk : ¬ mk o &&& (1 <<< (nI g &&& 31)) = 0
    · have hr : ∀ j, j < 8 → _ := fun j hj => (hnu j hj).trans (if_pos hmk)
      refine ⟨fun f hf e => ?_, ⟨s + 1, p, ?_, ?_, hp1, hp3, by omega, ?_⟩, Or.inr ⟨t + 1, by omega, Nat.le_refl _, ?_⟩⟩
      · rw [hr 3 (by omega)] at e
        exact absurd e.symm (nI_m1 (by omega))
      · rw [hr 6 (by omega)]
        show X.1 k 6 + 1 = _
        rw [e6, nI_1]
      · rw [hr 1 (by omega)]
        exact e1
      · rw [hr 4 (by omega)]
        exact ⟨fun z => absurd z hn4, fun z => absurd z (by omega)⟩
      · rw [hr 7 (by omega)]
        exact eT
    · have hr : ∀ j, j < 8 → _ := fun j hj => (hnu j hj).trans (if_neg hmk)
      refine ⟨fun f hf e => ?_, ⟨s + 1, p, ?_, ?_, hp1, hp3, by omega, ?_⟩, ?_⟩
      · rw [hr 3 (by omega)] at e
        have ef : o = f := (nI_eq (by omega) (by omega)).mp e
        subst ef
        refine ⟨hwl.1, fun g2 hg2 eg2 => ?_⟩
        rw [hr 0 (by omega)] at eg2
        have eg3 : g = g2 := (nI_eq (by omega) (by omega)).mp (eg.symm.trans eg2)
        rw [← eg3]
        exact Decidable.not_not.mp hmk
      · rw [hr 6 (by omega)]
        show X.1 k 6 + 1 = _
        rw [e6, nI_1]
      · rw [hr 1 (by omega)]
        exact e1
      · rw [hr 4 (by omega)]
        exact ⟨fun z => absurd z hn4, fun z => absurd z (by omega)⟩
      · rw [hr 7 (by omega), hr 3 (by omega)]
        rcases h7 with ⟨a, b⟩ | ⟨a, a1, a2, a3⟩
        · exact Or.inl ⟨a, fun z => nI_m1 (v := o) (by omega) z⟩
        · exact Or.inr ⟨a, a1, by omega, a3⟩
  · have hnu := nu_stay (mk := mk) hL hW hH hc hV hk hgo
    have hr : ∀ j, j < 8 → ¬ j = 5 → (stX1 (nI (W * H)) nr mk ds cnt dr X).1 k j = X.1 k j := fun j hj h5 => by
      rw [hnu j hj]
      split
      · exact if_neg h5
      · rfl
    refine ⟨fun f hf e => ?_, ⟨s, p, ?_, ?_, hp1, hp3, by omega, ?_⟩, ?_⟩
    · rw [hr 3 (by omega) (by omega)] at e
      rw [hr 0 (by omega) (by omega)]
      exact h1 f hf e
    · rw [hr 6 (by omega) (by omega)]; exact e6
    · rw [hr 1 (by omega) (by omega)]; exact e1
    · rw [hr 4 (by omega) (by omega)]; exact h4
    · rw [hr 7 (by omega) (by omega), hr 3 (by omega) (by omega)]
      rcases h7 with a | ⟨a, a1, a2, a3⟩
      · exact Or.inl a
      · exact Or.inr ⟨a, a1, by omega, a3⟩
theorem fH.tick {W H cnt t : Nat} {nr mk ds : Nat → Int32} {dr : Int32} {X : cX} (hL : lk_ok W H (W * H) nr) (hW : W ≤ 14) (hH : H ≤ 14) (hc : cnt ≤ 24) (hV : wdV W H cnt t X) (h : fH (W * H) cnt t X) : fH (W * H) cnt (t + 1) (stX1 (nI (W * H)) nr mk ds cnt dr X) := by
  obtain ⟨hN, sN, a, b, e⟩ := h
  obtain ⟨hN2, a2, e2⟩ := ho_sum (mk := mk) (ds := ds) (dr := dr) hL hW hH hc hV a cnt (Nat.le_refl cnt)
  refine ⟨hN2, fun k => sN k + (if pMv (W * H) nr ds cnt dr X k then 1 else 0), a2, fun k hk => ?_, ?_⟩
  · have hm := pMv_iff (ds := ds) (dr := dr) hL hW hH hc hV hk
    show (stX1 (nI (W * H)) nr mk ds cnt dr X).1 k 6 = nI (sN k + (if pMv (W * H) nr ds cnt dr X k = true then 1 else 0)) ∧ sN k + (if pMv (W * H) nr ds cnt dr X k = true then 1 else 0) ≤ t + 1
    by_cases hgo : goB (W * H) nr ds cnt dr X k
    · obtain ⟨htn, s9, own, o, hs9, hown, ho, hpo, hnb, hsd, hwf, htg, hon, -⟩ := goB_of hL hW hH hc hV hk hgo
      obtain ⟨g, hg, eg⟩ : ∃ g, g < 4 ∧ X.1 k 0 = nI g := by
        have h5 := (hV.2.2.1 k hk).1
        obtain ⟨g, hg, e⟩ := nI_of (Int32.not_lt.mpr h5.1)
        exact ⟨g, by rw [e] at h5; exact (nI_ltI (b := 4) hg (by omega)).mp h5.2, e⟩
      rw [if_pos (hm.mpr hgo), nu_go (mk := mk) hL hW hH hc hV hk hgo hg eg ho hsd htg 6 (by omega)]
      have h6 : (if ¬ mk o &&& (1 <<< (nI g &&& 31)) = 0 then (upd (upd (upd (upd (upd (X.1 k) 4 (nI s9)) 5 0) 6 (X.1 k 6 + 1)) 3 (-1)) 7 (X.2.2.2 + 1)) 6 else (upd (upd (upd (upd (X.1 k) 4 (nI s9)) 5 0) 6 (X.1 k 6 + 1)) 3 (nI o)) 6) = X.1 k 6 + 1 := by split <;> rfl
      rw [h6, (b k hk).1, nI_1]
      exact ⟨rfl, by have := (b k hk).2; omega⟩
    · rw [if_neg (fun z => hgo (hm.mp z)), nu_stay (mk := mk) hL hW hH hc hV hk hgo 6 (by omega)]
      have h6 : (if wk_turn (X.1 k) (X.2.2.2 + 1) then upd (X.1 k) 5 (X.1 k 5 + 1) 6 else X.1 k 6) = X.1 k 6 := by split <;> rfl
      rw [h6, (b k hk).1]
      exact ⟨rfl, by have := (b k hk).2; omega⟩
  · rw [sn_add, ← ct_sn, e2, e]
theorem fK.tick {W H cnt t : Nat} {dr pa : Int32} {X : cX} {nr wl mk ds : Nat → Int32} {fv fv1 : Nat → Nat → Int32} (h : fK W H cnt t dr pa X nr wl mk ds fv) (ht : t + 1 < 800) (h1 : fvR (W * H) wl mk fv1) (h2 : ∀ f, f < W * H → fv1 f 1 = (stX1 (nI (W * H)) nr mk ds cnt dr X).2.1 f) : fK W H cnt (t + 1) dr pa (stX1 (nI (W * H)) nr mk ds cnt dr X) nr wl mk ds fv1 := by
  obtain ⟨k1, k2, k3, k4, k5, k6, k7, k8, k9, ⟨k10, k11⟩, k12, k13, k14⟩ := h
  refine ⟨k1, k2, k3, h1, h2, k6, k7, k8, k9, ⟨?_, ht⟩, k12.step (by omega) k3 (by omega) (by omega) k2, k13.tick k3 (by omega) (by omega) k2 k6 k12 k10 k11, k14.tick k3 (by omega) (by omega) k2 k12⟩
  show X.2.2.2 + 1 = _
  rw [k10, nI_1]

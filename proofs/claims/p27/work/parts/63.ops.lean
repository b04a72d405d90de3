/-! what holds of everyone, kept by reset, set, turnTo, add, mark, wall -/
theorem fK.set {W H cnt t : Nat} {dr pa dr2 : Int32} {X : cX} {nr wl mk ds : Nat → Int32} {fv : Nat → Nat → Int32} {p : Nat} (h : fK W H cnt t dr pa X nr wl mk ds fv) (hd : 0 ≤ dr2 ∧ dr2 ≤ 9) (hp : 1 ≤ p ∧ p ≤ 4) : fK W H cnt t dr2 (nI p) X nr wl mk ds fv := by
  obtain ⟨k1, k2, k3, k4, k5, k6, k7, k8, k9, k10, k12, k13, k14⟩ := h
  exact ⟨k1, k2, k3, k4, k5, k6, hd, ⟨p, hp.1, hp.2, rfl⟩, k9, k10, k12, k13, k14⟩
theorem fK.reset {W H : Nat} {dr pa : Int32} {nr : Nat → Int32} (hb : 3 ≤ W ∧ W ≤ 7 ∧ 2 ≤ H ∧ H ≤ 5) (hL : lk_ok W H (W * H) nr) (hd : 0 ≤ dr ∧ dr ≤ 9) (hp : ∃ p, 1 ≤ p ∧ p ≤ 4 ∧ pa = nI p) : fK W H 0 0 dr pa ((fun _ _ => 0), (fun _ => 0), (fun _ => -1), 0) nr (fun _ => 0) (fun _ => 0) (fun _ => -1) (fun _ _ => 0) := by
  refine ⟨hb, by omega, hL, fun f hf => ⟨rfl, fun g hg => ?_⟩, fun f hf => rfl, dsR_new, hd, hp, wl01_new, ⟨rfl, by omega⟩, wdV_new (fun f => rfl), fun k hk => absurd hk (Nat.not_lt_zero k), fun _ => 0, fun _ => 0, fun f hf => rfl, fun k hk => absurd hk (Nat.not_lt_zero k), ?_⟩
  · exact (if_neg (fun z => z Int32.zero_and)).symm
  · rw [sn_0, sn_0]
theorem fK.turn {W H cnt t k g : Nat} {dr pa mo : Int32} {X : cX} {nr wl mk ds : Nat → Int32} {fv : Nat → Nat → Int32} (h : fK W H cnt t dr pa X nr wl mk ds fv) (hk : k < cnt) (hg : g < 4) (hm : 0 ≤ mo ∧ mo ≤ 9) (hno : ∀ f, f < W * H → X.1 k 3 = nI f → mk f &&& (1 <<< (nI g &&& 31)) = 0) : fK W H cnt t dr pa (trX X k (nI g) mo) nr wl mk ds fv := by
  obtain ⟨k1, k2, k3, k4, k5, k6, k7, k8, k9, k10, k12, k13, hN, sN, a, b, e⟩ := h
  have hgl : gl_is (nI g) := ⟨nI_pos' (by omega), show nI g < nI 4 from nI_lt hg (by omega)⟩
  refine ⟨k1, k2, k3, k4, k5, k6, k7, k8, k9, k10, k12.tr hgl hm, fun j hj => ?_, hN, sN, a, fun j hj => ?_, e⟩
  · obtain ⟨h1, h2, h3⟩ := k13 j hj
    have e3 : (trX X k (nI g) mo).1 j 3 = X.1 j 3 := tr_at (by omega) (by omega)
    have e6 : (trX X k (nI g) mo).1 j 6 = X.1 j 6 := tr_at (by omega) (by omega)
    have e1 : (trX X k (nI g) mo).1 j 1 = X.1 j 1 := tr_at (by omega) (by omega)
    have e4 : (trX X k (nI g) mo).1 j 4 = X.1 j 4 := tr_at (by omega) (by omega)
    have e7 : (trX X k (nI g) mo).1 j 7 = X.1 j 7 := tr_at (by omega) (by omega)
    rw [e3, e6, e1, e4, e7]
    refine ⟨fun f hf ef => ⟨(h1 f hf ef).1, fun g2 hg2 eg2 => ?_⟩, h2, h3⟩
    rw [(tr_k (X := X) (k := k) (j := j) (gl := nI g) (mo := mo)).1] at eg2
    by_cases ej : j = k
    · rw [if_pos ej] at eg2
      have := (nI_eq (by omega) (by omega)).mp eg2
      subst this
      subst ej
      exact hno f hf ef
    · rw [if_neg ej] at eg2
      exact (h1 f hf ef).2 g2 hg2 eg2
  · rw [show (trX X k (nI g) mo).1 j 6 = X.1 j 6 from tr_at (by omega) (by omega)]
    exact b j hj
theorem fK.add {W H cnt t g p o : Nat} {dr pa mo : Int32} {X : cX} {nr wl mk ds : Nat → Int32} {fv : Nat → Nat → Int32} (h : fK W H cnt t dr pa X nr wl mk ds fv) (hc : cnt < 24) (hg : g < 4) (hp : 1 ≤ p ∧ p ≤ 3) (hm : 0 ≤ mo ∧ mo ≤ 9) (ho : o < W * H) (hw : wl o = 0) (hmk : mk o &&& (1 <<< (nI g &&& 31)) = 0) (hon : X.2.2.1 o = -1) : fK W H (cnt + 1) t dr pa (adX cnt X (nI g) (nI p) mo (nI o)) nr wl mk ds fv := by
  obtain ⟨k1, k2, k3, k4, k5, k6, k7, k8, k9, k10, k12, k13, hN, sN, a, b, e⟩ := h
  have h9 : W * H ≤ 196 := Nat.mul_le_mul (show W ≤ 14 by omega) (show H ≤ 14 by omega)
  have hgl : gl_is (nI g) := ⟨nI_pos' (by omega), show nI g < nI 4 from nI_lt hg (by omega)⟩
  have hpl : 1 ≤ nI p ∧ nI p ≤ 3 := ⟨show nI 1 ≤ nI p from nI_le hp.1 (by omega), show nI p ≤ nI 3 from nI_le hp.2 (by omega)⟩
  refine ⟨k1, by omega, k3, k4, k5, k6, k7, k8, k9, k10, k12.ad (by omega) (by omega) k2 hgl hpl hm ho hon, fun j hj => ?_, hN, fun j => if j = cnt then 0 else sN j, a, fun j hj => ?_, ?_⟩
  · by_cases ej : j = cnt
    · subst ej
      rw [ad_new]
      refine ⟨fun f hf ef => ?_, ⟨0, p, rfl, rfl, hp.1, hp.2, Nat.zero_le _, ⟨fun _ => rfl, fun _ => rfl⟩⟩, Or.inl ⟨rfl, fun z => nI_m1 (v := o) (by omega) z⟩⟩
      have ef2 : o = f := (nI_eq (by omega) (by omega)).mp ef
      subst ef2
      refine ⟨hw, fun g2 hg2 eg2 => ?_⟩
      have := (nI_eq (by omega) (by omega)).mp (show nI g = nI g2 from eg2)
      rw [← this]
      exact hmk
    · rw [ad_at (by omega)]
      exact k13 j (by omega)
  · show _ = nI (if j = cnt then 0 else sN j) ∧ (if j = cnt then 0 else sN j) ≤ t
    by_cases ej : j = cnt
    · subst ej
      rw [ad_new, if_pos rfl]
      exact ⟨rfl, Nat.zero_le t⟩
    · rw [ad_at (by omega), if_neg ej]
      exact b j (by omega)
  · rw [e]
    show _ = sn (fun j => if j = cnt then 0 else sN j) cnt + (if cnt = cnt then 0 else sN cnt)
    rw [if_pos rfl]
    exact sn_congr (fun j hj => (if_neg (by omega)).symm)
theorem fvR.turn {n g f : Nat} {wl mk : Nat → Int32} {fv : Nat → Nat → Int32} (h : fvR n wl mk fv) (hg : g < 4) (hf : f < n) : fvR n wl (mkF mk g f) (va_up fv f (upd (fv f) (2 + g) (1 - fv f (2 + g)))) := fun f2 hf2 => by
  unfold va_up
  by_cases e : f2 = f
  · subst e
    rw [if_pos rfl]
    refine ⟨?_, fun g2 hg2 => ?_⟩
    · show (if 0 = 2 + g then _ else fv f2 0) = _
      rw [if_neg (by omega)]
      exact (h f2 hf2).1
    · have em : mkF mk g f2 f2 = mk f2 ^^^ bt g := if_pos rfl
      rw [em]
      show (if 2 + g2 = 2 + g then _ else fv f2 (2 + g2)) = ms_b (¬ (mk f2 ^^^ bt g) &&& bt g2 = 0)
      by_cases eg : g2 = g
      · subst eg
        have ht := bt_tog (mk f2) ⟨g2, hg⟩
        rw [if_pos rfl, (h f2 hf2).2 g2 hg2]
        by_cases hz : mk f2 &&& (1 <<< (nI g2 &&& 31)) = 0
        · rw [show ms_b (¬ mk f2 &&& (1 <<< (nI g2 &&& 31)) = 0) = 0 from if_neg (fun z => z hz), show ms_b (¬ (mk f2 ^^^ bt g2) &&& bt g2 = 0) = 1 from if_pos (fun z => (ht.mp z) hz)]
          rfl
        · rw [show ms_b (¬ mk f2 &&& (1 <<< (nI g2 &&& 31)) = 0) = 1 from if_pos hz, show ms_b (¬ (mk f2 ^^^ bt g2) &&& bt g2 = 0) = 0 from if_neg (fun z => z (ht.mpr hz))]
          rfl
      · rw [if_neg (by omega), (h f2 hf2).2 g2 hg2]
        have ho := bt_oth (mk f2) ⟨g, hg⟩ ⟨g2, hg2⟩ (fun z => eg (Fin.mk.inj_iff.mp z).symm)
        show ms_b (¬ mk f2 &&& bt g2 = 0) = ms_b (¬ (mk f2 ^^^ bt g) &&& bt g2 = 0)
        rw [show (mk f2 ^^^ bt g) &&& bt g2 = mk f2 &&& bt g2 from ho]
  · rw [if_neg e, show mkF mk g f f2 = mk f2 from if_neg e]
    exact h f2 hf2
theorem fK.mark {W H cnt t g f : Nat} {dr pa : Int32} {X : cX} {nr wl mk ds : Nat → Int32} {fv : Nat → Nat → Int32} (h : fK W H cnt t dr pa X nr wl mk ds fv) (hg : g < 4) (hf : f < W * H) (hno : ∀ k, k < cnt → X.1 k 3 = nI f → ¬ X.1 k 0 = nI g) : fK W H cnt t dr pa X nr wl (mkF mk g f) (rq (W * H) ds g (dXg (W * H) nr wl (mkF mk g f) g)) (va_up fv f (upd (fv f) (2 + g) (1 - fv f (2 + g)))) := by
  obtain ⟨k1, k2, k3, k4, k5, k6, k7, k8, k9, k10, k12, k13, k14⟩ := h
  have h9 : W * H ≤ 196 := Nat.mul_le_mul (show W ≤ 14 by omega) (show H ≤ 14 by omega)
  refine ⟨k1, k2, k3, k4.turn hg hf, fun f2 hf2 => ?_, dsR_mark h9 hg k6, k7, k8, k9, k10, k12, fun k hk => ?_, k14⟩
  · unfold va_up
    by_cases e : f2 = f
    · subst e
      rw [if_pos rfl]
      show (if 1 = 2 + g then _ else fv f2 1) = _
      rw [if_neg (by omega)]
      exact k5 f2 hf2
    · rw [if_neg e]
      exact k5 f2 hf2
  · obtain ⟨h1, h2, h3⟩ := k13 k hk
    refine ⟨fun f2 hf2 e2 => ⟨(h1 f2 hf2 e2).1, fun g2 hg2 eg2 => ?_⟩, h2, h3⟩
    have h5 := (h1 f2 hf2 e2).2 g2 hg2 eg2
    by_cases e : f2 = f
    · subst e
      have em : mkF mk g f2 f2 = mk f2 ^^^ bt g := if_pos rfl
      rw [em]
      have ho := bt_oth (mk f2) ⟨g, hg⟩ ⟨g2, hg2⟩ (fun z => hno k hk e2 (by rw [eg2, (Fin.mk.inj_iff.mp z)]))
      show (mk f2 ^^^ bt g) &&& bt g2 = 0
      rw [show (mk f2 ^^^ bt g) &&& bt g2 = mk f2 &&& bt g2 from ho]
      exact h5
    · rw [show mkF mk g f f2 = mk f2 from if_neg e]
      exact h5
theorem wlX_at {W H a b a2 b2 f : Nat} {bv : Int32} {wl : Nat → Int32} (hW : 0 < W) (ha : a < W) (hb : b < H) (ha2 : a2 < W) (hb2 : b2 < H) (hv : bv = 0 ∨ bv = 1) (hf : f < W * H) : wlX W bv a b a2 b2 wl f = if (min a a2 ≤ f % W ∧ f % W ≤ max a a2) ∧ min b b2 ≤ f / W ∧ f / W ≤ max b b2 then bv else wl f := by
  rw [← wlP_N hW ha hb ha2 hb2 hv]
  unfold wlP
  by_cases h : (min a a2 ≤ f % W ∧ f % W ≤ max a a2) ∧ min b b2 ≤ f / W ∧ f / W ≤ max b b2
  · rw [if_pos h, if_pos ⟨hf, h⟩]
  · rw [if_neg h, if_neg (fun z => h z.2)]
/-- walls in their place -/
def fvw (fv : Nat → Nat → Int32) (wl : Nat → Int32) : Nat → Nat → Int32 := fun f c => if c = 0 then wl f else fv f c
theorem fK.wall {W H cnt t a b a2 b2 : Nat} {dr pa bv : Int32} {X : cX} {nr wl mk ds : Nat → Int32} {fv : Nat → Nat → Int32} (h : fK W H cnt t dr pa X nr wl mk ds fv) (ha : a < W) (hb : b < H) (ha2 : a2 < W) (hb2 : b2 < H) (hv : bv = 0 ∨ bv = 1) (hno : bv = 1 → ¬ wanF W H X a b a2 b2 = true) : fK W H cnt t dr pa X nr (wlX W bv a b a2 b2 wl) mk (dXa (W * H) nr (wlX W bv a b a2 b2 wl) mk ds 4) (fvw fv (wlX W bv a b a2 b2 wl)) := by
  obtain ⟨k1, k2, k3, k4, k5, k6, k7, k8, k9, k10, k12, k13, k14⟩ := h
  have h9 : W * H ≤ 196 := Nat.mul_le_mul (show W ≤ 14 by omega) (show H ≤ 14 by omega)
  refine ⟨k1, k2, k3, fun f hf => ⟨if_pos rfl, fun g hg => (if_neg (by omega)).trans ((k4 f hf).2 g hg)⟩, fun f hf => (if_neg (by omega)).trans (k5 f hf), dsR_all h9, k7, k8, k9.wlX, k10, k12, fun k hk => ?_, k14⟩
  obtain ⟨h1, h2, h3⟩ := k13 k hk
  refine ⟨fun f hf e => ⟨?_, (h1 f hf e).2⟩, h2, h3⟩
  rw [wlX_at (by omega) ha hb ha2 hb2 hv hf]
  split
  · next hr =>
    rcases hv with e0 | e1
    · exact e0
    · exfalso
      refine hno e1 ((wanF_iff (by omega) (by omega) ha hb ha2 hb2).mpr ⟨f, hf, hr, ?_⟩)
      rw [k12.1.hit hf hk e]
      exact nI_m1 (by omega)
  · exact (h1 f hf e).1

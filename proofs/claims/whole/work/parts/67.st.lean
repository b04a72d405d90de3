/-! one step: the class's world, the model's -/
def wdV (W H cnt N : Nat) (X : cX) : Prop := onV (W * H) cnt X.1 X.2.2.1 ∧ hvX (nI (W * H)) cnt X.1 ∧ wkV cnt X.1 ∧ waB N cnt X.1
theorem md_at.uc {G : ms_H} {m aw am ai ah W H cnt : Nat} {th cl dr pa : Int32} {wl mm ht : Nat → Int32} {u v : Nat → Nat → Int32} (hM : md_at G m aw am ai ah W H th cl dr pa cnt wl mm ht u) (e : ∀ k, k < cnt → ∀ j, j < 8 → u k j = v k j) : md_at G m aw am ai ah W H th cl dr pa cnt wl mm ht v := by
  obtain ⟨h1, h2, h3, ⟨it, h4, h6⟩, h5⟩ := hM
  exact ⟨h1, h2, h3, ⟨it, h4, fun k hk j hj => (h6 k hk j hj).trans (e k hk j hj)⟩, h5⟩
theorem st_tri {W H cnt N : Nat} {nr ds : Nat → Int32} {dr : Int32} {X : cX} (hL : lk_ok W H (W * H) nr) (hW : W ≤ 14) (hH : H ≤ 14) (hV : wdV W H cnt N X) : triP (W * H) cnt X.1 X.2.2.1 (X.2.2.2 + 1) (sdX (nI (W * H)) nr ds cnt dr X.2.2.1 X.1 (X.2.2.2 + 1)) (fun k => amT nr (X.1 k) ((sdX (nI (W * H)) nr ds cnt dr X.2.2.1 X.1 (X.2.2.2 + 1)) k)) (mto X.1 (sdX (nI (W * H)) nr ds cnt dr X.2.2.1 X.1 (X.2.2.2 + 1)) (fun k => amT nr (X.1 k) ((sdX (nI (W * H)) nr ds cnt dr X.2.2.1 X.1 (X.2.2.2 + 1)) k)) (X.2.2.2 + 1)) (msd X.1 (sdX (nI (W * H)) nr ds cnt dr X.2.2.1 X.1 (X.2.2.2 + 1)) (X.2.2.2 + 1)) (fun j => gv (mto X.1 (sdX (nI (W * H)) nr ds cnt dr X.2.2.1 X.1 (X.2.2.2 + 1)) (fun k => amT nr (X.1 k) ((sdX (nI (W * H)) nr ds cnt dr X.2.2.1 X.1 (X.2.2.2 + 1)) k)) (X.2.2.2 + 1)) (msd X.1 (sdX (nI (W * H)) nr ds cnt dr X.2.2.1 X.1 (X.2.2.2 + 1)) (X.2.2.2 + 1)) X.1 j cnt) := fun k hk => tk_tri hL hW hH hV.2.1 hk
theorem st_row {W H cnt N : Nat} {nr mk ds : Nat → Int32} {dr : Int32} {X : cX} (hN : N < 1000000) (hL : lk_ok W H (W * H) nr) (hW : W ≤ 14) (hH : H ≤ 14) (hc : cnt ≤ 24) (hV : wdV W H cnt N X) : ∀ k, k < cnt → ∀ j, j < 8 → (stX1 (nI (W * H)) nr mk ds cnt dr X).1 k j = (mnu (nI (W * H)) mk (mto X.1 (sdX (nI (W * H)) nr ds cnt dr X.2.2.1 X.1 (X.2.2.2 + 1)) (fun k => amT nr (X.1 k) ((sdX (nI (W * H)) nr ds cnt dr X.2.2.1 X.1 (X.2.2.2 + 1)) k)) (X.2.2.2 + 1)) (msd X.1 (sdX (nI (W * H)) nr ds cnt dr X.2.2.1 X.1 (X.2.2.2 + 1)) (X.2.2.2 + 1)) (fun j => gv (mto X.1 (sdX (nI (W * H)) nr ds cnt dr X.2.2.1 X.1 (X.2.2.2 + 1)) (fun k => amT nr (X.1 k) ((sdX (nI (W * H)) nr ds cnt dr X.2.2.1 X.1 (X.2.2.2 + 1)) k)) (X.2.2.2 + 1)) (msd X.1 (sdX (nI (W * H)) nr ds cnt dr X.2.2.1 X.1 (X.2.2.2 + 1)) (X.2.2.2 + 1)) X.1 j cnt) (X.2.2.2 + 1) X.1) k j := fun k hk j hj =>
  tk_row (mk := mk) hN hW hH hc hV.2.2.2 (st_tri (dr := dr) (ds := ds) hL hW hH hV) (fun _ => rfl) hk j hj
theorem st_uw {W H cnt N : Nat} {nr mk ds : Nat → Int32} {dr : Int32} {X : cX} (hN : N < 1000000) (hL : lk_ok W H (W * H) nr) (hW : W ≤ 14) (hH : H ≤ 14) (hc : cnt ≤ 24) (hV : wdV W H cnt N X) : ∀ k, k < cnt → ∀ j, j < 8 → uw (mnu (nI (W * H)) mk (mto X.1 (sdX (nI (W * H)) nr ds cnt dr X.2.2.1 X.1 (X.2.2.2 + 1)) (fun k => amT nr (X.1 k) ((sdX (nI (W * H)) nr ds cnt dr X.2.2.1 X.1 (X.2.2.2 + 1)) k)) (X.2.2.2 + 1)) (msd X.1 (sdX (nI (W * H)) nr ds cnt dr X.2.2.1 X.1 (X.2.2.2 + 1)) (X.2.2.2 + 1)) (fun j => gv (mto X.1 (sdX (nI (W * H)) nr ds cnt dr X.2.2.1 X.1 (X.2.2.2 + 1)) (fun k => amT nr (X.1 k) ((sdX (nI (W * H)) nr ds cnt dr X.2.2.1 X.1 (X.2.2.2 + 1)) k)) (X.2.2.2 + 1)) (msd X.1 (sdX (nI (W * H)) nr ds cnt dr X.2.2.1 X.1 (X.2.2.2 + 1)) (X.2.2.2 + 1)) X.1 j cnt) (X.2.2.2 + 1) X.1) X.1 cnt k j = (stX1 (nI (W * H)) nr mk ds cnt dr X).1 k j := fun k hk j hj => by
  rw [st_row hN hL hW hH hc hV k hk j hj]
  unfold uw
  rw [if_pos hk]
theorem st_ht {W H cnt N : Nat} {nr mk ds : Nat → Int32} {dr : Int32} {X : cX} (hN : N < 1000000) (hL : lk_ok W H (W * H) nr) (hW : W ≤ 14) (hH : H ≤ 14) (hc : cnt ≤ 24) (hV : wdV W H cnt N X) : mht (mto X.1 (sdX (nI (W * H)) nr ds cnt dr X.2.2.1 X.1 (X.2.2.2 + 1)) (fun k => amT nr (X.1 k) ((sdX (nI (W * H)) nr ds cnt dr X.2.2.1 X.1 (X.2.2.2 + 1)) k)) (X.2.2.2 + 1)) (fun j => gv (mto X.1 (sdX (nI (W * H)) nr ds cnt dr X.2.2.1 X.1 (X.2.2.2 + 1)) (fun k => amT nr (X.1 k) ((sdX (nI (W * H)) nr ds cnt dr X.2.2.1 X.1 (X.2.2.2 + 1)) k)) (X.2.2.2 + 1)) (msd X.1 (sdX (nI (W * H)) nr ds cnt dr X.2.2.1 X.1 (X.2.2.2 + 1)) (X.2.2.2 + 1)) X.1 j cnt) X.2.1 cnt = (stX1 (nI (W * H)) nr mk ds cnt dr X).2.1 :=
  (tk_ht (mk := mk) (ht := X.2.1) hN hW hH hc hV.2.2.2 (st_tri (dr := dr) (ds := ds) hL hW hH hV) (fun _ => rfl) cnt (Nat.le_refl cnt)).symm
theorem wdV.step {W H cnt N : Nat} {nr mk ds : Nat → Int32} {dr : Int32} {X : cX} (hN : N < 1000000) (hL : lk_ok W H (W * H) nr) (hW : W ≤ 14) (hH : H ≤ 14) (hc : cnt ≤ 24) (hV : wdV W H cnt N X) : wdV W H cnt (N + 1) (stX1 (nI (W * H)) nr mk ds cnt dr X) := by
  refine ⟨?_, hvX.step hV.2.1, fun k hk => ?_, ?_⟩
  · have h := tk_on (mk := mk) (ht := X.2.1) hN hW hH hc hV.2.2.2 (st_tri (dr := dr) (ds := ds) hL hW hH hV) (fun _ => rfl) hV.1 hV.2.1 cnt (Nat.le_refl cnt)
    exact h.congr (fun j hj => (st_uw hN hL hW hH hc hV j hj 3 (by omega)).symm)
  · have h := hV.2.2.1 k hk
    rw [st_row hN hL hW hH hc hV k hk 0 (by omega), st_row hN hL hW hH hc hV k hk 1 (by omega), st_row hN hL hW hH hc hV k hk 2 (by omega), mnu_lo (by omega), mnu_lo (by omega), mnu_lo (by omega)]
    exact h
  · exact hV.2.2.2.step (fun k hk => st_row hN hL hW hH hc hV k hk 5 (by omega))
theorem ct_or {p q r : Nat → Bool} : ∀ {c : Nat}, (∀ k, k < c → r k = (p k || q k) ∧ (p k && q k) = false) → ct r c = ct p c + ct q c
  | 0, _ => rfl
  | c + 1, h => by
    show ct r c + _ = (ct p c + _) + (ct q c + _)
    rw [ct_or (fun k hk => h k (by omega))]
    obtain ⟨h1, h2⟩ := h c (by omega)
    rw [h1]
    cases hp : p c <;> cases hq : q c <;> simp_all <;> omega
theorem st_out {W H cnt N : Nat} {nr mk ds : Nat → Int32} {dr : Int32} {X : cX} (hN : N < 1000000) (hL : lk_ok W H (W * H) nr) (hW : W ≤ 14) (hH : H ≤ 14) (hc : cnt ≤ 24) (hV : wdV W H cnt N X) : ct (pOut (stX1 (nI (W * H)) nr mk ds cnt dr X).1) cnt = ct (pOut X.1) cnt + ct (pGo (nI (W * H)) mk (mto X.1 (sdX (nI (W * H)) nr ds cnt dr X.2.2.1 X.1 (X.2.2.2 + 1)) (fun k => amT nr (X.1 k) ((sdX (nI (W * H)) nr ds cnt dr X.2.2.1 X.1 (X.2.2.2 + 1)) k)) (X.2.2.2 + 1)) (fun j => gv (mto X.1 (sdX (nI (W * H)) nr ds cnt dr X.2.2.1 X.1 (X.2.2.2 + 1)) (fun k => amT nr (X.1 k) ((sdX (nI (W * H)) nr ds cnt dr X.2.2.1 X.1 (X.2.2.2 + 1)) k)) (X.2.2.2 + 1)) (msd X.1 (sdX (nI (W * H)) nr ds cnt dr X.2.2.1 X.1 (X.2.2.2 + 1)) (X.2.2.2 + 1)) X.1 j cnt) X.1) cnt := by
  have h9 := fd_196 hW hH
  refine ct_or (fun k hk => ?_)
  have e : (stX1 (nI (W * H)) nr mk ds cnt dr X).1 k 3 = _ := (st_row hN hL hW hH hc hV k hk 3 (by omega)).trans mnu_3
  unfold pOut pGo
  rw [e]
  by_cases hg : (fun j => gv (mto X.1 (sdX (nI (W * H)) nr ds cnt dr X.2.2.1 X.1 (X.2.2.2 + 1)) (fun k => amT nr (X.1 k) ((sdX (nI (W * H)) nr ds cnt dr X.2.2.1 X.1 (X.2.2.2 + 1)) k)) (X.2.2.2 + 1)) (msd X.1 (sdX (nI (W * H)) nr ds cnt dr X.2.2.1 X.1 (X.2.2.2 + 1)) (X.2.2.2 + 1)) X.1 j cnt) k = 0
  · rw [if_pos hg]
    have e2 : decide (¬ (fun j => gv (mto X.1 (sdX (nI (W * H)) nr ds cnt dr X.2.2.1 X.1 (X.2.2.2 + 1)) (fun k => amT nr (X.1 k) ((sdX (nI (W * H)) nr ds cnt dr X.2.2.1 X.1 (X.2.2.2 + 1)) k)) (X.2.2.2 + 1)) (msd X.1 (sdX (nI (W * H)) nr ds cnt dr X.2.2.1 X.1 (X.2.2.2 + 1)) (X.2.2.2 + 1)) X.1 j cnt) k = 0 ∧ sq_mk (nI (W * H)) mk (X.1 k 0) ((mto X.1 (sdX (nI (W * H)) nr ds cnt dr X.2.2.1 X.1 (X.2.2.2 + 1)) (fun k => amT nr (X.1 k) ((sdX (nI (W * H)) nr ds cnt dr X.2.2.1 X.1 (X.2.2.2 + 1)) k)) (X.2.2.2 + 1)) k)) = false := decide_eq_false (fun z => z.1 hg)
    rw [e2, Bool.or_false, Bool.and_false]
    exact ⟨rfl, rfl⟩
  · rw [if_neg hg]
    rcases st_tri (dr := dr) (ds := ds) hL hW hH hV k hk with ⟨-, -, -, -, e⟩ | ⟨-, -, -, -, -, e⟩ | ⟨htu, e2, e3, o, ho, e4, e5, e6⟩
    · exact absurd e hg
    · exact absurd e hg
    · have e7 : decide (X.1 k 3 = -1) = false := decide_eq_false htu.1
      rw [e7, Bool.false_or, Bool.false_and]
      refine ⟨ba ?_, rfl⟩
      rw [decide_eq_true_eq, decide_eq_true_eq]
      by_cases hq : sq_mk (nI (W * H)) mk (X.1 k 0) ((mto X.1 (sdX (nI (W * H)) nr ds cnt dr X.2.2.1 X.1 (X.2.2.2 + 1)) (fun k => amT nr (X.1 k) ((sdX (nI (W * H)) nr ds cnt dr X.2.2.1 X.1 (X.2.2.2 + 1)) k)) (X.2.2.2 + 1)) k)
      · rw [if_pos hq]; exact ⟨fun _ => ⟨hg, hq⟩, fun _ => rfl⟩
      · rw [if_neg hq]
        exact ⟨fun z => absurd (e5.symm.trans z) (nI_m1 (by omega)), fun z => absurd z.2 hq⟩

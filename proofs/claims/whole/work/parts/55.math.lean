/-! numbers: neighbours, counting twice, what a side costs -/
theorem sx_b : ∀ j : Fin 8, -1 ≤ (ms_sx j.1).toInt ∧ (ms_sx j.1).toInt ≤ 1 ∧ -1 ≤ (ms_sy j.1).toInt ∧ (ms_sy j.1).toInt ≤ 1 ∧ ¬ ((ms_sx j.1).toInt = 0 ∧ (ms_sy j.1).toInt = 0) := by decide +kernel
theorem sx_inj : ∀ j k : Fin 8, (ms_sx j.1).toInt = (ms_sx k.1).toInt ∧ (ms_sy j.1).toInt = (ms_sy k.1).toInt → j.1 = k.1 := by decide +kernel
theorem sx_ex : ∀ a b : Fin 3, ¬ (a.1 = 1 ∧ b.1 = 1) → ∃ j : Fin 8, (ms_sx j.1).toInt = (a.1 : Int) - 1 ∧ (ms_sy j.1).toInt = (b.1 : Int) - 1 := by decide +kernel
theorem fd_mod {W x y : Nat} (hx : x < W) : (y * W + x) % W = x ∧ (y * W + x) / W = y := by
  constructor
  · rw [Nat.mul_comm, Nat.mul_add_mod, Nat.mod_eq_of_lt hx]
  · rw [Nat.mul_comm, Nat.mul_add_div (by omega), Nat.div_eq_of_lt hx, Nat.add_zero]
theorem fd_div {W H f : Nat} (hf : f < W * H) : f % W < W ∧ f / W < H ∧ f / W * W + f % W = f := by
  have hW : 0 < W := Nat.pos_of_ne_zero (fun z => by rw [z, Nat.zero_mul] at hf; exact absurd hf (Nat.not_lt_zero f))
  refine ⟨Nat.mod_lt _ hW, Nat.div_lt_of_lt_mul hf, ?_⟩
  have := Nat.div_add_mod f W
  rw [Nat.mul_comm] at this
  exact this
theorem nbX_iff {W H f o j : Nat} {nr : Nat → Int32} (hL : lk_ok W H (W * H) nr) (hW : W ≤ 14) (hH : H ≤ 14) (hf : f < W * H) (ho : o < W * H) (hj : j < 8) : nbX nr f j = nI o ↔ ((o % W : Nat) : Int) = (f % W : Nat) + (ms_sx j).toInt ∧ ((o / W : Nat) : Int) = (f / W : Nat) + (ms_sy j).toInt := by
  have h9 := fd_196 hW hH
  obtain ⟨a1, a2, a3, a4, -⟩ : -1 ≤ (ms_sx j).toInt ∧ (ms_sx j).toInt ≤ 1 ∧ -1 ≤ (ms_sy j).toInt ∧ (ms_sy j).toInt ≤ 1 ∧ ¬ ((ms_sx j).toInt = 0 ∧ (ms_sy j).toInt = 0) := sx_b ⟨j, hj⟩
  obtain ⟨f1, f2, f3⟩ := fd_div hf
  obtain ⟨o1, o2, o3⟩ := fd_div ho
  have p1 := Int.natCast_nonneg (f / W)
  have p2 := Int.natCast_nonneg (f % W)
  have p3 := Int.natCast_nonneg (o / W)
  have p4 := Int.natCast_nonneg (o % W)
  have ex : (nI (f % W) + ms_sx j).toInt = (f % W : Nat) + (ms_sx j).toInt := by
    rw [nb_add (by rw [nI_toI (by omega)]; omega) (by rw [nI_toI (by omega)]; omega), nI_toI (by omega)]
  have ey : (nI (f / W) + ms_sy j).toInt = (f / W : Nat) + (ms_sy j).toInt := by
    rw [nb_add (by rw [nI_toI (by omega)]; omega) (by rw [nI_toI (by omega)]; omega), nI_toI (by omega)]
  rw [nbX_lk hL hf h9 hj]
  unfold lk_v
  constructor
  · intro h
    obtain ⟨x, y, hx, hy, e1, e2, e3⟩ := gr_num_has (a := nI (f % W) + ms_sx j) (b := nI (f / W) + ms_sy j) hW hH (by rw [h]; exact nI_m1 (by omega))
    rw [h] at e3
    have hlt := fd_lt hx hy
    have e4 := (nI_eq (by omega) (by omega)).mp e3
    obtain ⟨m1, m2⟩ := fd_mod (y := y) hx
    rw [e4, m1, m2, ← ex, ← ey, e1, e2, nI_toI (by omega), nI_toI (by omega)]
    exact ⟨rfl, rfl⟩
  · rintro ⟨h1, h2⟩
    have e1 : nI (f % W) + ms_sx j = nI (o % W) := Int32.toInt_inj.mp (by rw [ex, nI_toI (by omega), h1])
    have e2 : nI (f / W) + ms_sy j = nI (o / W) := Int32.toInt_inj.mp (by rw [ey, nI_toI (by omega), h2])
    rw [e1, e2, gr_numI hW hH o1 o2, o3]
theorem nbX_inj {W H f o j k : Nat} {nr : Nat → Int32} (hL : lk_ok W H (W * H) nr) (hW : W ≤ 14) (hH : H ≤ 14) (hf : f < W * H) (ho : o < W * H) (hj : j < 8) (hk : k < 8) (h1 : nbX nr f j = nI o) (h2 : nbX nr f k = nI o) : j = k := by
  have e1 := (nbX_iff hL hW hH hf ho hj).mp h1
  have e2 := (nbX_iff hL hW hH hf ho hk).mp h2
  exact sx_inj ⟨j, hj⟩ ⟨k, hk⟩ ⟨by show (ms_sx j).toInt = (ms_sx k).toInt; omega, by show (ms_sy j).toInt = (ms_sy k).toInt; omega⟩
theorem arR_iff {W H f o : Nat} {nr : Nat → Int32} (hL : lk_ok W H (W * H) nr) (hW : W ≤ 14) (hH : H ≤ 14) (hf : f < W * H) (ho : o < W * H) : arR W f o ↔ ∃ j, j < 8 ∧ nbX nr f j = nI o := by
  obtain ⟨f1, f2, f3⟩ := fd_div hf
  obtain ⟨o1, o2, o3⟩ := fd_div ho
  constructor
  · rintro ⟨h0, ⟨h1, h2⟩, h3, h4⟩
    have hne : ¬ (o % W = f % W ∧ o / W = f / W) := fun z => h0 (by rw [← f3, ← o3, z.1, z.2])
    obtain ⟨j, e1, e2⟩ := sx_ex ⟨o % W + 1 - f % W, by omega⟩ ⟨o / W + 1 - f / W, by omega⟩ (by show ¬ (o % W + 1 - f % W = 1 ∧ o / W + 1 - f / W = 1); omega)
    have e3 : (ms_sx j.1).toInt = ((o % W + 1 - f % W : Nat) : Int) - 1 := e1
    have e4 : (ms_sy j.1).toInt = ((o / W + 1 - f / W : Nat) : Int) - 1 := e2
    exact ⟨j.1, j.2, (nbX_iff hL hW hH hf ho j.2).mpr ⟨by omega, by omega⟩⟩
  · rintro ⟨j, hj, h⟩
    obtain ⟨e1, e2⟩ := (nbX_iff hL hW hH hf ho hj).mp h
    obtain ⟨a1, a2, a3, a4, a5⟩ := sx_b ⟨j, hj⟩
    have a6 : ¬ ((ms_sx j).toInt = 0 ∧ (ms_sy j).toInt = 0) := a5
    have b1 : -1 ≤ (ms_sx j).toInt := a1
    have b2 : (ms_sx j).toInt ≤ 1 := a2
    have b3 : -1 ≤ (ms_sy j).toInt := a3
    have b4 : (ms_sy j).toInt ≤ 1 := a4
    refine ⟨fun z => a6 ?_, ⟨by omega, by omega⟩, by omega, by omega⟩
    rw [z] at e1 e2
    omega
/-! counting twice -/
def sn (f : Nat → Nat) : Nat → Nat
  | 0 => 0
  | k + 1 => sn f k + f k
theorem sn_add (a b : Nat → Nat) : ∀ k, sn (fun w => a w + b w) k = sn a k + sn b k
  | 0 => rfl
  | k + 1 => by show sn (fun w => a w + b w) k + (a k + b k) = (sn a k + a k) + (sn b k + b k); rw [sn_add a b k]; omega
theorem sn_0 : ∀ k, sn (fun _ => 0) k = 0
  | 0 => rfl
  | k + 1 => sn_0 k
theorem sn_swap (g : Nat → Nat → Nat) (c : Nat) : ∀ m, sn (fun j => sn (fun w => g j w) c) m = sn (fun w => sn (fun j => g j w) m) c
  | 0 => (sn_0 c).symm
  | m + 1 => by
    show sn _ m + _ = _
    rw [sn_swap g c m, ← sn_add]
    rfl
theorem sn_congr {a b : Nat → Nat} : ∀ {k : Nat}, (∀ i, i < k → a i = b i) → sn a k = sn b k
  | 0, _ => rfl
  | k + 1, h => by show sn a k + a k = sn b k + b k; rw [sn_congr (fun i hi => h i (by omega)), h k (by omega)]
theorem ct_sn (p : Nat → Bool) : ∀ k, ct p k = sn (fun i => if p i then 1 else 0) k
  | 0 => rfl
  | k + 1 => by show ct p k + _ = sn _ k + _; rw [ct_sn p k]
theorem an_iff {p : Nat → Bool} : ∀ {k : Nat}, an p k = true ↔ ∃ i, i < k ∧ p i = true
  | 0 => ⟨fun h => Bool.noConfusion (show false = true from h), fun ⟨i, h, _⟩ => absurd h (Nat.not_lt_zero i)⟩
  | k + 1 => by
    show (an p k || p k) = true ↔ _
    rw [Bool.or_eq_true, an_iff]
    constructor
    · rintro (⟨i, h, e⟩ | h)
      · exact ⟨i, by omega, e⟩
      · exact ⟨k, by omega, h⟩
    · rintro ⟨i, h, e⟩
      by_cases hk : i = k
      · subst hk; exact Or.inr e
      · exact Or.inl ⟨i, by omega, e⟩
theorem ct_0 {p : Nat → Bool} : ∀ {k : Nat}, (∀ i, i < k → p i = false) → ct p k = 0
  | 0, _ => rfl
  | k + 1, h => by show ct p k + _ = 0; rw [ct_0 (fun i hi => h i (by omega)), h k (by omega)]; rfl
theorem ct_one {p : Nat → Bool} : ∀ {k : Nat}, (∀ i j, i < k → j < k → p i = true → p j = true → i = j) → (if an p k = true then 1 else 0) = ct p k
  | 0, _ => rfl
  | k + 1, h => by
    show _ = ct p k + _
    by_cases hp : p k = true
    · have h0 : ∀ i, i < k → p i = false := fun i hi => by
        by_cases e : p i = true
        · exact absurd (h i k (by omega) (by omega) e hp) (by omega)
        · exact Bool.eq_false_iff.mpr e
      rw [ct_0 h0, if_pos hp, if_pos (an_iff.mpr ⟨k, by omega, hp⟩)]
    · rw [← ct_one (p := p) (k := k) (fun i j hi hj => h i j (by omega) (by omega)), if_neg hp]
      have e : an p (k + 1) = an p k := by show (an p k || p k) = _; rw [Bool.eq_false_iff.mpr hp, Bool.or_false]
      rw [e]
      rfl
theorem dcount {m c : Nat} {P : Nat → Nat → Bool} (h1 : ∀ j, j < m → ∀ w v, w < c → v < c → P j w = true → P j v = true → w = v) (h2 : ∀ w, w < c → ∀ j k, j < m → k < m → P j w = true → P k w = true → j = k) : ct (fun j => an (P j) c) m = ct (fun w => an (fun j => P j w) m) c := by
  rw [ct_sn, ct_sn]
  rw [sn_congr (a := fun i => if an (P i) c = true then 1 else 0) (b := fun j => sn (fun w => if P j w = true then 1 else 0) c) (fun j hj => by rw [← ct_sn]; exact ct_one (h1 j hj))]
  rw [sn_swap]
  exact sn_congr (fun w hw => by rw [← ct_sn]; exact (ct_one (h2 w hw)).symm)
theorem ba {a b : Bool} (h : a = true ↔ b = true) : a = b := by cases a <;> cases b <;> simp_all
/-- walkers round a field: by the sides, by the walkers -/
theorem rcount {W H cnt f : Nat} {nr : Nat → Int32} {u : Nat → Nat → Int32} {on : Nat → Int32} (hL : lk_ok W H (W * H) nr) (hW : W ≤ 14) (hH : H ≤ 14) (hon : onV (W * H) cnt u on) (hv : hvX (nI (W * H)) cnt u) (hf : f < W * H) (R : Nat → Prop) [DecidablePred R] :
    ct (fun j => an (fun w => decide (nbX nr f j = u w 3 ∧ ¬ u w 3 = -1 ∧ R w)) cnt) 8 = ct (fun w => decide (¬ u w 3 = -1 ∧ arR W f (u w 3).toNatClampNeg ∧ R w)) cnt := by
  have h9 := fd_196 hW hH
  have pos : ∀ w, w < cnt → ¬ u w 3 = -1 → ∃ o, o < W * H ∧ u w 3 = nI o := fun w hw h => by
    have h1 := (hv w hw).resolve_left h
    obtain ⟨o, ho, e⟩ := has_nat h1
    refine ⟨o, ?_, e⟩
    have h2 := h1.2.1
    rw [e] at h2
    exact (nI_ltI (by omega) (by omega)).mp h2
  rw [dcount]
  · refine ct_congr (fun w hw => ba ?_)
    rw [an_iff, decide_eq_true_eq]
    constructor
    · rintro ⟨j, hj, h⟩
      obtain ⟨e1, e2, e3⟩ := of_decide_eq_true h
      obtain ⟨o, ho, eo⟩ := pos w hw e2
      refine ⟨e2, ?_, e3⟩
      rw [eo, nI_clamp (by omega)]
      exact (arR_iff hL hW hH hf ho).mpr ⟨j, hj, e1.trans eo⟩
    · rintro ⟨e2, e1, e3⟩
      obtain ⟨o, ho, eo⟩ := pos w hw e2
      rw [eo, nI_clamp (by omega)] at e1
      obtain ⟨j, hj, h⟩ := (arR_iff hL hW hH hf ho).mp e1
      exact ⟨j, hj, decide_eq_true ⟨h.trans eo.symm, e2, e3⟩⟩
  · intro j hj w v hw hv' h1 h2
    obtain ⟨e1, e2, -⟩ := of_decide_eq_true h1
    obtain ⟨e3, -, -⟩ := of_decide_eq_true h2
    obtain ⟨o, ho, eo⟩ := pos w hw e2
    rcases hon o ho with ⟨-, h⟩ | ⟨k, -, -, -, h⟩
    · exact absurd eo (h w hw)
    · rw [h w hw eo, h v hv' (by rw [← e3, e1, eo])]
  · intro w hw j k hj hk h1 h2
    obtain ⟨e1, e2, -⟩ := of_decide_eq_true h1
    obtain ⟨e3, -, -⟩ := of_decide_eq_true h2
    obtain ⟨o, ho, eo⟩ := pos w hw e2
    exact nbX_inj hL hW hH hf ho hj hk (e1.trans eo) (e3.trans eo)

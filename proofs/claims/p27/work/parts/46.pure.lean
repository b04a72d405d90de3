/-! numbers and rows: what the class's answers come from -/
theorem nI_8j {k j : Nat} : nI k * 8 + nI j = nI (k * 8 + j) := by rw [show (8 : Int32) = nI 8 from rfl, pk_mul, nI_add]
theorem md_it {it : Nat → Int32} {u : Nat → Nat → Int32} {cnt k j : Nat} (hit : ∀ k, k < cnt → ∀ j, j < 8 → it (k * 8 + j) = u k j) (hk : k < cnt) (hc : cnt ≤ 24) (hj : j < 8) : it (nI k * 8 + nI j).toNatClampNeg = u k j := by
  rw [nI_8j, nI_clamp (by omega), hit k hk j hj]
theorem md_in {k j : Nat} (hk : k < 24) (hj : j < 8) : vp_in (nI k * 8 + nI j) 192 := by
  rw [nI_8j]; exact vp_in_nI (by omega) (by omega)
theorem nI_toI {a : Nat} (h : a < 2147483648) : (nI a).toInt = (a : Int) := nI_toInt h
theorem nI_div {a b : Nat} (ha : a < 1000) (hb : b < 1000) : nI a / nI b = nI (a / b) := by
  have hd := Nat.div_le_self a b
  apply Int32.toInt_inj.mp
  rw [Int32.toInt_div, nI_toI (by omega), nI_toI (by omega), nI_toI (by omega), ← Int.ofNat_tdiv]
  generalize a / b = q at hd ⊢
  rw [Int.bmod_eq_of_le (by omega) (by omega)]
theorem nI_sub {a b : Nat} (ha : a < 1000000) (h : b ≤ a) : nI a - nI b = nI (a - b) := by
  apply Int32.toInt_inj.mp
  rw [nb_sub (by rw [nI_toI (by omega), nI_toI (by omega)]; omega) (by rw [nI_toI (by omega), nI_toI (by omega)]; omega), nI_toI (by omega), nI_toI (by omega), nI_toI (by omega)]
  omega
theorem ms_b_n {p : Prop} [Decidable p] : narrow .boolean (.int (ms_b p)) = .int (ms_b p) := by unfold ms_b; split <;> rfl
theorem nI_rem {a b : Nat} (ha : a < 1000) (hb : b < 1000) : nI a - nI a / nI b * nI b = nI (a % b) := by
  have h1 := Nat.div_add_mod a b
  have h2 : a / b * b = b * (a / b) := Nat.mul_comm _ _
  rw [nI_div ha hb, pk_mul, nI_sub (by omega) (by omega)]
  congr 1
  omega
theorem gr_insI {w h : Nat} (hw : w ≤ 14) (hh : h ≤ 14) (x y : Int32) : gr_ins (nI w) (nI h) x y ↔ (0 ≤ x ∧ x ≤ nI w - 1) ∧ 0 ≤ y ∧ y ≤ nI h - 1 := by
  have h1 : ∀ (w : Nat) (x : Int32), w ≤ 14 → 0 ≤ x → (x < nI w ↔ x ≤ nI w - 1) := fun w x hw h0 => by
    rw [nb_lt, nb_le, nb_sub (by rw [nI_toI (by omega)]; show _ ≤ (w : Int) - 1; omega) (by rw [nI_toI (by omega)]; show (w : Int) - 1 < _; omega), nI_toI (by omega)]
    show _ ↔ _ ≤ (w : Int) - 1
    omega
  constructor
  · rintro ⟨a, b, c, d⟩; exact ⟨⟨a, (h1 w x hw a).mp b⟩, c, (h1 h y hh c).mp d⟩
  · rintro ⟨⟨a, b⟩, c, d⟩; exact ⟨a, (h1 w x hw a).mpr b, c, (h1 h y hh c).mpr d⟩
theorem pIsI {cnt : Nat} (hc : cnt ≤ 24) (k : Int32) : pIs (nI cnt) k ↔ 0 ≤ k ∧ k ≤ nI cnt - 1 := by
  have h1 : k ≤ nI cnt - 1 ↔ k.toInt ≤ (cnt : Int) - 1 := by
    rw [nb_le, nb_sub (by rw [nI_toI (by omega)]; show _ ≤ (cnt : Int) - 1; omega) (by rw [nI_toI (by omega)]; show (cnt : Int) - 1 < _; omega), nI_toI (by omega)]
    exact Iff.rfl
  rw [h1]
  unfold pIs
  rw [nb_lt (b := nI cnt), nI_toI (by omega), nb_lt (b := 24)]
  show _ ∧ _ ∧ k.toInt < 24 ↔ _
  constructor
  · rintro ⟨a, b, c⟩; exact ⟨a, by omega⟩
  · rintro ⟨a, b⟩; exact ⟨a, by omega, by omega⟩
theorem pIs_of {cnt : Nat} {i : Nat} (hc : cnt ≤ 24) (h : i < cnt) : pIs (nI cnt) (nI i) := ⟨nI_pos' (by omega), nI_lt h (by omega), show nI i < nI 24 from nI_lt (by omega) (by omega)⟩
theorem nbX_lk {W H f s : Nat} {nr : Nat → Int32} (hL : lk_ok W H (W * H) nr) (hf : f < W * H) (h9 : W * H ≤ 196) (hs : s < 8) : nbX nr f s = lk_v W H (f % W) (f / W) s := by
  show gr_next nr (nI f) (nI s) = _
  unfold gr_next
  rw [if_pos ⟨nI_pos' (by omega), show nI f < nI 196 from nI_lt (by omega) (by omega), nI_pos' (by omega), show nI s < nI 8 from nI_lt hs (by omega)⟩, nI_8j, nI_clamp (by omega)]
  exact hL f hf s hs
abbrev arR (W f o : Nat) : Prop := ¬ f = o ∧ (f % W < o % W + 2 ∧ o % W < f % W + 2) ∧ (f / W < o / W + 2 ∧ o / W < f / W + 2)
theorem ab_2 {a b : Nat} (ha : a < 1000) (hb : b < 1000) : 2 ≤ (if 0 ≤ nI a - nI b then nI a - nI b else 0 - (nI a - nI b)) ↔ ¬ (a < b + 2 ∧ b < a + 2) := by
  have h1 : (nI a - nI b).toInt = (a : Int) - b := by rw [nb_sub (by rw [nI_toI (by omega), nI_toI (by omega)]; omega) (by rw [nI_toI (by omega), nI_toI (by omega)]; omega), nI_toI (by omega), nI_toI (by omega)]
  have h0 : (0 : Int32).toInt = 0 := rfl
  have h2 : (2 : Int32).toInt = 2 := rfl
  by_cases h : 0 ≤ nI a - nI b
  · rw [if_pos h, nb_le, h1, h2]; rw [nb_le, h1, h0] at h; omega
  · rw [if_neg h, nb_le, nb_sub (by rw [h1, h0]; omega) (by rw [h1, h0]; omega), h1, h0, h2]; rw [nb_le, h1, h0] at h; omega
def onV (n cnt : Nat) (u : Nat → Nat → Int32) (on : Nat → Int32) : Prop := ∀ f, f < n → (on f = -1 ∧ ∀ k, k < cnt → ¬ u k 3 = nI f) ∨ ∃ k, k < cnt ∧ on f = nI k ∧ u k 3 = nI f ∧ ∀ j, j < cnt → u j 3 = nI f → j = k
theorem onV.hit {n cnt f k : Nat} {u : Nat → Nat → Int32} {on : Nat → Int32} (h : onV n cnt u on) (hf : f < n) (hk : k < cnt) (e : u k 3 = nI f) : on f = nI k := by
  rcases h f hf with ⟨-, h1⟩ | ⟨j, -, h2, -, h4⟩
  · exact absurd e (h1 k hk)
  · rw [h2, h4 k hk e]
theorem onV.miss {n cnt f : Nat} {u : Nat → Nat → Int32} {on : Nat → Int32} (h : onV n cnt u on) (hf : f < n) (e : ∀ k, k < cnt → ¬ u k 3 = nI f) : on f = -1 := by
  rcases h f hf with ⟨h0, -⟩ | ⟨j, h1, h2, h3, -⟩
  · exact h0
  · exact absurd h3 (e j h1)
def pRo (W : Nat) (u : Nat → Nat → Int32) (f : Nat) (b : Int32) (k : Nat) : Bool := decide (¬ nI k = b ∧ ¬ u k 3 = -1 ∧ arR W f (u k 3).toNatClampNeg)
theorem has_nat {fl f : Int32} (h : gr_has fl f) : ∃ o, o < 196 ∧ f = nI o := by
  obtain ⟨j, hj, rfl⟩ := nI_of (Int32.not_lt.mpr h.1)
  exact ⟨j, (nI_ltI hj (by omega)).mp (show nI j < nI 196 from h.2.2), rfl⟩
/-- below n all is as it was, but where E says -/
def ms_fb (E : Nat → Prop) (n : Nat) (G G1 : ms_H) : Prop := ∀ a, a < n → ¬ E a → G1 a = G a
abbrev noE : Nat → Prop := fun _ => False
theorem ms_fb.rf {E : Nat → Prop} {n : Nat} {G : ms_H} : ms_fb E n G G := fun _ _ _ => rfl
theorem ms_fb.up {E : Nat → Prop} {n b : Nat} {G G1 : ms_H} {y : ms_E} (h : ms_fb E n G G1) (hb : n ≤ b ∨ E b) : ms_fb E n G (ms_up G1 b y) := fun a h1 h2 => (ms_up_n _ _ (by rintro rfl; rcases hb with h3 | h3; omega; exact h2 h3)).trans (h a h1 h2)
theorem ms_fb.trans {E : Nat → Prop} {n n2 : Nat} {G G1 G2 : ms_H} (h : ms_fb E n G G1) (h2 : ms_fb noE n2 G1 G2) (hn : n ≤ n2) : ms_fb E n G G2 := fun a h3 h4 => (h2 a (by omega) (fun z => z)).trans (h a h3 h4)
theorem ms_fb.trans2 {E : Nat → Prop} {n n2 : Nat} {G G1 G2 : ms_H} (h : ms_fb E n G G1) (h2 : ms_fb E n2 G1 G2) (hn : n ≤ n2) : ms_fb E n G G2 := fun a h3 h4 => (h2 a (by omega) h4).trans (h a h3 h4)
theorem ms_fb.at {n : Nat} {G G1 : ms_H} (h : ms_fb noE n G G1) (a : Nat) (ha : a < n) : G1 a = G a := h a ha (fun z => z)
theorem nbX_val {W H f s : Nat} {nr : Nat → Int32} (hL : lk_ok W H (W * H) nr) (hf : f < W * H) (hW : W ≤ 14) (hH : H ≤ 14) (hs : s < 8) : nbX nr f s = -1 ∨ ∃ o, o < W * H ∧ nbX nr f s = nI o := by
  rw [nbX_lk hL hf (fd_196 hW hH) hs]
  unfold lk_v
  by_cases h : gr_num (nI W) (nI H) (nI (f % W) + ms_sx s) (nI (f / W) + ms_sy s) = -1
  · exact Or.inl h
  · obtain ⟨x, y, h1, h2, -, -, h3⟩ := gr_num_has hW hH h
    exact Or.inr ⟨y * W + x, fd_lt h1 h2, h3⟩
def mmR (n : Nat) (mk mm : Nat → Int32) : Prop := ∀ g, g < 4 → ∀ f, f < n → mm (g * n + f) = ms_b (¬ mk f &&& (1 <<< (nI g &&& 31)) = 0)
theorem bf1_m {nb : Nat → Nat → Int32} {fr : Nat → Bool} {f s : Nat} {S : bf_S} (h : nb f s = -1) : bf1 nb fr f s S = S := if_neg (fun z => by rw [h] at z; exact absurd z.1 (by decide))
theorem bf1_w {nb : Nat → Nat → Int32} {fr : Nat → Bool} {f s o : Nat} {S : bf_S} (h : nb f s = nI o) (ho : o < 196) (hw : fr o = false) : bf1 nb fr f s S = S := if_neg (fun z => by rw [h, nI_clamp (by omega)] at z; rw [hw] at z; exact absurd z.2.1 (by decide))
theorem bf1_d {nb : Nat → Nat → Int32} {fr : Nat → Bool} {f s o : Nat} {S : bf_S} (h : nb f s = nI o) (ho : o < 196) (hd : ¬ S.1 o = -1) : bf1 nb fr f s S = S := if_neg (fun z => by rw [h, nI_clamp (by omega)] at z; exact hd z.2.2)
theorem bf1_y {nb : Nat → Nat → Int32} {fr : Nat → Bool} {f s o : Nat} {S : bf_S} (h : nb f s = nI o) (ho : o < 196) (hw : fr o = true) (hd : S.1 o = -1) : bf1 nb fr f s S = (upd S.1 o (S.1 f + 1), S.2 ++ [o]) := by
  unfold bf1
  rw [h, nI_clamp (by omega), if_pos ⟨nI_pos' (by omega), hw, hd⟩]
theorem bf1_pre {nb : Nat → Nat → Int32} {fr : Nat → Bool} {f s k v : Nat} {S : bf_S} (h : S.2[k]? = some v) : (bf1 nb fr f s S).2[k]? = some v := by
  unfold bf1
  split
  · rw [List.getElem?_append_left (by exact (List.getElem?_eq_some_iff.mp h).1)]; exact h
  · exact h
theorem bfS_pre {nb : Nat → Nat → Int32} {fr : Nat → Bool} {f k v : Nat} {S : bf_S} (h : S.2[k]? = some v) : ∀ s, (bfS nb fr f S s).2[k]? = some v
  | 0 => h
  | s + 1 => bf1_pre (bfS_pre h s)
theorem mm_ix {n k g : Nat} : nI g * nI n + nI k = nI (g * n + k) := by rw [pk_mul, nI_add]
theorem mm_lt {n k g : Nat} (hg : g < 4) (hk : k < n) : g * n + k < 4 * n := by
  have := Nat.mul_le_mul_right n (show g + 1 ≤ 4 by omega)
  rw [Nat.add_mul] at this
  omega
theorem mm_in {n k g : Nat} (hg : g < 4) (hk : k < n) (hn : n ≤ 196) : vp_in (nI g * nI n + nI k) (4 * n) := by
  rw [mm_ix]; exact vp_in_nI (mm_lt hg hk) (by omega)
theorem mm_ld {n k g : Nat} {mk mm : Nat → Int32} (h : mmR n mk mm) (hg : g < 4) (hk : k < n) (hn : n ≤ 196) : mm (nI g * nI n + nI k).toNatClampNeg = ms_b (¬ mk k &&& (1 <<< (nI g &&& 31)) = 0) := by
  rw [mm_ix, nI_clamp (by have := mm_lt hg hk; omega)]; exact h g hg k hk
theorem ms_b_0 {p : Prop} [Decidable p] : ms_b p = 0 ↔ ¬ p := by unfold ms_b; split <;> simp_all
theorem bfI_0 {st : Nat → Bool} {d : Nat → Int32} {k : Nat} (h : st k = true) : bfI st d (k + 1) k = 0 := by unfold bfI; rw [if_pos (Nat.lt_succ_self k), if_pos h]
theorem bfI_1 {st : Nat → Bool} {d : Nat → Int32} {k : Nat} (h : st k = false) : bfI st d (k + 1) k = -1 := by unfold bfI; rw [if_pos (Nat.lt_succ_self k), h]; rfl
theorem bfI_00 {st : Nat → Bool} {d : Nat → Int32} : bfI st d 0 = d := by funext f; unfold bfI; rw [if_neg (Nat.not_lt_zero f)]
def pFm (W : Nat) (u : Nat → Nat → Int32) (i own : Nat) (sd : Int32) (k : Nat) : Bool := decide (¬ k = i ∧ ¬ u k 3 = -1 ∧ arR W own (u k 3).toNatClampNeg ∧ u k 4 = sd)
/-- what a side costs by the model: s below 4, or 4 to stay -/
def mcS (W : Nat) (cnt : Nat) (u : Nat → Nat → Int32) (D : Nat → Int32) (i own : Nat) : Int32 := if D own = -1 then 10000 else 10 * D own + u i 2 * nI (ct (pRo W u own (nI i)) cnt)
def mcM (W : Nat) (cnt : Nat) (nr on : Nat → Int32) (dr : Int32) (u : Nat → Nat → Int32) (D : Nat → Int32) (i own s : Nat) : Int32 :=
  if nbX nr own s = -1 ∨ D (nbX nr own s).toNatClampNeg = -1 ∨ ¬ on (nbX nr own s).toNatClampNeg = -1 then 10000
  else 10 * D (nbX nr own s).toNatClampNeg + u i 2 * nI (ct (pRo W u (nbX nr own s).toNatClampNeg (nI i)) cnt) - dr * nI (ct (pFm W u i own (nI s)) cnt)
theorem pf_t {dr B : Int32} {c : Nat} : B - dr * nI c - dr = B - dr * nI (c + 1) := by rw [← nI_1]; grind
theorem sx_b : ∀ j : Fin 8, -1 ≤ (ms_sx j.1).toInt ∧ (ms_sx j.1).toInt ≤ 1 ∧ -1 ≤ (ms_sy j.1).toInt ∧ (ms_sy j.1).toInt ≤ 1 ∧ ¬ ((ms_sx j.1).toInt = 0 ∧ (ms_sy j.1).toInt = 0) := by decide +kernel
theorem sx_inj : ∀ j k : Fin 8, (ms_sx j.1).toInt = (ms_sx k.1).toInt ∧ (ms_sy j.1).toInt = (ms_sy k.1).toInt → j.1 = k.1 := by decide +kernel
theorem sx_ex : ∀ a b : Fin 3, ¬ (a.1 = 1 ∧ b.1 = 1) → ∃ j : Fin 8, (ms_sx j.1).toInt = (a.1 : Int) - 1 ∧ (ms_sy j.1).toInt = (b.1 : Int) - 1 := by decide +kernel
theorem fd_mod {W x y : Nat} (hx : x < W) : (y * W + x) % W = x ∧ (y * W + x) / W = y := by
  constructor
  · rw [Nat.mul_comm, Nat.mul_add_mod, Nat.mod_eq_of_lt hx]
  · rw [Nat.mul_comm, Nat.mul_add_div (by omega), Nat.div_eq_of_lt hx, Nat.add_zero]
theorem fd_div {W H f : Nat} (hf : f < W * H) : f % W < W ∧ f / W < H ∧ f / W * W + f % W = f := by
  have hW : 0 < W := Nat.pos_of_ne_zero (fun z => by rw [z, Nat.zero_mul] at hf; exact absurd hf (Nat.not_lt_zero f))
  refine ⟨Nat.mod_lt _ hW, Nat.div_lt_of_lt_mul hf, ?_⟩
  have := Nat.div_add_mod f W
  rw [Nat.mul_comm] at this
  exact this
theorem nbX_iff {W H f o j : Nat} {nr : Nat → Int32} (hL : lk_ok W H (W * H) nr) (hW : W ≤ 14) (hH : H ≤ 14) (hf : f < W * H) (ho : o < W * H) (hj : j < 8) : nbX nr f j = nI o ↔ ((o % W : Nat) : Int) = (f % W : Nat) + (ms_sx j).toInt ∧ ((o / W : Nat) : Int) = (f / W : Nat) + (ms_sy j).toInt := by
  have h9 := fd_196 hW hH
  obtain ⟨a1, a2, a3, a4, -⟩ : -1 ≤ (ms_sx j).toInt ∧ (ms_sx j).toInt ≤ 1 ∧ -1 ≤ (ms_sy j).toInt ∧ (ms_sy j).toInt ≤ 1 ∧ ¬ ((ms_sx j).toInt = 0 ∧ (ms_sy j).toInt = 0) := sx_b ⟨j, hj⟩
  obtain ⟨f1, f2, f3⟩ := fd_div hf
  obtain ⟨o1, o2, o3⟩ := fd_div ho
  have p1 := Int.natCast_nonneg (f / W)
  have p2 := Int.natCast_nonneg (f % W)
  have p3 := Int.natCast_nonneg (o / W)
  have p4 := Int.natCast_nonneg (o % W)
  have ex : (nI (f % W) + ms_sx j).toInt = (f % W : Nat) + (ms_sx j).toInt := by
    rw [nb_add (by rw [nI_toI (by omega)]; omega) (by rw [nI_toI (by omega)]; omega), nI_toI (by omega)]
  have ey : (nI (f / W) + ms_sy j).toInt = (f / W : Nat) + (ms_sy j).toInt := by
    rw [nb_add (by rw [nI_toI (by omega)]; omega) (by rw [nI_toI (by omega)]; omega), nI_toI (by omega)]
  rw [nbX_lk hL hf h9 hj]
  unfold lk_v
  constructor
  · intro h
    obtain ⟨x, y, hx, hy, e1, e2, e3⟩ := gr_num_has (a := nI (f % W) + ms_sx j) (b := nI (f / W) + ms_sy j) hW hH (by rw [h]; exact nI_m1 (by omega))
    rw [h] at e3
    have hlt := fd_lt hx hy
    have e4 := (nI_eq (by omega) (by omega)).mp e3
    obtain ⟨m1, m2⟩ := fd_mod (y := y) hx
    rw [e4, m1, m2, ← ex, ← ey, e1, e2, nI_toI (by omega), nI_toI (by omega)]
    exact ⟨rfl, rfl⟩
  · rintro ⟨h1, h2⟩
    have e1 : nI (f % W) + ms_sx j = nI (o % W) := Int32.toInt_inj.mp (by rw [ex, nI_toI (by omega), h1])
    have e2 : nI (f / W) + ms_sy j = nI (o / W) := Int32.toInt_inj.mp (by rw [ey, nI_toI (by omega), h2])
    rw [e1, e2, gr_numI hW hH o1 o2, o3]
theorem nbX_inj {W H f o j k : Nat} {nr : Nat → Int32} (hL : lk_ok W H (W * H) nr) (hW : W ≤ 14) (hH : H ≤ 14) (hf : f < W * H) (ho : o < W * H) (hj : j < 8) (hk : k < 8) (h1 : nbX nr f j = nI o) (h2 : nbX nr f k = nI o) : j = k := by
  have e1 := (nbX_iff hL hW hH hf ho hj).mp h1
  have e2 := (nbX_iff hL hW hH hf ho hk).mp h2
  exact sx_inj ⟨j, hj⟩ ⟨k, hk⟩ ⟨by show (ms_sx j).toInt = (ms_sx k).toInt; omega, by show (ms_sy j).toInt = (ms_sy k).toInt; omega⟩
theorem arR_iff {W H f o : Nat} {nr : Nat → Int32} (hL : lk_ok W H (W * H) nr) (hW : W ≤ 14) (hH : H ≤ 14) (hf : f < W * H) (ho : o < W * H) : arR W f o ↔ ∃ j, j < 8 ∧ nbX nr f j = nI o := by
  obtain ⟨f1, f2, f3⟩ := fd_div hf
  obtain ⟨o1, o2, o3⟩ := fd_div ho
  constructor
  · rintro ⟨h0, ⟨h1, h2⟩, h3, h4⟩
    have hne : ¬ (o % W = f % W ∧ o / W = f / W) := fun z => h0 (by rw [← f3, ← o3, z.1, z.2])
    obtain ⟨j, e1, e2⟩ := sx_ex ⟨o % W + 1 - f % W, by omega⟩ ⟨o / W + 1 - f / W, by omega⟩ (by show ¬ (o % W + 1 - f % W = 1 ∧ o / W + 1 - f / W = 1); omega)
    have e3 : (ms_sx j.1).toInt = ((o % W + 1 - f % W : Nat) : Int) - 1 := e1
    have e4 : (ms_sy j.1).toInt = ((o / W + 1 - f / W : Nat) : Int) - 1 := e2
    exact ⟨j.1, j.2, (nbX_iff hL hW hH hf ho j.2).mpr ⟨by omega, by omega⟩⟩
  · rintro ⟨j, hj, h⟩
    obtain ⟨e1, e2⟩ := (nbX_iff hL hW hH hf ho hj).mp h
    obtain ⟨a1, a2, a3, a4, a5⟩ := sx_b ⟨j, hj⟩
    have a6 : ¬ ((ms_sx j).toInt = 0 ∧ (ms_sy j).toInt = 0) := a5
    have b1 : -1 ≤ (ms_sx j).toInt := a1
    have b2 : (ms_sx j).toInt ≤ 1 := a2
    have b3 : -1 ≤ (ms_sy j).toInt := a3
    have b4 : (ms_sy j).toInt ≤ 1 := a4
    refine ⟨fun z => a6 ?_, ⟨by omega, by omega⟩, by omega, by omega⟩
    rw [z] at e1 e2
    omega
def sn (f : Nat → Nat) : Nat → Nat
  | 0 => 0
  | k + 1 => sn f k + f k
theorem sn_add (a b : Nat → Nat) : ∀ k, sn (fun w => a w + b w) k = sn a k + sn b k
  | 0 => rfl
  | k + 1 => by show sn (fun w => a w + b w) k + (a k + b k) = (sn a k + a k) + (sn b k + b k); rw [sn_add a b k]; omega
theorem sn_0 : ∀ k, sn (fun _ => 0) k = 0
  | 0 => rfl
  | k + 1 => sn_0 k
theorem sn_swap (g : Nat → Nat → Nat) (c : Nat) : ∀ m, sn (fun j => sn (fun w => g j w) c) m = sn (fun w => sn (fun j => g j w) m) c
  | 0 => (sn_0 c).symm
  | m + 1 => by
    show sn _ m + _ = _
    rw [sn_swap g c m, ← sn_add]
    rfl
theorem sn_congr {a b : Nat → Nat} : ∀ {k : Nat}, (∀ i, i < k → a i = b i) → sn a k = sn b k
  | 0, _ => rfl
  | k + 1, h => by show sn a k + a k = sn b k + b k; rw [sn_congr (fun i hi => h i (by omega)), h k (by omega)]
theorem ct_sn (p : Nat → Bool) : ∀ k, ct p k = sn (fun i => if p i then 1 else 0) k
  | 0 => rfl
  | k + 1 => by show ct p k + _ = sn _ k + _; rw [ct_sn p k]
theorem an_iff {p : Nat → Bool} : ∀ {k : Nat}, an p k = true ↔ ∃ i, i < k ∧ p i = true
  | 0 => ⟨fun h => Bool.noConfusion (show false = true from h), fun ⟨i, h, _⟩ => absurd h (Nat.not_lt_zero i)⟩
  | k + 1 => by
    show (an p k || p k) = true ↔ _
    rw [Bool.or_eq_true, an_iff]
    constructor
    · rintro (⟨i, h, e⟩ | h)
      · exact ⟨i, by omega, e⟩
      · exact ⟨k, by omega, h⟩
    · rintro ⟨i, h, e⟩
      by_cases hk : i = k
      · subst hk; exact Or.inr e
      · exact Or.inl ⟨i, by omega, e⟩
theorem ct_0 {p : Nat → Bool} : ∀ {k : Nat}, (∀ i, i < k → p i = false) → ct p k = 0
  | 0, _ => rfl
  | k + 1, h => by show ct p k + _ = 0; rw [ct_0 (fun i hi => h i (by omega)), h k (by omega)]; rfl
theorem ct_one {p : Nat → Bool} : ∀ {k : Nat}, (∀ i j, i < k → j < k → p i = true → p j = true → i = j) → (if an p k = true then 1 else 0) = ct p k
  | 0, _ => rfl
  | k + 1, h => by
    show _ = ct p k + _
    by_cases hp : p k = true
    · have h0 : ∀ i, i < k → p i = false := fun i hi => by
        by_cases e : p i = true
        · exact absurd (h i k (by omega) (by omega) e hp) (by omega)
        · exact Bool.eq_false_iff.mpr e
      rw [ct_0 h0, if_pos hp, if_pos (an_iff.mpr ⟨k, by omega, hp⟩)]
    · rw [← ct_one (p := p) (k := k) (fun i j hi hj => h i j (by omega) (by omega)), if_neg hp]
      have e : an p (k + 1) = an p k := by show (an p k || p k) = _; rw [Bool.eq_false_iff.mpr hp, Bool.or_false]
      rw [e]
      rfl
theorem dcount {m c : Nat} {P : Nat → Nat → Bool} (h1 : ∀ j, j < m → ∀ w v, w < c → v < c → P j w = true → P j v = true → w = v) (h2 : ∀ w, w < c → ∀ j k, j < m → k < m → P j w = true → P k w = true → j = k) : ct (fun j => an (P j) c) m = ct (fun w => an (fun j => P j w) m) c := by
  rw [ct_sn, ct_sn]
  rw [sn_congr (a := fun i => if an (P i) c = true then 1 else 0) (b := fun j => sn (fun w => if P j w = true then 1 else 0) c) (fun j hj => by rw [← ct_sn]; exact ct_one (h1 j hj))]
  rw [sn_swap]
  exact sn_congr (fun w hw => by rw [← ct_sn]; exact (ct_one (h2 w hw)).symm)
theorem ba {a b : Bool} (h : a = true ↔ b = true) : a = b := by cases a <;> cases b <;> simp_all
/-- walkers round a field: by the sides, by the walkers -/
theorem rcount {W H cnt f : Nat} {nr : Nat → Int32} {u : Nat → Nat → Int32} {on : Nat → Int32} (hL : lk_ok W H (W * H) nr) (hW : W ≤ 14) (hH : H ≤ 14) (hon : onV (W * H) cnt u on) (hv : hvX (nI (W * H)) cnt u) (hf : f < W * H) (R : Nat → Prop) [DecidablePred R] :
    ct (fun j => an (fun w => decide (nbX nr f j = u w 3 ∧ ¬ u w 3 = -1 ∧ R w)) cnt) 8 = ct (fun w => decide (¬ u w 3 = -1 ∧ arR W f (u w 3).toNatClampNeg ∧ R w)) cnt := by
  have h9 := fd_196 hW hH
  have pos : ∀ w, w < cnt → ¬ u w 3 = -1 → ∃ o, o < W * H ∧ u w 3 = nI o := fun w hw h => by
    have h1 := (hv w hw).resolve_left h
    obtain ⟨o, ho, e⟩ := has_nat h1
    refine ⟨o, ?_, e⟩
    have h2 := h1.2.1
    rw [e] at h2
    exact (nI_ltI (by omega) (by omega)).mp h2
  rw [dcount]
  · refine ct_congr (fun w hw => ba ?_)
    rw [an_iff, decide_eq_true_eq]
    constructor
    · rintro ⟨j, hj, h⟩
      obtain ⟨e1, e2, e3⟩ := of_decide_eq_true h
      obtain ⟨o, ho, eo⟩ := pos w hw e2
      refine ⟨e2, ?_, e3⟩
      rw [eo, nI_clamp (by omega)]
      exact (arR_iff hL hW hH hf ho).mpr ⟨j, hj, e1.trans eo⟩
    · rintro ⟨e2, e1, e3⟩
      obtain ⟨o, ho, eo⟩ := pos w hw e2
      rw [eo, nI_clamp (by omega)] at e1
      obtain ⟨j, hj, h⟩ := (arR_iff hL hW hH hf ho).mp e1
      exact ⟨j, hj, decide_eq_true ⟨h.trans eo.symm, e2, e3⟩⟩
  · intro j hj w v hw hv' h1 h2
    obtain ⟨e1, e2, -⟩ := of_decide_eq_true h1
    obtain ⟨e3, -, -⟩ := of_decide_eq_true h2
    obtain ⟨o, ho, eo⟩ := pos w hw e2
    rcases hon o ho with ⟨-, h⟩ | ⟨k, -, -, -, h⟩
    · exact absurd eo (h w hw)
    · rw [h w hw eo, h v hv' (by rw [← e3, e1, eo])]
  · intro w hw j k hj hk h1 h2
    obtain ⟨e1, e2, -⟩ := of_decide_eq_true h1
    obtain ⟨e3, -, -⟩ := of_decide_eq_true h2
    obtain ⟨o, ho, eo⟩ := pos w hw e2
    exact nbX_inj hL hW hH hf ho hj hk (e1.trans eo) (e3.trans eo)
theorem pos_of {W H cnt : Nat} {u : Nat → Nat → Int32} (hW : W ≤ 14) (hH : H ≤ 14) (hv : hvX (nI (W * H)) cnt u) {w : Nat} (hw : w < cnt) (h : ¬ u w 3 = -1) : ∃ o, o < W * H ∧ u w 3 = nI o := by
  have h9 := fd_196 hW hH
  have h1 := (hv w hw).resolve_left h
  obtain ⟨o, ho, e⟩ := has_nat h1
  refine ⟨o, ?_, e⟩
  have h2 := h1.2.1
  rw [e] at h2
  exact (nI_ltI (by omega) (by omega)).mp h2
theorem pRo_m {W cnt f : Nat} {u : Nat → Nat → Int32} (hc : cnt ≤ 24) : ct (pRo W u f (-1)) cnt = ct (fun w => decide (¬ u w 3 = -1 ∧ arR W f (u w 3).toNatClampNeg ∧ True)) cnt :=
  ct_congr (fun w hw => ba (by
    unfold pRo
    rw [decide_eq_true_eq, decide_eq_true_eq]
    exact ⟨fun h => ⟨h.2.1, h.2.2, trivial⟩, fun h => ⟨nI_m1 (by omega), h.1, h.2.1⟩⟩))
theorem pRo_i {W cnt f i : Nat} {u : Nat → Nat → Int32} (hc : cnt ≤ 24) (hi : i < cnt) : ct (pRo W u f (nI i)) cnt = ct (fun w => decide (¬ w = i ∧ ¬ u w 3 = -1 ∧ arR W f (u w 3).toNatClampNeg)) cnt :=
  ct_congr (fun w hw => ba (by
    unfold pRo
    rw [decide_eq_true_eq, decide_eq_true_eq]
    exact ⟨fun h => ⟨fun z => h.1 (by rw [z]), h.2⟩, fun h => ⟨fun z => h.1 ((nI_eq (by omega) (by omega)).mp z), h.2⟩⟩))
theorem on_side {W H cnt f j : Nat} {nr : Nat → Int32} {u : Nat → Nat → Int32} {on : Nat → Int32} (hL : lk_ok W H (W * H) nr) (hW : W ≤ 14) (hH : H ≤ 14) (hon : onV (W * H) cnt u on) (hf : f < W * H) (hj : j < 8) : (cr_on on (nbX nr f j) = -1 ∧ ∀ w, w < cnt → ¬ (nbX nr f j = u w 3 ∧ ¬ u w 3 = -1)) ∨ ∃ k, k < cnt ∧ cr_on on (nbX nr f j) = nI k ∧ nbX nr f j = u k 3 ∧ ¬ u k 3 = -1 ∧ ∀ w, w < cnt → nbX nr f j = u w 3 → w = k := by
  have h9 := fd_196 hW hH
  rcases nbX_val hL hf hW hH hj with h | ⟨o, ho, h⟩
  · refine Or.inl ⟨?_, fun w hw z => z.2 (z.1.symm.trans h)⟩
    rw [h]
    exact if_neg (fun z => absurd z.1 (by decide))
  · rw [h, cr_onI on (by omega)]
    rcases hon o ho with ⟨e1, e2⟩ | ⟨k, hk, e1, e2, e3⟩
    · exact Or.inl ⟨e1, fun w hw z => e2 w hw z.1.symm⟩
    · exact Or.inr ⟨k, hk, e1, e2.symm, fun z => nI_m1 (by omega) (e2.symm.trans z), fun w hw e => e3 w hw e.symm⟩
theorem cRound_eq {W H cnt f : Nat} {nr : Nat → Int32} {u : Nat → Nat → Int32} {on : Nat → Int32} (hL : lk_ok W H (W * H) nr) (hW : W ≤ 14) (hH : H ≤ 14) (hc : cnt ≤ 24) (hon : onV (W * H) cnt u on) (hv : hvX (nI (W * H)) cnt u) (hf : f < W * H) : cRound nr on (nI f) = nI (ct (pRo W u f (-1)) cnt) := by
  unfold cRound
  rw [pRo_m hc, ← rcount hL hW hH hon hv hf (fun _ => True)]
  congr 1
  refine ct_congr (fun j hj => ba ?_)
  unfold pRound
  rw [decide_eq_true_eq, an_iff]
  show ¬ cr_on on (nbX nr f j) = -1 ↔ _
  rcases on_side hL hW hH hon hf hj with ⟨e1, e2⟩ | ⟨k, hk, e1, e2, e3, -⟩
  · constructor
    · intro h; exact absurd e1 h
    · rintro ⟨w, hw, h⟩
      obtain ⟨a, b, -⟩ := of_decide_eq_true h
      exact absurd ⟨a, b⟩ (e2 w hw)
  · constructor
    · intro _; exact ⟨k, hk, decide_eq_true ⟨e2, e3, trivial⟩⟩
    · intro _; rw [e1]; exact nI_m1 (by omega)
theorem cFace_eq {W H cnt i own s : Nat} {nr : Nat → Int32} {u : Nat → Nat → Int32} {on : Nat → Int32} (hL : lk_ok W H (W * H) nr) (hW : W ≤ 14) (hH : H ≤ 14) (hc : cnt ≤ 24) (hon : onV (W * H) cnt u on) (hv : hvX (nI (W * H)) cnt u) (hi : i < cnt) (hpo : u i 3 = nI own) (ho : own < W * H) : cFace (nI cnt) nr on u (nI own) (nI s) = nI (ct (pFm W u i own (nI s)) cnt) := by
  have h9 := fd_196 hW hH
  unfold cFace
  have e0 : ct (pFm W u i own (nI s)) cnt = ct (fun w => decide (¬ u w 3 = -1 ∧ arR W own (u w 3).toNatClampNeg ∧ u w 4 = nI s)) cnt := ct_congr (fun w hw => ba (by
    unfold pFm
    rw [decide_eq_true_eq, decide_eq_true_eq]
    constructor
    · rintro ⟨a, b⟩; exact b
    · intro h
      refine ⟨fun z => ?_, h⟩
      have h2 := h.2.1
      rw [z, hpo, nI_clamp (by omega)] at h2
      exact h2.1 rfl))
  rw [e0, ← rcount hL hW hH hon hv ho (fun w => u w 4 = nI s)]
  congr 1
  refine ct_congr (fun j hj => ba ?_)
  unfold pFace
  rw [decide_eq_true_eq, an_iff]
  show pIs (nI cnt) (cr_on on (nbX nr own j)) ∧ u (cr_on on (nbX nr own j)).toNatClampNeg 4 = nI s ↔ _
  rcases on_side hL hW hH hon ho hj with ⟨e1, e2⟩ | ⟨k, hk, e1, e2, e3, e4⟩
  · constructor
    · rintro ⟨h, -⟩
      rw [e1] at h
      exact absurd h.1 (by decide)
    · rintro ⟨w, hw, h⟩
      obtain ⟨a, b, -⟩ := of_decide_eq_true h
      exact absurd ⟨a, b⟩ (e2 w hw)
  · rw [e1, nI_clamp (by omega)]
    constructor
    · rintro ⟨-, h⟩; exact ⟨k, hk, decide_eq_true ⟨e2, e3, h⟩⟩
    · rintro ⟨w, hw, h⟩
      obtain ⟨a, b, d⟩ := of_decide_eq_true h
      have := e4 w hw a
      subst this
      exact ⟨pIs_of hc hk, d⟩
theorem arR_symm {W f o : Nat} (h : arR W f o) : arR W o f := ⟨fun z => h.1 z.symm, ⟨h.2.1.2, h.2.1.1⟩, h.2.2.2, h.2.2.1⟩
theorem pRo_own {W H cnt i own : Nat} {u : Nat → Nat → Int32} (hc : cnt ≤ 24) (hW : W ≤ 14) (hH : H ≤ 14) (hi : i < cnt) (hpo : u i 3 = nI own) (ho : own < W * H) : ct (pRo W u own (-1)) cnt = ct (pRo W u own (nI i)) cnt := by
  have h9 := fd_196 hW hH
  rw [pRo_m hc, pRo_i hc hi]
  refine ct_congr (fun w hw => ba ?_)
  rw [decide_eq_true_eq, decide_eq_true_eq]
  constructor
  · rintro ⟨a, b, -⟩
    refine ⟨fun z => ?_, a, b⟩
    rw [z, hpo, nI_clamp (by omega)] at b
    exact b.1 rfl
  · rintro ⟨-, a, b⟩; exact ⟨a, b, trivial⟩
theorem pRo_to {W H cnt i own s o : Nat} {nr : Nat → Int32} {u : Nat → Nat → Int32} (hL : lk_ok W H (W * H) nr) (hc : cnt ≤ 24) (hW : W ≤ 14) (hH : H ≤ 14) (hi : i < cnt) (hpo : u i 3 = nI own) (ho : own < W * H) (ho2 : o < W * H) (hs : s < 8) (hn : nbX nr own s = nI o) : ct (pRo W u o (-1)) cnt = ct (pRo W u o (nI i)) cnt + 1 := by
  have h9 := fd_196 hW hH
  have har : arR W o own := arR_symm ((arR_iff hL hW hH ho ho2).mpr ⟨s, hs, hn⟩)
  rw [pRo_m hc, pRo_i hc hi]
  refine ct_add (j := i) ?_ ?_ (fun w hw => ?_) hi
  · exact decide_eq_false (fun z => z.1 rfl)
  · refine decide_eq_true ⟨?_, ?_, trivial⟩
    · rw [hpo]; exact nI_m1 (by omega)
    · rw [hpo, nI_clamp (by omega)]; exact har
  · exact ba (by rw [decide_eq_true_eq, decide_eq_true_eq]; exact ⟨fun z => ⟨hw, z.1, z.2.1⟩, fun z => ⟨z.2.1, z.2.2, trivial⟩⟩)
theorem sq_ds_m {n : Nat} {ds : Nat → Int32} {g : Int32} : sq_ds (nI n) ds g (-1) = -1 := if_neg (fun z => absurd z.2.1 (by decide))
theorem cost_S {W H cnt i own g : Nat} {nr on ds D hd : Nat → Int32} {u : Nat → Nat → Int32} (hL : lk_ok W H (W * H) nr) (hc : cnt ≤ 24) (hW : W ≤ 14) (hH : H ≤ 14) (hon : onV (W * H) cnt u on) (hv : hvX (nI (W * H)) cnt u) (hi : i < cnt) (hpo : u i 3 = nI own) (ho : own < W * H) (hg : g < 4) (hgo : u i 0 = nI g) (hD : ∀ f, f < W * H → ds (g * 196 + f) = D f) : cr_cost (nI (W * H)) nr ds on hd u (u i) 4 = mcS W cnt u D i own := by
  have h9 := fd_196 hW hH
  unfold cr_cost mcS
  rw [if_pos rfl, hgo, hpo, sq_dsI ds rfl h9 ho hg, hD own ho, cRound_eq hL hW hH hc hon hv ho, pRo_own hc hW hH hi hpo ho]
theorem cost_M {W H cnt i own g s : Nat} {nr on ds D hd : Nat → Int32} {dr : Int32} {u : Nat → Nat → Int32} (hL : lk_ok W H (W * H) nr) (hc : cnt ≤ 24) (hW : W ≤ 14) (hH : H ≤ 14) (hon : onV (W * H) cnt u on) (hv : hvX (nI (W * H)) cnt u) (hi : i < cnt) (hpo : u i 3 = nI own) (ho : own < W * H) (hg : g < 4) (hgo : u i 0 = nI g) (hD : ∀ f, f < W * H → ds (g * 196 + f) = D f) (h0 : hd 0 = nI cnt) (h2 : hd 2 = dr) (hs : s < 4) : cr_cost (nI (W * H)) nr ds on hd u (u i) (nI s) = mcM W cnt nr on dr u D i own s := by
  have h9 := fd_196 hW hH
  have hs4 : ¬ nI s = 4 := fun z9 => by have := (nI_eq (b := 4) (by omega) (by omega)).mp z9; omega
  unfold cr_cost mcM
  rw [if_neg hs4, hgo, hpo, h0, h2, cFace_eq hL hW hH hc hon hv hi hpo ho]
  show (if sq_ds _ ds (nI g) (nbX nr own s) = -1 ∨ ¬ cr_on on (nbX nr own s) = -1 then _ else 10 * sq_ds _ ds (nI g) (nbX nr own s) + u i 2 * (cRound nr on (nbX nr own s) - 1) - _) = _
  rcases nbX_val hL ho hW hH (s := s) (by omega) with h | ⟨o, ho2, h⟩
  · rw [h, sq_ds_m, if_pos (Or.inl rfl), if_pos (Or.inl rfl)]
  · rw [h, nI_clamp (by omega), sq_dsI ds rfl h9 ho2 hg, hD o ho2, cr_onI on (by omega), cRound_eq hL hW hH hc hon hv ho2, pRo_to hL hc hW hH hi hpo ho ho2 (by omega) h, nI_pred]
    by_cases h3 : D o = -1 ∨ ¬ on o = -1
    · rw [if_pos h3, if_pos (Or.inr h3)]
    · rw [if_neg h3, if_neg (by rintro (z | z); exact nI_m1 (by omega) z; exact h3 z)]
def mwR (c : Nat → Int32) : Nat → Int32 → Int32 → Int32
  | 0, b, _ => b
  | r + 1, b, l => if l < c r ∨ c r = 10000 then mwR c r b l else mwR c r (nI r) (c r)
theorem nI_dec {r : Nat} : nI r + (-1) = nI r - 1 := by rw [Int32.sub_eq_add_neg]
/-- the place of the least, the first of them, where it is below 10000, or 4 -/
def bsP (c : Nat → Int32) (k : Nat) : Prop := k ≤ 4 ∧ (∀ j, j < k → c k < c j ∨ (k = 4 ∧ c j = 10000)) ∧ (∀ j, k < j → j ≤ 4 → c k ≤ c j) ∧ (k < 4 → c k < 10000)
theorem bsP.one {c : Nat → Int32} {j k : Nat} (h1 : bsP c j) (h2 : bsP c k) : j = k := by
  have key : ∀ {j k : Nat}, bsP c j → bsP c k → ¬ j < k := fun {j k} h1 h2 h => by
    have a := h1.2.2.1 k h h2.1
    have b := h1.2.2.2 (by have := h2.1; omega)
    rcases h2.2.1 j h with e | ⟨-, e⟩
    · exact Int32.not_lt.mpr a e
    · rw [e] at b; exact absurd b (by decide)
  rcases Nat.lt_trichotomy j k with h | h | h
  · exact absurd h (key h1 h2)
  · exact h
  · exact absurd h (key h2 h1)
/-- class: what is known behind k of the five -/
theorem cr_bsI {c : Nat → Int32} : ∀ k, k ≤ 5 → (cr_bs c k = (4, 10000) ∧ ∀ j, j < k → 10000 ≤ c j) ∨ ∃ i, i < k ∧ cr_bs c k = (nI i, c i) ∧ c i < 10000 ∧ (∀ j, j < i → c i < c j) ∧ ∀ j, i < j → j < k → c i ≤ c j
  | 0, _ => Or.inl ⟨rfl, fun j hj => absurd hj (Nat.not_lt_zero j)⟩
  | k + 1, hk => by
    have e : cr_bs c (k + 1) = if c k < (cr_bs c k).2 then (nI k, c k) else cr_bs c k := rfl
    rcases cr_bsI (c := c) k (by omega) with ⟨h1, h2⟩ | ⟨i, hi, h1, h2, h3, h4⟩
    · rw [h1] at e
      by_cases h : c k < 10000
      · rw [if_pos h] at e
        exact Or.inr ⟨k, by omega, e, h, fun j hj => Int32.lt_of_lt_of_le h (h2 j hj), fun j h5 h6 => absurd h6 (by omega)⟩
      · rw [if_neg h] at e
        refine Or.inl ⟨e, fun j hj => ?_⟩
        rcases Nat.lt_succ_iff_lt_or_eq.mp hj with h5 | h5
        · exact h2 j h5
        · rw [h5]; exact Int32.not_lt.mp h
    · rw [h1] at e
      by_cases h : c k < c i
      · rw [if_pos h] at e
        refine Or.inr ⟨k, by omega, e, Int32.lt_trans h h2, fun j hj => ?_, fun j h5 h6 => absurd h6 (by omega)⟩
        rcases Nat.lt_trichotomy j i with h7 | h7 | h7
        · exact Int32.lt_trans h (h3 j h7)
        · rw [h7]; exact h
        · exact Int32.lt_of_lt_of_le h (h4 j h7 hj)
      · rw [if_neg h] at e
        refine Or.inr ⟨i, by omega, e, h2, h3, fun j h5 h6 => ?_⟩
        rcases Nat.lt_succ_iff_lt_or_eq.mp h6 with h7 | h7
        · exact h4 j h5 h7
        · rw [h7]; exact Int32.not_lt.mp h
theorem cr_bsP {c : Nat → Int32} (h : ∀ j, j ≤ 4 → c j ≤ 10000) : ∃ k, bsP c k ∧ (cr_bs c 5).1 = nI k := by
  rcases cr_bsI (c := c) 5 (by omega) with ⟨h1, h2⟩ | ⟨i, hi, h1, h2, h3, h4⟩
  · exact ⟨4, ⟨by omega, fun j hj => Or.inr ⟨rfl, Int32.le_antisymm (h j (by omega)) (h2 j (by omega))⟩, fun j h5 h6 => absurd h5 (by omega), fun z => absurd z (by omega)⟩, by rw [h1]; rfl⟩
  · exact ⟨i, ⟨by omega, fun j hj => Or.inl (h3 j hj), fun j h5 h6 => h4 j h5 (by omega), fun _ => h2⟩, by rw [h1]⟩
/-- the model: from above -/
theorem mwR_I {c : Nat → Int32} (h : ∀ j, j ≤ 4 → c j ≤ 10000) : ∀ r, r ≤ 4 → ∀ i, r ≤ i → i ≤ 4 → (∀ j, r ≤ j → j < i → c i < c j ∨ (i = 4 ∧ c j = 10000)) → (∀ j, i < j → j ≤ 4 → c i ≤ c j) → (i < 4 → c i < 10000) → ∃ k, bsP c k ∧ mwR c r (nI i) (c i) = nI k
  | 0, _, i, _, h4, h1, h2, h3 => ⟨i, ⟨h4, fun j hj => h1 j (Nat.zero_le j) hj, h2, h3⟩, rfl⟩
  | r + 1, hr, i, hri, h4, h1, h2, h3 => by
    have e : mwR c (r + 1) (nI i) (c i) = if c i < c r ∨ c r = 10000 then mwR c r (nI i) (c i) else mwR c r (nI r) (c r) := rfl
    rw [e]
    by_cases hc : c i < c r ∨ c r = 10000
    · rw [if_pos hc]
      refine mwR_I h r (by omega) i (by omega) h4 (fun j hj hji => ?_) h2 h3
      by_cases h7 : j = r
      · rw [h7]
        rcases hc with hc | hc
        · exact Or.inl hc
        · by_cases h8 : i = 4
          · exact Or.inr ⟨h8, hc⟩
          · exact Or.inl (by rw [hc]; exact h3 (by omega))
      · exact h1 j (by omega) hji
    · rw [if_neg hc]
      have a1 : c r ≤ c i := Int32.not_lt.mp (fun z => hc (Or.inl z))
      have a2 : c r < 10000 := by
        rcases Int32.lt_or_eq_of_le (h r (by omega)) with z | z
        · exact z
        · exact absurd (Or.inr z) hc
      refine mwR_I h r (by omega) r (Nat.le_refl r) (by omega) (fun j hj hji => absurd hji (by omega)) (fun j hj hj4 => ?_) (fun _ => a2)
      rcases Nat.lt_trichotomy j i with h7 | h7 | h7
      · rcases h1 j (by omega) h7 with z | ⟨-, z⟩
        · exact Int32.le_of_lt (Int32.lt_of_le_of_lt a1 z)
        · rw [z]; exact Int32.le_of_lt a2
      · rw [h7]; exact a1
      · exact Int32.le_trans a1 (h2 j h7 hj4)
theorem bs_eq {c : Nat → Int32} (h : ∀ j, j ≤ 4 → c j ≤ 10000) : mwR c 4 4 (c 4) = (cr_bs c 5).1 := by
  obtain ⟨k, h1, h2⟩ := cr_bsP h
  obtain ⟨j, h3, h4⟩ := mwR_I h 4 (Nat.le_refl 4) 4 (Nat.le_refl 4) (Nat.le_refl 4) (fun j h1 h2 => absurd h2 (by omega)) (fun j h1 h2 => absurd h1 (by omega)) (fun z => absurd z (by omega))
  rw [h2, ← bsP.one h3 h1]
  exact h4
theorem mwR_congr {c d : Nat → Int32} : ∀ r b l, (∀ j, j < r → c j = d j) → mwR c r b l = mwR d r b l
  | 0, _, _, _ => rfl
  | r + 1, b, l, h => by
    show (if _ then _ else _) = (if _ then _ else _)
    rw [h r (by omega), mwR_congr r b l (fun j hj => h j (by omega)), mwR_congr r (nI r) (d r) (fun j hj => h j (by omega))]
theorem bfM_J {nb : Nat → Nat → Int32} {fr : Nat → Bool} {n : Nat} (hn : n ≤ 196) (hfr : ∀ k, fr k = true → k < n) : ∀ r h S, bfJ n S → bfJ n (bfM nb fr r h S)
  | 0, _, _, hJ => hJ
  | r + 1, h, S, hJ => by
    cases e : S.2[h]? with
    | none => rw [bfM_n e]; exact hJ
    | some f =>
      rw [bfM_s e]
      exact bfM_J hn hfr r (h + 1) _ (bfS_J hJ hn hfr (hJ.2.1 f (List.mem_of_getElem? e)).2 4).1
theorem dX_val {n g : Nat} {nr wl mk : Nat → Int32} (h9 : n ≤ 196) (f : Nat) : dXg n nr wl mk g f = -1 ∨ ∃ v, v ≤ 196 ∧ dXg n nr wl mk g f = nI v := by
  have hJ := bfM_J (nb := nbX nr) h9 (frX_lt (nf := n) (wl := wl)) n 0 _ (bf0_J (st := stX n wl mk g) h9)
  have hl := hJ.len
  rcases hJ.2.2 f with h | ⟨v, hv, h⟩
  · exact Or.inl h
  · exact Or.inr ⟨v, by omega, h⟩
theorem nI_10 : (10 : Int32) = nI 10 := rfl
theorem co_le {v a c d e : Nat} (hv : v ≤ 196) (ha : a ≤ 9) (hc : c ≤ 24) (hd : d ≤ 9) (he : e ≤ 24) : 10 * nI v + nI a * nI c - nI d * nI e ≤ 10000 := by
  have h1 : a * c ≤ 9 * 24 := Nat.mul_le_mul ha hc
  have h2 : d * e ≤ 9 * 24 := Nat.mul_le_mul hd he
  rw [nI_10, pk_mul, pk_mul, pk_mul, nI_add, nb_le, nb_sub (by rw [nI_toI (by omega), nI_toI (by omega)]; omega) (by rw [nI_toI (by omega), nI_toI (by omega)]; omega), nI_toI (by omega), nI_toI (by omega)]
  show _ ≤ (10000 : Int)
  omega
theorem co_le2 {v a c : Nat} (hv : v ≤ 196) (ha : a ≤ 9) (hc : c ≤ 24) : 10 * nI v + nI a * nI c ≤ 10000 := by
  have h1 : a * c ≤ 9 * 24 := Nat.mul_le_mul ha hc
  rw [nI_10, pk_mul, pk_mul, nI_add, nb_le, nI_toI (by omega)]
  show _ ≤ (10000 : Int)
  omega
theorem nI_to9 {x : Int32} (h0 : 0 ≤ x) (h9 : x ≤ 9) : ∃ a, a ≤ 9 ∧ x = nI a := nI_of2 (M := 9) (n := 9) rfl (Int32.not_lt.mpr h0) h9
def wkV (cnt : Nat) (u : Nat → Nat → Int32) : Prop := ∀ k, k < cnt → gl_is (u k 0) ∧ (1 ≤ u k 1 ∧ u k 1 ≤ 3) ∧ 0 ≤ u k 2 ∧ u k 2 ≤ 9
theorem mcS_le {W cnt i own : Nat} {u : Nat → Nat → Int32} {D : Nat → Int32} (hc : cnt ≤ 24) (hD : D own = -1 ∨ ∃ v, v ≤ 196 ∧ D own = nI v) (h2 : 0 ≤ u i 2 ∧ u i 2 ≤ 9) : mcS W cnt u D i own ≤ 10000 := by
  unfold mcS
  split
  · exact Int32.le_refl _
  · next h =>
    obtain ⟨v, hv, e⟩ := hD.resolve_left h
    obtain ⟨a, ha, e2⟩ := nI_to9 h2.1 h2.2
    have := ct_le (pRo W u own (nI i)) cnt
    rw [e, e2]
    exact co_le2 hv ha (by omega)
theorem mcM_le {W cnt i own s : Nat} {nr on : Nat → Int32} {dr : Int32} {u : Nat → Nat → Int32} {D : Nat → Int32} (hc : cnt ≤ 24) (hD : ∀ f, D f = -1 ∨ ∃ v, v ≤ 196 ∧ D f = nI v) (h2 : 0 ≤ u i 2 ∧ u i 2 ≤ 9) (hd : 0 ≤ dr ∧ dr ≤ 9) : mcM W cnt nr on dr u D i own s ≤ 10000 := by
  unfold mcM
  split
  · exact Int32.le_refl _
  · next h =>
    obtain ⟨v, hv, e⟩ := (hD (nbX nr own s).toNatClampNeg).resolve_left (fun z => h (Or.inr (Or.inl z)))
    obtain ⟨a, ha, e2⟩ := nI_to9 h2.1 h2.2
    obtain ⟨d, hd', e3⟩ := nI_to9 hd.1 hd.2
    have := ct_le (pRo W u (nbX nr own s).toNatClampNeg (nI i)) cnt
    have := ct_le (pFm W u i own (nI s)) cnt
    rw [e, e2, e3]
    exact co_le hv ha (by omega) hd' (by omega)
theorem hdX_0 {cnt : Nat} {dr : Int32} : hdX cnt dr 0 = nI cnt := rfl
theorem hdX_2 {cnt : Nat} {dr : Int32} : hdX cnt dr 2 = dr := rfl
theorem wants_eq {W H cnt i own g : Nat} {nr on ds D : Nat → Int32} {dr : Int32} {u : Nat → Nat → Int32} (hL : lk_ok W H (W * H) nr) (hc : cnt ≤ 24) (hW : W ≤ 14) (hH : H ≤ 14) (hon : onV (W * H) cnt u on) (hv : hvX (nI (W * H)) cnt u) (hi : i < cnt) (hpo : u i 3 = nI own) (ho : own < W * H) (hg : g < 4) (hgo : u i 0 = nI g) (hds : ∀ f, f < W * H → ds (g * 196 + f) = D f) (hD : ∀ f, D f = -1 ∨ ∃ v, v ≤ 196 ∧ D f = nI v) (h2 : 0 ≤ u i 2 ∧ u i 2 ≤ 9) (hd : 0 ≤ dr ∧ dr ≤ 9) : mwR (mcM W cnt nr on dr u D i own) 4 4 (mcS W cnt u D i own) = bsX (nI (W * H)) nr ds cnt dr on u i := by
  have eM : ∀ j, j < 4 → mcM W cnt nr on dr u D i own j = cr_cost (nI (W * H)) nr ds on (hdX cnt dr) u (u i) (nI j) := fun j hj => (cost_M (hd := hdX cnt dr) (dr := dr) (D := D) hL hc hW hH hon hv hi hpo ho hg hgo hds hdX_0 hdX_2 hj).symm
  have eS : mcS W cnt u D i own = cr_cost (nI (W * H)) nr ds on (hdX cnt dr) u (u i) (nI 4) := (cost_S (hd := hdX cnt dr) (D := D) hL hc hW hH hon hv hi hpo ho hg hgo hds).symm
  unfold bsX
  rw [eS, mwR_congr (d := fun j => cr_cost (nI (W * H)) nr ds on (hdX cnt dr) u (u i) (nI j)) 4 _ _ eM]
  refine bs_eq (c := fun j => cr_cost (nI (W * H)) nr ds on (hdX cnt dr) u (u i) (nI j)) (fun j hj => ?_)
  by_cases h : j < 4
  · show cr_cost _ _ _ _ _ _ _ _ ≤ _
    rw [← eM j h]; exact mcM_le hc hD h2 hd
  · have e : j = 4 := by omega
    subst e
    show cr_cost _ _ _ _ _ _ _ _ ≤ _
    rw [← eS]; exact mcS_le hc (hD own) h2
abbrev E3 (m ai ah : Nat) : Nat → Prop := fun a => a = m ∨ a = ai ∨ a = ah
def fl2 (f : Nat → Int32) (k : Nat) : Nat → Int32 := fun j => if j < k then f j else 0
theorem fl2_s {f : Nat → Int32} {k : Nat} : upd (fl2 f k) k (f k) = fl2 f (k + 1) := by
  funext j
  unfold upd fl2
  by_cases h : j = k
  · rw [if_pos h, if_pos (by omega), h]
  · rw [if_neg h]
    by_cases h2 : j < k
    · rw [if_pos h2, if_pos (by omega)]
    · rw [if_neg h2, if_neg (by omega)]
theorem fl2_v {f : Nat → Int32} {k : Nat} {v : Int32} (h : f k = v) : upd (fl2 f k) k v = fl2 f (k + 1) := by rw [← h]; exact fl2_s
theorem fl2_z {f : Nat → Int32} {k : Nat} (h : f k = 0) : fl2 f k = fl2 f (k + 1) := by
  rw [← fl2_s, h]
  funext j
  unfold upd fl2
  by_cases h : j = k
  · rw [if_pos h, if_neg (by omega)]
  · rw [if_neg h]
theorem fl2_0 {f : Nat → Int32} : fl2 f 0 = fun _ => 0 := by funext j; exact if_neg (Nat.not_lt_zero j)
theorem fl2_at {f : Nat → Int32} {k j : Nat} (h : j < k) : fl2 f k j = f j := if_pos h
theorem upd_upd {f : Nat → Int32} {k : Nat} {x y : Int32} : upd (upd f k x) k y = upd f k y := by
  funext j
  unfold upd
  by_cases h : j = k
  · rw [if_pos h, if_pos h]
  · rw [if_neg h, if_neg h, if_neg h]
theorem upd_at {f : Nat → Int32} {k : Nat} {x : Int32} : upd f k x k = x := if_pos rfl
def mto (u : Nat → Nat → Int32) (sd tg : Nat → Int32) (t : Int32) (k : Nat) : Int32 := if wk_turn (u k) t then (if sd k = 4 then u k 3 else tg k) else -1
def msd (u : Nat → Nat → Int32) (sd : Nat → Int32) (t : Int32) (k : Nat) : Int32 := if wk_turn (u k) t then sd k else 0
theorem bsX_val {fl : Int32} {nr ds : Nat → Int32} {cnt : Nat} {dr : Int32} {on : Nat → Int32} {u : Nat → Nat → Int32} {k : Nat} : ∃ s, s ≤ 4 ∧ bsX fl nr ds cnt dr on u k = nI s := by
  rcases cr_bsI (c := fun j => cr_cost fl nr ds on (hdX cnt dr) u (u k) (nI j)) 5 (by omega) with ⟨h1, -⟩ | ⟨i, hi, h1, -⟩
  · exact ⟨4, by omega, by unfold bsX; rw [h1]; rfl⟩
  · exact ⟨i, by omega, by unfold bsX; rw [h1]⟩
def dsR (n : Nat) (nr wl mk ds : Nat → Int32) : Prop := ∀ g, g < 4 → ∀ f, f < n → ds (g * 196 + f) = dXg n nr wl mk g f
theorem vp_in_gl {x : Int32} (h : gl_is x) : vp_in x 4 := by
  obtain ⟨g, hg, rfl⟩ := gl_nI h
  exact vp_in_nI hg (by omega)
def gv (to sd : Nat → Int32) (u : Nat → Nat → Int32) (i : Nat) : Nat → Int32
  | 0 => ms_b (¬ to i = -1 ∧ ¬ sd i = 4)
  | k + 1 => if gv to sd u i k = 0 then 0 else if k = i ∨ ¬ to k = to i ∨ sd k = 4 then gv to sd u i k else ms_b (u k 5 - u i 5 < 0 ∨ (u k 5 - u i 5 = 0 ∧ i < k))
theorem gv_0 {to sd : Nat → Int32} {u : Nat → Nat → Int32} {i k : Nat} (h : gv to sd u i k = 0) : ∀ r, gv to sd u i (k + r) = 0
  | 0 => h
  | r + 1 => by show (if gv to sd u i (k + r) = 0 then 0 else _) = _; rw [if_pos (gv_0 h r)]
theorem gv_k {to sd : Nat → Int32} {u : Nat → Nat → Int32} {i k : Nat} (h0 : ¬ gv to sd u i k = 0) (h : k = i ∨ ¬ to k = to i ∨ sd k = 4) : gv to sd u i k = gv to sd u i (k + 1) := by
  show _ = (if _ then _ else if _ then _ else _)
  rw [if_neg h0, if_pos h]
theorem gv_s {to sd : Nat → Int32} {u : Nat → Nat → Int32} {i k : Nat} (h0 : ¬ gv to sd u i k = 0) (h : ¬ (k = i ∨ ¬ to k = to i ∨ sd k = 4)) : gv to sd u i (k + 1) = ms_b (u k 5 - u i 5 < 0 ∨ (u k 5 - u i 5 = 0 ∧ i < k)) := by
  show (if _ then _ else if _ then _ else _) = _
  rw [if_neg h0, if_neg h]
def mnu (fl : Int32) (mk : Nat → Int32) (to sd go : Nat → Int32) (t : Int32) (u : Nat → Nat → Int32) (j : Nat) : Nat → Int32 :=
  if go j = 0 then (if to j = -1 then u j else upd (u j) 5 (u j 5 + 1))
  else if sq_mk fl mk (u j 0) (to j) then upd (upd (upd (upd (upd (upd (u j) 4 (sd j)) 5 0) 6 (u j 6 + 1)) 3 (to j)) 3 (-1)) 7 t
  else upd (upd (upd (upd (u j) 4 (sd j)) 5 0) 6 (u j 6 + 1)) 3 (to j)
def mht (to go ht : Nat → Int32) : Nat → (Nat → Int32)
  | 0 => ht
  | k + 1 => if go k = 0 then mht to go ht k else upd (mht to go ht k) (to k).toNatClampNeg (mht to go ht k (to k).toNatClampNeg + 1)
def pGo (fl : Int32) (mk : Nat → Int32) (to go : Nat → Int32) (u : Nat → Nat → Int32) (j : Nat) : Bool := decide (¬ go j = 0 ∧ sq_mk fl mk (u j 0) (to j))
def uw (nu u : Nat → Nat → Int32) (k : Nat) : Nat → Nat → Int32 := fun j => if j < k then nu j else u j
theorem uw_0 {nu u : Nat → Nat → Int32} : uw nu u 0 = u := by funext j; exact if_neg (Nat.not_lt_zero j)
theorem ix8 {k j : Nat} (hk : k < 24) (hj : j < 8) : (nI k * 8 + nI j).toNatClampNeg = k * 8 + j := by rw [nI_8j, nI_clamp (by omega)]
theorem rw_up {it R : Nat → Int32} {k c : Nat} {v : Int32} (h : ∀ i, i < 8 → it (k * 8 + i) = R i) : ∀ i, i < 8 → upd it (k * 8 + c) v (k * 8 + i) = upd R c v i := fun i hi => by
  unfold upd
  by_cases e : i = c
  · rw [if_pos (by rw [e]), if_pos e]
  · rw [if_neg (by omega), if_neg e]; exact h i hi
theorem ot_up {it : Nat → Int32} {U : Nat → Nat → Int32} {k c cnt : Nat} {v : Int32} (hc : c < 8) (h : ∀ j, j < cnt → ¬ j = k → ∀ i, i < 8 → it (j * 8 + i) = U j i) : ∀ j, j < cnt → ¬ j = k → ∀ i, i < 8 → upd it (k * 8 + c) v (j * 8 + i) = U j i := fun j hj hne i hi => by
  unfold upd
  rw [if_neg (by omega)]
  exact h j hj hne i hi
theorem uw_next {it R : Nat → Int32} {nu u : Nat → Nat → Int32} {k cnt : Nat} (h1 : ∀ i, i < 8 → it (k * 8 + i) = R i) (h2 : ∀ j, j < cnt → ¬ j = k → ∀ i, i < 8 → it (j * 8 + i) = uw nu u k j i) (e : nu k = R) : ∀ j, j < cnt → ∀ i, i < 8 → it (j * 8 + i) = uw nu u (k + 1) j i := fun j hj i hi => by
  by_cases hjk : j = k
  · subst hjk
    rw [h1 i hi, ← e]
    unfold uw
    rw [if_pos (Nat.lt_succ_self j)]
  · rw [h2 j hj hjk i hi]
    unfold uw
    by_cases h3 : j < k
    · rw [if_pos h3, if_pos (by omega)]
    · rw [if_neg h3, if_neg (by omega)]
theorem mm_a {g W H : Nat} : nI g * nI W * nI H = nI g * nI (W * H) := by rw [pk_mul, pk_mul, pk_mul, Nat.mul_assoc]
theorem sq_mkI {n g o : Nat} {mk : Nat → Int32} (hg : g < 4) (ho : o < n) (h9 : n ≤ 196) : sq_mk (nI n) mk (nI g) (nI o) ↔ ¬ mk o &&& (1 <<< (nI g &&& 31)) = 0 := by
  constructor
  · intro h
    have := h.2.2
    rw [nI_clamp (by omega)] at this
    exact this
  · intro h
    exact ⟨gl_isI hg, gr_hasI rfl ho h9, by rw [nI_clamp (by omega)]; exact h⟩
theorem mto_val {W H cnt k : Nat} {nr ds on : Nat → Int32} {dr t : Int32} {u : Nat → Nat → Int32} (hL : lk_ok W H (W * H) nr) (hW : W ≤ 14) (hH : H ≤ 14) (hv : hvX (nI (W * H)) cnt u) (hk : k < cnt) : mto u (sdX (nI (W * H)) nr ds cnt dr on u t) (fun k => amT nr (u k) (sdX (nI (W * H)) nr ds cnt dr on u t k)) t k = -1 ∨ ∃ o, o < W * H ∧ mto u (sdX (nI (W * H)) nr ds cnt dr on u t) (fun k => amT nr (u k) (sdX (nI (W * H)) nr ds cnt dr on u t k)) t k = nI o := by
  unfold mto
  by_cases h : wk_turn (u k) t
  · obtain ⟨own, ho, hpo⟩ := pos_of hW hH hv hk h.1
    rw [if_pos h]
    by_cases h4 : sdX (nI (W * H)) nr ds cnt dr on u t k = 4
    · rw [if_pos h4]; exact Or.inr ⟨own, ho, hpo⟩
    · rw [if_neg h4]
      show amT nr (u k) (sdX (nI (W * H)) nr ds cnt dr on u t k) = -1 ∨ ∃ o, o < W * H ∧ amT nr (u k) (sdX (nI (W * H)) nr ds cnt dr on u t k) = nI o
      unfold amT
      rw [if_neg h4, hpo]
      obtain ⟨s, hs, e⟩ : ∃ s, s ≤ 4 ∧ sdX (nI (W * H)) nr ds cnt dr on u t k = nI s := by
        unfold sdX
        rw [if_pos h]
        exact bsX_val
      rw [e]
      exact nbX_val hL ho hW hH (by omega)
  · rw [if_neg h]; exact Or.inl rfl
theorem gv_first {to sd : Nat → Int32} {u : Nat → Nat → Int32} {i c : Nat} (h : ¬ gv to sd u i c = 0) : ¬ to i = -1 ∧ ¬ sd i = 4 := by
  have h0 : ¬ gv to sd u i 0 = 0 := fun z => h (by have := gv_0 z c; rw [Nat.zero_add] at this; exact this)
  exact Decidable.not_not.mp (fun z => h0 (ms_b_0.mpr z))
theorem wnX_char {tg : Nat → Int32} {u : Nat → Nat → Int32} {f : Int32} : ∀ c, c ≤ 24 → (wnX tg u f c = -1 ∧ ∀ i, i < c → ¬ tg i = f) ∨ ∃ w, w < c ∧ wnX tg u f c = nI w ∧ tg w = f ∧ (∀ i, i < w → tg i = f → u i 5 < u w 5) ∧ ∀ i, w < i → i < c → tg i = f → u i 5 ≤ u w 5
  | 0, _ => Or.inl ⟨rfl, fun i hi => absurd hi (Nat.not_lt_zero i)⟩
  | c + 1, hc => by
    have e : wnX tg u f (c + 1) = if tg c = f ∧ (wnX tg u f c = -1 ∨ u (wnX tg u f c).toNatClampNeg 5 < u c 5) then nI c else wnX tg u f c := rfl
    rcases wnX_char (tg := tg) (u := u) (f := f) c (by omega) with ⟨h1, h2⟩ | ⟨w, hw, h1, h2, h3, h4⟩
    · rw [h1] at e
      by_cases h : tg c = f
      · rw [if_pos ⟨h, Or.inl rfl⟩] at e
        exact Or.inr ⟨c, by omega, e, h, fun i hi hf => absurd hf (h2 i hi), fun i h5 h6 => absurd h6 (by omega)⟩
      · rw [if_neg (fun z => h z.1)] at e
        refine Or.inl ⟨e, fun i hi => ?_⟩
        rcases Nat.lt_succ_iff_lt_or_eq.mp hi with h5 | h5
        · exact h2 i h5
        · rw [h5]; exact h
    · rw [h1, nI_clamp (by omega)] at e
      by_cases h : tg c = f ∧ u w 5 < u c 5
      · rw [if_pos ⟨h.1, Or.inr h.2⟩] at e
        refine Or.inr ⟨c, by omega, e, h.1, fun i hi hf => ?_, fun i h5 h6 => absurd h6 (by omega)⟩
        rcases Nat.lt_trichotomy i w with h7 | h7 | h7
        · exact Int32.lt_trans (h3 i h7 hf) h.2
        · rw [h7]; exact h.2
        · exact Int32.lt_of_le_of_lt (h4 i h7 hi hf) h.2
      · rw [if_neg (by rintro ⟨z1, z2 | z2⟩; exact nI_m1 (by omega) z2; exact h ⟨z1, z2⟩)] at e
        refine Or.inr ⟨w, by omega, e, h2, h3, fun i h5 h6 hf => ?_⟩
        rcases Nat.lt_succ_iff_lt_or_eq.mp h6 with h7 | h7
        · exact h4 i h5 h7 hf
        · rw [h7] at hf ⊢
          exact Int32.not_lt.mp (fun z => h ⟨hf, z⟩)
theorem wnX_iff {tg : Nat → Int32} {u : Nat → Nat → Int32} {f : Int32} {c k : Nat} (hc : c ≤ 24) (hk : k < c) (hf : tg k = f) : wnX tg u f c = nI k ↔ ∀ i, i < c → i = k ∨ ¬ tg i = f ∨ u i 5 < u k 5 ∨ (u i 5 = u k 5 ∧ k < i) := by
  rcases wnX_char (tg := tg) (u := u) (f := f) c hc with ⟨h1, h2⟩ | ⟨w, hw, h1, h2, h3, h4⟩
  · exact absurd hf (h2 k hk)
  · constructor
    · intro h i hi
      rw [h1] at h
      have e := (nI_eq (by omega) (by omega)).mp h
      subst e
      by_cases hi0 : i = w
      · exact Or.inl hi0
      · refine Or.inr ?_
        by_cases hif : tg i = f
        · refine Or.inr ?_
          rcases Nat.lt_or_gt_of_ne hi0 with h5 | h5
          · exact Or.inl (h3 i h5 hif)
          · rcases Int32.lt_or_eq_of_le (h4 i h5 hi hif) with h6 | h6
            · exact Or.inl h6
            · exact Or.inr ⟨h6, h5⟩
        · exact Or.inl hif
    · intro h
      rw [h1]
      by_cases e : w = k
      · rw [e]
      · exfalso
        rcases h w hw with h5 | h5 | h5 | ⟨h5, h6⟩
        · exact e h5
        · exact h5 h2
        · rcases Nat.lt_or_gt_of_ne e with h7 | h7
          · exact Int32.not_lt.mpr (h4 k h7 hk hf) h5
          · exact Int32.lt_irrefl (Int32.lt_trans h5 (h3 k h7 hf))
        · have := h3 k h6 hf
          rw [h5] at this
          exact Int32.lt_irrefl this
theorem gv_iff {to sd : Nat → Int32} {u : Nat → Nat → Int32} {k : Nat} : ∀ c, ¬ gv to sd u k c = 0 ↔ (¬ to k = -1 ∧ ¬ sd k = 4) ∧ ∀ i, i < c → i = k ∨ ¬ to i = to k ∨ sd i = 4 ∨ (u i 5 - u k 5 < 0 ∨ (u i 5 - u k 5 = 0 ∧ k < i))
  | 0 => by
    show ¬ ms_b _ = 0 ↔ _
    rw [ms_b_0, Decidable.not_not]
    exact ⟨fun h => ⟨h, fun i hi => absurd hi (Nat.not_lt_zero i)⟩, fun h => h.1⟩
  | c + 1 => by
    have ih := gv_iff (to := to) (sd := sd) (u := u) (k := k) c
    by_cases h0 : gv to sd u k c = 0
    · have e : gv to sd u k (c + 1) = 0 := gv_0 h0 1
      rw [e]
      constructor
      · intro h; exact absurd rfl h
      · rintro ⟨h1, h2⟩
        exact absurd h0 (ih.mpr ⟨h1, fun i hi => h2 i (by omega)⟩)
    · obtain ⟨h1, h2⟩ := ih.mp h0
      by_cases h : c = k ∨ ¬ to c = to k ∨ sd c = 4
      · rw [← gv_k h0 h]
        constructor
        · intro _
          refine ⟨h1, fun i hi => ?_⟩
          rcases Nat.lt_succ_iff_lt_or_eq.mp hi with h5 | h5
          · exact h2 i h5
          · rw [h5]; rcases h with h | h | h
            · exact Or.inl h
            · exact Or.inr (Or.inl h)
            · exact Or.inr (Or.inr (Or.inl h))
        · intro _; exact h0
      · rw [gv_s h0 h, ms_b_0, Decidable.not_not]
        constructor
        · intro h3
          refine ⟨h1, fun i hi => ?_⟩
          rcases Nat.lt_succ_iff_lt_or_eq.mp hi with h5 | h5
          · exact h2 i h5
          · rw [h5]; exact Or.inr (Or.inr (Or.inr h3))
        · rintro ⟨-, h3⟩
          rcases h3 c (by omega) with h4 | h4 | h4 | h4
          · exact absurd (Or.inl h4) h
          · exact absurd (Or.inr (Or.inl h4)) h
          · exact absurd (Or.inr (Or.inr h4)) h
          · exact h4
def waB (N cnt : Nat) (u : Nat → Nat → Int32) : Prop := ∀ k, k < cnt → ∃ w, w ≤ N ∧ u k 5 = nI w
theorem wa_sub {N cnt i k : Nat} {u : Nat → Nat → Int32} (hN : N < 1000000) (h : waB N cnt u) (hi : i < cnt) (hk : k < cnt) : (u i 5 - u k 5 < 0 ↔ u i 5 < u k 5) ∧ (u i 5 - u k 5 = 0 ↔ u i 5 = u k 5) := by
  obtain ⟨a, ha, ea⟩ := h i hi
  obtain ⟨b, hb, eb⟩ := h k hk
  have e : (nI a - nI b).toInt = (a : Int) - b := by rw [nb_sub (by rw [nI_toI (by omega), nI_toI (by omega)]; omega) (by rw [nI_toI (by omega), nI_toI (by omega)]; omega), nI_toI (by omega), nI_toI (by omega)]
  have z : (0 : Int32).toInt = 0 := rfl
  rw [ea, eb, nb_lt, nb_lt, e, z, nI_toI (by omega), nI_toI (by omega), ← Int32.toInt_inj, ← Int32.toInt_inj, e, z, nI_toI (by omega), nI_toI (by omega)]
  omega
/-- what is wanted, where it isn't to stay, is a free field -/
theorem bs_free {W H cnt k own s : Nat} {nr ds on : Nat → Int32} {dr : Int32} {u : Nat → Nat → Int32} (hL : lk_ok W H (W * H) nr) (hW : W ≤ 14) (hH : H ≤ 14) (ho : own < W * H) (hpo : u k 3 = nI own) (hs : s < 4) (h : bsX (nI (W * H)) nr ds cnt dr on u k = nI s) : ∃ o, o < W * H ∧ nbX nr own s = nI o ∧ on o = -1 := by
  have h9 := fd_196 hW hH
  have hlt : cr_cost (nI (W * H)) nr ds on (hdX cnt dr) u (u k) (nI s) < 10000 := by
    rcases cr_bsI (c := fun j => cr_cost (nI (W * H)) nr ds on (hdX cnt dr) u (u k) (nI j)) 5 (by omega) with ⟨h1, -⟩ | ⟨i, hi, h1, h2, -⟩
    · unfold bsX at h
      rw [h1] at h
      have := (nI_eq (a := 4) (b := s) (by omega) (by omega)).mp h
      omega
    · unfold bsX at h
      rw [h1] at h
      have := (nI_eq (by omega) (by omega)).mp h
      subst this
      exact h2
  have hs4 : ¬ nI s = 4 := fun z9 => by have := (nI_eq (b := 4) (by omega) (by omega)).mp z9; omega
  unfold cr_cost at hlt
  rw [if_neg hs4, hpo] at hlt
  by_cases hb : sq_ds (nI (W * H)) ds (u k 0) (nbX nr own s) = -1 ∨ ¬ cr_on on (nbX nr own s) = -1
  · rw [if_pos hb] at hlt
    exact absurd hlt (by decide)
  · rcases nbX_val hL ho hW hH (s := s) (by omega) with h1 | ⟨o, ho2, h1⟩
    · exact absurd (Or.inl (by rw [h1]; exact sq_ds_m)) hb
    · refine ⟨o, ho2, h1, ?_⟩
      rw [h1, cr_onI on (by omega)] at hb
      exact Decidable.not_not.mp (fun z => hb (Or.inr z))
def triP (n cnt : Nat) (u : Nat → Nat → Int32) (on : Nat → Int32) (T : Int32) (sd tg mt ms go : Nat → Int32) : Prop := ∀ k, k < cnt → (¬ wk_turn (u k) T ∧ sd k = 4 ∧ tg k = -1 ∧ mt k = -1 ∧ go k = 0) ∨ (wk_turn (u k) T ∧ sd k = 4 ∧ tg k = -1 ∧ ¬ mt k = -1 ∧ ms k = 4 ∧ go k = 0) ∨ (wk_turn (u k) T ∧ ¬ sd k = 4 ∧ ms k = sd k ∧ ∃ o, o < n ∧ tg k = nI o ∧ mt k = nI o ∧ on o = -1)
theorem tk_tri {W H cnt : Nat} {nr ds on : Nat → Int32} {dr T : Int32} {u : Nat → Nat → Int32} (hL : lk_ok W H (W * H) nr) (hW : W ≤ 14) (hH : H ≤ 14) (hv : hvX (nI (W * H)) cnt u) {k : Nat} (hk : k < cnt) : (¬ wk_turn (u k) T ∧ (sdX (nI (W * H)) nr ds cnt dr on u T) k = 4 ∧ (fun k => amT nr (u k) (sdX (nI (W * H)) nr ds cnt dr on u T k)) k = -1 ∧ (mto u (sdX (nI (W * H)) nr ds cnt dr on u T) (fun k => amT nr (u k) (sdX (nI (W * H)) nr ds cnt dr on u T k)) T) k = -1 ∧ (fun j => gv (mto u (sdX (nI (W * H)) nr ds cnt dr on u T) (fun k => amT nr (u k) (sdX (nI (W * H)) nr ds cnt dr on u T k)) T) (msd u (sdX (nI (W * H)) nr ds cnt dr on u T) T) u j cnt) k = 0) ∨ (wk_turn (u k) T ∧ (sdX (nI (W * H)) nr ds cnt dr on u T) k = 4 ∧ (fun k => amT nr (u k) (sdX (nI (W * H)) nr ds cnt dr on u T k)) k = -1 ∧ ¬ (mto u (sdX (nI (W * H)) nr ds cnt dr on u T) (fun k => amT nr (u k) (sdX (nI (W * H)) nr ds cnt dr on u T k)) T) k = -1 ∧ (msd u (sdX (nI (W * H)) nr ds cnt dr on u T) T) k = 4 ∧ (fun j => gv (mto u (sdX (nI (W * H)) nr ds cnt dr on u T) (fun k => amT nr (u k) (sdX (nI (W * H)) nr ds cnt dr on u T k)) T) (msd u (sdX (nI (W * H)) nr ds cnt dr on u T) T) u j cnt) k = 0) ∨ (wk_turn (u k) T ∧ ¬ (sdX (nI (W * H)) nr ds cnt dr on u T) k = 4 ∧ (msd u (sdX (nI (W * H)) nr ds cnt dr on u T) T) k = (sdX (nI (W * H)) nr ds cnt dr on u T) k ∧ ∃ o, o < W * H ∧ (fun k => amT nr (u k) (sdX (nI (W * H)) nr ds cnt dr on u T k)) k = nI o ∧ (mto u (sdX (nI (W * H)) nr ds cnt dr on u T) (fun k => amT nr (u k) (sdX (nI (W * H)) nr ds cnt dr on u T k)) T) k = nI o ∧ on o = -1) := by
  have h9 := fd_196 hW hH
  by_cases h : wk_turn (u k) T
  · obtain ⟨own, ho, hpo⟩ := pos_of hW hH hv hk h.1
    have eb : (sdX (nI (W * H)) nr ds cnt dr on u T) k = bsX (nI (W * H)) nr ds cnt dr on u k := if_pos h
    have em : (msd u (sdX (nI (W * H)) nr ds cnt dr on u T) T) k = (sdX (nI (W * H)) nr ds cnt dr on u T) k := if_pos h
    by_cases h4 : (sdX (nI (W * H)) nr ds cnt dr on u T) k = 4
    · refine Or.inr (Or.inl ⟨h, h4, ?_, ?_, em.trans h4, ?_⟩)
      · show amT nr (u k) ((sdX (nI (W * H)) nr ds cnt dr on u T) k) = -1
        unfold amT
        rw [if_pos h4]
      · unfold mto
        rw [if_pos h, if_pos h4]
        exact h.1
      · exact Decidable.not_not.mp (fun z => (gv_first z).2 (em.trans h4))
    · refine Or.inr (Or.inr ⟨h, h4, em, ?_⟩)
      obtain ⟨s, hs, es⟩ := bsX_val (fl := nI (W * H)) (nr := nr) (ds := ds) (cnt := cnt) (dr := dr) (on := on) (u := u) (k := k)
      have hs4 : s < 4 := by
        rcases Nat.lt_or_eq_of_le hs with z9 | z9
        · exact z9
        · exact absurd (by rw [eb, es, z9]; rfl) h4
      obtain ⟨o, ho2, e1, e2⟩ := bs_free hL hW hH ho hpo hs4 es
      have et : (fun k => amT nr (u k) (sdX (nI (W * H)) nr ds cnt dr on u T k)) k = nI o := by
        show amT nr (u k) ((sdX (nI (W * H)) nr ds cnt dr on u T) k) = nI o
        unfold amT
        rw [if_neg h4, hpo, eb, es]
        exact e1
      refine ⟨o, ho2, et, ?_, e2⟩
      unfold mto
      rw [if_pos h, if_neg h4]
      exact et
  · have h4 : (sdX (nI (W * H)) nr ds cnt dr on u T) k = 4 := if_neg h
    have em : (mto u (sdX (nI (W * H)) nr ds cnt dr on u T) (fun k => amT nr (u k) (sdX (nI (W * H)) nr ds cnt dr on u T k)) T) k = -1 := if_neg h
    refine Or.inl ⟨h, h4, ?_, em, ?_⟩
    · show amT nr (u k) ((sdX (nI (W * H)) nr ds cnt dr on u T) k) = -1
      unfold amT
      rw [if_pos h4]
    · exact Decidable.not_not.mp (fun z => (gv_first z).1 em)
theorem tk_go {W H cnt : Nat} {on : Nat → Int32} {T : Int32} {u : Nat → Nat → Int32} {N : Nat} {sd tg mt ms go : Nat → Int32} (hN : N < 1000000) (hW : W ≤ 14) (hH : H ≤ 14) (hc : cnt ≤ 24) (hwa : waB N cnt u) (h3 : triP (W * H) cnt u on T sd tg mt ms go) (hgo : ∀ k, go k = gv mt ms u k cnt) {k o : Nat} (hk : k < cnt) (ho : o < W * H) (ht9 : tg k = nI o) (hm : mt k = nI o) (hs : ¬ ms k = 4) : ¬ go k = 0 ↔ wnX tg u (nI o) cnt = nI k := by
  have h9 := fd_196 hW hH
  rw [hgo, gv_iff, wnX_iff hc hk ht9]
  have hf : ¬ mt k = -1 ∧ ¬ ms k = 4 := ⟨by rw [hm]; exact nI_m1 (by omega), hs⟩
  have key : ∀ i, i < cnt → ((i = k ∨ ¬ mt i = mt k ∨ ms i = 4 ∨ (u i 5 - u k 5 < 0 ∨ (u i 5 - u k 5 = 0 ∧ k < i))) ↔ (i = k ∨ ¬ tg i = nI o ∨ u i 5 < u k 5 ∨ (u i 5 = u k 5 ∧ k < i))) := fun i hi => by
    obtain ⟨w1, w2⟩ := wa_sub hN hwa hi hk
    rw [w1, w2, hm]
    rcases h3 i hi with ⟨-, -, e3, e4, -⟩ | ⟨-, -, e3, -, e5, -⟩ | ⟨-, e2, e3, o2, -, e4, e5, -⟩
    · have x1 : ¬ mt i = nI o := by rw [e4]; exact fun z => nI_m1 (by omega) z.symm
      have x2 : ¬ tg i = nI o := by rw [e3]; exact fun z => nI_m1 (by omega) z.symm
      exact ⟨fun _ => Or.inr (Or.inl x2), fun _ => Or.inr (Or.inl x1)⟩
    · have x2 : ¬ tg i = nI o := by rw [e3]; exact fun z => nI_m1 (by omega) z.symm
      exact ⟨fun _ => Or.inr (Or.inl x2), fun _ => Or.inr (Or.inr (Or.inl e5))⟩
    · have x1 : ¬ ms i = 4 := by rw [e3]; exact e2
      rw [e4, e5]
      constructor
      · rintro (z | z | z | z)
        · exact Or.inl z
        · exact Or.inr (Or.inl z)
        · exact absurd z x1
        · exact Or.inr (Or.inr z)
      · rintro (z | z | z)
        · exact Or.inl z
        · exact Or.inr (Or.inl z)
        · exact Or.inr (Or.inr (Or.inr z))
  exact ⟨fun h i hi => (key i hi).mp (h.2 i hi), fun h => ⟨hf, fun i hi => (key i hi).mpr (h i hi)⟩⟩
theorem rw_8 {u : Nat → Nat → Int32} {tb sd tg : Nat → Int32} {k : Nat} : rwX u tb sd tg k 8 = tb k ∧ rwX u tb sd tg k 9 = sd k ∧ rwX u tb sd tg k 10 = tg k ∧ ∀ j, j < 8 → rwX u tb sd tg k j = u k j := by
  refine ⟨rfl, rfl, rfl, fun j hj => ?_⟩
  unfold rwX upd
  rw [if_neg (by omega), if_neg (by omega), if_neg (by omega)]
/-- to go, by the class -/
abbrev mvP (fl : Int32) (cm r : Nat → Int32) (k : Nat) : Prop := ¬ r 8 = 0 ∧ goP fl cm r k
theorem tk_mv {W H cnt : Nat} {on : Nat → Int32} {T : Int32} {u : Nat → Nat → Int32} {N : Nat} {sd tg mt ms go : Nat → Int32} (hN : N < 1000000) (hW : W ≤ 14) (hH : H ≤ 14) (hc : cnt ≤ 24) (hwa : waB N cnt u) (h3 : triP (W * H) cnt u on T sd tg mt ms go) (hgo : ∀ k, go k = gv mt ms u k cnt) {k : Nat} (hk : k < cnt) : mvP (nI (W * H)) (cmX tg u cnt) (rwX u (tbX u T) sd tg k) k ↔ ¬ go k = 0 := by
  have h9 := fd_196 hW hH
  obtain ⟨r8, r9, r10, r7⟩ := rw_8 (u := u) (tb := (tbX u T)) (sd := sd) (tg := tg) (k := k)
  unfold mvP goP
  rw [r8, r10]
  rcases h3 k hk with ⟨h, -, e3, -, e5⟩ | ⟨h, -, e3, -, -, e5⟩ | ⟨h, e2, e3, o, ho, e4, e5, -⟩
  · rw [e3]
    exact ⟨fun z => absurd z.2.1.1 (by decide), fun z => absurd e5 z⟩
  · rw [e3]
    exact ⟨fun z => absurd z.2.1.1 (by decide), fun z => absurd e5 z⟩
  · rw [e4, tk_go hN hW hH hc hwa h3 hgo hk ho e4 e5 (by rw [e3]; exact e2), nI_clamp (by omega)]
    constructor
    · intro z; exact z.2.2
    · intro z
      refine ⟨fun z9 => ?_, gr_hasI rfl ho h9, z⟩
      have : ms_b (wk_turn (u k) T) = 0 := z9
      exact ms_b_0.mp this h
theorem up8 {r v : Nat → Int32} {c : Nat} {x y : Int32} (h : ∀ j, j < 8 → r j = v j) (e : x = y) : ∀ j, j < 8 → upd r c x j = upd v c y j := fun j hj => by
  unfold upd
  by_cases z : j = c
  · rw [if_pos z, if_pos z, e]
  · rw [if_neg z, if_neg z, h j hj]
theorem tk_row {W H cnt : Nat} {mk on : Nat → Int32} {T : Int32} {u : Nat → Nat → Int32} {N : Nat} {sd tg mt ms go : Nat → Int32} (hN : N < 1000000) (hW : W ≤ 14) (hH : H ≤ 14) (hc : cnt ≤ 24) (hwa : waB N cnt u) (h3 : triP (W * H) cnt u on T sd tg mt ms go) (hgo : ∀ k, go k = gv mt ms u k cnt) {k : Nat} (hk : k < cnt) : ∀ j, j < 8 → nuX (nI (W * H)) mk cnt u (tbX u T) sd tg T k j = mnu (nI (W * H)) mk mt ms go T u k j := by
  obtain ⟨r8, r9, r10, r7⟩ := rw_8 (u := u) (tb := (tbX u T)) (sd := sd) (tg := tg) (k := k)
  have mv := tk_mv hN hW hH hc hwa h3 hgo hk
  show ∀ j, j < 8 → gwW (nI (W * H)) mk (cmX tg u cnt) T k (rwX u (tbX u T) sd tg k) j = _
  unfold gwW mnu
  by_cases hg : go k = 0
  · have hno : ¬ mvP (nI (W * H)) (cmX tg u cnt) (rwX u (tbX u T) sd tg k) k := fun z => mv.mp z hg
    rw [if_pos hg]
    by_cases h8 : ¬ (rwX u (tbX u T) sd tg k) 8 = 0
    · rw [if_pos h8, if_neg (fun z => hno ⟨h8, z⟩)]
      have htu : wk_turn (u k) T := Decidable.not_not.mp (fun z => h8 (by rw [r8]; exact ms_b_0.mpr z))
      have hm : ¬ mt k = -1 := by
        rcases h3 k hk with ⟨h, -⟩ | ⟨-, -, -, e, -⟩ | ⟨-, -, -, o, ho, -, e, -⟩
        · exact absurd htu h
        · exact e
        · rw [e]; exact nI_m1 (by have := fd_196 hW hH; omega)
      rw [if_neg hm]
      exact up8 r7 (by rw [r7 5 (by omega)])
    · rw [if_neg h8]
      have htu : ¬ wk_turn (u k) T := fun z => h8 (by rw [r8]; exact fun z9 => ms_b_0.mp z9 z)
      have hm : mt k = -1 := by
        rcases h3 k hk with ⟨-, -, -, e, -⟩ | ⟨h, -⟩ | ⟨h, -⟩
        · exact e
        · exact absurd h htu
        · exact absurd h htu
      rw [if_pos hm]
      exact r7
  · obtain ⟨h8, hp⟩ := mv.mpr hg
    rw [if_neg hg, if_pos h8, if_pos hp]
    unfold goW
    rcases h3 k hk with ⟨-, -, -, -, e⟩ | ⟨-, -, -, -, -, e⟩ | ⟨-, -, e3, o, ho, e4, e5, -⟩
    · exact absurd e hg
    · exact absurd e hg
    · have b3 := up8 (c := 6) (x := (rwX u (tbX u T) sd tg k) 6 + 1) (y := u k 6 + 1) (up8 (c := 5) (x := 0) (up8 (c := 4) (x := (rwX u (tbX u T) sd tg k) 9) (y := ms k) r7 (r9.trans e3.symm)) rfl) (by rw [r7 6 (by omega)])
      rw [r10, r7 0 (by omega), e4, e5]
      by_cases hq : sq_mk (nI (W * H)) mk (u k 0) (nI o)
      · rw [if_pos hq, if_pos hq, upd_upd]
        exact up8 (up8 b3 rfl) rfl
      · rw [if_neg hq, if_neg hq]
        exact up8 b3 rfl
theorem tk_ht {W H cnt : Nat} {mk on ht : Nat → Int32} {T : Int32} {u : Nat → Nat → Int32} {N : Nat} {sd tg mt ms go : Nat → Int32} (hN : N < 1000000) (hW : W ≤ 14) (hH : H ≤ 14) (hc : cnt ≤ 24) (hwa : waB N cnt u) (h3 : triP (W * H) cnt u on T sd tg mt ms go) (hgo : ∀ k, go k = gv mt ms u k cnt) : ∀ k, k ≤ cnt → (hoX (nI (W * H)) mk cnt u (tbX u T) sd tg ht on k).1 = mht mt go ht k
  | 0, _ => rfl
  | k + 1, hk => by
    have ih := tk_ht (ht := ht) (mk := mk) hN hW hH hc hwa h3 hgo k (by omega)
    have mv := tk_mv hN hW hH hc hwa h3 hgo (show k < cnt by omega)
    show gwH (nI (W * H)) (cmX tg u cnt) k (rwX u (tbX u T) sd tg k) (hoX _ _ _ _ _ _ _ _ _ k).1 = if go k = 0 then mht mt go ht k else upd (mht mt go ht k) (mt k).toNatClampNeg (mht mt go ht k (mt k).toNatClampNeg + 1)
    rw [ih]
    unfold gwH
    by_cases hg : go k = 0
    · rw [if_pos hg, if_neg (fun z => mv.mp z hg)]
    · rw [if_neg hg, if_pos (mv.mpr hg)]
      unfold goH
      rcases h3 k (show k < cnt by omega) with ⟨-, -, -, -, e⟩ | ⟨-, -, -, -, -, e⟩ | ⟨-, -, -, o, -, e4, e5, -⟩
      · exact absurd e hg
      · exact absurd e hg
      · rw [show rwX u (tbX u T) sd tg k 10 = tg k from rfl, e4, e5]
theorem onV.congr {n cnt : Nat} {u v : Nat → Nat → Int32} {on : Nat → Int32} (h : onV n cnt u on) (e : ∀ j, j < cnt → v j 3 = u j 3) : onV n cnt v on := fun f hf => by
  rcases h f hf with ⟨h1, h2⟩ | ⟨k, h1, h2, h3, h4⟩
  · exact Or.inl ⟨h1, fun j hj z => h2 j hj ((e j hj).symm.trans z)⟩
  · exact Or.inr ⟨k, h1, h2, (e k h1).trans h3, fun j hj z => h4 j hj ((e j hj).symm.trans z)⟩
theorem onV.move {n cnt k o1 o : Nat} {u v : Nat → Nat → Int32} {on : Nat → Int32} (h : onV n cnt u on) (hn : n ≤ 196) (hk : k < cnt) (e1 : u k 3 = nI o1) (ho1 : o1 < n) (ho : o < n) (hfree : ∀ j, j < cnt → ¬ u j 3 = nI o) (hv : ∀ j, j < cnt → ¬ j = k → v j 3 = u j 3) (ek : v k 3 = nI o) : onV n cnt v (upd (upd on o1 (-1)) o (nI k)) := fun f hf => by
  have e0 : upd (upd on o1 (-1)) o (nI k) f = if f = o then nI k else if f = o1 then -1 else on f := rfl
  rw [e0]
  by_cases h1 : f = o
  · subst h1
    rw [if_pos rfl]
    refine Or.inr ⟨k, hk, rfl, ek, fun j hj z => ?_⟩
    by_cases hjk : j = k
    · exact hjk
    · exact absurd ((hv j hj hjk).symm.trans z) (hfree j hj)
  · rw [if_neg h1]
    by_cases h2 : f = o1
    · subst h2
      rw [if_pos rfl]
      refine Or.inl ⟨rfl, fun j hj z => ?_⟩
      by_cases hjk : j = k
      · rw [hjk, ek] at z
        exact h1 ((nI_eq (by omega) (by omega)).mp z).symm
      · have z2 := (hv j hj hjk).symm.trans z
        rcases h f hf with ⟨-, h3⟩ | ⟨i, -, -, -, h4⟩
        · exact h3 j hj z2
        · exact hjk ((h4 j hj z2).trans (h4 k hk e1).symm)
    · rw [if_neg h2]
      have hkf : ∀ w, w < n → ¬ w = f → ¬ nI w = nI f := fun w hw z9 z => z9 ((nI_eq (by omega) (by omega)).mp z)
      rcases h f hf with ⟨h3, h4⟩ | ⟨i, h3, h4, h5, h6⟩
      · refine Or.inl ⟨h3, fun j hj z => ?_⟩
        by_cases hjk : j = k
        · rw [hjk, ek] at z
          exact hkf o ho (fun z9 => h1 z9.symm) z
        · exact h4 j hj ((hv j hj hjk).symm.trans z)
      · have hik : ¬ i = k := fun z => by rw [z, e1] at h5; exact hkf o1 ho1 (fun z9 => h2 z9.symm) h5
        refine Or.inr ⟨i, h3, h4, (hv i h3 hik).trans h5, fun j hj z => ?_⟩
        by_cases hjk : j = k
        · rw [hjk, ek] at z
          exact absurd z (hkf o ho (fun z9 => h1 z9.symm))
        · exact h6 j hj ((hv j hj hjk).symm.trans z)
theorem onV.leave {n cnt k o1 : Nat} {u v : Nat → Nat → Int32} {on : Nat → Int32} (h : onV n cnt u on) (hn : n ≤ 196) (hk : k < cnt) (e1 : u k 3 = nI o1) (ho1 : o1 < n) (hv : ∀ j, j < cnt → ¬ j = k → v j 3 = u j 3) (ek : v k 3 = -1) : onV n cnt v (upd on o1 (-1)) := fun f hf => by
  have e0 : upd on o1 (-1) f = if f = o1 then -1 else on f := rfl
  rw [e0]
  have hm : ∀ w, w < n → ¬ (-1 : Int32) = nI w := fun w hw z => nI_m1 (by omega) z.symm
  by_cases h2 : f = o1
  · subst h2
    rw [if_pos rfl]
    refine Or.inl ⟨rfl, fun j hj z => ?_⟩
    by_cases hjk : j = k
    · rw [hjk, ek] at z
      exact hm f hf z
    · have z2 := (hv j hj hjk).symm.trans z
      rcases h f hf with ⟨-, h3⟩ | ⟨i, -, -, -, h4⟩
      · exact h3 j hj z2
      · exact hjk ((h4 j hj z2).trans (h4 k hk e1).symm)
  · rw [if_neg h2]
    rcases h f hf with ⟨h3, h4⟩ | ⟨i, h3, h4, h5, h6⟩
    · refine Or.inl ⟨h3, fun j hj z => ?_⟩
      by_cases hjk : j = k
      · rw [hjk, ek] at z
        exact hm f hf z
      · exact h4 j hj ((hv j hj hjk).symm.trans z)
    · have hik : ¬ i = k := fun z => by
        rw [z, e1] at h5
        exact h2 ((nI_eq (by omega) (by omega)).mp h5).symm
      refine Or.inr ⟨i, h3, h4, (hv i h3 hik).trans h5, fun j hj z => ?_⟩
      by_cases hjk : j = k
      · rw [hjk, ek] at z
        exact absurd z (hm f hf)
      · exact h6 j hj ((hv j hj hjk).symm.trans z)
theorem mnu_3 {fl : Int32} {mk to sd go : Nat → Int32} {t : Int32} {u : Nat → Nat → Int32} {j : Nat} : mnu fl mk to sd go t u j 3 = if go j = 0 then u j 3 else if sq_mk fl mk (u j 0) (to j) then -1 else to j := by
  unfold mnu
  by_cases h : go j = 0
  · rw [if_pos h, if_pos h]
    by_cases h2 : to j = -1
    · rw [if_pos h2]
    · rw [if_neg h2]; rfl
  · rw [if_neg h, if_neg h]
    by_cases h2 : sq_mk fl mk (u j 0) (to j)
    · rw [if_pos h2, if_pos h2]; rfl
    · rw [if_neg h2, if_neg h2]; rfl
theorem mnu_lo {fl : Int32} {mk to sd go : Nat → Int32} {t : Int32} {u : Nat → Nat → Int32} {j c : Nat} (hc : c < 3) : mnu fl mk to sd go t u j c = u j c := by
  unfold mnu
  by_cases h : go j = 0
  · rw [if_pos h]
    by_cases h2 : to j = -1
    · rw [if_pos h2]
    · rw [if_neg h2]; exact if_neg (by omega)
  · rw [if_neg h]
    by_cases h2 : sq_mk fl mk (u j 0) (to j)
    · rw [if_pos h2]
      unfold upd
      rw [if_neg (by omega), if_neg (by omega), if_neg (by omega), if_neg (by omega), if_neg (by omega), if_neg (by omega)]
    · rw [if_neg h2]
      unfold upd
      rw [if_neg (by omega), if_neg (by omega), if_neg (by omega), if_neg (by omega)]
theorem mnu_5 {fl : Int32} {mk to sd go : Nat → Int32} {t : Int32} {u : Nat → Nat → Int32} {j : Nat} : mnu fl mk to sd go t u j 5 = if go j = 0 then (if to j = -1 then u j 5 else u j 5 + 1) else 0 := by
  unfold mnu
  by_cases h : go j = 0
  · rw [if_pos h, if_pos h]
    by_cases h2 : to j = -1
    · rw [if_pos h2, if_pos h2]
    · rw [if_neg h2, if_neg h2]; rfl
  · rw [if_neg h, if_neg h]
    by_cases h2 : sq_mk fl mk (u j 0) (to j)
    · rw [if_pos h2]; rfl
    · rw [if_neg h2]; rfl
theorem waB.step {N cnt : Nat} {fl : Int32} {mk to sd go : Nat → Int32} {t : Int32} {u v : Nat → Nat → Int32} (h : waB N cnt u) (e : ∀ k, k < cnt → v k 5 = mnu fl mk to sd go t u k 5) : waB (N + 1) cnt v := fun k hk => by
  obtain ⟨w, hw, e2⟩ := h k hk
  rw [e k hk, mnu_5]
  by_cases h1 : go k = 0
  · rw [if_pos h1]
    by_cases h2 : to k = -1
    · rw [if_pos h2]; exact ⟨w, by omega, e2⟩
    · rw [if_neg h2]; exact ⟨w + 1, by omega, by rw [e2, nI_1]⟩
  · rw [if_neg h1]; exact ⟨0, by omega, rfl⟩
theorem tk_on {W H cnt : Nat} {mk on ht : Nat → Int32} {T : Int32} {u : Nat → Nat → Int32} {N : Nat} {sd tg mt ms go : Nat → Int32} (hN : N < 1000000) (hW : W ≤ 14) (hH : H ≤ 14) (hc : cnt ≤ 24) (hwa : waB N cnt u) (h3 : triP (W * H) cnt u on T sd tg mt ms go) (hgo : ∀ k, go k = gv mt ms u k cnt) (hon : onV (W * H) cnt u on) (hv : hvX (nI (W * H)) cnt u) : ∀ c, c ≤ cnt → onV (W * H) cnt (uw (mnu (nI (W * H)) mk mt ms go T u) u c) (hoX (nI (W * H)) mk cnt u (tbX u T) sd tg ht on c).2
  | 0, _ => by rw [uw_0]; exact hon
  | k + 1, hk => by
    have h9 := fd_196 hW hH
    have hkc : k < cnt := by omega
    have ih := tk_on (ht := ht) (mk := mk) hN hW hH hc hwa h3 hgo hon hv k (by omega)
    have mv := tk_mv hN hW hH hc hwa h3 hgo hkc
    have eo : (hoX (nI (W * H)) mk cnt u (tbX u T) sd tg ht on (k + 1)).2 = gwO (nI (W * H)) mk (cmX tg u cnt) k (rwX u (tbX u T) sd tg k) (hoX (nI (W * H)) mk cnt u (tbX u T) sd tg ht on k).2 := rfl
    rw [eo]
    unfold gwO
    have oth : ∀ j, j < cnt → ¬ j = k → uw (mnu (nI (W * H)) mk mt ms go T u) u (k + 1) j 3 = uw (mnu (nI (W * H)) mk mt ms go T u) u k j 3 := fun j hj hjk => by
      unfold uw
      by_cases h : j < k
      · rw [if_pos h, if_pos (by omega)]
      · rw [if_neg h, if_neg (by omega)]
    have own9 : uw (mnu (nI (W * H)) mk mt ms go T u) u (k + 1) k 3 = mnu (nI (W * H)) mk mt ms go T u k 3 := by
      unfold uw
      rw [if_pos (Nat.lt_succ_self k)]
    have old9 : uw (mnu (nI (W * H)) mk mt ms go T u) u k k 3 = u k 3 := by
      unfold uw
      rw [if_neg (Nat.lt_irrefl k)]
    by_cases hg : go k = 0
    · rw [if_neg (fun z => mv.mp z hg)]
      refine ih.congr (fun j hj => ?_)
      by_cases hjk : j = k
      · rw [hjk, own9, old9, mnu_3, if_pos hg]
      · exact oth j hj hjk
    · rw [if_pos (mv.mpr hg)]
      rcases h3 k hkc with ⟨-, -, -, -, e⟩ | ⟨-, -, -, -, -, e⟩ | ⟨htu, e2, e3, o, ho, e4, e5, e6⟩
      · exact absurd e hg
      · exact absurd e hg
      · obtain ⟨o1, ho1, hpo⟩ := pos_of hW hH hv hkc htu.1
        have r3 : rwX u (tbX u T) sd tg k 3 = u k 3 := rw_8.2.2.2 3 (by omega)
        have r0 : rwX u (tbX u T) sd tg k 0 = u k 0 := rw_8.2.2.2 0 (by omega)
        have r10 : rwX u (tbX u T) sd tg k 10 = tg k := rfl
        unfold goO
        rw [r3, r0, r10, hpo, e4]
        by_cases hq : sq_mk (nI (W * H)) mk (u k 0) (nI o)
        · rw [if_pos hq, nI_clamp (n := o1) (by omega)]
          exact ih.leave h9 hkc (old9.trans hpo) ho1 oth (by rw [own9, mnu_3, if_neg hg, e5, if_pos hq])
        · rw [if_neg hq, nI_clamp (n := o1) (by omega), nI_clamp (n := o) (by omega)]
          refine ih.move h9 hkc (old9.trans hpo) ho1 ho (fun j hj z => ?_) oth (by rw [own9, mnu_3, if_neg hg, e5, if_neg hq])
          have hfo : ∀ i, i < cnt → ¬ u i 3 = nI o := fun i hi z9 => by
            rw [hon.hit ho hi z9] at e6
            exact nI_m1 (by omega) e6
          by_cases hjk : j < k
          · have ej : uw (mnu (nI (W * H)) mk mt ms go T u) u k j 3 = mnu (nI (W * H)) mk mt ms go T u j 3 := by unfold uw; rw [if_pos hjk]
            rw [ej, mnu_3] at z
            by_cases hgj : go j = 0
            · rw [if_pos hgj] at z; exact hfo j hj z
            · rw [if_neg hgj] at z
              by_cases hqj : sq_mk (nI (W * H)) mk (u j 0) (mt j)
              · rw [if_pos hqj] at z; exact nI_m1 (by omega) z.symm
              · rw [if_neg hqj] at z
                rcases h3 j hj with ⟨-, -, -, -, e⟩ | ⟨-, -, -, -, -, e⟩ | ⟨-, f2, f3, o3, ho3, f4, f5, -⟩
                · exact hgj e
                · exact hgj e
                · have e7 := (nI_eq (by omega) (by omega)).mp (f5.symm.trans z)
                  subst e7
                  have g1 := (tk_go hN hW hH hc hwa h3 hgo hj ho f4 f5 (by rw [f3]; exact f2)).mp hgj
                  have g2 := (tk_go hN hW hH hc hwa h3 hgo hkc ho e4 e5 (by rw [e3]; exact e2)).mp hg
                  have := (nI_eq (by omega) (by omega)).mp (g1.symm.trans g2)
                  omega
          · have ej : uw (mnu (nI (W * H)) mk mt ms go T u) u k j 3 = u j 3 := by unfold uw; rw [if_neg hjk]
            exact hfo j hj (ej.symm.trans z)
def wdV (W H cnt N : Nat) (X : cX) : Prop := onV (W * H) cnt X.1 X.2.2.1 ∧ hvX (nI (W * H)) cnt X.1 ∧ wkV cnt X.1 ∧ waB N cnt X.1
theorem st_tri {W H cnt N : Nat} {nr ds : Nat → Int32} {dr : Int32} {X : cX} (hL : lk_ok W H (W * H) nr) (hW : W ≤ 14) (hH : H ≤ 14) (hV : wdV W H cnt N X) : triP (W * H) cnt X.1 X.2.2.1 (X.2.2.2 + 1) (sdX (nI (W * H)) nr ds cnt dr X.2.2.1 X.1 (X.2.2.2 + 1)) (fun k => amT nr (X.1 k) ((sdX (nI (W * H)) nr ds cnt dr X.2.2.1 X.1 (X.2.2.2 + 1)) k)) (mto X.1 (sdX (nI (W * H)) nr ds cnt dr X.2.2.1 X.1 (X.2.2.2 + 1)) (fun k => amT nr (X.1 k) ((sdX (nI (W * H)) nr ds cnt dr X.2.2.1 X.1 (X.2.2.2 + 1)) k)) (X.2.2.2 + 1)) (msd X.1 (sdX (nI (W * H)) nr ds cnt dr X.2.2.1 X.1 (X.2.2.2 + 1)) (X.2.2.2 + 1)) (fun j => gv (mto X.1 (sdX (nI (W * H)) nr ds cnt dr X.2.2.1 X.1 (X.2.2.2 + 1)) (fun k => amT nr (X.1 k) ((sdX (nI (W * H)) nr ds cnt dr X.2.2.1 X.1 (X.2.2.2 + 1)) k)) (X.2.2.2 + 1)) (msd X.1 (sdX (nI (W * H)) nr ds cnt dr X.2.2.1 X.1 (X.2.2.2 + 1)) (X.2.2.2 + 1)) X.1 j cnt) := fun k hk => tk_tri hL hW hH hV.2.1 hk
theorem st_row {W H cnt N : Nat} {nr mk ds : Nat → Int32} {dr : Int32} {X : cX} (hN : N < 1000000) (hL : lk_ok W H (W * H) nr) (hW : W ≤ 14) (hH : H ≤ 14) (hc : cnt ≤ 24) (hV : wdV W H cnt N X) : ∀ k, k < cnt → ∀ j, j < 8 → (stX1 (nI (W * H)) nr mk ds cnt dr X).1 k j = (mnu (nI (W * H)) mk (mto X.1 (sdX (nI (W * H)) nr ds cnt dr X.2.2.1 X.1 (X.2.2.2 + 1)) (fun k => amT nr (X.1 k) ((sdX (nI (W * H)) nr ds cnt dr X.2.2.1 X.1 (X.2.2.2 + 1)) k)) (X.2.2.2 + 1)) (msd X.1 (sdX (nI (W * H)) nr ds cnt dr X.2.2.1 X.1 (X.2.2.2 + 1)) (X.2.2.2 + 1)) (fun j => gv (mto X.1 (sdX (nI (W * H)) nr ds cnt dr X.2.2.1 X.1 (X.2.2.2 + 1)) (fun k => amT nr (X.1 k) ((sdX (nI (W * H)) nr ds cnt dr X.2.2.1 X.1 (X.2.2.2 + 1)) k)) (X.2.2.2 + 1)) (msd X.1 (sdX (nI (W * H)) nr ds cnt dr X.2.2.1 X.1 (X.2.2.2 + 1)) (X.2.2.2 + 1)) X.1 j cnt) (X.2.2.2 + 1) X.1) k j := fun k hk j hj =>
  tk_row (mk := mk) hN hW hH hc hV.2.2.2 (st_tri (dr := dr) (ds := ds) hL hW hH hV) (fun _ => rfl) hk j hj
theorem st_uw {W H cnt N : Nat} {nr mk ds : Nat → Int32} {dr : Int32} {X : cX} (hN : N < 1000000) (hL : lk_ok W H (W * H) nr) (hW : W ≤ 14) (hH : H ≤ 14) (hc : cnt ≤ 24) (hV : wdV W H cnt N X) : ∀ k, k < cnt → ∀ j, j < 8 → uw (mnu (nI (W * H)) mk (mto X.1 (sdX (nI (W * H)) nr ds cnt dr X.2.2.1 X.1 (X.2.2.2 + 1)) (fun k => amT nr (X.1 k) ((sdX (nI (W * H)) nr ds cnt dr X.2.2.1 X.1 (X.2.2.2 + 1)) k)) (X.2.2.2 + 1)) (msd X.1 (sdX (nI (W * H)) nr ds cnt dr X.2.2.1 X.1 (X.2.2.2 + 1)) (X.2.2.2 + 1)) (fun j => gv (mto X.1 (sdX (nI (W * H)) nr ds cnt dr X.2.2.1 X.1 (X.2.2.2 + 1)) (fun k => amT nr (X.1 k) ((sdX (nI (W * H)) nr ds cnt dr X.2.2.1 X.1 (X.2.2.2 + 1)) k)) (X.2.2.2 + 1)) (msd X.1 (sdX (nI (W * H)) nr ds cnt dr X.2.2.1 X.1 (X.2.2.2 + 1)) (X.2.2.2 + 1)) X.1 j cnt) (X.2.2.2 + 1) X.1) X.1 cnt k j = (stX1 (nI (W * H)) nr mk ds cnt dr X).1 k j := fun k hk j hj => by
  rw [st_row hN hL hW hH hc hV k hk j hj]
  unfold uw
  rw [if_pos hk]
theorem st_ht {W H cnt N : Nat} {nr mk ds : Nat → Int32} {dr : Int32} {X : cX} (hN : N < 1000000) (hL : lk_ok W H (W * H) nr) (hW : W ≤ 14) (hH : H ≤ 14) (hc : cnt ≤ 24) (hV : wdV W H cnt N X) : mht (mto X.1 (sdX (nI (W * H)) nr ds cnt dr X.2.2.1 X.1 (X.2.2.2 + 1)) (fun k => amT nr (X.1 k) ((sdX (nI (W * H)) nr ds cnt dr X.2.2.1 X.1 (X.2.2.2 + 1)) k)) (X.2.2.2 + 1)) (fun j => gv (mto X.1 (sdX (nI (W * H)) nr ds cnt dr X.2.2.1 X.1 (X.2.2.2 + 1)) (fun k => amT nr (X.1 k) ((sdX (nI (W * H)) nr ds cnt dr X.2.2.1 X.1 (X.2.2.2 + 1)) k)) (X.2.2.2 + 1)) (msd X.1 (sdX (nI (W * H)) nr ds cnt dr X.2.2.1 X.1 (X.2.2.2 + 1)) (X.2.2.2 + 1)) X.1 j cnt) X.2.1 cnt = (stX1 (nI (W * H)) nr mk ds cnt dr X).2.1 :=
  (tk_ht (mk := mk) (ht := X.2.1) hN hW hH hc hV.2.2.2 (st_tri (dr := dr) (ds := ds) hL hW hH hV) (fun _ => rfl) cnt (Nat.le_refl cnt)).symm
theorem wdV.step {W H cnt N : Nat} {nr mk ds : Nat → Int32} {dr : Int32} {X : cX} (hN : N < 1000000) (hL : lk_ok W H (W * H) nr) (hW : W ≤ 14) (hH : H ≤ 14) (hc : cnt ≤ 24) (hV : wdV W H cnt N X) : wdV W H cnt (N + 1) (stX1 (nI (W * H)) nr mk ds cnt dr X) := by
  refine ⟨?_, hvX.step hV.2.1, fun k hk => ?_, ?_⟩
  · have h := tk_on (mk := mk) (ht := X.2.1) hN hW hH hc hV.2.2.2 (st_tri (dr := dr) (ds := ds) hL hW hH hV) (fun _ => rfl) hV.1 hV.2.1 cnt (Nat.le_refl cnt)
    exact h.congr (fun j hj => (st_uw hN hL hW hH hc hV j hj 3 (by omega)).symm)
  · have h := hV.2.2.1 k hk
    rw [st_row hN hL hW hH hc hV k hk 0 (by omega), st_row hN hL hW hH hc hV k hk 1 (by omega), st_row hN hL hW hH hc hV k hk 2 (by omega), mnu_lo (by omega), mnu_lo (by omega), mnu_lo (by omega)]
    exact h
  · exact hV.2.2.2.step (fun k hk => st_row hN hL hW hH hc hV k hk 5 (by omega))
theorem ct_or {p q r : Nat → Bool} : ∀ {c : Nat}, (∀ k, k < c → r k = (p k || q k) ∧ (p k && q k) = false) → ct r c = ct p c + ct q c
  | 0, _ => rfl
  | c + 1, h => by
    show ct r c + _ = (ct p c + _) + (ct q c + _)
    rw [ct_or (fun k hk => h k (by omega))]
    obtain ⟨h1, h2⟩ := h c (by omega)
    rw [h1]
    cases hp : p c <;> cases hq : q c <;> simp_all <;> omega
theorem st_out {W H cnt N : Nat} {nr mk ds : Nat → Int32} {dr : Int32} {X : cX} (hN : N < 1000000) (hL : lk_ok W H (W * H) nr) (hW : W ≤ 14) (hH : H ≤ 14) (hc : cnt ≤ 24) (hV : wdV W H cnt N X) : ct (pOut (stX1 (nI (W * H)) nr mk ds cnt dr X).1) cnt = ct (pOut X.1) cnt + ct (pGo (nI (W * H)) mk (mto X.1 (sdX (nI (W * H)) nr ds cnt dr X.2.2.1 X.1 (X.2.2.2 + 1)) (fun k => amT nr (X.1 k) ((sdX (nI (W * H)) nr ds cnt dr X.2.2.1 X.1 (X.2.2.2 + 1)) k)) (X.2.2.2 + 1)) (fun j => gv (mto X.1 (sdX (nI (W * H)) nr ds cnt dr X.2.2.1 X.1 (X.2.2.2 + 1)) (fun k => amT nr (X.1 k) ((sdX (nI (W * H)) nr ds cnt dr X.2.2.1 X.1 (X.2.2.2 + 1)) k)) (X.2.2.2 + 1)) (msd X.1 (sdX (nI (W * H)) nr ds cnt dr X.2.2.1 X.1 (X.2.2.2 + 1)) (X.2.2.2 + 1)) X.1 j cnt) X.1) cnt := by
  have h9 := fd_196 hW hH
  refine ct_or (fun k hk => ?_)
  have e : (stX1 (nI (W * H)) nr mk ds cnt dr X).1 k 3 = _ := (st_row hN hL hW hH hc hV k hk 3 (by omega)).trans mnu_3
  unfold pOut pGo
  rw [e]
  by_cases hg : (fun j => gv (mto X.1 (sdX (nI (W * H)) nr ds cnt dr X.2.2.1 X.1 (X.2.2.2 + 1)) (fun k => amT nr (X.1 k) ((sdX (nI (W * H)) nr ds cnt dr X.2.2.1 X.1 (X.2.2.2 + 1)) k)) (X.2.2.2 + 1)) (msd X.1 (sdX (nI (W * H)) nr ds cnt dr X.2.2.1 X.1 (X.2.2.2 + 1)) (X.2.2.2 + 1)) X.1 j cnt) k = 0
  · rw [if_pos hg]
    have e2 : decide (¬ (fun j => gv (mto X.1 (sdX (nI (W * H)) nr ds cnt dr X.2.2.1 X.1 (X.2.2.2 + 1)) (fun k => amT nr (X.1 k) ((sdX (nI (W * H)) nr ds cnt dr X.2.2.1 X.1 (X.2.2.2 + 1)) k)) (X.2.2.2 + 1)) (msd X.1 (sdX (nI (W * H)) nr ds cnt dr X.2.2.1 X.1 (X.2.2.2 + 1)) (X.2.2.2 + 1)) X.1 j cnt) k = 0 ∧ sq_mk (nI (W * H)) mk (X.1 k 0) ((mto X.1 (sdX (nI (W * H)) nr ds cnt dr X.2.2.1 X.1 (X.2.2.2 + 1)) (fun k => amT nr (X.1 k) ((sdX (nI (W * H)) nr ds cnt dr X.2.2.1 X.1 (X.2.2.2 + 1)) k)) (X.2.2.2 + 1)) k)) = false := decide_eq_false (fun z => z.1 hg)
    rw [e2, Bool.or_false, Bool.and_false]
    exact ⟨rfl, rfl⟩
  · rw [if_neg hg]
    rcases st_tri (dr := dr) (ds := ds) hL hW hH hV k hk with ⟨-, -, -, -, e⟩ | ⟨-, -, -, -, -, e⟩ | ⟨htu, e2, e3, o, ho, e4, e5, e6⟩
    · exact absurd e hg
    · exact absurd e hg
    · have e7 : decide (X.1 k 3 = -1) = false := decide_eq_false htu.1
      rw [e7, Bool.false_or, Bool.false_and]
      refine ⟨ba ?_, rfl⟩
      rw [decide_eq_true_eq, decide_eq_true_eq]
      by_cases hq : sq_mk (nI (W * H)) mk (X.1 k 0) ((mto X.1 (sdX (nI (W * H)) nr ds cnt dr X.2.2.1 X.1 (X.2.2.2 + 1)) (fun k => amT nr (X.1 k) ((sdX (nI (W * H)) nr ds cnt dr X.2.2.1 X.1 (X.2.2.2 + 1)) k)) (X.2.2.2 + 1)) k)
      · rw [if_pos hq]; exact ⟨fun _ => ⟨hg, hq⟩, fun _ => rfl⟩
      · rw [if_neg hq]
        exact ⟨fun z => absurd (e5.symm.trans z) (nI_m1 (by omega)), fun z => absurd z.2 hq⟩
theorem ms_fb.mono {E E2 : Nat → Prop} {n : Nat} {G G1 : ms_H} (h : ms_fb E n G G1) (e : ∀ a, E a → E2 a) : ms_fb E2 n G G1 := fun a h1 h2 => h a h1 (fun z => h2 (e a z))
theorem ms_fb.less {E : Nat → Prop} {n n2 : Nat} {G G1 : ms_H} (h : ms_fb E n2 G G1) (e : n ≤ n2) : ms_fb E n G G1 := fun a h1 h2 => h a (by omega) h2
abbrev E5 (m aw am ai ah : Nat) : Nat → Prop := fun a => a = m ∨ a = aw ∨ a = am ∨ a = ai ∨ a = ah
theorem E35 {m aw am ai ah : Nat} : ∀ a, E3 m ai ah a → E5 m aw am ai ah a := fun a h => by
  rcases h with h | h | h
  · exact Or.inl h
  · exact Or.inr (Or.inr (Or.inr (Or.inl h)))
  · exact Or.inr (Or.inr (Or.inr (Or.inr h)))
theorem nI_dif {a b : Nat} (h : a + b < 1000000) : nI (a + b) - nI a = nI b := by
  rw [nI_sub h (by omega)]
  congr 1
  omega
theorem bx_and (x b c : Int32) : (x ^^^ b) &&& c = (x &&& c) ^^^ (b &&& c) := by
  apply Int32.toBitVec_inj.mp
  simp only [Int32.toBitVec_and, Int32.toBitVec_xor]
  apply BitVec.eq_of_getLsbD_eq
  intro i hi
  simp only [BitVec.getLsbD_and, BitVec.getLsbD_xor]
  cases x.toBitVec.getLsbD i <;> cases b.toBitVec.getLsbD i <;> cases c.toBitVec.getLsbD i <;> rfl
def bt (g : Nat) : Int32 := 1 <<< (nI g &&& 31)
theorem bt_ne : ∀ g : Fin 4, ¬ bt g.1 = 0 ∧ bt g.1 &&& bt g.1 = bt g.1 := by decide +kernel
theorem bt_dis : ∀ g h : Fin 4, ¬ g = h → bt g.1 &&& bt h.1 = 0 := by decide +kernel
theorem bt_bit : ∀ g : Fin 4, ∀ i : Fin 32, (bt g.1).toBitVec.getLsbD i.1 = decide (i.1 = g.1) := by decide +kernel
theorem bt_one (x : Int32) (g : Fin 4) : x &&& bt g.1 = 0 ∨ x &&& bt g.1 = bt g.1 := by
  cases h : x.toBitVec.getLsbD g.1
  · refine Or.inl (Int32.toBitVec_inj.mp ?_)
    simp only [Int32.toBitVec_and]
    apply BitVec.eq_of_getLsbD_eq
    intro i hi
    have hb : (bt g.1).toBitVec.getLsbD i = decide (i = g.1) := bt_bit g ⟨i, hi⟩
    rw [BitVec.getLsbD_and, hb]
    by_cases e : i = g.1
    · rw [decide_eq_true e, Bool.and_true, e, h]; simp
    · rw [decide_eq_false e, Bool.and_false]; simp
  · refine Or.inr (Int32.toBitVec_inj.mp ?_)
    simp only [Int32.toBitVec_and]
    apply BitVec.eq_of_getLsbD_eq
    intro i hi
    have hb : (bt g.1).toBitVec.getLsbD i = decide (i = g.1) := bt_bit g ⟨i, hi⟩
    rw [BitVec.getLsbD_and, hb]
    by_cases e : i = g.1
    · rw [decide_eq_true e, Bool.and_true, e, h]
    · rw [decide_eq_false e, Bool.and_false]
theorem bt_tog (x : Int32) (g : Fin 4) : (x ^^^ bt g.1) &&& bt g.1 = 0 ↔ ¬ x &&& bt g.1 = 0 := by
  obtain ⟨h1, h2⟩ := bt_ne g
  rw [bx_and, h2]
  rcases bt_one x g with h | h
  · rw [h]
    exact ⟨fun z => absurd (by rw [Int32.zero_xor] at z; exact z) h1, fun z => absurd rfl z⟩
  · rw [h, Int32.xor_self]
    exact ⟨fun _ => h1, fun _ => rfl⟩
theorem bt_oth (x : Int32) (g h : Fin 4) (e : ¬ g = h) : (x ^^^ bt g.1) &&& bt h.1 = x &&& bt h.1 := by
  rw [bx_and, bt_dis g h e, Int32.xor_zero]
/-- a mark turned in the model's row -/
theorem mmR.turn {n g f : Nat} {mk mm : Nat → Int32} {v : Int32} (h : mmR n mk mm) (hg : g < 4) (hf : f < n) (hv : v = ms_b (mk f &&& (1 <<< (nI g &&& 31)) = 0)) : mmR n (mkF mk g f) (upd mm (g * n + f) v) := fun g2 hg2 f2 hf2 => by
  have e0 : mkF mk g f f2 = if f2 = f then mk f ^^^ bt g else mk f2 := rfl
  rw [e0]
  unfold upd
  by_cases e1 : f2 = f
  · subst e1
    rw [if_pos rfl]
    by_cases e2 : g2 = g
    · subst e2
      rw [if_pos rfl, hv]
      have := bt_tog (mk f2) ⟨g2, hg2⟩
      show ms_b (mk f2 &&& bt g2 = 0) = ms_b (¬ (mk f2 ^^^ bt g2) &&& bt g2 = 0)
      have t : (mk f2 ^^^ bt g2) &&& bt g2 = 0 ↔ ¬ mk f2 &&& bt g2 = 0 := this
      by_cases e3 : mk f2 &&& bt g2 = 0
      · rw [show ms_b (mk f2 &&& bt g2 = 0) = 1 from if_pos e3]
        exact (if_pos (fun z => t.mp z e3)).symm
      · rw [show ms_b (mk f2 &&& bt g2 = 0) = 0 from if_neg e3]
        exact (if_neg (not_not_intro (t.mpr e3))).symm
    · have hne : ¬ g2 * n + f2 = g * n + f2 := fun z => e2 (Nat.eq_of_mul_eq_mul_right (show 0 < n by omega) (by omega))
      rw [if_neg hne, h g2 hg2 f2 hf2]
      have := bt_oth (mk f2) ⟨g, hg⟩ ⟨g2, hg2⟩ (fun z => e2 (congrArg Fin.val z).symm)
      have t : (mk f2 ^^^ bt g) &&& bt g2 = mk f2 &&& bt g2 := this
      show ms_b (¬ mk f2 &&& bt g2 = 0) = ms_b (¬ (mk f2 ^^^ bt g) &&& bt g2 = 0)
      rw [t]
  · have hne : ¬ g2 * n + f2 = g * n + f := fun z => by
      rcases Nat.lt_trichotomy g2 g with h5 | h5 | h5
      · have := Nat.mul_le_mul_right n (show g2 + 1 ≤ g by omega)
        rw [Nat.add_mul] at this
        omega
      · rw [h5] at z; exact e1 (by omega)
      · have := Nat.mul_le_mul_right n (show g + 1 ≤ g2 by omega)
        rw [Nat.add_mul] at this
        omega
    rw [if_neg e1, if_neg hne]
    exact h g2 hg2 f2 hf2
theorem rq_out {n : Nat} {ds d : Nat → Int32} {k g f : Nat} (h9 : n ≤ 196) (h : ¬ g = k) (hf : f < n) : rq n ds k d (g * 196 + f) = ds (g * 196 + f) := by
  unfold rq
  rw [if_neg (by omega)]
theorem dXa_get {n : Nat} {nr wl mk ds : Nat → Int32} {g f : Nat} (h9 : n ≤ 196) (hf : f < n) : ∀ k, g < k → dXa n nr wl mk ds k (g * 196 + f) = dXg n nr wl mk g f
  | 0, h => absurd h (Nat.not_lt_zero g)
  | k + 1, h => by
    show rq n (dXa n nr wl mk ds k) k (dXg n nr wl mk k) (g * 196 + f) = _
    by_cases e : g = k
    · subst e; exact rq_get hf
    · rw [rq_out h9 e hf]
      exact dXa_get h9 hf k (by omega)
theorem dsR_all {n : Nat} {nr wl mk ds : Nat → Int32} (h9 : n ≤ 196) : dsR n nr wl mk (dXa n nr wl mk ds 4) := fun g hg f hf => dXa_get h9 hf 4 hg
theorem filt_none {n : Nat} {st : Nat → Bool} (h : ∀ f, f < n → st f = false) : (List.range n).filter st = [] := by
  rw [List.filter_eq_nil_iff]
  intro f hf
  rw [h f (List.mem_range.mp hf)]
  exact Bool.false_ne_true
theorem bfD_none {nb : Nat → Nat → Int32} {fr st : Nat → Bool} {n : Nat} (h : ∀ f, st f = false) : bfD nb fr st n = fun _ => -1 := by
  have e : bf0 st n = ((fun _ => -1), []) := by
    unfold bf0
    rw [filt_none (fun f _ => h f)]
    congr 1
    funext f
    rw [h f]
    rfl
  unfold bfD
  rw [e]
  cases n with
  | zero => rfl
  | succ r => rw [bfM_n rfl]
theorem stX_0 {n g f : Nat} {wl : Nat → Int32} : stX n wl (fun _ => 0) g f = false := decide_eq_false (fun z => z.2.2 (Int32.zero_and))
theorem dsR_new {n : Nat} {nr wl : Nat → Int32} : dsR n nr wl (fun _ => 0) (fun _ => -1) := fun g hg f hf => by
  show -1 = bfD _ _ _ _ f
  rw [bfD_none (fun f => stX_0)]
theorem stX_mk {n g g2 f : Nat} {wl mk : Nat → Int32} (hg : g < 4) (hg2 : g2 < 4) (h : ¬ g2 = g) : stX n wl (mkF mk g f) g2 = stX n wl mk g2 := by
  funext j
  have e0 : mkF mk g f j = if j = f then mk f ^^^ bt g else mk j := rfl
  have e1 : mkF mk g f j &&& bt g2 = mk j &&& bt g2 := by
    rw [e0]
    by_cases e : j = f
    · rw [if_pos e, e]
      exact bt_oth (mk f) ⟨g, hg⟩ ⟨g2, hg2⟩ (fun z => h (congrArg Fin.val z).symm)
    · rw [if_neg e]
  show decide (j < n ∧ wl j = 0 ∧ ¬ mkF mk g f j &&& bt g2 = 0) = decide (j < n ∧ wl j = 0 ∧ ¬ mk j &&& bt g2 = 0)
  rw [e1]
theorem dsR_mark {n g f : Nat} {nr wl mk ds : Nat → Int32} (h9 : n ≤ 196) (hg : g < 4) (h : dsR n nr wl mk ds) : dsR n nr wl (mkF mk g f) (rq n ds g (dXg n nr wl (mkF mk g f) g)) := fun g2 hg2 f2 hf2 => by
  by_cases e : g2 = g
  · subst e; exact rq_get hf2
  · rw [rq_out h9 e hf2, h g2 hg2 f2 hf2]
    show bfD _ _ (stX n wl mk g2) _ _ = bfD _ _ (stX n wl (mkF mk g f) g2) _ _
    rw [stX_mk hg hg2 e]
/-- marks: none at first -/
theorem mmR_new {n : Nat} : mmR n (fun _ => 0) (fun _ => 0) := fun g hg f hf => by
  show 0 = ms_b (¬ (0 : Int32) &&& _ = 0)
  exact (if_neg (not_not_intro Int32.zero_and)).symm
theorem wdV_new {W H N : Nat} {X : cX} (h : ∀ f, X.2.2.1 f = -1) : wdV W H 0 N X := ⟨fun f hf => Or.inl ⟨h f, fun k hk => absurd hk (Nat.not_lt_zero k)⟩, fun k hk => absurd hk (Nat.not_lt_zero k), fun k hk => absurd hk (Nat.not_lt_zero k), fun k hk => absurd hk (Nat.not_lt_zero k)⟩
theorem wdV.mono {W H cnt N M : Nat} {X : cX} (h : wdV W H cnt N X) (hNM : N ≤ M) : wdV W H cnt M X := ⟨h.1, h.2.1, h.2.2.1, fun k hk => by
  obtain ⟨w, hw, e⟩ := h.2.2.2 k hk
  exact ⟨w, by omega, e⟩⟩
theorem tr_at {X : cX} {k j c : Nat} {gl mo : Int32} (h0 : ¬ c = 0) (h2 : ¬ c = 2) : (trX X k gl mo).1 j c = X.1 j c := by
  show va_up X.1 k (upd (upd (X.1 k) 0 gl) 2 mo) j c = _
  unfold va_up
  by_cases e : j = k
  · rw [if_pos e, e]
    unfold upd
    rw [if_neg h2, if_neg h0]
  · rw [if_neg e]
theorem tr_k {X : cX} {k j : Nat} {gl mo : Int32} : ((trX X k gl mo).1 j 0 = if j = k then gl else X.1 j 0) ∧ ((trX X k gl mo).1 j 2 = if j = k then mo else X.1 j 2) := by
  constructor
  · show va_up X.1 k (upd (upd (X.1 k) 0 gl) 2 mo) j 0 = _
    unfold va_up
    by_cases e : j = k
    · rw [if_pos e, if_pos e]; rfl
    · rw [if_neg e, if_neg e]
  · show va_up X.1 k (upd (upd (X.1 k) 0 gl) 2 mo) j 2 = _
    unfold va_up
    by_cases e : j = k
    · rw [if_pos e, if_pos e]; rfl
    · rw [if_neg e, if_neg e]
theorem wdV.tr {W H cnt N k : Nat} {X : cX} {gl mo : Int32} (h : wdV W H cnt N X) (hg : gl_is gl) (hm : 0 ≤ mo ∧ mo ≤ 9) : wdV W H cnt N (trX X k gl mo) := by
  refine ⟨h.1.congr (fun j hj => tr_at (by omega) (by omega)), fun j hj => ?_, fun j hj => ?_, fun j hj => ?_⟩
  · rw [tr_at (by omega) (by omega)]; exact h.2.1 j hj
  · obtain ⟨a, b, c⟩ := h.2.2.1 j hj
    rw [tr_k.1, tr_k.2, tr_at (c := 1) (by omega) (by omega)]
    by_cases e : j = k
    · rw [if_pos e, if_pos e]; exact ⟨hg, b, hm⟩
    · rw [if_neg e, if_neg e]; exact ⟨a, b, c⟩
  · rw [tr_at (by omega) (by omega)]; exact h.2.2.2 j hj
theorem ad_at {X : cX} {cnt j : Nat} {gl pc mo f : Int32} (h : j < cnt) : (adX cnt X gl pc mo f).1 j = X.1 j := if_neg (by omega)
theorem ad_new {X : cX} {cnt : Nat} {gl pc mo f : Int32} : (adX cnt X gl pc mo f).1 cnt = wk_come (X.1 cnt) gl pc mo f := if_pos rfl
theorem wdV.ad {W H cnt N o : Nat} {X : cX} {gl pc mo : Int32} (hW : W ≤ 14) (hH : H ≤ 14) (hc : cnt ≤ 24) (h : wdV W H cnt N X) (hg : gl_is gl) (hp : 1 ≤ pc ∧ pc ≤ 3) (hm : 0 ≤ mo ∧ mo ≤ 9) (ho : o < W * H) (hfr : X.2.2.1 o = -1) : wdV W H (cnt + 1) N (adX cnt X gl pc mo (nI o)) := by
  have h9 := fd_196 hW hH
  have hno : ∀ j, j < cnt → ¬ X.1 j 3 = nI o := fun j hj z => by
    rcases h.1 o ho with ⟨-, e⟩ | ⟨k, hk, e, -, -⟩
    · exact e j hj z
    · rw [hfr] at e
      exact nI_m1 (by omega) e.symm
  have e3 : ∀ j, j < cnt + 1 → (adX cnt X gl pc mo (nI o)).1 j 3 = if j = cnt then nI o else X.1 j 3 := fun j hj => by
    by_cases e : j = cnt
    · rw [if_pos e, e, ad_new]; rfl
    · rw [if_neg e, ad_at (by omega)]
  refine ⟨fun f hf => ?_, fun j hj => ?_, fun j hj => ?_, fun j hj => ?_⟩
  · have eo : (adX cnt X gl pc mo (nI o)).2.2.1 f = if f = o then nI cnt else X.2.2.1 f := by
      show upd X.2.2.1 (nI o).toNatClampNeg (nI cnt) f = _
      rw [nI_clamp (by omega)]
      rfl
    rw [eo]
    by_cases e : f = o
    · subst e
      rw [if_pos rfl]
      refine Or.inr ⟨cnt, by omega, rfl, by rw [e3 cnt (by omega), if_pos rfl], fun j hj z => ?_⟩
      rw [e3 j hj] at z
      by_cases ej : j = cnt
      · exact ej
      · rw [if_neg ej] at z
        exact absurd z (hno j (by omega))
    · rw [if_neg e]
      have hne : ¬ nI o = nI f := fun z => e ((nI_eq (by omega) (by omega)).mp z).symm
      rcases h.1 f hf with ⟨a, b⟩ | ⟨k, a, b, c, d⟩
      · refine Or.inl ⟨a, fun j hj z => ?_⟩
        rw [e3 j hj] at z
        by_cases ej : j = cnt
        · rw [if_pos ej] at z; exact hne z
        · rw [if_neg ej] at z; exact b j (by omega) z
      · refine Or.inr ⟨k, by omega, b, by rw [e3 k (by omega), if_neg (by omega)]; exact c, fun j hj z => ?_⟩
        rw [e3 j hj] at z
        by_cases ej : j = cnt
        · rw [if_pos ej] at z; exact absurd z hne
        · rw [if_neg ej] at z; exact d j (by omega) z
  · rw [e3 j hj]
    by_cases ej : j = cnt
    · rw [if_pos ej]; exact Or.inr (gr_hasI rfl ho h9)
    · rw [if_neg ej]; exact h.2.1 j (by omega)
  · by_cases ej : j = cnt
    · rw [ej, ad_new]; exact ⟨hg, hp, hm⟩
    · rw [ad_at (by omega)]; exact h.2.2.1 j (by omega)
  · by_cases ej : j = cnt
    · rw [ej, ad_new]; exact ⟨0, Nat.zero_le N, rfl⟩
    · rw [ad_at (by omega)]; exact h.2.2.2 j (by omega)
def wl01 (wl : Nat → Int32) : Prop := ∀ f, wl f = 0 ∨ wl f = 1
theorem wlF_1 {wl : Nat → Int32} {f : Nat} (h : wl f = 0) : upd wl f 1 = wlF wl f := by unfold wlF; rw [if_pos h]
theorem wlF_0 {wl : Nat → Int32} {f : Nat} (h : ¬ wl f = 0) : upd wl f 0 = wlF wl f := by unfold wlF; rw [if_neg h]
theorem wlF_at {wl : Nat → Int32} {f : Nat} : wlF wl f f = if wl f = 0 then 1 else 0 := upd_at
theorem upd_same {wl : Nat → Int32} {f : Nat} {v : Int32} (h : wl f = v) : upd wl f v = wl := by
  funext j
  unfold upd
  by_cases e : j = f
  · rw [if_pos e, e, h]
  · rw [if_neg e]
theorem wlF_back {wl : Nat → Int32} {f : Nat} {v : Int32} (h : wl f = v) : upd (wlF wl f) f v = wl := by
  unfold wlF
  rw [upd_upd]
  exact upd_same h
theorem wl01.wr {W y lx : Nat} {bv : Int32} {wl : Nat → Int32} (h : wl01 wl) (hb : bv = 0 ∨ bv = 1) : ∀ k, wl01 (wr W bv y lx wl k)
  | 0 => h
  | k + 1 => fun f => by
    show upd _ _ _ f = 0 ∨ upd _ _ _ f = 1
    unfold upd
    by_cases e : f = y * W + (lx + k)
    · rw [if_pos e]; exact hb
    · rw [if_neg e]; exact wl01.wr h hb k f
theorem wl01.wq {W lx n ty : Nat} {bv : Int32} {wl : Nat → Int32} (h : wl01 wl) (hb : bv = 0 ∨ bv = 1) : ∀ k, wl01 (wq W bv lx n ty wl k)
  | 0 => h
  | k + 1 => wl01.wr (wl01.wq h hb k) hb n
theorem wl01.wlX {W a b a2 b2 : Nat} {bv : Int32} {wl : Nat → Int32} (h : wl01 wl) : wl01 (wlX W bv a b a2 b2 wl) := wl01.wq h (by split <;> simp) _
theorem wl01_new : wl01 (fun _ => 0) := fun _ => Or.inl rfl
def rcT (W a b a2 b2 f : Nat) : Prop := (min a a2 ≤ f % W ∧ f % W ≤ max a a2) ∧ min b b2 ≤ f / W ∧ f / W ≤ max b b2
def wlP (W a b a2 b2 : Nat) (bv : Int32) (wl : Nat → Int32) (k : Nat) : Nat → Int32 := fun f => if f < k ∧ (min a a2 ≤ f % W ∧ f % W ≤ max a a2) ∧ min b b2 ≤ f / W ∧ f / W ≤ max b b2 then bv else wl f
theorem wlP_0 {W a b a2 b2 : Nat} {bv : Int32} {wl : Nat → Int32} : wlP W a b a2 b2 bv wl 0 = wl := by
  funext f
  exact if_neg (fun z => Nat.not_lt_zero f z.1)
theorem wlP_in {W a b a2 b2 k : Nat} {bv : Int32} {wl : Nat → Int32} (h : rcT W a b a2 b2 k) : upd (wlP W a b a2 b2 bv wl k) k bv = wlP W a b a2 b2 bv wl (k + 1) := by
  funext f
  unfold upd wlP
  by_cases e : f = k
  · subst e
    rw [if_pos rfl, if_pos ⟨Nat.lt_succ_self f, h⟩]
  · rw [if_neg e]
    by_cases e2 : f < k ∧ (min a a2 ≤ f % W ∧ f % W ≤ max a a2) ∧ min b b2 ≤ f / W ∧ f / W ≤ max b b2
    · rw [if_pos e2, if_pos ⟨by omega, e2.2⟩]
    · rw [if_neg e2, if_neg (fun z => e2 ⟨by omega, z.2⟩)]
theorem wlP_out {W a b a2 b2 k : Nat} {bv : Int32} {wl : Nat → Int32} (h : ¬ rcT W a b a2 b2 k) : wlP W a b a2 b2 bv wl k = wlP W a b a2 b2 bv wl (k + 1) := by
  funext f
  unfold wlP
  by_cases e2 : f < k ∧ (min a a2 ≤ f % W ∧ f % W ≤ max a a2) ∧ min b b2 ≤ f / W ∧ f / W ≤ max b b2
  · rw [if_pos e2, if_pos ⟨by omega, e2.2⟩]
  · rw [if_neg e2, if_neg (fun z => by
      by_cases e : f = k
      · subst e; exact h z.2
      · exact e2 ⟨by omega, z.2⟩)]
theorem wlP_N {W H a b a2 b2 : Nat} {bv : Int32} {wl : Nat → Int32} (hW : 0 < W) (ha : a < W) (hb : b < H) (ha2 : a2 < W) (hb2 : b2 < H) (hv : bv = 0 ∨ bv = 1) : wlP W a b a2 b2 bv wl (W * H) = wlX W bv a b a2 b2 wl := by
  funext f
  have e1 : (if bv = 0 then (0 : Int32) else 1) = bv := by
    rcases hv with h | h
    · rw [h]; rfl
    · rw [h]; rfl
  have e2 : f / W * W + f % W = f := by rw [Nat.mul_comm]; exact Nat.div_add_mod f W
  have h1 : f % W < W := Nat.mod_lt f hW
  have h2 := wq_at (bv := bv) (wl := wl) (b := f / W) (ty := min b b2) (lx := min a a2) (n := max a a2 + 1 - min a a2) h1 (by omega) (max b b2 + 1 - min b b2)
  unfold wlX
  rw [e1]
  rw [e2] at h2
  rw [h2]
  unfold wlP
  by_cases h : (min b b2 ≤ f / W ∧ f / W < min b b2 + (max b b2 + 1 - min b b2)) ∧ min a a2 ≤ f % W ∧ f % W < min a a2 + (max a a2 + 1 - min a a2)
  · rw [if_pos h, if_pos ⟨by
      have h3 : f / W < H := by omega
      have h4 : f / W * W + W ≤ H * W := by
        have := Nat.mul_le_mul_right W (show f / W + 1 ≤ H by omega)
        rw [Nat.add_mul, Nat.one_mul] at this
        exact this
      rw [Nat.mul_comm W H]
      omega, by omega⟩]
  · rw [if_neg h, if_neg (fun z => h (by omega))]
theorem anF_iff {p : Nat → Bool} : ∀ (r a : Nat), anF p a r = true ↔ ∃ k, a ≤ k ∧ k < a + r ∧ p k = true
  | 0, a => ⟨fun h => absurd h Bool.false_ne_true, fun ⟨k, h1, h2, _⟩ => by omega⟩
  | r + 1, a => by
    show (p a || anF p (a + 1) r) = true ↔ _
    rw [Bool.or_eq_true, anF_iff r (a + 1)]
    constructor
    · rintro (h | ⟨k, h1, h2, h3⟩)
      · exact ⟨a, Nat.le_refl a, by omega, h⟩
      · exact ⟨k, by omega, by omega, h3⟩
    · rintro ⟨k, h1, h2, h3⟩
      by_cases e : k = a
      · subst e; exact Or.inl h3
      · exact Or.inr ⟨k, by omega, by omega, h3⟩
theorem wanF_iff {W H a b a2 b2 : Nat} {X : cX} (hW : W ≤ 14) (hH : H ≤ 14) (ha : a < W) (hb : b < H) (ha2 : a2 < W) (hb2 : b2 < H) : wanF W H X a b a2 b2 = true ↔ ∃ f, f < W * H ∧ rcT W a b a2 b2 f ∧ ¬ X.2.2.1 f = -1 := by
  have h196 := fd_196 hW hH
  have hp : ∀ x y, x < W → y < H → (pAny X.2.2.1 (nI W) (nI H) x y = true ↔ ¬ X.2.2.1 (y * W + x) = -1) := fun x y hx hy => by
    have := fd_lt hx hy
    unfold pAny
    rw [decide_eq_true_eq, gr_numI hW hH hx hy, cr_onI X.2.2.1 (by omega)]
  unfold wanF
  rw [anF_iff]
  constructor
  · rintro ⟨y, y1, y2, h⟩
    rw [anF_iff] at h
    obtain ⟨x, x1, x2, h⟩ := h
    have hx : x < W := by omega
    have hy : y < H := by omega
    refine ⟨y * W + x, fd_lt hx hy, ?_, (hp x y hx hy).mp h⟩
    have := fd_mod (y := y) hx
    unfold rcT
    rw [this.1, this.2]
    omega
  · rintro ⟨f, hf, hr, ho⟩
    obtain ⟨h1, h2, h3⟩ := fd_div hf
    unfold rcT at hr
    refine ⟨f / W, by omega, by omega, ?_⟩
    rw [anF_iff]
    exact ⟨f % W, by omega, by omega, (hp _ _ h1 h2).mpr (by rw [h3]; exact ho)⟩
theorem in_I {x l r : Nat} (hx : x < 1000) (hl : l < 1000) (hr : r < 1000) : (nI l ≤ nI x ∧ nI x ≤ nI r) ↔ (l ≤ x ∧ x ≤ r) := by
  rw [nb_le, nb_le, nI_toI (by omega), nI_toI (by omega), nI_toI (by omega)]
  omega
def jE (jb : Nat → Bool) (nb : Nat → Nat → Int32) (a b : Nat) : Prop := jb a = true ∧ jb b = true ∧ ∃ s, s < 4 ∧ nb a s = nI b
def jR (jb : Nat → Bool) (nb : Nat → Nat → Int32) (v k : Nat) : Prop := ∀ S : Nat → Prop, S v → (∀ a b, S a → jE jb nb a b → S b) → S k
theorem jR.rf {jb : Nat → Bool} {nb : Nat → Nat → Int32} {v : Nat} : jR jb nb v v := fun _ h _ => h
theorem jR.to {jb : Nat → Bool} {nb : Nat → Nat → Int32} {v a b : Nat} (h : jR jb nb v a) (e : jE jb nb a b) : jR jb nb v b := fun S h1 h2 => h2 a b (h S h1 h2) e
def jL (jb : Nat → Bool) (nb : Nat → Nat → Int32) (L : Nat → Nat) : Prop := (∀ k, jb k = true → L k ≤ k ∧ jb (L k) = true ∧ jR jb nb (L k) k) ∧ ∀ a b, jE jb nb a b → L a = L b
theorem jL.idem {jb : Nat → Bool} {nb : Nat → Nat → Int32} {L : Nat → Nat} (h : jL jb nb L) {k : Nat} (hk : jb k = true) : L (L k) = L k := by
  have h1 := (h.1 k hk).2.2 (fun o => L o = L (L k)) rfl (fun a b ha e => by
    show L b = _
    rw [← h.2 a b e]; exact ha)
  exact h1.symm
def jRt (jb : Nat → Bool) (L : Nat → Nat) (k : Nat) : Bool := decide (jb k = true ∧ L k = k)
def jIn (jb : Nat → Bool) (L : Nat → Nat) (v o : Nat) : Bool := decide (jb o = true ∧ L o = v)
def jLt (jb : Nat → Bool) (L : Nat → Nat) (i o : Nat) : Bool := decide (jb o = true ∧ L o < i)
def jNo (jb : Nat → Bool) (L : Nat → Nat) (i : Nat) : Nat → Int32 := fun o => if jb o = true ∧ L o < i then nI (ct (jRt jb L) (L o)) else -1
/-- what the gathering holds -/
def gI (jb : Nat → Bool) (L : Nat → Nat) (jo : Nat → Int32) (cn : Int32) (i cnt : Nat) (S : jmS) : Prop := S.2.length = ct (fun o => decide (o ∈ S.2)) cnt ∧ (∀ o ∈ S.2, jb o = true ∧ L o = i) ∧ S.1 = fun o => if o ∈ S.2 then cn else jo o
theorem gI.len {jb : Nat → Bool} {L : Nat → Nat} {jo : Nat → Int32} {cn : Int32} {i cnt : Nat} {S : jmS} (h : gI jb L jo cn i cnt S) : S.2.length ≤ cnt := by rw [h.1]; exact ct_le _ _
theorem gb1_g {jb : Nat → Bool} {nb : Nat → Nat → Int32} {L : Nat → Nat} {jo : Nat → Int32} {cn : Int32} {i cnt k s : Nat} {S : jmS} (hc : cnt ≤ 24) (hjb : ∀ o, jb o = true → o < cnt) (hL : jL jb nb L) (hcn : ¬ cn = -1) (hjo : ∀ o, jb o = true → L o = i → jo o = -1) (hs : s < 4) (hk : k ∈ S.2) (h : gI jb L jo cn i cnt S) :
    gI jb L jo cn i cnt (gb1 jb nb cn k s S) ∧ (∀ o, o ∈ S.2 → o ∈ (gb1 jb nb cn k s S).2) ∧ (∃ T, (gb1 jb nb cn k s S).2 = S.2 ++ T) ∧ ∀ o, jb o = true → nb k s = nI o → o ∈ (gb1 jb nb cn k s S).2 := by
  have hkj := h.2.1 k hk
  unfold gb1
  split
  · next hcn9 =>
    obtain ⟨⟨p1, p2, p3, p4⟩, p5⟩ := hcn9
    obtain ⟨o, ho, he⟩ := nI_of (Int32.not_lt.mpr p1)
    have ho24 : o < 24 := (nI_ltI ho (by omega)).mp (show nI o < nI 24 from by rw [← he]; exact p2)
    rw [he, nI_clamp (n := o) (by omega)] at p3 p4 ⊢
    have hLo : L o = i := by rw [← hkj.2]; exact (hL.2 k o ⟨hkj.1, p4, s, hs, he⟩).symm
    have hno : o ∉ S.2 := fun z => by
      rw [h.2.2] at p3
      simp only [if_pos z] at p3
      exact hcn p3
    refine ⟨⟨?_, ?_, ?_⟩, fun o9 h9 => List.mem_append_left _ h9, ⟨[o], rfl⟩, fun o9 h9 e9 => ?_⟩
    · show (S.2 ++ [o]).length = ct (fun x => decide (x ∈ S.2 ++ [o])) cnt
      rw [List.length_append, h.1]
      symm
      refine ct_add (p := fun x => decide (x ∈ S.2)) (j := o) (decide_eq_false hno) (decide_eq_true (by simp)) (fun x hx => ?_) (hjb o p4)
      refine ba ?_
      rw [decide_eq_true_eq, decide_eq_true_eq, List.mem_append, List.mem_singleton]
      exact ⟨fun z => z.resolve_right hx, Or.inl⟩
    · intro x hx
      rcases List.mem_append.mp hx with h1 | h1
      · exact h.2.1 x h1
      · rw [List.mem_singleton.mp h1]; exact ⟨p4, hLo⟩
    · show upd S.1 o cn = fun x => if x ∈ S.2 ++ [o] then cn else jo x
      funext x
      unfold upd
      by_cases e : x = o
      · rw [if_pos e, if_pos (by rw [e]; simp)]
      · rw [if_neg e, h.2.2]
        by_cases e2 : x ∈ S.2
        · simp only [if_pos e2]; rw [if_pos (List.mem_append_left _ e2)]
        · simp only [if_neg e2]; rw [if_neg (fun z => by rcases List.mem_append.mp z with z1 | z1; exact e2 z1; exact e (List.mem_singleton.mp z1))]
    · have h24 := hjb o9 h9
      have : o9 = o := ((nI_eq (by omega) (by omega)).mp e9).symm
      rw [this]
      simp
  · next hcn9 =>
    refine ⟨h, fun o h9 => h9, ⟨[], (List.append_nil _).symm⟩, fun o h9 e9 => ?_⟩
    have h24 := hjb o h9
    have hLo : L o = i := by rw [← hkj.2]; exact (hL.2 k o ⟨hkj.1, h9, s, hs, e9⟩).symm
    refine Decidable.byContradiction (fun hno => hcn9 ⟨⟨?_, ?_, ?_, ?_⟩, ?_⟩)
    · rw [e9]; exact nI_pos' (by omega)
    · rw [e9]; exact show nI o < nI 24 from nI_lt (by omega) (by omega)
    · rw [e9, nI_clamp (n := o) (by omega), h.2.2]
      simp only [if_neg hno]
      exact hjo o h9 hLo
    · rw [e9, nI_clamp (n := o) (by omega)]; exact h9
    · rw [h.1]
      exact Nat.lt_of_lt_of_le (ct_lt (j := o) (decide_eq_false hno) h24) hc
theorem gbS_g {jb : Nat → Bool} {nb : Nat → Nat → Int32} {L : Nat → Nat} {jo : Nat → Int32} {cn : Int32} {i cnt k : Nat} {S : jmS} (hc : cnt ≤ 24) (hjb : ∀ o, jb o = true → o < cnt) (hL : jL jb nb L) (hcn : ¬ cn = -1) (hjo : ∀ o, jb o = true → L o = i → jo o = -1) (hk : k ∈ S.2) (h : gI jb L jo cn i cnt S) : ∀ s, s ≤ 4 →
    gI jb L jo cn i cnt (gbS jb nb cn k S s) ∧ (∀ o, o ∈ S.2 → o ∈ (gbS jb nb cn k S s).2) ∧ (∃ T, (gbS jb nb cn k S s).2 = S.2 ++ T) ∧ ∀ o s9, s9 < s → jb o = true → nb k s9 = nI o → o ∈ (gbS jb nb cn k S s).2
  | 0, _ => ⟨h, fun o h9 => h9, ⟨[], (List.append_nil _).symm⟩, fun o s9 h9 => absurd h9 (Nat.not_lt_zero s9)⟩
  | s + 1, hs => by
    obtain ⟨a1, a2, ⟨T1, a3⟩, a4⟩ := gbS_g hc hjb hL hcn hjo hk h s (by omega)
    obtain ⟨b1, b2, ⟨T2, b3⟩, b4⟩ := gb1_g (s := s) hc hjb hL hcn hjo (by omega) (a2 k hk) a1
    refine ⟨b1, fun o h9 => b2 o (a2 o h9), ⟨T1 ++ T2, ?_⟩, fun o s9 h9 e1 e2 => ?_⟩
    · show (gb1 jb nb cn k s (gbS jb nb cn k S s)).2 = _
      rw [b3, a3, List.append_assoc]
    · by_cases e : s9 = s
      · subst e; exact b4 o e1 e2
      · exact b2 o (a4 o s9 (by omega) e1 e2)
theorem gbM_g {jb : Nat → Bool} {nb : Nat → Nat → Int32} {L : Nat → Nat} {jo : Nat → Int32} {cn : Int32} {i cnt : Nat} (hc : cnt ≤ 24) (hjb : ∀ o, jb o = true → o < cnt) (hL : jL jb nb L) (hcn : ¬ cn = -1) (hjo : ∀ o, jb o = true → L o = i → jo o = -1) : ∀ (r h : Nat) (S : jmS), 24 ≤ h + r → gI jb L jo cn i cnt S → (∀ q k, q < h → S.2[q]? = some k → ∀ o s9, s9 < 4 → jb o = true → nb k s9 = nI o → o ∈ S.2) →
    gI jb L jo cn i cnt (gbM jb nb cn r h S) ∧ (∀ o, o ∈ S.2 → o ∈ (gbM jb nb cn r h S).2) ∧ ∀ k, k ∈ (gbM jb nb cn r h S).2 → ∀ o s9, s9 < 4 → jb o = true → nb k s9 = nI o → o ∈ (gbM jb nb cn r h S).2
  | 0, h, S, hr, hS, hd => ⟨hS, fun o h9 => h9, fun k hk o s9 h1 h2 h3 => by
      obtain ⟨q, hq, e⟩ := List.getElem_of_mem (show k ∈ S.2 from hk)
      have := hS.len
      exact hd q k (by omega) (by rw [List.getElem?_eq_getElem hq, e]) o s9 h1 h2 h3⟩
  | r + 1, h, S, hr, hS, hd => by
    cases hq : S.2[h]? with
    | none =>
      rw [gbM_n hq]
      refine ⟨hS, fun o h9 => h9, fun k hk o s9 h1 h2 h3 => ?_⟩
      obtain ⟨q, hq2, e⟩ := List.getElem_of_mem hk
      have := List.getElem?_eq_none_iff.mp hq
      exact hd q k (by omega) (by rw [List.getElem?_eq_getElem hq2, e]) o s9 h1 h2 h3
    | some k =>
      rw [gbM_s hq]
      have hk : k ∈ S.2 := List.mem_of_getElem? hq
      obtain ⟨a1, a2, ⟨T, a3⟩, a4⟩ := gbS_g hc hjb hL hcn hjo hk hS 4 (Nat.le_refl 4)
      obtain ⟨b1, b2, b3⟩ := gbM_g hc hjb hL hcn hjo r (h + 1) (gbS jb nb cn k S 4) (by omega) a1 (fun q k2 hq2 e2 o s9 h1 h2 h3 => by
        have hlen : h < S.2.length := (List.getElem?_eq_some_iff.mp hq).1
        have e3 : S.2[q]? = some k2 := by
          rw [a3, List.getElem?_append_left (by omega)] at e2
          exact e2
        by_cases e : q = h
        · subst e
          rw [hq] at e3
          cases e3
          exact a4 o s9 h1 h2 h3
        · exact a2 o (hd q k2 (by omega) e3 o s9 h1 h2 h3))
      exact ⟨b1, fun o h9 => b2 o (a2 o h9), b3⟩
theorem gaX_g {jb : Nat → Bool} {nb : Nat → Nat → Int32} {L : Nat → Nat} {jo : Nat → Int32} {cn : Int32} {i cnt : Nat} (hc : cnt ≤ 24) (hjb : ∀ o, jb o = true → o < cnt) (hL : jL jb nb L) (hcn : ¬ cn = -1) (hjo : ∀ o, jb o = true → L o = i → jo o = -1) (hi : jb i = true) (hLi : L i = i) : (∀ o, o ∈ (gaX jb nb jo cn i).2 ↔ (jb o = true ∧ L o = i)) ∧ (gaX jb nb jo cn i).2.length = ct (jIn jb L i) cnt ∧ (gaX jb nb jo cn i).1 = fun o => if jb o = true ∧ L o = i then cn else jo o := by
  have h0 : gI jb L jo cn i cnt (upd jo i cn, [i]) := by
    refine ⟨?_, fun o ho => by rw [List.mem_singleton.mp ho]; exact ⟨hi, hLi⟩, ?_⟩
    · show 1 = ct (fun o => decide (o ∈ [i])) cnt
      symm
      refine (ct_add (p := fun _ => false) (j := i) rfl (decide_eq_true (by simp)) (fun x hx => decide_eq_false (by simp [hx])) (hjb i hi)).trans ?_
      rw [ct_0 (fun _ _ => rfl)]
    · show upd jo i cn = fun o => if o ∈ [i] then cn else jo o
      funext o
      unfold upd
      by_cases e : o = i
      · rw [if_pos e, if_pos (by rw [e]; simp)]
      · rw [if_neg e, if_neg (by simp [e])]
  obtain ⟨a1, a2, a3⟩ := gbM_g hc hjb hL hcn hjo 24 0 (upd jo i cn, [i]) (by omega) h0 (fun q k hq => absurd hq (Nat.not_lt_zero q))
  have hm : ∀ o, o ∈ (gaX jb nb jo cn i).2 ↔ (jb o = true ∧ L o = i) := fun o => by
    refine ⟨a1.2.1 o, fun ⟨h1, h2⟩ => ?_⟩
    have h3 := (hL.1 o h1).2.2
    rw [h2] at h3
    exact h3 (fun x => x ∈ (gbM jb nb cn 24 0 (upd jo i cn, [i])).2) (a2 i (by simp)) (fun a b ha e => by
      obtain ⟨e1, e2, s, hs, e3⟩ := e
      exact a3 a ha b s hs e2 e3)
  refine ⟨hm, ?_, ?_⟩
  · refine a1.1.trans (ct_congr (fun o _ => ba ?_))
    unfold jIn
    rw [decide_eq_true_eq, decide_eq_true_eq]
    exact hm o
  · refine a1.2.2.trans ?_
    funext o
    by_cases e : jb o = true ∧ L o = i
    · rw [if_pos e]; exact if_pos ((hm o).mpr e)
    · rw [if_neg e]; exact if_neg (fun z => e ((hm o).mp z))
/-- the greatest jam by the model: of the first k -/
def jMx (jb : Nat → Bool) (L : Nat → Nat) (cnt : Nat) : Nat → Int32
  | 0 => 0
  | k + 1 => if jMx jb L cnt k < nI (ct (jIn jb L k) cnt) then nI (ct (jIn jb L k) cnt) else jMx jb L cnt k
theorem jMx_0 {jb : Nat → Bool} {L : Nat → Nat} {cnt : Nat} (hc : cnt ≤ 24) : ∀ k, 0 ≤ jMx jb L cnt k
  | 0 => Int32.le_refl 0
  | k + 1 => by
    unfold jMx
    split
    · have := ct_le (jIn jb L k) cnt
      exact nI_pos' (by omega)
    · exact jMx_0 hc k
/-- all that is found, by L -/
theorem fdX_L {jb : Nat → Bool} {nb : Nat → Nat → Int32} {L : Nat → Nat} {cnt : Nat} (hc : cnt ≤ 24) (hjb : ∀ o, jb o = true → o < cnt) (hL : jL jb nb L) : ∀ i, i ≤ cnt →
    (fdX jb nb i).1 = jNo jb L i ∧ (fdX jb nb i).2.2.1 = ct (jRt jb L) i ∧ (fdX jb nb i).2.2.2 = nI (ct (jLt jb L i) cnt) ∧ (∀ v, v < i → jRt jb L v = true → (fdX jb nb i).2.1 (ct (jRt jb L) v) = nI (ct (jIn jb L v) cnt)) ∧ mx0 (fdX jb nb i).2.1 (ct (jRt jb L) i) = jMx jb L cnt i
  | 0, _ => by
    refine ⟨?_, rfl, ?_, fun v hv => absurd hv (Nat.not_lt_zero v), rfl⟩
    · funext o
      exact (if_neg (fun z => Nat.not_lt_zero _ z.2)).symm
    · show 0 = nI (ct (jLt jb L 0) cnt)
      rw [ct_0 (p := jLt jb L 0) (fun o _ => decide_eq_false (fun z => Nat.not_lt_zero _ z.2))]
      rfl
  | i + 1, hi => by
    obtain ⟨f1, f2, f3, f4, f5⟩ := fdX_L hc hjb hL i (by omega)
    have hci : ct (jRt jb L) i ≤ i := ct_le _ _
    have hi9 : (nI i).toNatClampNeg = i := nI_clamp (by omega)
    by_cases hr : jRt jb L i = true
    · -- a new jam
      have hr2 := of_decide_eq_true hr
      have hnew : pNew jb (fdX jb nb i).1 (nI i) ∧ (fdX jb nb i).2.2.1 < 24 := by
        refine ⟨⟨nI_pos' (by omega), show nI i < nI 24 from nI_lt (by omega) (by omega), ?_, by rw [hi9]; exact hr2.1⟩, by omega⟩
        rw [hi9, f1]
        exact if_neg (fun z => by have := z.2; omega)
      have hcn : ¬ nI (fdX jb nb i).2.2.1 = -1 := nI_m1 (by omega)
      have hjo : ∀ o, jb o = true → L o = i → (fdX jb nb i).1 o = -1 := fun o _ h2 => by
        rw [f1]; exact if_neg (fun z => by have := z.2; omega)
      obtain ⟨g1, g2, g3⟩ := gaX_g hc hjb hL hcn hjo hr2.1 hr2.2
      have e : fdX jb nb (i + 1) = ((gaX jb nb (fdX jb nb i).1 (nI (fdX jb nb i).2.2.1) i).1, upd (fdX jb nb i).2.1 (fdX jb nb i).2.2.1 (nI (gaX jb nb (fdX jb nb i).1 (nI (fdX jb nb i).2.2.1) i).2.length), (fdX jb nb i).2.2.1 + 1, (fdX jb nb i).2.2.2 + nI (gaX jb nb (fdX jb nb i).1 (nI (fdX jb nb i).2.2.1) i).2.length) := if_pos hnew
      have ec : ct (jRt jb L) (i + 1) = ct (jRt jb L) i + 1 := by show _ + (if jRt jb L i = true then 1 else 0) = _; rw [if_pos hr]
      rw [e, g2]
      refine ⟨?_, ?_, ?_, ?_, ?_⟩
      · show (gaX jb nb (fdX jb nb i).1 (nI (fdX jb nb i).2.2.1) i).1 = _
        rw [g3]
        funext o
        rw [f1, f2]
        unfold jNo
        by_cases h1 : jb o = true ∧ L o = i
        · rw [if_pos h1, if_pos ⟨h1.1, by omega⟩, h1.2]
        · rw [if_neg h1]
          by_cases h2 : jb o = true ∧ L o < i
          · rw [if_pos h2, if_pos ⟨h2.1, by omega⟩]
          · rw [if_neg h2, if_neg (fun z => by
              by_cases e9 : L o = i
              · exact h1 ⟨z.1, e9⟩
              · exact h2 ⟨z.1, by omega⟩)]
      · show (fdX jb nb i).2.2.1 + 1 = _
        rw [f2, ec]
      · show (fdX jb nb i).2.2.2 + nI (ct (jIn jb L i) cnt) = _
        rw [f3, nI_add]
        congr 1
        rw [ct_or (p := jLt jb L i) (q := jIn jb L i) (r := jLt jb L (i + 1))]
        intro k _
        unfold jLt jIn
        constructor
        · refine ba ?_
          rw [Bool.or_eq_true, decide_eq_true_eq, decide_eq_true_eq, decide_eq_true_eq]
          constructor
          · rintro ⟨z1, z2⟩
            by_cases e9 : L k = i
            · exact Or.inr ⟨z1, e9⟩
            · exact Or.inl ⟨z1, by omega⟩
          · rintro (⟨z1, z2⟩ | ⟨z1, z2⟩)
            · exact ⟨z1, by omega⟩
            · exact ⟨z1, by omega⟩
        · refine Bool.eq_false_iff.mpr (fun z => ?_)
          rw [Bool.and_eq_true, decide_eq_true_eq, decide_eq_true_eq] at z
          omega
      · intro v hv hrv
        show upd (fdX jb nb i).2.1 (fdX jb nb i).2.2.1 _ _ = _
        unfold upd
        by_cases e9 : v = i
        · subst e9
          rw [if_pos f2.symm]
        · have : ct (jRt jb L) v < ct (jRt jb L) i := by
            have hm : ∀ a b, a ≤ b → ct (jRt jb L) a ≤ ct (jRt jb L) b := fun a b hab => by
              induction b with
              | zero => rw [Nat.le_zero.mp hab]; exact Nat.le_refl _
              | succ b ihb =>
                rcases Nat.lt_or_eq_of_le hab with h9 | h9
                · have := ihb (by omega)
                  show _ ≤ ct (jRt jb L) b + _
                  omega
                · rw [h9]; exact Nat.le_refl _
            have h1 := hm (v + 1) i (by omega)
            have h2 : ct (jRt jb L) (v + 1) = ct (jRt jb L) v + 1 := by show _ + (if jRt jb L v = true then 1 else 0) = _; rw [if_pos hrv]
            omega
          rw [if_neg (by omega)]
          exact f4 v (by omega) hrv
      · rw [ec]
        have ex : ∀ n, n ≤ ct (jRt jb L) i → mx0 (upd (fdX jb nb i).2.1 (fdX jb nb i).2.2.1 (nI (ct (jIn jb L i) cnt))) n = mx0 (fdX jb nb i).2.1 n := fun n hn => by
          induction n with
          | zero => rfl
          | succ n ihn =>
            have e5 : upd (fdX jb nb i).2.1 (fdX jb nb i).2.2.1 (nI (ct (jIn jb L i) cnt)) n = (fdX jb nb i).2.1 n := if_neg (by omega)
            show (if mx0 (upd (fdX jb nb i).2.1 (fdX jb nb i).2.2.1 (nI (ct (jIn jb L i) cnt))) n < upd (fdX jb nb i).2.1 (fdX jb nb i).2.2.1 (nI (ct (jIn jb L i) cnt)) n then upd (fdX jb nb i).2.1 (fdX jb nb i).2.2.1 (nI (ct (jIn jb L i) cnt)) n else mx0 (upd (fdX jb nb i).2.1 (fdX jb nb i).2.2.1 (nI (ct (jIn jb L i) cnt))) n) = (if mx0 (fdX jb nb i).2.1 n < (fdX jb nb i).2.1 n then (fdX jb nb i).2.1 n else mx0 (fdX jb nb i).2.1 n)
            rw [ihn (by omega), e5]
        have e6 : upd (fdX jb nb i).2.1 (fdX jb nb i).2.2.1 (nI (ct (jIn jb L i) cnt)) (ct (jRt jb L) i) = nI (ct (jIn jb L i) cnt) := if_pos f2.symm
        show (if mx0 (upd (fdX jb nb i).2.1 (fdX jb nb i).2.2.1 (nI (ct (jIn jb L i) cnt))) (ct (jRt jb L) i) < upd (fdX jb nb i).2.1 (fdX jb nb i).2.2.1 (nI (ct (jIn jb L i) cnt)) (ct (jRt jb L) i) then upd (fdX jb nb i).2.1 (fdX jb nb i).2.2.1 (nI (ct (jIn jb L i) cnt)) (ct (jRt jb L) i) else mx0 (upd (fdX jb nb i).2.1 (fdX jb nb i).2.2.1 (nI (ct (jIn jb L i) cnt))) (ct (jRt jb L) i)) = _
        rw [ex _ (Nat.le_refl _), e6, f5]
        rfl
    · -- none
      have hrf : ¬ (jb i = true ∧ L i = i) := fun z => hr (decide_eq_true z)
      have hold : ¬ (pNew jb (fdX jb nb i).1 (nI i) ∧ (fdX jb nb i).2.2.1 < 24) := by
        rintro ⟨⟨-, -, z3, z4⟩, -⟩
        rw [hi9] at z3 z4
        rw [f1] at z3
        have h1 := hL.1 i z4
        have h2 : L i < i := Nat.lt_of_le_of_ne h1.1 (fun z => hrf ⟨z4, z⟩)
        unfold jNo at z3
        rw [if_pos ⟨z4, h2⟩] at z3
        have := ct_le (jRt jb L) (L i)
        exact nI_m1 (by omega) z3
      have e : fdX jb nb (i + 1) = fdX jb nb i := if_neg hold
      have ec : ct (jRt jb L) (i + 1) = ct (jRt jb L) i := by show _ + (if jRt jb L i = true then 1 else 0) = _; rw [if_neg hr]; rfl
      have hLi : ∀ o, jb o = true → ¬ L o = i := fun o ho z => hrf (by
        have h1 := hL.1 o ho
        have h2 := hL.idem ho
        rw [z] at h1 h2
        exact ⟨h1.2.1, h2⟩)
      have e0 : ct (jIn jb L i) cnt = 0 := ct_0 (fun o _ => decide_eq_false (fun z => hLi o z.1 z.2))
      rw [e]
      refine ⟨?_, by rw [f2, ec], ?_, fun v hv hrv => ?_, ?_⟩
      · rw [f1]
        funext o
        unfold jNo
        by_cases h2 : jb o = true ∧ L o < i
        · rw [if_pos h2, if_pos ⟨h2.1, by omega⟩]
        · rw [if_neg h2, if_neg (fun z => h2 ⟨z.1, Nat.lt_of_le_of_ne (Nat.lt_succ_iff.mp z.2) (hLi o z.1)⟩)]
      · rw [f3]
        congr 1
        refine ct_congr (fun o _ => ba ?_)
        unfold jLt
        rw [decide_eq_true_eq, decide_eq_true_eq]
        exact ⟨fun z => ⟨z.1, by omega⟩, fun z => ⟨z.1, Nat.lt_of_le_of_ne (Nat.lt_succ_iff.mp z.2) (hLi o z.1)⟩⟩
      · exact f4 v (Nat.lt_of_le_of_ne (Nat.lt_succ_iff.mp hv) (fun z => by subst z; exact hr hrv)) hrv
      · rw [ec, f5]
        show _ = (if jMx jb L cnt i < nI (ct (jIn jb L i) cnt) then nI (ct (jIn jb L i) cnt) else jMx jb L cnt i)
        rw [e0]
        exact (if_neg (Int32.not_lt.mpr (show nI 0 ≤ jMx jb L cnt i from jMx_0 hc i))).symm
def okJ (jb : Nat → Bool) (nb : Nat → Nat → Int32) (f : Nat → Int32) (i s : Nat) : Prop := ∀ o, jb i = true → jb o = true → nb i s = nI o → ¬ f o < f i
def jI (jb : Nat → Bool) (nb : Nat → Nat → Int32) (cnt : Nat) (f : Nat → Int32) : Prop := ∀ k, k < cnt → (jb k = false ∧ f k = -1) ∨ (jb k = true ∧ ∃ v, v ≤ k ∧ f k = nI v ∧ jb v = true ∧ jR jb nb v k)
def jS (f : Nat → Int32) (cnt : Nat) : Nat := sn (fun k => (f k).toNatClampNeg) cnt
def jPS (jb : Nat → Bool) (nb : Nat → Nat → Int32) (cnt : Nat) (f0 : Nat → Int32) (i s : Nat) (b : Int32) (f : Nat → Int32) : Prop := jI jb nb cnt f ∧ ((b = 0 ∧ f = f0 ∧ ∀ i9 s9, s9 < 4 → (i9 < i ∨ i9 = i ∧ s9 < s) → okJ jb nb f i9 s9) ∨ (b = 1 ∧ jS f cnt < jS f0 cnt))
theorem jPS.start {jb : Nat → Bool} {nb : Nat → Nat → Int32} {cnt : Nat} {f : Nat → Int32} (h : jI jb nb cnt f) : jPS jb nb cnt f 0 0 0 f := ⟨h, Or.inl ⟨rfl, rfl, fun i9 s9 _ z => by omega⟩⟩
theorem jPS.skip {jb : Nat → Bool} {nb : Nat → Nat → Int32} {cnt i s : Nat} {f0 f : Nat → Int32} {b : Int32} (h : jPS jb nb cnt f0 i s b f) (ok : okJ jb nb f i s) : jPS jb nb cnt f0 i (s + 1) b f := by
  refine ⟨h.1, ?_⟩
  rcases h.2 with ⟨h1, h2, h3⟩ | h1
  · refine Or.inl ⟨h1, h2, fun i9 s9 hs z => ?_⟩
    by_cases e : i9 = i ∧ s9 = s
    · rw [e.1, e.2]; exact ok
    · exact h3 i9 s9 hs (by omega)
  · exact Or.inr h1
theorem jPS.row {jb : Nat → Bool} {nb : Nat → Nat → Int32} {cnt i s : Nat} {f0 f : Nat → Int32} {b : Int32} (h : jPS jb nb cnt f0 i s b f) (e : s = 4 ∨ jb i = false) : jPS jb nb cnt f0 (i + 1) 0 b f := by
  refine ⟨h.1, ?_⟩
  rcases h.2 with ⟨h1, h2, h3⟩ | h1
  · refine Or.inl ⟨h1, h2, fun i9 s9 hs z => ?_⟩
    by_cases e9 : i9 = i
    · rcases e with e | e
      · exact h3 i9 s9 hs (Or.inr ⟨e9, by omega⟩)
      · rw [e9]
        intro o z1
        rw [e] at z1
        exact absurd z1 Bool.false_ne_true
    · exact h3 i9 s9 hs (by omega)
  · exact Or.inr h1
theorem sn_lt {a b : Nat → Nat} {i : Nat} (eo : ∀ q, ¬ q = i → a q = b q) (hi : a i < b i) (n : Nat) : (n ≤ i → sn a n = sn b n) ∧ (i < n → sn a n < sn b n) := by
  induction n with
  | zero => exact ⟨fun _ => rfl, fun h => absurd h (Nat.not_lt_zero i)⟩
  | succ n ih =>
    obtain ⟨h1, h2⟩ := ih
    have e1 : sn a (n + 1) = sn a n + a n := rfl
    have e2 : sn b (n + 1) = sn b n + b n := rfl
    rw [e1, e2]
    constructor
    · intro h
      rw [h1 (by omega), eo n (by omega)]
    · intro h
      by_cases e : n = i
      · subst e
        rw [h1 (Nat.le_refl n)]
        exact Nat.add_lt_add_left hi _
      · rw [eo n e]
        exact Nat.add_lt_add_right (h2 (by omega)) _
theorem sn_upd {f : Nat → Int32} {v : Int32} {i : Nat} (hv : v.toNatClampNeg < (f i).toNatClampNeg) (n : Nat) (h : i < n) : jS (upd f i v) n < jS f n := (sn_lt (a := fun k => (upd f i v k).toNatClampNeg) (b := fun k => (f k).toNatClampNeg) (i := i) (fun q hq => congrArg Int32.toNatClampNeg (if_neg hq)) (by show (upd f i v i).toNatClampNeg < _; rw [show upd f i v i = v from if_pos rfl]; exact hv) n).2 h
theorem jPS.put {jb : Nat → Bool} {nb : Nat → Nat → Int32} {cnt i s o : Nat} {f0 f : Nat → Int32} {b : Int32} (hc : cnt ≤ 24) (hi : i < cnt) (ho : o < cnt) (h : jPS jb nb cnt f0 i s b f) (e : jE jb nb o i) (hlt : f o < f i) : jPS jb nb cnt f0 i (s + 1) 1 (upd f i (f o)) := by
  obtain ⟨-, vi, vi1, vi2, -, -⟩ := (h.1 i hi).resolve_left (fun z => by rw [e.2.1] at z; exact absurd z.1.symm Bool.false_ne_true)
  obtain ⟨-, vo, vo1, vo2, vo3, vo4⟩ := (h.1 o ho).resolve_left (fun z => by rw [e.1] at z; exact absurd z.1.symm Bool.false_ne_true)
  have hvv : vo < vi := by
    rw [vo2, vi2] at hlt
    exact (nI_ltI (by omega) (by omega)).mp hlt
  refine ⟨fun k hk => ?_, Or.inr ⟨rfl, ?_⟩⟩
  · by_cases ek : k = i
    · subst ek
      refine Or.inr ⟨e.2.1, vo, by omega, ?_, vo3, vo4.to e⟩
      show (if k = k then f o else f k) = _
      rw [if_pos rfl, vo2]
    · have e3 : upd f i (f o) k = f k := if_neg ek
      rw [e3]
      exact h.1 k hk
  · have h1 := (sn_upd (f := f) (v := f o) (i := i) (by rw [vo2, vi2, nI_clamp (by omega), nI_clamp (by omega)]; exact hvv) cnt) hi
    rcases h.2 with ⟨-, h2, -⟩ | ⟨-, h2⟩
    · rw [h2] at h1 ⊢; exact h1
    · omega
theorem jL_of {jb : Nat → Bool} {nb : Nat → Nat → Int32} {cnt : Nat} {f : Nat → Int32} (hc : cnt ≤ 24) (hjb : ∀ o, jb o = true → o < cnt) (hsy : ∀ a b, jE jb nb a b → jE jb nb b a) (h : jI jb nb cnt f) (hq : ∀ i s, i < cnt → s < 4 → okJ jb nb f i s) : jL jb nb (fun k => (f k).toNatClampNeg) ∧ ∀ k, k < cnt → f k = if jb k = true then nI (f k).toNatClampNeg else -1 := by
  have hle : ∀ a b, jE jb nb a b → ¬ f b < f a := fun a b e => by
    obtain ⟨e1, e2, s, hs, e3⟩ := e
    exact hq a s (hjb a e1) hs b e1 e2 e3
  refine ⟨⟨fun k hk => ?_, fun a b e => ?_⟩, fun k hk => ?_⟩
  · obtain ⟨-, v, v1, v2, v3, v4⟩ := (h k (hjb k hk)).resolve_left (fun z => by rw [hk] at z; exact absurd z.1.symm Bool.false_ne_true)
    have := hjb k hk
    show (f k).toNatClampNeg ≤ k ∧ jb (f k).toNatClampNeg = true ∧ jR jb nb (f k).toNatClampNeg k
    rw [v2, nI_clamp (n := v) (by omega)]
    exact ⟨v1, v3, v4⟩
  · show (f a).toNatClampNeg = (f b).toNatClampNeg
    rw [Int32.le_antisymm (Int32.not_lt.mp (hle a b e)) (Int32.not_lt.mp (hle b a (hsy a b e)))]
  · rcases h k hk with ⟨h1, h2⟩ | ⟨h1, v, v1, v2, -, -⟩
    · rw [h1, if_neg Bool.false_ne_true]; exact h2
    · rw [h1, if_pos rfl, v2, nI_clamp (n := v) (by omega)]
def jIni (jb : Nat → Bool) (k : Nat) : Int32 := if jb k = true then nI k else -1
theorem jI_ini {jb : Nat → Bool} {nb : Nat → Nat → Int32} {cnt : Nat} : jI jb nb cnt (fl2 (jIni jb) cnt) := fun k hk => by
  have e : fl2 (jIni jb) cnt k = jIni jb k := fl2_at hk
  rw [e]
  unfold jIni
  by_cases h : jb k = true
  · exact Or.inr ⟨h, k, Nat.le_refl k, if_pos h, h, jR.rf⟩
  · exact Or.inl ⟨Bool.eq_false_iff.mpr h, if_neg h⟩
theorem sx_opp : ∀ s : Fin 4, (ms_sx ((s.1 + 2) % 4)).toInt = - (ms_sx s.1).toInt ∧ (ms_sy ((s.1 + 2) % 4)).toInt = - (ms_sy s.1).toInt := by decide +kernel
theorem nbX_opp {W H f o s : Nat} {nr : Nat → Int32} (hL : lk_ok W H (W * H) nr) (hW : W ≤ 14) (hH : H ≤ 14) (hf : f < W * H) (ho : o < W * H) (hs : s < 4) (h : nbX nr f s = nI o) : nbX nr o ((s + 2) % 4) = nI f := by
  obtain ⟨e1, e2⟩ := (nbX_iff hL hW hH hf ho (by omega)).mp h
  have e3 : (ms_sx ((s + 2) % 4)).toInt = - (ms_sx s).toInt ∧ (ms_sy ((s + 2) % 4)).toInt = - (ms_sy s).toInt := sx_opp ⟨s, hs⟩
  exact (nbX_iff hL hW hH ho hf (by omega)).mpr ⟨by rw [e3.1]; omega, by rw [e3.2]; omega⟩
theorem nbR_own {cnt k own s : Nat} {nr on : Nat → Int32} {u : Nat → Nat → Int32} (hk : k < cnt) (hpo : u k 3 = nI own) : nbR cnt nr on u k s = cr_on on (nbX nr own s) := by
  unfold nbR
  rw [if_pos hk, hpo]
theorem nbR_to {W H cnt k own s o : Nat} {nr on : Nat → Int32} {u : Nat → Nat → Int32} (hL : lk_ok W H (W * H) nr) (hW : W ≤ 14) (hH : H ≤ 14) (hc : cnt ≤ 24) (hon : onV (W * H) cnt u on) (hk : k < cnt) (hpo : u k 3 = nI own) (ho : own < W * H) (hs : s < 8) (ho9 : o < cnt) (h : nbR cnt nr on u k s = nI o) : ∃ q, q < W * H ∧ nbX nr own s = nI q ∧ u o 3 = nI q := by
  have h9 := fd_196 hW hH
  rw [nbR_own hk hpo] at h
  rcases nbX_val hL ho hW hH hs with e | ⟨q, hq, e⟩
  · rw [e] at h
    exact absurd h.symm (nI_m1 (by omega))
  · rw [e, cr_onI on (by omega)] at h
    rcases hon q hq with ⟨z, -⟩ | ⟨k9, a, b, c, -⟩
    · rw [z] at h
      exact absurd h.symm (nI_m1 (by omega))
    · rw [b] at h
      have : k9 = o := (nI_eq (by omega) (by omega)).mp h
      subst this
      exact ⟨q, hq, e, c⟩
theorem jE_sy {W H cnt : Nat} {pa : Int32} {nr on : Nat → Int32} {u : Nat → Nat → Int32} (hL : lk_ok W H (W * H) nr) (hW : W ≤ 14) (hH : H ≤ 14) (hc : cnt ≤ 24) (hon : onV (W * H) cnt u on) (hv : hvX (nI (W * H)) cnt u) (a b : Nat) (e : jE (jbR cnt pa u) (nbR cnt nr on u) a b) : jE (jbR cnt pa u) (nbR cnt nr on u) b a := by
  have h9 := fd_196 hW hH
  obtain ⟨e1, e2, s, hs, e3⟩ := e
  obtain ⟨a1, a2, -⟩ := of_decide_eq_true e1
  obtain ⟨b1, b2, -⟩ := of_decide_eq_true e2
  obtain ⟨p, hp, ep⟩ := pos_of hW hH hv a1 a2
  obtain ⟨q, hq, eq1, eq2⟩ := nbR_to hL hW hH hc hon a1 ep hp (by omega) b1 e3
  refine ⟨e2, e1, (s + 2) % 4, by omega, ?_⟩
  rw [nbR_own b1 eq2, nbX_opp hL hW hH hp hq hs eq1, cr_onI on (by omega)]
  exact hon.hit hp a1 ep
theorem jbR_lt {cnt : Nat} {pa : Int32} {u : Nat → Nat → Int32} : ∀ o, jbR cnt pa u o = true → o < cnt := fun o h => (of_decide_eq_true h).1
def heB (M n : Nat) (ht : Nat → Int32) : Prop := ∀ f, f < n → ∃ h, h ≤ M ∧ ht f = nI h
theorem heB.mono {M M2 n : Nat} {ht : Nat → Int32} (h : heB M n ht) (e : M ≤ M2) : heB M2 n ht := fun f hf => by
  obtain ⟨v, h1, h2⟩ := h f hf
  exact ⟨v, by omega, h2⟩
theorem heB.gw {M n i : Nat} {fl : Int32} {cm u ht : Nat → Int32} (h : heB M n ht) : heB (M + 1) n (gwH fl cm i u ht) := by
  unfold gwH
  split
  · intro f hf
    unfold goH upd
    by_cases e : f = (u 10).toNatClampNeg
    · subst e
      obtain ⟨v, h1, h2⟩ := h _ hf
      exact ⟨v + 1, by omega, by rw [if_pos rfl, h2, nI_1]⟩
    · rw [if_neg e]
      exact h.mono (Nat.le_succ M) f hf
  · exact h.mono (Nat.le_succ M)
theorem heB.ho {M n cnt : Nat} {fl : Int32} {mk : Nat → Int32} {u : Nat → Nat → Int32} {tb sd tg ht on : Nat → Int32} (h : heB M n ht) : ∀ k, heB (M + k) n (hoX fl mk cnt u tb sd tg ht on k).1
  | 0 => h
  | k + 1 => (heB.ho h k).gw
theorem heB.step {M n cnt : Nat} {fl dr : Int32} {nr mk ds : Nat → Int32} {X : cX} (hc : cnt ≤ 24) (h : heB M n X.2.1) : heB (M + 24) n (stX1 fl nr mk ds cnt dr X).2.1 := (heB.ho h cnt).mono (by omega)
theorem heB.n {M n cnt : Nat} {fl dr : Int32} {nr mk ds : Nat → Int32} {X : cX} (hc : cnt ≤ 24) (h : heB M n X.2.1) : ∀ k, heB (M + 24 * k) n (stXn fl nr mk ds cnt dr X k).2.1
  | 0 => h
  | k + 1 => (heB.step hc (heB.n hc h k)).mono (by omega)
theorem mx_hx {f : Nat → Int32} {M : Nat} (hM : M < 1000000) : ∀ n, heB M (n + 1) f → mx f (n + 1) = f (hx f n) ∧ (∀ j, j ≤ n → f j ≤ f (hx f n)) ∧ ∀ j, j < hx f n → f j < f (hx f n)
  | 0, h => by
    obtain ⟨v, h1, h2⟩ := h 0 (by omega)
    refine ⟨?_, fun j hj => by rw [Nat.le_zero.mp hj]; exact Int32.le_refl _, fun j hj => absurd hj (Nat.not_lt_zero j)⟩
    show (if (-1 : Int32) < f 0 then f 0 else -1) = f 0
    rw [if_pos]
    rw [h2]
    exact Int32.lt_of_lt_of_le (by decide) (nI_pos' (by omega))
  | n + 1, h => by
    obtain ⟨a, b, c⟩ := mx_hx hM n (fun f9 h9 => h f9 (by omega))
    have e1 : mx f (n + 2) = if mx f (n + 1) < f (n + 1) then f (n + 1) else mx f (n + 1) := rfl
    have e2 : hx f (n + 1) = if f (hx f n) < f (n + 1) then n + 1 else hx f n := rfl
    rw [e1, a]
    by_cases hl : f (hx f n) < f (n + 1)
    · rw [e2, if_pos hl, if_pos hl]
      refine ⟨rfl, fun j hj => ?_, fun j hj => Int32.lt_of_le_of_lt (b j (by omega)) hl⟩
      by_cases e : j = n + 1
      · rw [e]; exact Int32.le_refl _
      · exact Int32.le_of_lt (Int32.lt_of_le_of_lt (b j (by omega)) hl)
    · rw [e2, if_neg hl, if_neg hl]
      refine ⟨rfl, fun j hj => ?_, c⟩
      by_cases e : j = n + 1
      · rw [e]; exact Int32.not_lt.mp hl
      · exact b j (by omega)
/-- what the model's row of jams holds -/
def jF (jb : Nat → Bool) (L : Nat → Nat) (cnt : Nat) (f : Nat → Int32) : Prop := ∀ k, k < cnt → f k = if jb k = true then nI (L k) else -1
theorem jF.at {jb : Nat → Bool} {nb : Nat → Nat → Int32} {L : Nat → Nat} {cnt : Nat} {f : Nat → Int32} (hc : cnt ≤ 24) (hjb : ∀ o, jb o = true → o < cnt) (hL : jL jb nb L) (h : jF jb L cnt f) {k v : Nat} (hk : k < cnt) (hv : v < 1000) : f k = nI v ↔ jb k = true ∧ L k = v := by
  rw [h k hk]
  by_cases e : jb k = true
  · rw [if_pos e]
    have := (hL.1 k e).1
    rw [nI_eq (by omega) (by omega)]
    exact ⟨fun z => ⟨e, z⟩, fun z => z.2⟩
  · rw [if_neg e]
    exact ⟨fun z => absurd z.symm (nI_m1 (by omega)), fun z => absurd z.1 e⟩
theorem jF.no {jb : Nat → Bool} {nb : Nat → Nat → Int32} {L : Nat → Nat} {cnt : Nat} {f : Nat → Int32} (hc : cnt ≤ 24) (hL : jL jb nb L) (h : jF jb L cnt f) {k : Nat} (hk : k < cnt) : f k = -1 ↔ ¬ jb k = true := by
  rw [h k hk]
  by_cases e : jb k = true
  · rw [if_pos e]
    have := (hL.1 k e).1
    exact ⟨fun z => absurd z (nI_m1 (by omega)), fun z => absurd e z⟩
  · rw [if_neg e]
    exact ⟨fun _ => e, fun _ => rfl⟩
theorem jm_szI {jo sz : Nat → Int32} {k c : Nat} (hk : k < 24) (hc : c < 24) (h : jo k = nI c) : jm_sz jo sz (nI k) = sz c := by
  unfold jm_sz
  rw [if_pos ⟨nI_pos' (by omega), show nI k < nI 24 from nI_lt (by omega) (by omega)⟩, nI_clamp (n := k) (by omega), h, if_pos ⟨nI_pos' (by omega), show nI c < nI 24 from nI_lt (by omega) (by omega)⟩, nI_clamp (n := c) (by omega)]
theorem jm_szN {jo sz : Nat → Int32} {k : Nat} (hk : k < 24) (h : jo k = -1) : jm_sz jo sz (nI k) = 0 := by
  unfold jm_sz
  rw [if_pos ⟨nI_pos' (by omega), show nI k < nI 24 from nI_lt (by omega) (by omega)⟩, nI_clamp (n := k) (by omega), h, if_neg (fun z => absurd z.1 (by decide))]
theorem ct_mono {p : Nat → Bool} {a b : Nat} (h : a ≤ b) : ct p a ≤ ct p b := by
  induction b with
  | zero => rw [Nat.le_zero.mp h]; exact Nat.le_refl _
  | succ b ih =>
    rcases Nat.lt_or_eq_of_le h with h9 | h9
    · have := ih (by omega)
      show _ ≤ ct p b + _
      omega
    · rw [h9]; exact Nat.le_refl _
theorem jam_sz {jb : Nat → Bool} {nb : Nat → Nat → Int32} {L : Nat → Nat} {cnt k : Nat} {f : Nat → Int32} (hc : cnt ≤ 24) (hjb : ∀ o, jb o = true → o < cnt) (hL : jL jb nb L) (h : jF jb L cnt f) (hk : k < cnt) : (if f k = -1 then 0 else nI (ct (fun j => decide (f j = f k)) cnt)) = jm_sz (fdX jb nb cnt).1 (fdX jb nb cnt).2.1 (nI k) := by
  obtain ⟨f1, f2, f3, f4, f5⟩ := fdX_L hc hjb hL cnt (Nat.le_refl cnt)
  by_cases e : jb k = true
  · have hk1 := hL.1 k e
    have hr : jRt jb L (L k) = true := decide_eq_true ⟨hk1.2.1, hL.idem e⟩
    have hcl : ct (jRt jb L) (L k) ≤ L k := ct_le _ _
    have e1 : (fdX jb nb cnt).1 k = nI (ct (jRt jb L) (L k)) := by
      rw [f1]; exact if_pos ⟨e, by omega⟩
    rw [if_neg (fun z => (h.no hc hL hk).mp z e), jm_szI (by omega) (by omega) e1, f4 (L k) (by omega) hr]
    congr 1
    refine ct_congr (fun j hj => ba ?_)
    unfold jIn
    rw [decide_eq_true_eq, decide_eq_true_eq, (h.at hc hjb hL hk (v := L k) (by omega)).mpr ⟨e, rfl⟩]
    exact h.at hc hjb hL hj (by omega)
  · rw [if_pos ((h.no hc hL hk).mpr e), jm_szN (by omega)]
    rw [f1]
    exact if_neg (fun z => e z.1)
theorem ct_all {p : Nat → Bool} : ∀ {n : Nat}, (∀ i, i < n → p i = true) → ct p n = n
  | 0, _ => rfl
  | n + 1, h => by
    show ct p n + _ = n + 1
    rw [ct_all (fun i hi => h i (by omega)), h n (by omega)]
    rfl
theorem jam_3 {jb : Nat → Bool} {nb : Nat → Nat → Int32} {L : Nat → Nat} {cnt : Nat} {f : Nat → Int32} (hc : cnt ≤ 24) (hjb : ∀ o, jb o = true → o < cnt) (hL : jL jb nb L) (h : jF jb L cnt f) : nI cnt - nI (ct (fun j => decide (f j = -1)) cnt) = (fdX jb nb cnt).2.2.2 := by
  obtain ⟨f1, f2, f3, f4, f5⟩ := fdX_L hc hjb hL cnt (Nat.le_refl cnt)
  rw [f3, nI_sub (by omega) (ct_le _ _)]
  congr 1
  have e : ct (fun _ => true) cnt = ct (jLt jb L cnt) cnt + ct (fun j => decide (f j = -1)) cnt := ct_or (fun k hk => by
    have h1 := h.no hc hL hk
    unfold jLt
    by_cases e : jb k = true
    · have := (hL.1 k e).1
      have e1 : decide (jb k = true ∧ L k < cnt) = true := decide_eq_true ⟨e, by omega⟩
      have e2 : decide (f k = -1) = false := decide_eq_false (fun z => h1.mp z e)
      rw [e1, e2]; exact ⟨rfl, rfl⟩
    · have e1 : decide (jb k = true ∧ L k < cnt) = false := decide_eq_false (fun z => e z.1)
      have e2 : decide (f k = -1) = true := decide_eq_true (h1.mpr e)
      rw [e1, e2]; exact ⟨rfl, rfl⟩)
  rw [ct_all (fun _ _ => rfl)] at e
  omega
theorem jam_4 {jb : Nat → Bool} {nb : Nat → Nat → Int32} {L : Nat → Nat} {cnt : Nat} {f : Nat → Int32} (hc : cnt ≤ 24) (hjb : ∀ o, jb o = true → o < cnt) (hL : jL jb nb L) (h : jF jb L cnt f) : ct (fun k => decide (f k = nI k)) cnt = (fdX jb nb cnt).2.2.1 := by
  obtain ⟨f1, f2, f3, f4, f5⟩ := fdX_L hc hjb hL cnt (Nat.le_refl cnt)
  rw [f2]
  refine ct_congr (fun k hk => ba ?_)
  unfold jRt
  rw [decide_eq_true_eq, decide_eq_true_eq]
  exact h.at hc hjb hL hk (by omega)
/-- the greatest count -/
def mxc (f : Nat → Int32) (cnt : Nat) : Nat → Int32
  | 0 => 0
  | k + 1 => if mxc f cnt k < nI (ct (fun j => decide (f j = nI k)) cnt) then nI (ct (fun j => decide (f j = nI k)) cnt) else mxc f cnt k
theorem mxc_e {jb : Nat → Bool} {nb : Nat → Nat → Int32} {L : Nat → Nat} {cnt : Nat} {f : Nat → Int32} (hc : cnt ≤ 24) (hjb : ∀ o, jb o = true → o < cnt) (hL : jL jb nb L) (h : jF jb L cnt f) : ∀ k, k ≤ cnt → mxc f cnt k = jMx jb L cnt k
  | 0, _ => rfl
  | k + 1, hk => by
    have e : ct (fun j => decide (f j = nI k)) cnt = ct (jIn jb L k) cnt := ct_congr (fun j hj => ba (by
      unfold jIn
      rw [decide_eq_true_eq, decide_eq_true_eq]
      exact h.at hc hjb hL hj (by omega)))
    show (if mxc f cnt k < nI (ct (fun j => decide (f j = nI k)) cnt) then nI (ct (fun j => decide (f j = nI k)) cnt) else mxc f cnt k) = (if jMx jb L cnt k < nI (ct (jIn jb L k) cnt) then nI (ct (jIn jb L k) cnt) else jMx jb L cnt k)
    rw [e, mxc_e hc hjb hL h k (by omega)]
theorem jam_5 {jb : Nat → Bool} {nb : Nat → Nat → Int32} {L : Nat → Nat} {cnt : Nat} {f : Nat → Int32} (hc : cnt ≤ 24) (hjb : ∀ o, jb o = true → o < cnt) (hL : jL jb nb L) (h : jF jb L cnt f) : mxc f cnt cnt = mx0 (fdX jb nb cnt).2.1 (fdX jb nb cnt).2.2.1 := by
  obtain ⟨f1, f2, f3, f4, f5⟩ := fdX_L hc hjb hL cnt (Nat.le_refl cnt)
  rw [mxc_e hc hjb hL h cnt (Nat.le_refl cnt), ← f5, f2]
theorem jam_none {nb : Nat → Nat → Int32} {L : Nat → Nat} {cnt : Nat} {pa : Int32} {u : Nat → Nat → Int32} {f : Nat → Int32} (hc : cnt ≤ 24) (hL : jL (jbR cnt pa u) nb L) (h : jF (jbR cnt pa u) L cnt f) : nI (ct (fun j => decide (f j = -1)) cnt) = nI cnt ↔ ¬ an (fun j => decide (pJam pa (u j))) cnt = true := by
  have h1 := ct_le (fun j => decide (f j = -1)) cnt
  rw [nI_eq (by omega) (by omega), an_iff]
  constructor
  · rintro e ⟨i, hi, z⟩
    have z2 := of_decide_eq_true z
    have h2 := ct_lt (p := fun j => decide (f j = -1)) (j := i) (decide_eq_false (fun z3 => (h.no hc hL hi).mp z3 (decide_eq_true ⟨hi, z2⟩))) hi
    omega
  · intro e
    exact ct_all (fun i hi => decide_eq_true ((h.no hc hL hi).mpr (fun z => e ⟨i, hi, decide_eq_true (of_decide_eq_true z).2⟩)))
def bfP (nb : Nat → Nat → Int32) (n : Nat) (S : bf_S) : Prop := ∀ o, S.1 o = -1 ∨ S.1 o = 0 ∨ ∃ f s, s < 4 ∧ f < n ∧ nb f s = nI o ∧ ¬ S.1 f = -1 ∧ S.1 o = S.1 f + 1
theorem bf1_P {nb : Nat → Nat → Int32} {fr : Nat → Bool} {f s n : Nat} {S : bf_S} (h : bfP nb n S) (hs : s < 4) (hfn : f < n) (hf : ¬ S.1 f = -1) : bfP nb n (bf1 nb fr f s S) := by
  unfold bf1
  split
  · next hc =>
    obtain ⟨h0, h1, h2⟩ := hc
    obtain ⟨t, ht, he⟩ := nI_of (Int32.not_lt.mpr h0)
    rw [he, nI_clamp (n := t) (by omega)] at h2 ⊢
    have hne : f ≠ t := fun e => hf (e ▸ h2)
    intro o
    show upd S.1 t (S.1 f + 1) o = -1 ∨ upd S.1 t (S.1 f + 1) o = 0 ∨ ∃ f9 s9, s9 < 4 ∧ f9 < n ∧ nb f9 s9 = nI o ∧ ¬ upd S.1 t (S.1 f + 1) f9 = -1 ∧ upd S.1 t (S.1 f + 1) o = upd S.1 t (S.1 f + 1) f9 + 1
    have e1 : ∀ q, q ≠ t → upd S.1 t (S.1 f + 1) q = S.1 q := fun q hq => if_neg hq
    by_cases e : o = t
    · subst e
      refine Or.inr (Or.inr ⟨f, s, hs, hfn, he, ?_, ?_⟩)
      · rw [e1 f hne]; exact hf
      · rw [e1 f hne]; exact if_pos rfl
    · rw [e1 o e]
      rcases h o with z | z | ⟨f9, s9, z1, z2, z3, z4, z5⟩
      · exact Or.inl z
      · exact Or.inr (Or.inl z)
      · have : f9 ≠ t := fun e9 => z4 (e9 ▸ h2)
        exact Or.inr (Or.inr ⟨f9, s9, z1, z2, z3, by rw [e1 f9 this]; exact z4, by rw [e1 f9 this]; exact z5⟩)
  · exact h
theorem bfS_P {nb : Nat → Nat → Int32} {fr : Nat → Bool} {f n : Nat} {S : bf_S} (hJ : bfJ n S) (hn : n ≤ 196) (hfr : ∀ k, fr k = true → k < n) (h : bfP nb n S) (hfn : f < n) (hf : ¬ S.1 f = -1) : ∀ s, s ≤ 4 → bfP nb n (bfS nb fr f S s)
  | 0, _ => h
  | s + 1, hs => bf1_P (bfS_P hJ hn hfr h hfn hf s (by omega)) (by omega) hfn (bfS_J hJ hn hfr hf s).2
theorem bfM_P {nb : Nat → Nat → Int32} {fr : Nat → Bool} {n : Nat} (hn : n ≤ 196) (hfr : ∀ k, fr k = true → k < n) : ∀ (r h : Nat) (S : bf_S), bfJ n S → bfP nb n S → bfP nb n (bfM nb fr r h S)
  | 0, _, _, _, hP => hP
  | r + 1, h, S, hJ, hP => by
    cases hq : S.2[h]? with
    | none => rw [bfM_n hq]; exact hP
    | some f =>
      rw [bfM_s hq]
      have hm := hJ.2.1 f (List.mem_of_getElem? hq)
      exact bfM_P hn hfr r (h + 1) _ (bfS_J hJ hn hfr hm.2 4).1 (bfS_P hJ hn hfr hP hm.1 hm.2 4 (Nat.le_refl 4))
theorem dX_pre {W H g o v : Nat} {nr wl mk : Nat → Int32} (hL : lk_ok W H (W * H) nr) (hW : W ≤ 14) (hH : H ≤ 14) (ho : o < W * H) (hv : v < 1000) (h : dXg (W * H) nr wl mk g o = nI (v + 1)) : ∃ s q, s < 4 ∧ q < W * H ∧ nbX nr o s = nI q ∧ dXg (W * H) nr wl mk g q = nI v := by
  have h9 := fd_196 hW hH
  have hP : bfP (nbX nr) (W * H) (bfM (nbX nr) (frX (W * H) wl) (W * H) 0 (bf0 (stX (W * H) wl mk g) (W * H))) := bfM_P h9 (fun k z => (of_decide_eq_true z).1) _ _ _ (bf0_J h9) (fun f => by
    by_cases e : stX (W * H) wl mk g f = true
    · exact Or.inr (Or.inl (by show (if _ then (0 : Int32) else -1) = 0; rw [if_pos e]))
    · exact Or.inl (by show (if _ then (0 : Int32) else -1) = -1; rw [if_neg e]))
  have h2 : (bfM (nbX nr) (frX (W * H) wl) (W * H) 0 (bf0 (stX (W * H) wl mk g) (W * H))).1 o = nI (v + 1) := h
  rcases hP o with z | z | ⟨f, s, z1, z2, z3, z4, z5⟩
  · rw [h2] at z; exact absurd z (nI_m1 (by omega))
  · rw [h2] at z
    have := (nI_eq (a := v + 1) (b := 0) (by omega) (by omega)).mp z
    omega
  · refine ⟨(s + 2) % 4, f, by omega, z2, nbX_opp hL hW hH z2 ho z1 z3, ?_⟩
    show (bfM (nbX nr) (frX (W * H) wl) (W * H) 0 (bf0 (stX (W * H) wl mk g) (W * H))).1 f = nI v
    rw [h2, ← nI_1] at z5
    exact (Int32.add_left_inj 1).mp z5.symm
theorem fst1_at {p : Nat → Bool} {v : Nat → Int32} : ∀ (r k : Nat), (∃ s, k ≤ s ∧ s < k + r ∧ p s = true) → ∃ s, k ≤ s ∧ s < k + r ∧ p s = true ∧ fst1 p v k r = v s
  | 0, k, ⟨s, h1, h2, _⟩ => by omega
  | r + 1, k, ⟨s, h1, h2, h3⟩ => by
    by_cases e : p k = true
    · exact ⟨k, Nat.le_refl k, by omega, e, fst1_t e⟩
    · have e2 : p k = false := Bool.eq_false_iff.mpr e
      have hs : ¬ s = k := fun z => e (z ▸ h3)
      obtain ⟨s2, a, b, c, d⟩ := fst1_at (v := v) r (k + 1) ⟨s, by omega, by omega, h3⟩
      exact ⟨s2, by omega, by omega, c, by rw [fst1_f e2]; exact d⟩
theorem mix0 {c : Int32} : (29977 : Int64) + c.toInt64 = mixL 967 c := by
  unfold mixL
  rw [show (967 : Int64) * 31 = 29977 from by decide]

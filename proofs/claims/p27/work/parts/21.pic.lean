/-! the pictures of Square, Walker, Crowd, Jams; counting -/
def sq_at (G : ms_H) (g q : Nat) (wl mk ds qu : Nat → Int32) : Prop := G q = some (.inr (3, [.ref g, .ref (q + 1), .ref (q + 2), .ref (q + 3), .ref (q + 4)])) ∧ G (q + 1) = some (.inl (0, 196, .inl wl)) ∧ G (q + 2) = some (.inl (0, 196, .inl mk)) ∧ G (q + 3) = some (.inl (0, 784, .inl ds)) ∧ G (q + 4) = some (.inl (0, 196, .inl qu))
/-- a walker's eleven numbers: goal pace mood place facing waited steps outAt hasTurn side target -/
def cr_w (u : Nat → Int32) : List Value := [.int (u 0), .int (u 1), .int (u 2), .int (u 3), .int (u 4), .int (u 5), .int (u 6), .int (u 7), .int (u 8), .int (u 9), .int (u 10)]
/-- the crowd: count time draw patience; who is on each field; heat; claims; walkers -/
def cr_at (G : ms_H) (g q c : Nat) (hd on ht cm : Nat → Int32) (wk : Nat → Nat → Int32) : Prop := G c = some (.inr (0, [.int (hd 0), .int (hd 1), .int (hd 2), .int (hd 3), .ref g, .ref q, .ref (c + 1), .ref (c + 2), .ref (c + 3), .ref (c + 4)])) ∧
  (∃ f : Nat → Option Nat, (∀ i, i < 24 → f i = some (c + 5 + i)) ∧ G (c + 1) = some (.inl (3, 24, .inr (.inr (.inr (.inr f)))))) ∧
  G (c + 2) = some (.inl (0, 196, .inl on)) ∧ G (c + 3) = some (.inl (0, 196, .inl ht)) ∧ G (c + 4) = some (.inl (0, 196, .inl cm)) ∧ ∀ i, i < 24 → G (c + 5 + i) = some (.inr (4, cr_w (wk i)))
/-- the jams: count walkersIn; jamOf, sizes, queue -/
def jm_at (G : ms_H) (j : Nat) (cn wi : Int32) (jo sz qu : Nat → Int32) : Prop := G j = some (.inr (2, [.int cn, .int wi, .ref (j + 1), .ref (j + 2), .ref (j + 3)])) ∧ G (j + 1) = some (.inl (0, 24, .inl jo)) ∧ G (j + 2) = some (.inl (0, 24, .inl sz)) ∧ G (j + 3) = some (.inl (0, 24, .inl qu))
def ct (p : Nat → Bool) : Nat → Nat
  | 0 => 0
  | k + 1 => ct p k + (if p k then 1 else 0)
theorem ct_le (p : Nat → Bool) : ∀ k, ct p k ≤ k
  | 0 => Nat.le_refl 0
  | k + 1 => by
    have := ct_le p k
    unfold ct
    split <;> omega
theorem ct_t {p : Nat → Bool} {k : Nat} (h : p k = true) : nI (ct p k) + 1 = nI (ct p (k + 1)) := by
  rw [nI_1]
  show nI (ct p k + 1) = nI (ct p k + (if p k then 1 else 0))
  rw [h]
  rfl
theorem ct_f {p : Nat → Bool} {k : Nat} (h : p k = false) : nI (ct p k) = nI (ct p (k + 1)) := by
  show nI (ct p k) = nI (ct p k + (if p k then 1 else 0))
  rw [h]
  rfl
theorem nb_clt {k M : Int32} {n : Nat} (hM : M.toInt = n) (h0 : ¬ k < 0) (h1 : ¬ M ≤ k) : k.toNatClampNeg < n := by
  rw [nb_lt] at h0
  rw [nb_le] at h1
  have h3 : k.toNatClampNeg = k.toInt.toNat := rfl
  have e0 : (0 : Int32).toInt = 0 := rfl
  omega
theorem nb_inM {k M : Int32} {n : Nat} (hM : M.toInt = n) (h0 : ¬ k < 0) (h1 : ¬ M ≤ k) : vp_in k n := by
  rintro (h | h)
  · exact h0 h
  · exact absurd (nb_clt hM h0 h1) (Nat.not_lt.mpr h)
def cr_get (c : Nat) (cnt k : Int32) : Value := if 0 ≤ k ∧ k < cnt ∧ k < 24 then .ref (c + 5 + k.toNatClampNeg) else .null
def cr_on (on : Nat → Int32) (f : Int32) : Int32 := if 0 ≤ f ∧ f < 196 then on f.toNatClampNeg else -1
def cr_ht (ht : Nat → Int32) (f : Int32) : Int32 := if 0 ≤ f ∧ f < 196 then ht f.toNatClampNeg else 0
abbrev gl_is (g : Int32) : Prop := 0 ≤ g ∧ g < 4
abbrev sq_fr (fl : Int32) (wl : Nat → Int32) (f : Int32) : Prop := gr_has fl f ∧ wl f.toNatClampNeg = 0
abbrev sq_mk (fl : Int32) (mk : Nat → Int32) (g f : Int32) : Prop := gl_is g ∧ gr_has fl f ∧ ¬ mk f.toNatClampNeg &&& (1 <<< (g &&& 31)) = 0
def sq_ds (fl : Int32) (ds : Nat → Int32) (g f : Int32) : Int32 := if gl_is g ∧ gr_has fl f then ds (g * 196 + f).toNatClampNeg else -1
abbrev wk_turn (u : Nat → Int32) (t : Int32) : Prop := ¬ u 3 = -1 ∧ 0 < u 1 ∧ t - t / u 1 * u 1 = 0
def wk_come (u : Nat → Int32) (g p m f : Int32) : Nat → Int32 := fun j => if j < 8 then [g, p, m, f, 4, 0, 0, -1].getD j 0 else u j
def wk_copy (u v : Nat → Int32) : Nat → Int32 := fun j => if j < 8 then v j else u j
theorem gr_hin {fl f : Int32} (h : gr_has fl f) : vp_in f 196 := nb_inM (M := 196) rfl (Int32.not_lt.mpr h.1) (Int32.not_le.mpr h.2.2)
theorem sq_din {fl g f : Int32} (hg : gl_is g) (h : gr_has fl f) : vp_in (g * 196 + f) 784 := by
  obtain ⟨h1, h2⟩ := hg
  obtain ⟨h3, -, h4⟩ := h
  rw [nb_le] at h1 h3
  rw [nb_lt] at h2 h4
  have e0 : (0 : Int32).toInt = 0 := rfl
  have e1 : (196 : Int32).toInt = 196 := rfl
  have e2 : (4 : Int32).toInt = 4 := rfl
  rw [e0] at h1 h3
  rw [e1] at h4
  rw [e2] at h2
  have m : (g * 196).toInt = g.toInt * 196 := by rw [nb_mul (by rw [e1]; omega) (by rw [e1]; omega), e1]
  have s : (g * 196 + f).toInt = g.toInt * 196 + f.toInt := by rw [nb_add (by omega) (by omega), m]
  exact nb_in2 (by omega) (by omega)
theorem cr_getI {c cnt k : Nat} {x : Int32} (hx : x = nI cnt) (hc : cnt ≤ 24) (h : k < cnt) : cr_get c x (nI k) = .ref (c + 5 + k) := by
  unfold cr_get
  rw [if_pos ⟨nI_pos' (by omega), by rw [hx]; exact nI_lt h (by omega), show nI k < nI 24 from nI_lt (by omega) (by omega)⟩, nI_clamp (by omega)]

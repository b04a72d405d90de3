/-! more of the layer -/
theorem ms_W.heq {x : Bool} {d : ms_D} {P : ms_P} {pc : Nat} {lv : List (Nat × Value)} {st : List Value} {n : Nat} {G G1 : ms_H} {kr zr : Nat} (e : G1 = G) (h : ms_W x d P pc lv st n G1 kr zr) : ms_W x d P pc lv st n G kr zr := e ▸ h
/-- the answer is what the contract says: a value, heap and size as they are -/
theorem ms_p1.mk {v v' : Option Value} {n : Nat} {G G' : ms_H} (h : v = v') (hG : G = G') : ms_p1 v' n G' (.inl v) n G := by subst h; subst hG; exact ⟨rfl, rfl, rfl⟩
theorem ms_int_eq {a b : Int32} (h : a = b) : (some (Value.int a) : Option Value) = some (Value.int b) := by rw [h]
/-! numbers -/
theorem nb_in {i : Int32} {N : Nat} (h0 : ¬ i < 0) (h1 : i < Int32.ofNat N) (hN : N < 2 ^ 31) : vp_in i N := by
  rintro (h | h)
  · exact h0 h
  · have h2 := Int32.lt_iff_toInt_lt.mp h1
    rw [Int32.toInt_ofNat_of_lt hN] at h2
    have h3 : i.toNatClampNeg = i.toInt.toNat := rfl
    have h4 : ¬ i.toInt < 0 := fun q => h0 (Int32.lt_iff_toInt_lt.mpr q)
    omega
theorem nb_ge {i : Int32} (h : 0 ≤ i) : ¬ i < 0 := Int32.not_lt.mpr h
theorem nb_add {a b : Int32} (h1 : -2147483648 ≤ a.toInt + b.toInt) (h2 : a.toInt + b.toInt < 2147483648) : (a + b).toInt = a.toInt + b.toInt := by
  rw [Int32.toInt_add]
  exact Int.bmod_eq_of_le (by omega) (by omega)
theorem nb_sub {a b : Int32} (h1 : -2147483648 ≤ a.toInt - b.toInt) (h2 : a.toInt - b.toInt < 2147483648) : (a - b).toInt = a.toInt - b.toInt := by
  rw [Int32.toInt_sub]
  exact Int.bmod_eq_of_le (by omega) (by omega)
theorem nb_mul {a b : Int32} (h1 : -2147483648 ≤ a.toInt * b.toInt) (h2 : a.toInt * b.toInt < 2147483648) : (a * b).toInt = a.toInt * b.toInt := by
  rw [Int32.toInt_mul]
  exact Int.bmod_eq_of_le (by omega) (by omega)
theorem nb_lt {a b : Int32} : a < b ↔ a.toInt < b.toInt := Int32.lt_iff_toInt_lt
theorem nb_le {a b : Int32} : a ≤ b ↔ a.toInt ≤ b.toInt := Int32.le_iff_toInt_le
theorem nb_in2 {i : Int32} {N : Nat} (h0 : 0 ≤ i.toInt) (h1 : i.toInt < N) : vp_in i N := by
  rintro (h | h)
  · have := nb_lt.mp h
    simp at this
    omega
  · have h3 : i.toNatClampNeg = i.toInt.toNat := rfl
    omega
theorem gr_nin {f k : Int32} (h1 : ¬ f < 0) (h2 : ¬ 196 ≤ f) (h3 : ¬ k < 0) (h4 : ¬ 8 ≤ k) : vp_in (f * 8 + k) 1568 := by
  rw [nb_lt] at h1 h3
  rw [nb_le] at h2 h4
  have e0 : (0 : Int32).toInt = 0 := rfl
  have e1 : (196 : Int32).toInt = 196 := rfl
  have e2 : (8 : Int32).toInt = 8 := rfl
  rw [e0] at h1 h3
  rw [e1] at h2
  rw [e2] at h4
  have m : (f * 8).toInt = f.toInt * 8 := by rw [nb_mul (by rw [e2]; omega) (by rw [e2]; omega), e2]
  have s : (f * 8 + k).toInt = f.toInt * 8 + k.toInt := by rw [nb_add (by omega) (by omega), m]
  exact nb_in2 (by omega) (by omega)
/-! the grid: the object at g, its row of neighbours at g + 1 -/
def gr_at (G : ms_H) (g : Nat) (fl w h : Int32) (nr : Nat → Int32) : Prop := G g = some (.inr (1, [.int fl, .int w, .int h, .ref (g + 1)])) ∧ G (g + 1) = some (.inl (0, 1568, .inl nr))
abbrev gr_has (fl f : Int32) : Prop := 0 ≤ f ∧ f < fl ∧ f < 196
abbrev gr_ins (w h x y : Int32) : Prop := 0 ≤ x ∧ x < w ∧ 0 ≤ y ∧ y < h
def gr_num (w h x y : Int32) : Int32 := if gr_ins w h x y then y * w + x else -1
def gr_next (nr : Nat → Int32) (f k : Int32) : Int32 := if 0 ≤ f ∧ f < 196 ∧ 0 ≤ k ∧ k < 8 then nr (f * 8 + k).toNatClampNeg else -1

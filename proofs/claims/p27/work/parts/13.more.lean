/-! more of the layer -/
theorem ms_W.heq {x : Bool} {d : ms_D} {P : ms_P} {pc : Nat} {lv : List (Nat × Value)} {st : List Value} {n : Nat} {G G1 : ms_H} {kr zr : Nat} (e : G1 = G) (h : ms_W x d P pc lv st n G1 kr zr) : ms_W x d P pc lv st n G kr zr := e ▸ h
/-- the answer is what the contract says: a value, heap and size as they are -/
theorem ms_p1.mk {v v' : Option Value} {n : Nat} {G G' : ms_H} (h : v = v') (hG : G = G') : ms_p1 v' n G' (.inl v) n G := by subst h; subst hG; exact ⟨rfl, rfl, rfl⟩
theorem ms_int_eq {a b : Int32} (h : a = b) : (some (Value.int a) : Option Value) = some (Value.int b) := by rw [h]
/-! numbers -/
theorem nb_in {i : Int32} {N : Nat} (h0 : ¬ i < 0) (h1 : i < Int32.ofNat N) (hN : N < 2 ^ 31) : vp_in i N := by
  rintro (h | h)
  · exact h0 h
  · have h2 := Int32.lt_iff_toInt_lt.mp h1
    rw [Int32.toInt_ofNat_of_lt hN] at h2
    have h3 : i.toNatClampNeg = i.toInt.toNat := rfl
    have h4 : ¬ i.toInt < 0 := fun q => h0 (Int32.lt_iff_toInt_lt.mpr q)
    omega
theorem nb_ge {i : Int32} (h : 0 ≤ i) : ¬ i < 0 := Int32.not_lt.mpr h
theorem nb_add {a b : Int32} (h1 : -2147483648 ≤ a.toInt + b.toInt) (h2 : a.toInt + b.toInt < 2147483648) : (a + b).toInt = a.toInt + b.toInt := by
  rw [Int32.toInt_add]
  exact Int.bmod_eq_of_le (by omega) (by omega)
theorem nb_sub {a b : Int32} (h1 : -2147483648 ≤ a.toInt - b.toInt) (h2 : a.toInt - b.toInt < 2147483648) : (a - b).toInt = a.toInt - b.toInt := by
  rw [Int32.toInt_sub]
  exact Int.bmod_eq_of_le (by omega) (by omega)
theorem nb_mul {a b : Int32} (h1 : -2147483648 ≤ a.toInt * b.toInt) (h2 : a.toInt * b.toInt < 2147483648) : (a * b).toInt = a.toInt * b.toInt := by
  rw [Int32.toInt_mul]
  exact Int.bmod_eq_of_le (by omega) (by omega)
theorem nb_lt {a b : Int32} : a < b ↔ a.toInt < b.toInt := Int32.lt_iff_toInt_lt
theorem nb_le {a b : Int32} : a ≤ b ↔ a.toInt ≤ b.toInt := Int32.le_iff_toInt_le
theorem nb_in2 {i : Int32} {N : Nat} (h0 : 0 ≤ i.toInt) (h1 : i.toInt < N) : vp_in i N := by
  rintro (h | h)
  · have := nb_lt.mp h
    simp at this
    omega
  · have h3 : i.toNatClampNeg = i.toInt.toNat := rfl
    omega
theorem gr_nin {f k : Int32} (h1 : ¬ f < 0) (h2 : ¬ 196 ≤ f) (h3 : ¬ k < 0) (h4 : ¬ 8 ≤ k) : vp_in (f * 8 + k) 1568 := by
  rw [nb_lt] at h1 h3
  rw [nb_le] at h2 h4
  have e0 : (0 : Int32).toInt = 0 := rfl
  have e1 : (196 : Int32).toInt = 196 := rfl
  have e2 : (8 : Int32).toInt = 8 := rfl
  rw [e0] at h1 h3
  rw [e1] at h2
  rw [e2] at h4
  have m : (f * 8).toInt = f.toInt * 8 := by rw [nb_mul (by rw [e2]; omega) (by rw [e2]; omega), e2]
  have s : (f * 8 + k).toInt = f.toInt * 8 + k.toInt := by rw [nb_add (by omega) (by omega), m]
  exact nb_in2 (by omega) (by omega)
/-! the grid: the object at g, its row of neighbours at g + 1 -/
def gr_at (G : ms_H) (g : Nat) (fl w h : Int32) (nr : Nat → Int32) : Prop := G g = some (.inr (1, [.int fl, .int w, .int h, .ref (g + 1)])) ∧ G (g + 1) = some (.inl (0, 1568, .inl nr))
abbrev gr_has (fl f : Int32) : Prop := 0 ≤ f ∧ f < fl ∧ f < 196
abbrev gr_ins (w h x y : Int32) : Prop := 0 ≤ x ∧ x < w ∧ 0 ≤ y ∧ y < h
def gr_num (w h x y : Int32) : Int32 := if gr_ins w h x y then y * w + x else -1
def gr_next (nr : Nat → Int32) (f k : Int32) : Int32 := if 0 ≤ f ∧ f < 196 ∧ 0 ≤ k ∧ k < 8 then nr (f * 8 + k).toNatClampNeg else -1
/-- a row holds what agrees with it on all its places -/
theorem ms_extI {x : Bool} {d : ms_D} {P : ms_P} {pc : Nat} {lv : List (Nat × Value)} {st : List Value} {n : Nat} {G : ms_H} {kr zr : Nat} {a kd N : Nat} {f f' : Nat → Int32} (ha : G a = some (.inl (kd, N, .inl f))) (h : ∀ j, j < N → f j = f' j) (k : ms_W x d P pc lv st n (ms_up G a (.inl (kd, N, .inl f'))) kr zr) : ms_W x d P pc lv st n G kr zr := by
  intro mc ms p l e s m args below meth c D cA base H locs cells slots ls F c1 c2 c3 c4 c5 c6
  refine k mc ms p l e s m args below meth c D cA base H locs cells slots ls F c1 c2 c3 (c4.set ha ?_ (fun q _ => rfl)) c5 c6
  show H[a]? = some (vp_cell (cA kd) (N, .inl f'))
  have e : vp_cell (cA kd) (N, .inl f) = vp_cell (cA kd) (N, .inl f') := by
    show arrV (cA kd) N (fun j => .int (f j)) = arrV (cA kd) N (fun j => .int (f' j))
    unfold arrV
    congr 1
    congr 1
    funext j
    exact congrArg Value.int (h j.val j.isLt)
  rw [← e]
  exact c4.P1 ha 0 _ rfl
/-- what is known of the heap may be less -/
theorem ms_less {x : Bool} {d : ms_D} {P : ms_P} {pc : Nat} {lv : List (Nat × Value)} {st : List Value} {n : Nat} {G G' : ms_H} {kr zr : Nat} (h : ∀ a y, G' a = some y → G a = some y) (k : ms_W x d P pc lv st n G' kr zr) : ms_W x d P pc lv st n G kr zr := by
  intro mc ms p l e s m args below meth c D cA base H locs cells slots ls F c1 c2 c3 c4 c5 c6
  exact k mc ms p l e s m args below meth c D cA base H locs cells slots ls F c1 c2 c3 (fun a y ha => c4 a y (h a y ha)) c5 c6
/-- what is made lies behind all that is known -/
theorem ms_out {x : Bool} {d : ms_D} {P : ms_P} {pc : Nat} {lv : List (Nat × Value)} {st : List Value} {n : Nat} {G : ms_H} {kr zr : Nat} (k : (∀ a, n ≤ a → G a = none) → ms_W x d P pc lv st n G kr zr) : ms_W x d P pc lv st n G kr zr := by
  intro mc ms p l e s m args below meth c D cA base H locs cells slots ls F c1 c2 c3 c4 c5 c6
  exact k (fun a ha => c4.fresh (by rw [c3]; exact ha)) mc ms p l e s m args below meth c D cA base H locs cells slots ls F c1 c2 c3 c4 c5 c6
/-- a whole row copied -/
theorem ms_copyF {x : Bool} {d : ms_D} {P : ms_P} {pc : Nat} {lv : List (Nat × Value)} {st : List Value} {n : Nat} {G : ms_H} {kr zr : Nat} {i a0 a N : Nat} {f g : Nat → Int32} {z : Int32} (hdg : decode d.2.1 pc = .ok (.invokestatic i, 3)) (hw : ∀ w ∈ [Cond.methodLink d.1.cls i arraycopyName, Cond.native arraycopyName, Cond.static arraycopyName, Cond.initialized "java/lang/System"], w ∈ ms_big) (ha0 : G a0 = some (.inl (0, N, .inl f))) (ha : G a = some (.inl (0, N, .inl g)))
    (hN : z.toNatClampNeg = N ∧ ¬ z < 0) (hR : 1 ≤ d.2.2.2.2.1 ∧ 8 + (nativeFrameWords "java/lang/System" "arraycopy" 5 + 11) ≤ d.2.2.2.2.2.1) (hW : (st.map fun v => v.category).sum ≤ 8)
    (k : ms_W x d P (pc + 3) lv st n (ms_up G a (.inl (0, N, .inl f))) kr zr) : ms_W x d P pc lv (.int z :: .int 0 :: .ref a :: .int 0 :: .ref a0 :: st) n G kr zr := by
  obtain ⟨hN, hz⟩ := hN
  have e0 : (0 : Int32).toNatClampNeg = 0 := rfl
  refine ms_copyI hdg hw ha0 ha (by decide) (by decide) hz (by rw [e0]; omega) (by rw [e0]; omega) hR hW ?_
  refine ms_extI (f' := f) (ms_up_s _ _ _) (fun j hj => ?_) ?_
  · rw [e0, hN, pk_cpy_in (by omega) (by omega)]
    congr 1
    omega
  · rw [ms_up_up]
    exact k
theorem ms_callS0 {x : Bool} {d : ms_D} {P : ms_P} {pc : Nat} {lv : List (Nat × Value)} {st : List Value} {n : Nat} {G : ms_H} {kr zr : Nat} {d' : ms_D} {P' : ms_P} {i n9 : Nat} {As stk : List Value} (hdg : decode d.2.1 pc = .ok (.invokestatic i, 3)) (hM : ms_M d' As n G 0 0 P') (ok : ms_okS d.1.cls i d' n9) (hn : As.length = n9) (hR : ms_okR d d') (hst : stk = As.reverse ++ st) (hW : (st.map fun v => v.category).sum ≤ 8)
    (k : ∀ (v : Option Value) (n1 : Nat) (G1 : ms_H), P' (.inl v) n1 G1 → ms_W x d P (pc + 3) lv (v.toList ++ st) n1 G1 kr zr) (hh : d'.2.2.2.2.2.2.1 = [] := by rfl) (hs9 : d'.2.2.2.2.2.2.2 = none ∨ d'.2.2.2.2.2.2.2 = d.2.2.2.2.2.2.2 := by first | exact Or.inl rfl | exact Or.inr rfl) : ms_W x d P pc lv stk n G kr zr := by
  have h := ms_callS (hs9 := hs9) (kr := kr) (zr := zr) (hh := hh) hdg hM ok hn hR hst hW (P := P) (x := x) (lv := lv) k
  simpa using h

/-! numbers: bits of a field's marks -/
theorem bx_and (x b c : Int32) : (x ^^^ b) &&& c = (x &&& c) ^^^ (b &&& c) := by
  apply Int32.toBitVec_inj.mp
  simp only [Int32.toBitVec_and, Int32.toBitVec_xor]
  apply BitVec.eq_of_getLsbD_eq
  intro i hi
  simp only [BitVec.getLsbD_and, BitVec.getLsbD_xor]
  cases x.toBitVec.getLsbD i <;> cases b.toBitVec.getLsbD i <;> cases c.toBitVec.getLsbD i <;> rfl
def bt (g : Nat) : Int32 := 1 <<< (nI g &&& 31)
theorem bt_ne : ∀ g : Fin 4, ¬ bt g.1 = 0 ∧ bt g.1 &&& bt g.1 = bt g.1 := by decide +kernel
theorem bt_dis : ∀ g h : Fin 4, ¬ g = h → bt g.1 &&& bt h.1 = 0 := by decide +kernel
theorem bt_bit : ∀ g : Fin 4, ∀ i : Fin 32, (bt g.1).toBitVec.getLsbD i.1 = decide (i.1 = g.1) := by decide +kernel
theorem bt_one (x : Int32) (g : Fin 4) : x &&& bt g.1 = 0 ∨ x &&& bt g.1 = bt g.1 := by
  cases h : x.toBitVec.getLsbD g.1
  · refine Or.inl (Int32.toBitVec_inj.mp ?_)
    simp only [Int32.toBitVec_and]
    apply BitVec.eq_of_getLsbD_eq
    intro i hi
    have hb : (bt g.1).toBitVec.getLsbD i = decide (i = g.1) := bt_bit g ⟨i, hi⟩
    rw [BitVec.getLsbD_and, hb]
    by_cases e : i = g.1
    · rw [decide_eq_true e, Bool.and_true, e, h]; simp
    · rw [decide_eq_false e, Bool.and_false]; simp
  · refine Or.inr (Int32.toBitVec_inj.mp ?_)
    simp only [Int32.toBitVec_and]
    apply BitVec.eq_of_getLsbD_eq
    intro i hi
    have hb : (bt g.1).toBitVec.getLsbD i = decide (i = g.1) := bt_bit g ⟨i, hi⟩
    rw [BitVec.getLsbD_and, hb]
    by_cases e : i = g.1
    · rw [decide_eq_true e, Bool.and_true, e, h]
    · rw [decide_eq_false e, Bool.and_false]
theorem bt_tog (x : Int32) (g : Fin 4) : (x ^^^ bt g.1) &&& bt g.1 = 0 ↔ ¬ x &&& bt g.1 = 0 := by
  obtain ⟨h1, h2⟩ := bt_ne g
  rw [bx_and, h2]
  rcases bt_one x g with h | h
  · rw [h]
    exact ⟨fun z => absurd (by rw [Int32.zero_xor] at z; exact z) h1, fun z => absurd rfl z⟩
  · rw [h, Int32.xor_self]
    exact ⟨fun _ => h1, fun _ => rfl⟩
theorem bt_oth (x : Int32) (g h : Fin 4) (e : ¬ g = h) : (x ^^^ bt g.1) &&& bt h.1 = x &&& bt h.1 := by
  rw [bx_and, bt_dis g h e, Int32.xor_zero]
/-- a mark turned in the model's row -/
theorem mmR.turn {n g f : Nat} {mk mm : Nat → Int32} {v : Int32} (h : mmR n mk mm) (hg : g < 4) (hf : f < n) (hv : v = ms_b (mk f &&& (1 <<< (nI g &&& 31)) = 0)) : mmR n (mkF mk g f) (upd mm (g * n + f) v) := fun g2 hg2 f2 hf2 => by
  have e0 : mkF mk g f f2 = if f2 = f then mk f ^^^ bt g else mk f2 := rfl
  rw [e0]
  unfold upd
  by_cases e1 : f2 = f
  · subst e1
    rw [if_pos rfl]
    by_cases e2 : g2 = g
    · subst e2
      rw [if_pos rfl, hv]
      have := bt_tog (mk f2) ⟨g2, hg2⟩
      show ms_b (mk f2 &&& bt g2 = 0) = ms_b (¬ (mk f2 ^^^ bt g2) &&& bt g2 = 0)
      have t : (mk f2 ^^^ bt g2) &&& bt g2 = 0 ↔ ¬ mk f2 &&& bt g2 = 0 := this
      by_cases e3 : mk f2 &&& bt g2 = 0
      · rw [show ms_b (mk f2 &&& bt g2 = 0) = 1 from if_pos e3]
        exact (if_pos (fun z => t.mp z e3)).symm
      · rw [show ms_b (mk f2 &&& bt g2 = 0) = 0 from if_neg e3]
        exact (if_neg (not_not_intro (t.mpr e3))).symm
    · have hne : ¬ g2 * n + f2 = g * n + f2 := fun z => e2 (Nat.eq_of_mul_eq_mul_right (show 0 < n by omega) (by omega))
      rw [if_neg hne, h g2 hg2 f2 hf2]
      have := bt_oth (mk f2) ⟨g, hg⟩ ⟨g2, hg2⟩ (fun z => e2 (congrArg Fin.val z).symm)
      have t : (mk f2 ^^^ bt g) &&& bt g2 = mk f2 &&& bt g2 := this
      show ms_b (¬ mk f2 &&& bt g2 = 0) = ms_b (¬ (mk f2 ^^^ bt g) &&& bt g2 = 0)
      rw [t]
  · have hne : ¬ g2 * n + f2 = g * n + f := fun z => by
      rcases Nat.lt_trichotomy g2 g with h5 | h5 | h5
      · have := Nat.mul_le_mul_right n (show g2 + 1 ≤ g by omega)
        rw [Nat.add_mul] at this
        omega
      · rw [h5] at z; exact e1 (by omega)
      · have := Nat.mul_le_mul_right n (show g + 1 ≤ g2 by omega)
        rw [Nat.add_mul] at this
        omega
    rw [if_neg e1, if_neg hne]
    exact h g2 hg2 f2 hf2

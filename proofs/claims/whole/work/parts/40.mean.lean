/-! a mean of whole numbers is a number -/
theorem dd_rr {f : Jvm.FP.Core.Fmt} {s : Bool} {a b : Nat} {e : Int} : Jvm.FP.Core.roundRatio f s a b e ≠ .nan := by
  unfold Jvm.FP.Core.roundRatio Jvm.FP.Core.roundAt Jvm.FP.Core.settle Jvm.FP.Core.bound
  split
  · intro h; cases h
  · split
    · split
      · intro h; cases h
      · intro h; cases h
    · split
      · intro h; cases h
      · intro h; cases h
theorem dd_i2d (a : Int32) : Jvm.FP.Core.val64 (FP.i2d a) ≠ .nan := by
  have h : Jvm.FP.Core.val64 (Jvm.FP.Core.i2d a) = Jvm.FP.Core.round Jvm.FP.Core.b64 (Jvm.FP.Core.ofInt a.toInt) := Jvm.FP.Core.val64_of64 (Jvm.FP.Core.round_fits Jvm.FP.Core.good_b64 _)
  rw [show FP.i2d a = Jvm.FP.Core.i2d a from rfl, h]
  exact dd_rr
theorem dd_k : ∀ k : Fin 24, ∃ (s : Bool) (c : Nat) (q : Int), Jvm.FP.Core.val64 (Jvm.FP.Core.i2d (nI (k.val + 1))) = .fin s c q ∧ c ≠ 0 := by
  intro k
  have h : Jvm.FP.Core.val64 (Jvm.FP.Core.i2d (nI (k.val + 1))) = Jvm.FP.Core.round Jvm.FP.Core.b64 (Jvm.FP.Core.ofInt (nI (k.val + 1)).toInt) := Jvm.FP.Core.val64_of64 (Jvm.FP.Core.round_fits Jvm.FP.Core.good_b64 _)
  have hk := k.isLt
  have h2 : ∀ n : Fin 24, (match Jvm.FP.Core.round Jvm.FP.Core.b64 (Jvm.FP.Core.ofInt ((n.val + 1 : Nat) : Int)) with
    | .fin s c q => decide (c ≠ 0)
    | _ => false) = true := by decide +kernel
  have h3 := h2 k
  rw [h, nI_toInt (by omega)]
  cases e : Jvm.FP.Core.round Jvm.FP.Core.b64 (Jvm.FP.Core.ofInt ((k.val + 1 : Nat) : Int)) with
  | nan => rw [e] at h3; cases h3
  | inf s => rw [e] at h3; cases h3
  | fin s c q =>
    rw [e] at h3
    exact ⟨s, c, q, rfl, of_decide_eq_true h3⟩
theorem dd_n {a : Int32} {k : Nat} (h1 : 0 < k) (h2 : k ≤ 24) : vf_n64 (FP.ddiv (FP.i2d a) (FP.i2d (nI k))) := by
  have hv : Jvm.FP.Core.val64 (Jvm.FP.Core.ddiv (Jvm.FP.Core.i2d a) (Jvm.FP.Core.i2d (nI k))) ≠ .nan := by
    rw [Jvm.FP.Core.val64_ddiv]
    obtain ⟨s, c, q, h3, h4⟩ := dd_k ⟨k - 1, by omega⟩
    rw [show k - 1 + 1 = k by omega] at h3
    rw [h3]
    have h5 := dd_i2d a
    rw [show FP.i2d a = Jvm.FP.Core.i2d a from rfl] at h5
    cases e : Jvm.FP.Core.val64 (Jvm.FP.Core.i2d a) with
    | nan => exact absurd e h5
    | inf s2 => intro h; cases h
    | fin s2 c2 q2 =>
      show (if c = 0 then (if c2 = 0 then Jvm.FP.Core.Datum.nan else .inf (s2 != s)) else Jvm.FP.Core.roundRatio Jvm.FP.Core.b64 (s2 != s) c2 c (q2 - q)) ≠ .nan
      rw [if_neg h4]
      exact dd_rr
  have hm : ¬ Jvm.FP.Core.infBits Jvm.FP.Core.b64 < Jvm.FP.Core.mag Jvm.FP.Core.b64 (Jvm.FP.Core.ddiv (Jvm.FP.Core.i2d a) (Jvm.FP.Core.i2d (nI k))).toNat := fun z => hv ((Jvm.FP.Core.decode_nan _).mpr z)
  show Jvm.FP.Core.ddiv (Jvm.FP.Core.i2d a) (Jvm.FP.Core.i2d (nI k)) &&& 0x7fffffffffffffff ≤ 0x7ff0000000000000
  generalize Jvm.FP.Core.ddiv (Jvm.FP.Core.i2d a) (Jvm.FP.Core.i2d (nI k)) = r at hm
  rw [UInt64.le_iff_toNat_le, UInt64.toNat_and, show (0x7fffffffffffffff : UInt64).toNat = 2 ^ 63 - 1 from rfl, Nat.and_two_pow_sub_one_eq_mod, show (0x7ff0000000000000 : UInt64).toNat = 0x7ff0000000000000 from rfl]
  rw [Jvm.FP.Core.infBits_b64, Jvm.FP.Core.mag_toNat64] at hm
  omega

/-! numbers: the model's search for jams -/
def okJ (jb : Nat → Bool) (nb : Nat → Nat → Int32) (f : Nat → Int32) (i s : Nat) : Prop := ∀ o, jb i = true → jb o = true → nb i s = nI o → ¬ f o < f i
def jI (jb : Nat → Bool) (nb : Nat → Nat → Int32) (cnt : Nat) (f : Nat → Int32) : Prop := ∀ k, k < cnt → (jb k = false ∧ f k = -1) ∨ (jb k = true ∧ ∃ v, v ≤ k ∧ f k = nI v ∧ jb v = true ∧ jR jb nb v k)
def jS (f : Nat → Int32) (cnt : Nat) : Nat := sn (fun k => (f k).toNatClampNeg) cnt
def jPS (jb : Nat → Bool) (nb : Nat → Nat → Int32) (cnt : Nat) (f0 : Nat → Int32) (i s : Nat) (b : Int32) (f : Nat → Int32) : Prop := jI jb nb cnt f ∧ ((b = 0 ∧ f = f0 ∧ ∀ i9 s9, s9 < 4 → (i9 < i ∨ i9 = i ∧ s9 < s) → okJ jb nb f i9 s9) ∨ (b = 1 ∧ jS f cnt < jS f0 cnt))
theorem jPS.start {jb : Nat → Bool} {nb : Nat → Nat → Int32} {cnt : Nat} {f : Nat → Int32} (h : jI jb nb cnt f) : jPS jb nb cnt f 0 0 0 f := ⟨h, Or.inl ⟨rfl, rfl, fun i9 s9 _ z => by omega⟩⟩
theorem jPS.skip {jb : Nat → Bool} {nb : Nat → Nat → Int32} {cnt i s : Nat} {f0 f : Nat → Int32} {b : Int32} (h : jPS jb nb cnt f0 i s b f) (ok : okJ jb nb f i s) : jPS jb nb cnt f0 i (s + 1) b f := by
  refine ⟨h.1, ?_⟩
  rcases h.2 with ⟨h1, h2, h3⟩ | h1
  · refine Or.inl ⟨h1, h2, fun i9 s9 hs z => ?_⟩
    by_cases e : i9 = i ∧ s9 = s
    · rw [e.1, e.2]; exact ok
    · exact h3 i9 s9 hs (by omega)
  · exact Or.inr h1
theorem jPS.row {jb : Nat → Bool} {nb : Nat → Nat → Int32} {cnt i s : Nat} {f0 f : Nat → Int32} {b : Int32} (h : jPS jb nb cnt f0 i s b f) (e : s = 4 ∨ jb i = false) : jPS jb nb cnt f0 (i + 1) 0 b f := by
  refine ⟨h.1, ?_⟩
  rcases h.2 with ⟨h1, h2, h3⟩ | h1
  · refine Or.inl ⟨h1, h2, fun i9 s9 hs z => ?_⟩
    by_cases e9 : i9 = i
    · rcases e with e | e
      · exact h3 i9 s9 hs (Or.inr ⟨e9, by omega⟩)
      · rw [e9]
        intro o z1
        rw [e] at z1
        exact absurd z1 Bool.false_ne_true
    · exact h3 i9 s9 hs (by omega)
  · exact Or.inr h1
theorem sn_lt {a b : Nat → Nat} {i : Nat} (eo : ∀ q, ¬ q = i → a q = b q) (hi : a i < b i) (n : Nat) : (n ≤ i → sn a n = sn b n) ∧ (i < n → sn a n < sn b n) := by
  induction n with
  | zero => exact ⟨fun _ => rfl, fun h => absurd h (Nat.not_lt_zero i)⟩
  | succ n ih =>
    obtain ⟨h1, h2⟩ := ih
    have e1 : sn a (n + 1) = sn a n + a n := rfl
    have e2 : sn b (n + 1) = sn b n + b n := rfl
    rw [e1, e2]
    constructor
    · intro h
      rw [h1 (by omega), eo n (by omega)]
    · intro h
      by_cases e : n = i
      · subst e
        rw [h1 (Nat.le_refl n)]
        exact Nat.add_lt_add_left hi _
      · rw [eo n e]
        exact Nat.add_lt_add_right (h2 (by omega)) _
theorem sn_upd {f : Nat → Int32} {v : Int32} {i : Nat} (hv : v.toNatClampNeg < (f i).toNatClampNeg) (n : Nat) (h : i < n) : jS (upd f i v) n < jS f n := (sn_lt (a := fun k => (upd f i v k).toNatClampNeg) (b := fun k => (f k).toNatClampNeg) (i := i) (fun q hq => congrArg Int32.toNatClampNeg (if_neg hq)) (by show (upd f i v i).toNatClampNeg < _; rw [show upd f i v i = v from if_pos rfl]; exact hv) n).2 h
theorem jPS.put {jb : Nat → Bool} {nb : Nat → Nat → Int32} {cnt i s o : Nat} {f0 f : Nat → Int32} {b : Int32} (hc : cnt ≤ 24) (hi : i < cnt) (ho : o < cnt) (h : jPS jb nb cnt f0 i s b f) (e : jE jb nb o i) (hlt : f o < f i) : jPS jb nb cnt f0 i (s + 1) 1 (upd f i (f o)) := by
  obtain ⟨-, vi, vi1, vi2, -, -⟩ := (h.1 i hi).resolve_left (fun z => by rw [e.2.1] at z; exact absurd z.1.symm Bool.false_ne_true)
  obtain ⟨-, vo, vo1, vo2, vo3, vo4⟩ := (h.1 o ho).resolve_left (fun z => by rw [e.1] at z; exact absurd z.1.symm Bool.false_ne_true)
  have hvv : vo < vi := by
    rw [vo2, vi2] at hlt
    exact (nI_ltI (by omega) (by omega)).mp hlt
  refine ⟨fun k hk => ?_, Or.inr ⟨rfl, ?_⟩⟩
  · by_cases ek : k = i
    · subst ek
      refine Or.inr ⟨e.2.1, vo, by omega, ?_, vo3, vo4.to e⟩
      show (if k = k then f o else f k) = _
      rw [if_pos rfl, vo2]
    · have e3 : upd f i (f o) k = f k := if_neg ek
      rw [e3]
      exact h.1 k hk
  · have h1 := (sn_upd (f := f) (v := f o) (i := i) (by rw [vo2, vi2, nI_clamp (by omega), nI_clamp (by omega)]; exact hvv) cnt) hi
    rcases h.2 with ⟨-, h2, -⟩ | ⟨-, h2⟩
    · rw [h2] at h1 ⊢; exact h1
    · omega
theorem jL_of {jb : Nat → Bool} {nb : Nat → Nat → Int32} {cnt : Nat} {f : Nat → Int32} (hc : cnt ≤ 24) (hjb : ∀ o, jb o = true → o < cnt) (hsy : ∀ a b, jE jb nb a b → jE jb nb b a) (h : jI jb nb cnt f) (hq : ∀ i s, i < cnt → s < 4 → okJ jb nb f i s) : jL jb nb (fun k => (f k).toNatClampNeg) ∧ ∀ k, k < cnt → f k = if jb k = true then nI (f k).toNatClampNeg else -1 := by
  have hle : ∀ a b, jE jb nb a b → ¬ f b < f a := fun a b e => by
    obtain ⟨e1, e2, s, hs, e3⟩ := e
    exact hq a s (hjb a e1) hs b e1 e2 e3
  refine ⟨⟨fun k hk => ?_, fun a b e => ?_⟩, fun k hk => ?_⟩
  · obtain ⟨-, v, v1, v2, v3, v4⟩ := (h k (hjb k hk)).resolve_left (fun z => by rw [hk] at z; exact absurd z.1.symm Bool.false_ne_true)
    have := hjb k hk
    show (f k).toNatClampNeg ≤ k ∧ jb (f k).toNatClampNeg = true ∧ jR jb nb (f k).toNatClampNeg k
    rw [v2, nI_clamp (n := v) (by omega)]
    exact ⟨v1, v3, v4⟩
  · show (f a).toNatClampNeg = (f b).toNatClampNeg
    rw [Int32.le_antisymm (Int32.not_lt.mp (hle a b e)) (Int32.not_lt.mp (hle b a (hsy a b e)))]
  · rcases h k hk with ⟨h1, h2⟩ | ⟨h1, v, v1, v2, -, -⟩
    · rw [h1, if_neg Bool.false_ne_true]; exact h2
    · rw [h1, if_pos rfl, v2, nI_clamp (n := v) (by omega)]
def jIni (jb : Nat → Bool) (k : Nat) : Int32 := if jb k = true then nI k else -1
theorem jI_ini {jb : Nat → Bool} {nb : Nat → Nat → Int32} {cnt : Nat} : jI jb nb cnt (fl2 (jIni jb) cnt) := fun k hk => by
  have e : fl2 (jIni jb) cnt k = jIni jb k := fl2_at hk
  rw [e]
  unfold jIni
  by_cases h : jb k = true
  · exact Or.inr ⟨h, k, Nat.le_refl k, if_pos h, h, jR.rf⟩
  · exact Or.inl ⟨Bool.eq_false_iff.mpr h, if_neg h⟩
theorem sx_opp : ∀ s : Fin 4, (ms_sx ((s.1 + 2) % 4)).toInt = - (ms_sx s.1).toInt ∧ (ms_sy ((s.1 + 2) % 4)).toInt = - (ms_sy s.1).toInt := by decide +kernel
theorem nbX_opp {W H f o s : Nat} {nr : Nat → Int32} (hL : lk_ok W H (W * H) nr) (hW : W ≤ 14) (hH : H ≤ 14) (hf : f < W * H) (ho : o < W * H) (hs : s < 4) (h : nbX nr f s = nI o) : nbX nr o ((s + 2) % 4) = nI f := by
  obtain ⟨e1, e2⟩ := (nbX_iff hL hW hH hf ho (by omega)).mp h
  have e3 : (ms_sx ((s + 2) % 4)).toInt = - (ms_sx s).toInt ∧ (ms_sy ((s + 2) % 4)).toInt = - (ms_sy s).toInt := sx_opp ⟨s, hs⟩
  exact (nbX_iff hL hW hH ho hf (by omega)).mpr ⟨by rw [e3.1]; omega, by rw [e3.2]; omega⟩
theorem nbR_own {cnt k own s : Nat} {nr on : Nat → Int32} {u : Nat → Nat → Int32} (hk : k < cnt) (hpo : u k 3 = nI own) : nbR cnt nr on u k s = cr_on on (nbX nr own s) := by
  unfold nbR
  rw [if_pos hk, hpo]
theorem nbR_to {W H cnt k own s o : Nat} {nr on : Nat → Int32} {u : Nat → Nat → Int32} (hL : lk_ok W H (W * H) nr) (hW : W ≤ 14) (hH : H ≤ 14) (hc : cnt ≤ 24) (hon : onV (W * H) cnt u on) (hk : k < cnt) (hpo : u k 3 = nI own) (ho : own < W * H) (hs : s < 8) (ho9 : o < cnt) (h : nbR cnt nr on u k s = nI o) : ∃ q, q < W * H ∧ nbX nr own s = nI q ∧ u o 3 = nI q := by
  have h9 := fd_196 hW hH
  rw [nbR_own hk hpo] at h
  rcases nbX_val hL ho hW hH hs with e | ⟨q, hq, e⟩
  · rw [e] at h
    exact absurd h.symm (nI_m1 (by omega))
  · rw [e, cr_onI on (by omega)] at h
    rcases hon q hq with ⟨z, -⟩ | ⟨k9, a, b, c, -⟩
    · rw [z] at h
      exact absurd h.symm (nI_m1 (by omega))
    · rw [b] at h
      have : k9 = o := (nI_eq (by omega) (by omega)).mp h
      subst this
      exact ⟨q, hq, e, c⟩
theorem jE_sy {W H cnt : Nat} {pa : Int32} {nr on : Nat → Int32} {u : Nat → Nat → Int32} (hL : lk_ok W H (W * H) nr) (hW : W ≤ 14) (hH : H ≤ 14) (hc : cnt ≤ 24) (hon : onV (W * H) cnt u on) (hv : hvX (nI (W * H)) cnt u) (a b : Nat) (e : jE (jbR cnt pa u) (nbR cnt nr on u) a b) : jE (jbR cnt pa u) (nbR cnt nr on u) b a := by
  have h9 := fd_196 hW hH
  obtain ⟨e1, e2, s, hs, e3⟩ := e
  obtain ⟨a1, a2, -⟩ := of_decide_eq_true e1
  obtain ⟨b1, b2, -⟩ := of_decide_eq_true e2
  obtain ⟨p, hp, ep⟩ := pos_of hW hH hv a1 a2
  obtain ⟨q, hq, eq1, eq2⟩ := nbR_to hL hW hH hc hon a1 ep hp (by omega) b1 e3
  refine ⟨e2, e1, (s + 2) % 4, by omega, ?_⟩
  rw [nbR_own b1 eq2, nbX_opp hL hW hH hp hq hs eq1, cr_onI on (by omega)]
  exact hon.hit hp a1 ep
theorem jbR_lt {cnt : Nat} {pa : Int32} {u : Nat → Nat → Int32} : ∀ o, jbR cnt pa u o = true → o < cnt := fun o h => (of_decide_eq_true h).1

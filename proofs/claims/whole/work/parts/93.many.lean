/-! numbers: heat is small; the first place of the greatest; what many tells of jams -/
def heB (M n : Nat) (ht : Nat → Int32) : Prop := ∀ f, f < n → ∃ h, h ≤ M ∧ ht f = nI h
theorem heB.mono {M M2 n : Nat} {ht : Nat → Int32} (h : heB M n ht) (e : M ≤ M2) : heB M2 n ht := fun f hf => by
  obtain ⟨v, h1, h2⟩ := h f hf
  exact ⟨v, by omega, h2⟩
theorem heB.gw {M n i : Nat} {fl : Int32} {cm u ht : Nat → Int32} (h : heB M n ht) : heB (M + 1) n (gwH fl cm i u ht) := by
  unfold gwH
  split
  · intro f hf
    unfold goH upd
    by_cases e : f = (u 10).toNatClampNeg
    · subst e
      obtain ⟨v, h1, h2⟩ := h _ hf
      exact ⟨v + 1, by omega, by rw [if_pos rfl, h2, nI_1]⟩
    · rw [if_neg e]
      exact h.mono (Nat.le_succ M) f hf
  · exact h.mono (Nat.le_succ M)
theorem heB.ho {M n cnt : Nat} {fl : Int32} {mk : Nat → Int32} {u : Nat → Nat → Int32} {tb sd tg ht on : Nat → Int32} (h : heB M n ht) : ∀ k, heB (M + k) n (hoX fl mk cnt u tb sd tg ht on k).1
  | 0 => h
  | k + 1 => (heB.ho h k).gw
theorem heB.step {M n cnt : Nat} {fl dr : Int32} {nr mk ds : Nat → Int32} {X : cX} (hc : cnt ≤ 24) (h : heB M n X.2.1) : heB (M + 24) n (stX1 fl nr mk ds cnt dr X).2.1 := (heB.ho h cnt).mono (by omega)
theorem heB.n {M n cnt : Nat} {fl dr : Int32} {nr mk ds : Nat → Int32} {X : cX} (hc : cnt ≤ 24) (h : heB M n X.2.1) : ∀ k, heB (M + 24 * k) n (stXn fl nr mk ds cnt dr X k).2.1
  | 0 => h
  | k + 1 => (heB.step hc (heB.n hc h k)).mono (by omega)
theorem mx_hx {f : Nat → Int32} {M : Nat} (hM : M < 1000000) : ∀ n, heB M (n + 1) f → mx f (n + 1) = f (hx f n) ∧ (∀ j, j ≤ n → f j ≤ f (hx f n)) ∧ ∀ j, j < hx f n → f j < f (hx f n)
  | 0, h => by
    obtain ⟨v, h1, h2⟩ := h 0 (by omega)
    refine ⟨?_, fun j hj => by rw [Nat.le_zero.mp hj]; exact Int32.le_refl _, fun j hj => absurd hj (Nat.not_lt_zero j)⟩
    show (if (-1 : Int32) < f 0 then f 0 else -1) = f 0
    rw [if_pos]
    rw [h2]
    exact Int32.lt_of_lt_of_le (by decide) (nI_pos' (by omega))
  | n + 1, h => by
    obtain ⟨a, b, c⟩ := mx_hx hM n (fun f9 h9 => h f9 (by omega))
    have e1 : mx f (n + 2) = if mx f (n + 1) < f (n + 1) then f (n + 1) else mx f (n + 1) := rfl
    have e2 : hx f (n + 1) = if f (hx f n) < f (n + 1) then n + 1 else hx f n := rfl
    rw [e1, a]
    by_cases hl : f (hx f n) < f (n + 1)
    · rw [e2, if_pos hl, if_pos hl]
      refine ⟨rfl, fun j hj => ?_, fun j hj => Int32.lt_of_le_of_lt (b j (by omega)) hl⟩
      by_cases e : j = n + 1
      · rw [e]; exact Int32.le_refl _
      · exact Int32.le_of_lt (Int32.lt_of_le_of_lt (b j (by omega)) hl)
    · rw [e2, if_neg hl, if_neg hl]
      refine ⟨rfl, fun j hj => ?_, c⟩
      by_cases e : j = n + 1
      · rw [e]; exact Int32.not_lt.mp hl
      · exact b j (by omega)
/-- what the model's row of jams holds -/
def jF (jb : Nat → Bool) (L : Nat → Nat) (cnt : Nat) (f : Nat → Int32) : Prop := ∀ k, k < cnt → f k = if jb k = true then nI (L k) else -1
theorem jF.at {jb : Nat → Bool} {nb : Nat → Nat → Int32} {L : Nat → Nat} {cnt : Nat} {f : Nat → Int32} (hc : cnt ≤ 24) (hjb : ∀ o, jb o = true → o < cnt) (hL : jL jb nb L) (h : jF jb L cnt f) {k v : Nat} (hk : k < cnt) (hv : v < 1000) : f k = nI v ↔ jb k = true ∧ L k = v := by
  rw [h k hk]
  by_cases e : jb k = true
  · rw [if_pos e]
    have := (hL.1 k e).1
    rw [nI_eq (by omega) (by omega)]
    exact ⟨fun z => ⟨e, z⟩, fun z => z.2⟩
  · rw [if_neg e]
    exact ⟨fun z => absurd z.symm (nI_m1 (by omega)), fun z => absurd z.1 e⟩
theorem jF.no {jb : Nat → Bool} {nb : Nat → Nat → Int32} {L : Nat → Nat} {cnt : Nat} {f : Nat → Int32} (hc : cnt ≤ 24) (hL : jL jb nb L) (h : jF jb L cnt f) {k : Nat} (hk : k < cnt) : f k = -1 ↔ ¬ jb k = true := by
  rw [h k hk]
  by_cases e : jb k = true
  · rw [if_pos e]
    have := (hL.1 k e).1
    exact ⟨fun z => absurd z (nI_m1 (by omega)), fun z => absurd e z⟩
  · rw [if_neg e]
    exact ⟨fun _ => e, fun _ => rfl⟩
theorem jm_szI {jo sz : Nat → Int32} {k c : Nat} (hk : k < 24) (hc : c < 24) (h : jo k = nI c) : jm_sz jo sz (nI k) = sz c := by
  unfold jm_sz
  rw [if_pos ⟨nI_pos' (by omega), show nI k < nI 24 from nI_lt (by omega) (by omega)⟩, nI_clamp (n := k) (by omega), h, if_pos ⟨nI_pos' (by omega), show nI c < nI 24 from nI_lt (by omega) (by omega)⟩, nI_clamp (n := c) (by omega)]
theorem jm_szN {jo sz : Nat → Int32} {k : Nat} (hk : k < 24) (h : jo k = -1) : jm_sz jo sz (nI k) = 0 := by
  unfold jm_sz
  rw [if_pos ⟨nI_pos' (by omega), show nI k < nI 24 from nI_lt (by omega) (by omega)⟩, nI_clamp (n := k) (by omega), h, if_neg (fun z => absurd z.1 (by decide))]
theorem ct_mono {p : Nat → Bool} {a b : Nat} (h : a ≤ b) : ct p a ≤ ct p b := by
  induction b with
  | zero => rw [Nat.le_zero.mp h]; exact Nat.le_refl _
  | succ b ih =>
    rcases Nat.lt_or_eq_of_le h with h9 | h9
    · have := ih (by omega)
      show _ ≤ ct p b + _
      omega
    · rw [h9]; exact Nat.le_refl _
theorem jam_sz {jb : Nat → Bool} {nb : Nat → Nat → Int32} {L : Nat → Nat} {cnt k : Nat} {f : Nat → Int32} (hc : cnt ≤ 24) (hjb : ∀ o, jb o = true → o < cnt) (hL : jL jb nb L) (h : jF jb L cnt f) (hk : k < cnt) : (if f k = -1 then 0 else nI (ct (fun j => decide (f j = f k)) cnt)) = jm_sz (fdX jb nb cnt).1 (fdX jb nb cnt).2.1 (nI k) := by
  obtain ⟨f1, f2, f3, f4, f5⟩ := fdX_L hc hjb hL cnt (Nat.le_refl cnt)
  by_cases e : jb k = true
  · have hk1 := hL.1 k e
    have hr : jRt jb L (L k) = true := decide_eq_true ⟨hk1.2.1, hL.idem e⟩
    have hcl : ct (jRt jb L) (L k) ≤ L k := ct_le _ _
    have e1 : (fdX jb nb cnt).1 k = nI (ct (jRt jb L) (L k)) := by
      rw [f1]; exact if_pos ⟨e, by omega⟩
    rw [if_neg (fun z => (h.no hc hL hk).mp z e), jm_szI (by omega) (by omega) e1, f4 (L k) (by omega) hr]
    congr 1
    refine ct_congr (fun j hj => ba ?_)
    unfold jIn
    rw [decide_eq_true_eq, decide_eq_true_eq, (h.at hc hjb hL hk (v := L k) (by omega)).mpr ⟨e, rfl⟩]
    exact h.at hc hjb hL hj (by omega)
  · rw [if_pos ((h.no hc hL hk).mpr e), jm_szN (by omega)]
    rw [f1]
    exact if_neg (fun z => e z.1)
theorem ct_all {p : Nat → Bool} : ∀ {n : Nat}, (∀ i, i < n → p i = true) → ct p n = n
  | 0, _ => rfl
  | n + 1, h => by
    show ct p n + _ = n + 1
    rw [ct_all (fun i hi => h i (by omega)), h n (by omega)]
    rfl
theorem jam_3 {jb : Nat → Bool} {nb : Nat → Nat → Int32} {L : Nat → Nat} {cnt : Nat} {f : Nat → Int32} (hc : cnt ≤ 24) (hjb : ∀ o, jb o = true → o < cnt) (hL : jL jb nb L) (h : jF jb L cnt f) : nI cnt - nI (ct (fun j => decide (f j = -1)) cnt) = (fdX jb nb cnt).2.2.2 := by
  obtain ⟨f1, f2, f3, f4, f5⟩ := fdX_L hc hjb hL cnt (Nat.le_refl cnt)
  rw [f3, nI_sub (by omega) (ct_le _ _)]
  congr 1
  have e : ct (fun _ => true) cnt = ct (jLt jb L cnt) cnt + ct (fun j => decide (f j = -1)) cnt := ct_or (fun k hk => by
    have h1 := h.no hc hL hk
    unfold jLt
    by_cases e : jb k = true
    · have := (hL.1 k e).1
      have e1 : decide (jb k = true ∧ L k < cnt) = true := decide_eq_true ⟨e, by omega⟩
      have e2 : decide (f k = -1) = false := decide_eq_false (fun z => h1.mp z e)
      rw [e1, e2]; exact ⟨rfl, rfl⟩
    · have e1 : decide (jb k = true ∧ L k < cnt) = false := decide_eq_false (fun z => e z.1)
      have e2 : decide (f k = -1) = true := decide_eq_true (h1.mpr e)
      rw [e1, e2]; exact ⟨rfl, rfl⟩)
  rw [ct_all (fun _ _ => rfl)] at e
  omega
theorem jam_4 {jb : Nat → Bool} {nb : Nat → Nat → Int32} {L : Nat → Nat} {cnt : Nat} {f : Nat → Int32} (hc : cnt ≤ 24) (hjb : ∀ o, jb o = true → o < cnt) (hL : jL jb nb L) (h : jF jb L cnt f) : ct (fun k => decide (f k = nI k)) cnt = (fdX jb nb cnt).2.2.1 := by
  obtain ⟨f1, f2, f3, f4, f5⟩ := fdX_L hc hjb hL cnt (Nat.le_refl cnt)
  rw [f2]
  refine ct_congr (fun k hk => ba ?_)
  unfold jRt
  rw [decide_eq_true_eq, decide_eq_true_eq]
  exact h.at hc hjb hL hk (by omega)
/-- the greatest count -/
def mxc (f : Nat → Int32) (cnt : Nat) : Nat → Int32
  | 0 => 0
  | k + 1 => if mxc f cnt k < nI (ct (fun j => decide (f j = nI k)) cnt) then nI (ct (fun j => decide (f j = nI k)) cnt) else mxc f cnt k
theorem mxc_e {jb : Nat → Bool} {nb : Nat → Nat → Int32} {L : Nat → Nat} {cnt : Nat} {f : Nat → Int32} (hc : cnt ≤ 24) (hjb : ∀ o, jb o = true → o < cnt) (hL : jL jb nb L) (h : jF jb L cnt f) : ∀ k, k ≤ cnt → mxc f cnt k = jMx jb L cnt k
  | 0, _ => rfl
  | k + 1, hk => by
    have e : ct (fun j => decide (f j = nI k)) cnt = ct (jIn jb L k) cnt := ct_congr (fun j hj => ba (by
      unfold jIn
      rw [decide_eq_true_eq, decide_eq_true_eq]
      exact h.at hc hjb hL hj (by omega)))
    show (if mxc f cnt k < nI (ct (fun j => decide (f j = nI k)) cnt) then nI (ct (fun j => decide (f j = nI k)) cnt) else mxc f cnt k) = (if jMx jb L cnt k < nI (ct (jIn jb L k) cnt) then nI (ct (jIn jb L k) cnt) else jMx jb L cnt k)
    rw [e, mxc_e hc hjb hL h k (by omega)]
theorem jam_5 {jb : Nat → Bool} {nb : Nat → Nat → Int32} {L : Nat → Nat} {cnt : Nat} {f : Nat → Int32} (hc : cnt ≤ 24) (hjb : ∀ o, jb o = true → o < cnt) (hL : jL jb nb L) (h : jF jb L cnt f) : mxc f cnt cnt = mx0 (fdX jb nb cnt).2.1 (fdX jb nb cnt).2.2.1 := by
  obtain ⟨f1, f2, f3, f4, f5⟩ := fdX_L hc hjb hL cnt (Nat.le_refl cnt)
  rw [mxc_e hc hjb hL h cnt (Nat.le_refl cnt), ← f5, f2]
theorem jam_none {nb : Nat → Nat → Int32} {L : Nat → Nat} {cnt : Nat} {pa : Int32} {u : Nat → Nat → Int32} {f : Nat → Int32} (hc : cnt ≤ 24) (hL : jL (jbR cnt pa u) nb L) (h : jF (jbR cnt pa u) L cnt f) : nI (ct (fun j => decide (f j = -1)) cnt) = nI cnt ↔ ¬ an (fun j => decide (pJam pa (u j))) cnt = true := by
  have h1 := ct_le (fun j => decide (f j = -1)) cnt
  rw [nI_eq (by omega) (by omega), an_iff]
  constructor
  · rintro e ⟨i, hi, z⟩
    have z2 := of_decide_eq_true z
    have h2 := ct_lt (p := fun j => decide (f j = -1)) (j := i) (decide_eq_false (fun z3 => (h.no hc hL hi).mp z3 (decide_eq_true ⟨hi, z2⟩))) hi
    omega
  · intro e
    exact ct_all (fun i hi => decide_eq_true ((h.no hc hL hi).mpr (fun z => e ⟨i, hi, decide_eq_true (of_decide_eq_true z).2⟩)))

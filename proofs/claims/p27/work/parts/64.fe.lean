/-! Flock and its square side by side -/
theorem xs_at.cx {G G1 : ms_H} {x g q c j q2 c2 W H cnt : Nat} {nr wl mk ds : Nat → Int32} {dr pa : Int32} {X : cX} (ho : ox x g q c j q2 c2) (hS : xs_at G x g q c j q2 c2 W H nr wl mk ds cnt dr pa X) (hF : ∀ a, x ≤ a → a < c2 + 29 → G1 a = G a) : xs_at G1 x g q c j q2 c2 W H nr wl mk ds cnt dr pa X := by
  obtain ⟨o1, o2, o3, o4, o5, o6⟩ := ho
  obtain ⟨h1, h2, ⟨qu, h3⟩, ⟨hd, cm, wk, h4, h4b⟩, ⟨cn, wi, jo, sz, qj, h5⟩, ⟨wl2, mk2, ds2, qu2, h6⟩, ⟨hd2, on2, ht2, cm2, wk2, h7⟩⟩ := hS
  have sqc : ∀ {q9 : Nat} {a b d e : Nat → Int32}, x ≤ q9 → q9 + 4 < c2 + 29 → sq_at G g q9 a b d e → sq_at G1 g q9 a b d e := fun u1 u2 h => ⟨(hF _ u1 (by omega)).trans h.1, (hF _ (by omega) (by omega)).trans h.2.1, (hF _ (by omega) (by omega)).trans h.2.2.1, (hF _ (by omega) (by omega)).trans h.2.2.2.1, (hF _ (by omega) (by omega)).trans h.2.2.2.2⟩
  have crc : ∀ {q9 c9 : Nat} {a b d e : Nat → Int32} {wk : Nat → Nat → Int32}, x ≤ c9 → c9 + 28 < c2 + 29 → cr_at G g q9 c9 a b d e wk → cr_at G1 g q9 c9 a b d e wk := fun u1 u2 h => by
    obtain ⟨a1, ⟨f, a2, a3⟩, a4, a5, a6, a7⟩ := h
    exact ⟨(hF _ u1 (by omega)).trans a1, ⟨f, a2, (hF _ (by omega) (by omega)).trans a3⟩, (hF _ (by omega) (by omega)).trans a4, (hF _ (by omega) (by omega)).trans a5, (hF _ (by omega) (by omega)).trans a6, fun i hi => (hF _ (by omega) (by omega)).trans (a7 i hi)⟩
  refine ⟨(hF x (Nat.le_refl x) (by omega)).trans h1, ⟨(hF g (by omega) (by omega)).trans h2.1, (hF (g + 1) (by omega) (by omega)).trans h2.2⟩, ⟨qu, sqc (by omega) (by omega) h3⟩, ⟨hd, cm, wk, crc (by omega) (by omega) h4, h4b⟩, ⟨cn, wi, jo, sz, qj, ⟨(hF j (by omega) (by omega)).trans h5.1, (hF (j + 1) (by omega) (by omega)).trans h5.2.1, (hF (j + 2) (by omega) (by omega)).trans h5.2.2.1, (hF (j + 3) (by omega) (by omega)).trans h5.2.2.2⟩⟩, ⟨wl2, mk2, ds2, qu2, sqc (by omega) (by omega) h6⟩, ⟨hd2, on2, ht2, cm2, wk2, crc (by omega) (by omega) h7⟩⟩
theorem xq_P.val {n n1 : Nat} {G G1 : ms_H} {th : Option String} {v : Value} {v9 : Option Value} {Q : ms_H → Prop} (h : xq_P n G th v Q (.inl v9) n1 G1) : th = none ∧ v9 = some v ∧ Q G1 ∧ n ≤ n1 := by
  obtain ⟨h1, h2⟩ := h
  cases th with
  | none =>
    obtain ⟨h3, h4⟩ := h2
    cases h3
    exact ⟨rfl, rfl, h4, h1⟩
  | some e =>
    obtain ⟨h3, -⟩ := h2
    cases h3
theorem xq_P.thw {n n1 : Nat} {G G1 : ms_H} {th : Option String} {v : Value} {E : String} {Q : ms_H → Prop} (h : xq_P n G th v Q (.inr E) n1 G1) : th = some E ∧ G1 = G ∧ n ≤ n1 := by
  obtain ⟨h1, h2⟩ := h
  cases th with
  | none =>
    obtain ⟨h3, -⟩ := h2
    cases h3
  | some e =>
    obtain ⟨h3, h4⟩ := h2
    cases h3
    exact ⟨rfl, h4, h1⟩
theorem fk_at.cf {G G1 : ms_H} {n o x sb fa wa W H cnt c2 : Nat} {dw cl dr pa : Int32} {wr : Nat → Nat} {fv u : Nat → Nat → Int32} (hM : fk_at G o x sb dw W H cl dr pa fa wa cnt wr fv u) (ly : fk_ly o fa W H wa cnt wr) (hW0 : 0 < W) (hox : o < x) (hcf : c2 + 29 ≤ fa) (hF : ms_fr x (c2 + 29 - x) G G1) : fk_at G1 o x sb dw W H cl dr pa fa wa cnt wr fv u := by
  obtain ⟨y1, y2, y3⟩ := ly
  have had := ad_fa (fa := fa) (H := H) (i := W)
  exact ⟨(hF o (by omega)).trans hM.1, hM.2.1.fr (fun a h1 h2 => hF a (by omega)) hW0, hM.2.2.fr (hF wa (by omega)) (fun k hk => hF _ (by have := y3 k hk; omega))⟩
/-- both sides hold the same square -/
def fS (o x g q c j q2 c2 sb n d t : Nat) (G : ms_H) (W H cnt fa wa : Nat) (dr pa : Int32) (X : cX) (nr wl mk ds : Nat → Int32) (wr : Nat → Nat) (fv : Nat → Nat → Int32) : Prop :=
  xs_at G x g q c j q2 c2 W H nr wl mk ds cnt dr pa X ∧ fk_at G o x sb (nI d) W H X.2.2.2 dr pa fa wa cnt wr fv X.1 ∧ fk_lt n o fa W H wa cnt wr ∧ fk_ly o fa W H wa cnt wr ∧ c2 + 29 ≤ fa ∧ fK W H cnt t dr pa X nr wl mk ds fv
def fE (o x g q c j q2 c2 sb n d t : Nat) (G : ms_H) : Prop := ∃ (W H cnt fa wa : Nat) (dr pa : Int32) (X : cX) (nr wl mk ds : Nat → Int32) (wr : Nat → Nat) (fv : Nat → Nat → Int32), fS o x g q c j q2 c2 sb n d t G W H cnt fa wa dr pa X nr wl mk ds wr fv
/-- what an act ends with -/
def fe_P (o x g q c j q2 c2 sb n d t : Nat) : ms_P := fun r n1 G1 => r = .inl (some (.int 1)) ∧ n ≤ n1 ∧ ∃ d1 t1, d ≤ d1 ∧ d1 ≤ d + 8 ∧ t ≤ t1 ∧ t1 ≤ t + 3 ∧ fE o x g q c j q2 c2 sb n1 d1 t1 G1

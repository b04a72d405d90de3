/-! what a store leaves as it is: the pictures behind it -/
def ms_fr (lo len : Nat) (G G1 : ms_H) : Prop := ∀ a, ¬ (lo ≤ a ∧ a < lo + len) → G1 a = G a
theorem ms_fr.rf {lo len : Nat} {G : ms_H} : ms_fr lo len G G := fun _ _ => rfl
theorem ms_fr.up {lo len a : Nat} {G G1 : ms_H} {x : ms_E} (h : ms_fr lo len G G1) (ha : lo ≤ a ∧ a < lo + len) : ms_fr lo len G (ms_up G1 a x) := fun b hb => by
  have : b ≠ a := fun e => hb (e ▸ ha)
  rw [ms_up_n _ _ this]
  exact h b hb
theorem ms_fr.trans {lo len : Nat} {G G1 G2 : ms_H} (h : ms_fr lo len G G1) (h2 : ms_fr lo len G1 G2) : ms_fr lo len G G2 := fun b hb => (h2 b hb).trans (h b hb)
theorem ms_fr.mono {lo len lo2 len2 : Nat} {G G1 : ms_H} (h : ms_fr lo len G G1) (h1 : lo2 ≤ lo) (h2 : lo + len ≤ lo2 + len2) : ms_fr lo2 len2 G G1 := fun b hb => h b (fun z => hb ⟨by omega, by omega⟩)
theorem gr_at.fr {G G1 : ms_H} {g lo len : Nat} {fl w h : Int32} {nr : Nat → Int32} (hG : gr_at G g fl w h nr) (f : ms_fr lo len G G1) (hd : g + 1 < lo ∨ lo + len ≤ g) : gr_at G1 g fl w h nr := ⟨(f g (by omega)).trans hG.1, (f (g + 1) (by omega)).trans hG.2⟩
theorem sq_at.fr {G G1 : ms_H} {g q lo len : Nat} {wl mk ds qu : Nat → Int32} (hQ : sq_at G g q wl mk ds qu) (f : ms_fr lo len G G1) (hd : q + 4 < lo ∨ lo + len ≤ q) : sq_at G1 g q wl mk ds qu := ⟨(f q (by omega)).trans hQ.1, (f (q + 1) (by omega)).trans hQ.2.1, (f (q + 2) (by omega)).trans hQ.2.2.1, (f (q + 3) (by omega)).trans hQ.2.2.2.1, (f (q + 4) (by omega)).trans hQ.2.2.2.2⟩
theorem cr_at.fr {G G1 : ms_H} {g q c lo len : Nat} {hd on ht cm : Nat → Int32} {wk : Nat → Nat → Int32} (hC : cr_at G g q c hd on ht cm wk) (f : ms_fr lo len G G1) (hd9 : c + 28 < lo ∨ lo + len ≤ c) : cr_at G1 g q c hd on ht cm wk := by
  obtain ⟨h1, ⟨fw, h2, h3⟩, h4, h5, h6, h7⟩ := hC
  exact ⟨(f c (by omega)).trans h1, ⟨fw, h2, (f (c + 1) (by omega)).trans h3⟩, (f (c + 2) (by omega)).trans h4, (f (c + 3) (by omega)).trans h5, (f (c + 4) (by omega)).trans h6, fun i hi => (f (c + 5 + i) (by omega)).trans (h7 i hi)⟩
theorem jm_at.fr {G G1 : ms_H} {j lo len : Nat} {cn wi : Int32} {jo sz qu : Nat → Int32} (hJ : jm_at G j cn wi jo sz qu) (f : ms_fr lo len G G1) (hd : j + 3 < lo ∨ lo + len ≤ j) : jm_at G1 j cn wi jo sz qu := ⟨(f j (by omega)).trans hJ.1, (f (j + 1) (by omega)).trans hJ.2.1, (f (j + 2) (by omega)).trans hJ.2.2.1, (f (j + 3) (by omega)).trans hJ.2.2.2⟩
theorem ms_fr.one {a lo len : Nat} {G : ms_H} {x : ms_E} (h : lo ≤ a ∧ a < lo + len) : ms_fr lo len G (ms_up G a x) := ms_fr.rf.up h
theorem gr_at.up {G : ms_H} {g a : Nat} {fl w h : Int32} {nr : Nat → Int32} {x : ms_E} (hG : gr_at G g fl w h nr) (hd : g + 1 < a ∨ a < g) : gr_at (ms_up G a x) g fl w h nr := hG.fr (lo := a) (len := 1) (ms_fr.one ⟨by omega, by omega⟩) (by omega)
theorem sq_at.up {G : ms_H} {g q a : Nat} {wl mk ds qu : Nat → Int32} {x : ms_E} (hQ : sq_at G g q wl mk ds qu) (hd : q + 4 < a ∨ a < q) : sq_at (ms_up G a x) g q wl mk ds qu := hQ.fr (lo := a) (len := 1) (ms_fr.one ⟨by omega, by omega⟩) (by omega)
theorem cr_at.up {G : ms_H} {g q c a : Nat} {hd on ht cm : Nat → Int32} {wk : Nat → Nat → Int32} {x : ms_E} (hC : cr_at G g q c hd on ht cm wk) (hd9 : c + 28 < a ∨ a < c) : cr_at (ms_up G a x) g q c hd on ht cm wk := hC.fr (lo := a) (len := 1) (ms_fr.one ⟨by omega, by omega⟩) (by omega)
theorem jm_at.up {G : ms_H} {j a : Nat} {cn wi : Int32} {jo sz qu : Nat → Int32} {x : ms_E} (hJ : jm_at G j cn wi jo sz qu) (hd : j + 3 < a ∨ a < j) : jm_at (ms_up G a x) j cn wi jo sz qu := hJ.fr (lo := a) (len := 1) (ms_fr.one ⟨by omega, by omega⟩) (by omega)
section UPS
variable {G : ms_H} {g q c j : Nat} {fl w h : Int32} {nr wl mk ds qu hd on ht cm jo sz : Nat → Int32} {wk : Nat → Nat → Int32} {cn wi : Int32}
theorem gr_at.s_ob (hG : gr_at G g fl w h nr) (a b e : Int32) : gr_at (ms_up G g (.inr (1, [.int a, .int b, .int e, .ref (g + 1)]))) g a b e nr := ⟨ms_up_s _ _ _, (ms_up_n _ _ (by omega)).trans hG.2⟩
theorem gr_at.s_nr (hG : gr_at G g fl w h nr) (f : Nat → Int32) : gr_at (ms_up G (g + 1) (.inl (0, 1568, .inl f))) g fl w h f := ⟨(ms_up_n _ _ (by omega)).trans hG.1, ms_up_s _ _ _⟩
theorem sq_at.s_wl (hQ : sq_at G g q wl mk ds qu) (f : Nat → Int32) : sq_at (ms_up G (q + 1) (.inl (0, 196, .inl f))) g q f mk ds qu := ⟨(ms_up_n _ _ (by omega)).trans hQ.1, ms_up_s _ _ _, (ms_up_n _ _ (by omega)).trans hQ.2.2.1, (ms_up_n _ _ (by omega)).trans hQ.2.2.2.1, (ms_up_n _ _ (by omega)).trans hQ.2.2.2.2⟩
theorem sq_at.s_mk (hQ : sq_at G g q wl mk ds qu) (f : Nat → Int32) : sq_at (ms_up G (q + 2) (.inl (0, 196, .inl f))) g q wl f ds qu := ⟨(ms_up_n _ _ (by omega)).trans hQ.1, (ms_up_n _ _ (by omega)).trans hQ.2.1, ms_up_s _ _ _, (ms_up_n _ _ (by omega)).trans hQ.2.2.2.1, (ms_up_n _ _ (by omega)).trans hQ.2.2.2.2⟩
theorem sq_at.s_ds (hQ : sq_at G g q wl mk ds qu) (f : Nat → Int32) : sq_at (ms_up G (q + 3) (.inl (0, 784, .inl f))) g q wl mk f qu := ⟨(ms_up_n _ _ (by omega)).trans hQ.1, (ms_up_n _ _ (by omega)).trans hQ.2.1, (ms_up_n _ _ (by omega)).trans hQ.2.2.1, ms_up_s _ _ _, (ms_up_n _ _ (by omega)).trans hQ.2.2.2.2⟩
theorem sq_at.s_qu (hQ : sq_at G g q wl mk ds qu) (f : Nat → Int32) : sq_at (ms_up G (q + 4) (.inl (0, 196, .inl f))) g q wl mk ds f := ⟨(ms_up_n _ _ (by omega)).trans hQ.1, (ms_up_n _ _ (by omega)).trans hQ.2.1, (ms_up_n _ _ (by omega)).trans hQ.2.2.1, (ms_up_n _ _ (by omega)).trans hQ.2.2.2.1, ms_up_s _ _ _⟩
/-- four numbers as a row -/
def h4 (a b e f : Int32) : Nat → Int32
  | 0 => a
  | 1 => b
  | 2 => e
  | _ => f
theorem h4_id (x : Nat → Int32) : ∀ k, k < 4 → h4 (x 0) (x 1) (x 2) (x 3) k = x k
  | 0, _ => rfl
  | 1, _ => rfl
  | 2, _ => rfl
  | 3, _ => rfl
  | k + 4, h => absurd h (by omega)
theorem cr_at.s_hd (hC : cr_at G g q c hd on ht cm wk) (a b e f : Int32) : cr_at (ms_up G c (.inr (0, [.int a, .int b, .int e, .int f, .ref g, .ref q, .ref (c + 1), .ref (c + 2), .ref (c + 3), .ref (c + 4)]))) g q c (h4 a b e f) on ht cm wk := by
  obtain ⟨h1, ⟨fw, h2, h3⟩, h4', h5, h6, h7⟩ := hC
  exact ⟨ms_up_s _ _ _, ⟨fw, h2, (ms_up_n _ _ (by omega)).trans h3⟩, (ms_up_n _ _ (by omega)).trans h4', (ms_up_n _ _ (by omega)).trans h5, (ms_up_n _ _ (by omega)).trans h6, fun i hi => (ms_up_n _ _ (by omega)).trans (h7 i hi)⟩
theorem cr_at.s_on (hC : cr_at G g q c hd on ht cm wk) (f : Nat → Int32) : cr_at (ms_up G (c + 2) (.inl (0, 196, .inl f))) g q c hd f ht cm wk := by
  obtain ⟨h1, ⟨fw, h2, h3⟩, h4', h5, h6, h7⟩ := hC
  exact ⟨(ms_up_n _ _ (by omega)).trans h1, ⟨fw, h2, (ms_up_n _ _ (by omega)).trans h3⟩, ms_up_s _ _ _, (ms_up_n _ _ (by omega)).trans h5, (ms_up_n _ _ (by omega)).trans h6, fun i hi => (ms_up_n _ _ (by omega)).trans (h7 i hi)⟩
theorem cr_at.s_ht (hC : cr_at G g q c hd on ht cm wk) (f : Nat → Int32) : cr_at (ms_up G (c + 3) (.inl (0, 196, .inl f))) g q c hd on f cm wk := by
  obtain ⟨h1, ⟨fw, h2, h3⟩, h4', h5, h6, h7⟩ := hC
  exact ⟨(ms_up_n _ _ (by omega)).trans h1, ⟨fw, h2, (ms_up_n _ _ (by omega)).trans h3⟩, (ms_up_n _ _ (by omega)).trans h4', ms_up_s _ _ _, (ms_up_n _ _ (by omega)).trans h6, fun i hi => (ms_up_n _ _ (by omega)).trans (h7 i hi)⟩
theorem cr_at.s_cm (hC : cr_at G g q c hd on ht cm wk) (f : Nat → Int32) : cr_at (ms_up G (c + 4) (.inl (0, 196, .inl f))) g q c hd on ht f wk := by
  obtain ⟨h1, ⟨fw, h2, h3⟩, h4', h5, h6, h7⟩ := hC
  exact ⟨(ms_up_n _ _ (by omega)).trans h1, ⟨fw, h2, (ms_up_n _ _ (by omega)).trans h3⟩, (ms_up_n _ _ (by omega)).trans h4', (ms_up_n _ _ (by omega)).trans h5, ms_up_s _ _ _, fun i hi => (ms_up_n _ _ (by omega)).trans (h7 i hi)⟩
theorem cr_at.s_wk (hC : cr_at G g q c hd on ht cm wk) {i : Nat} (hi : i < 24) (u : Nat → Int32) : cr_at (ms_up G (c + 5 + i) (.inr (4, cr_w u))) g q c hd on ht cm (va_up wk i u) := by
  obtain ⟨h1, ⟨fw, h2, h3⟩, h4', h5, h6, h7⟩ := hC
  refine ⟨(ms_up_n _ _ (by omega)).trans h1, ⟨fw, h2, (ms_up_n _ _ (by omega)).trans h3⟩, (ms_up_n _ _ (by omega)).trans h4', (ms_up_n _ _ (by omega)).trans h5, (ms_up_n _ _ (by omega)).trans h6, fun k hk => ?_⟩
  by_cases e : k = i
  · subst e
    rw [ms_up_s]
    simp [va_up]
  · rw [ms_up_n _ _ (by omega)]
    simp [va_up, e, h7 k hk]
theorem jm_at.s_ob (hJ : jm_at G j cn wi jo sz qu) (a b : Int32) : jm_at (ms_up G j (.inr (2, [.int a, .int b, .ref (j + 1), .ref (j + 2), .ref (j + 3)]))) j a b jo sz qu := ⟨ms_up_s _ _ _, (ms_up_n _ _ (by omega)).trans hJ.2.1, (ms_up_n _ _ (by omega)).trans hJ.2.2.1, (ms_up_n _ _ (by omega)).trans hJ.2.2.2⟩
theorem jm_at.s_jo (hJ : jm_at G j cn wi jo sz qu) (f : Nat → Int32) : jm_at (ms_up G (j + 1) (.inl (0, 24, .inl f))) j cn wi f sz qu := ⟨(ms_up_n _ _ (by omega)).trans hJ.1, ms_up_s _ _ _, (ms_up_n _ _ (by omega)).trans hJ.2.2.1, (ms_up_n _ _ (by omega)).trans hJ.2.2.2⟩
theorem jm_at.s_sz (hJ : jm_at G j cn wi jo sz qu) (f : Nat → Int32) : jm_at (ms_up G (j + 2) (.inl (0, 24, .inl f))) j cn wi jo f qu := ⟨(ms_up_n _ _ (by omega)).trans hJ.1, (ms_up_n _ _ (by omega)).trans hJ.2.1, ms_up_s _ _ _, (ms_up_n _ _ (by omega)).trans hJ.2.2.2⟩
theorem jm_at.s_qu (hJ : jm_at G j cn wi jo sz qu) (f : Nat → Int32) : jm_at (ms_up G (j + 3) (.inl (0, 24, .inl f))) j cn wi jo sz f := ⟨(ms_up_n _ _ (by omega)).trans hJ.1, (ms_up_n _ _ (by omega)).trans hJ.2.1, (ms_up_n _ _ (by omega)).trans hJ.2.2.1, ms_up_s _ _ _⟩
end UPS

/-! the law: what both sides hold; a wrapper's end -/
theorem gr_at.co {G G1 : ms_H} {g b : Nat} {fl w h : Int32} {nr : Nat → Int32} (hG : gr_at G g fl w h nr) (hF : ∀ a, a < b → G1 a = G a) (hb : g + 1 < b) : gr_at G1 g fl w h nr := ⟨(hF g (by omega)).trans hG.1, (hF (g + 1) hb).trans hG.2⟩
theorem sq_at.co {G G1 : ms_H} {g q b : Nat} {wl mk ds qu : Nat → Int32} (hQ : sq_at G g q wl mk ds qu) (hF : ∀ a, a < b → G1 a = G a) (hb : q + 4 < b) : sq_at G1 g q wl mk ds qu := ⟨(hF q (by omega)).trans hQ.1, (hF (q + 1) (by omega)).trans hQ.2.1, (hF (q + 2) (by omega)).trans hQ.2.2.1, (hF (q + 3) (by omega)).trans hQ.2.2.2.1, (hF (q + 4) hb).trans hQ.2.2.2.2⟩
theorem cr_at.co {G G1 : ms_H} {g q c b : Nat} {hd on ht cm : Nat → Int32} {wk : Nat → Nat → Int32} (hC : cr_at G g q c hd on ht cm wk) (hF : ∀ a, a < b → G1 a = G a) (hb : c + 28 < b) : cr_at G1 g q c hd on ht cm wk := by
  obtain ⟨h1, ⟨f, h2, h3⟩, h4, h5, h6, h7⟩ := hC
  exact ⟨(hF c (by omega)).trans h1, ⟨f, h2, (hF (c + 1) (by omega)).trans h3⟩, (hF (c + 2) (by omega)).trans h4, (hF (c + 3) (by omega)).trans h5, (hF (c + 4) (by omega)).trans h6, fun i hi => (hF (c + 5 + i) (by omega)).trans (h7 i hi)⟩
theorem jm_at.co {G G1 : ms_H} {j b : Nat} {cn wi : Int32} {jo sz qu : Nat → Int32} (hJ : jm_at G j cn wi jo sz qu) (hF : ∀ a, a < b → G1 a = G a) (hb : j + 3 < b) : jm_at G1 j cn wi jo sz qu := ⟨(hF j (by omega)).trans hJ.1, (hF (j + 1) (by omega)).trans hJ.2.1, (hF (j + 2) (by omega)).trans hJ.2.2.1, (hF (j + 3) hb).trans hJ.2.2.2⟩
theorem xs_at.co {G G1 : ms_H} {x g q c j q2 c2 W H cnt : Nat} {nr wl mk ds : Nat → Int32} {dr pa : Int32} {X : cX} (ho : ox x g q c j q2 c2) (hS : xs_at G x g q c j q2 c2 W H nr wl mk ds cnt dr pa X) (hF : ∀ a, a < c2 + 29 → G1 a = G a) : xs_at G1 x g q c j q2 c2 W H nr wl mk ds cnt dr pa X := by
  obtain ⟨o1, o2, o3, o4, o5, o6⟩ := ho
  obtain ⟨h1, h2, ⟨qu, h3⟩, ⟨hd, cm, wk, h4, h4b⟩, ⟨cn, wi, jo, sz, qj, h5⟩, ⟨wl2, mk2, ds2, qu2, h6⟩, ⟨hd2, on2, ht2, cm2, wk2, h7⟩⟩ := hS
  exact ⟨(hF x (by omega)).trans h1, h2.co hF (by omega), ⟨qu, h3.co hF (by omega)⟩, ⟨hd, cm, wk, h4.co hF (by omega), h4b⟩, ⟨cn, wi, jo, sz, qj, h5.co hF (by omega)⟩, ⟨wl2, mk2, ds2, qu2, h6.co hF (by omega)⟩, ⟨hd2, on2, ht2, cm2, wk2, h7.co hF (by omega)⟩⟩
theorem xq_P.val {n n1 : Nat} {G G1 : ms_H} {th : Option String} {v : Value} {v9 : Option Value} {Q : ms_H → Prop} (h : xq_P n G th v Q (.inl v9) n1 G1) : th = none ∧ v9 = some v ∧ Q G1 ∧ n ≤ n1 := by
  obtain ⟨h1, h2⟩ := h
  cases th with
  | none =>
    obtain ⟨h3, h4⟩ := h2
    cases h3
    exact ⟨rfl, rfl, h4, h1⟩
  | some e =>
    obtain ⟨h3, -⟩ := h2
    cases h3
theorem xq_P.thw {n n1 : Nat} {G G1 : ms_H} {th : Option String} {v : Value} {E : String} {Q : ms_H → Prop} (h : xq_P n G th v Q (.inr E) n1 G1) : th = some E ∧ G1 = G ∧ n ≤ n1 := by
  obtain ⟨h1, h2⟩ := h
  cases th with
  | none =>
    obtain ⟨h3, -⟩ := h2
    cases h3
  | some e =>
    obtain ⟨h3, h4⟩ := h2
    cases h3
    exact ⟨rfl, h4, h1⟩
abbrev oR (f : Nat → Int64) : ms_E := .inl (2, 1, .inr (.inl f))
/-- a wrapper's end -/
def lq_P (n : Nat) (G : ms_H) (o : Nat) (th : Option String) (cd : String → Int32) (v : Int32) (Q : ms_H → Prop) : ms_P := fun r n1 G1 => n ≤ n1 ∧ match th with
  | some E => r = .inl (some (.int (cd E))) ∧ G1 = G
  | none => r = .inl (some (.int 0)) ∧ ∃ (G2 : ms_H) (f : Nat → Int64), Q G2 ∧ f 0 = v.toInt64 ∧ G1 = ms_up G2 o (oR f)
theorem lq_P.thr {n n1 o : Nat} {G : ms_H} {th : Option String} {cd : String → Int32} {v t : Int32} {Q : ms_H → Prop} {E : String} (hn : n ≤ n1) (h : th = some E) (ht : cd E = t) : lq_P n G o th cd v Q (.inl (some (.int t))) n1 G := ⟨hn, by rw [h]; exact ⟨by rw [ht], rfl⟩⟩
theorem lq_P.ret {n n1 o : Nat} {G G2 : ms_H} {th : Option String} {cd : String → Int32} {v : Int32} {Q : ms_H → Prop} {f : Nat → Int64} (hn : n ≤ n1) (h : th = none) (hQ : Q G2) (hf : f 0 = v.toInt64) : lq_P n G o th cd v Q (.inl (some (.int 0))) n1 (ms_up G2 o (oR f)) := ⟨hn, by rw [h]; exact ⟨rfl, G2, f, hQ, hf, rfl⟩⟩
theorem lq_P.noX {n n1 o : Nat} {G G1 : ms_H} {th : Option String} {cd : String → Int32} {v : Int32} {Q : ms_H → Prop} {E : String} (h : lq_P n G o th cd v Q (.inr E) n1 G1) : False := by
  obtain ⟨-, h2⟩ := h
  cases th with
  | none => obtain ⟨h3, -⟩ := h2; cases h3
  | some e => obtain ⟨h3, -⟩ := h2; cases h3
theorem lq_P.t {n n1 o : Nat} {G G1 : ms_H} {th : Option String} {cd : String → Int32} {v : Int32} {v9 : Option Value} {Q : ms_H → Prop} {E : String} (h : lq_P n G o th cd v Q (.inl v9) n1 G1) (e : th = some E) : n ≤ n1 ∧ v9 = some (.int (cd E)) ∧ G1 = G := by
  subst e
  obtain ⟨h1, h2, h3⟩ := h
  cases h2
  exact ⟨h1, rfl, h3⟩
theorem lq_P.n {n n1 o : Nat} {G G1 : ms_H} {th : Option String} {cd : String → Int32} {v : Int32} {v9 : Option Value} {Q : ms_H → Prop} (h : lq_P n G o th cd v Q (.inl v9) n1 G1) (e : th = none) : n ≤ n1 ∧ v9 = some (.int 0) ∧ ∃ (G2 : ms_H) (f : Nat → Int64), Q G2 ∧ f 0 = v.toInt64 ∧ G1 = ms_up G2 o (oR f) := by
  subst e
  obtain ⟨h1, h2, h3⟩ := h
  cases h2
  exact ⟨h1, rfl, h3⟩
theorem mq_P.t {n n1 : Nat} {G G1 : ms_H} {E : Nat → Prop} {th : Option String} {cd : String → Int32} {v : Value} {v9 : Option Value} {Q : Int32 → ms_H → Prop} {Q2 : ms_H → Prop} {e : String} (h : mq_P n G E th cd v Q Q2 (.inl v9) n1 G1) (he : th = some e) : n ≤ n1 ∧ ms_fb E n G G1 ∧ v9 = some (.int 0) ∧ Q (cd e) G1 := by
  subst he
  obtain ⟨h1, h2, h3, h4⟩ := h
  cases h3
  exact ⟨h1, h2, rfl, h4⟩
theorem mq_P.n {n n1 : Nat} {G G1 : ms_H} {E : Nat → Prop} {th : Option String} {cd : String → Int32} {v : Value} {v9 : Option Value} {Q : Int32 → ms_H → Prop} {Q2 : ms_H → Prop} (h : mq_P n G E th cd v Q Q2 (.inl v9) n1 G1) (he : th = none) : n ≤ n1 ∧ ms_fb E n G G1 ∧ v9 = some v ∧ Q2 G1 := by
  subst he
  obtain ⟨h1, h2, h3, h4⟩ := h
  cases h3
  exact ⟨h1, h2, rfl, h4⟩
/-- both sides hold the same square, k calls so far -/
def lS (x g q c j q2 c2 o m k n : Nat) (G : ms_H) : Prop := ∃ (aw am ai ah W H cnt : Nat) (th dr pa : Int32) (X : cX) (nr wl mk ds mm : Nat → Int32),
  xs_at G x g q c j q2 c2 W H nr wl mk ds cnt dr pa X ∧ md_at G m aw am ai ah W H th X.2.2.2 dr pa cnt wl mm X.2.1 X.1 ∧ md_lt n m aw am ai ah ∧ md_ne m aw am ai ah ∧ (c2 + 29 ≤ m ∧ c2 + 29 ≤ aw ∧ c2 + 29 ≤ am ∧ c2 + 29 ≤ ai ∧ c2 + 29 ≤ ah) ∧ (o ≠ m ∧ o ≠ aw ∧ o ≠ am ∧ o ≠ ai ∧ o ≠ ah) ∧
  (0 < W ∧ W ≤ 14 ∧ 0 < H ∧ H ≤ 14) ∧ cnt ≤ 24 ∧ lk_ok W H (W * H) nr ∧ mmR (W * H) mk mm ∧ dsR (W * H) nr wl mk ds ∧ (0 ≤ dr ∧ dr ≤ 9) ∧ wl01 wl ∧ wdV W H cnt (20 * k) X ∧ heB (480 * k) (W * H) X.2.1
/-- the row that answers come in -/
def lo_at (o n : Nat) (G : ms_H) : Prop := o < n ∧ ∃ f, G o = some (oR f)
theorem cd1_n (e : String) : ¬ (fun _ : String => (1 : Int32)) e = 0 := fun z => absurd (show (1 : Int32) = 0 from z) (by decide)
theorem cdb_n (e : String) : ¬ (fun e => if e = IOB then (1 : Int32) else 2) e = 0 := by
  show ¬ (if e = IOB then (1 : Int32) else 2) = 0
  split <;> decide
theorem cdm_n (e : String) : ¬ (fun e => if e = IOB then (1 : Int32) else if e = IAE then 2 else 3) e = 0 := by
  show ¬ (if e = IOB then (1 : Int32) else if e = IAE then 2 else 3) = 0
  split
  · decide
  · split <;> decide
theorem lg_same (a : Int64) : lg_cmp a a = 0 := by unfold lg_cmp; simp

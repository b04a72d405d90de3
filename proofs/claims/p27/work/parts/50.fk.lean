/-! Flock: its object, its fields (a row of rows of rows), its walkers (a row of rows), a row of distances -/
/-- a place as x and y, -1 for who is out -/
def xX (W : Nat) (p : Int32) : Int32 := if p = -1 then -1 else nI (p.toNatClampNeg % W)
def yX (W : Nat) (p : Int32) : Int32 := if p = -1 then -1 else nI (p.toNatClampNeg / W)
/-- a walker's row: goal, pace, mood, x, y, facing, waited, steps, out at -/
def wvX (W : Nat) (u : Nat → Int32) : Nat → Int32
  | 0 => u 0
  | 1 => u 1
  | 2 => u 2
  | 3 => xX W (u 3)
  | 4 => yX W (u 3)
  | 5 => u 4
  | 6 => u 5
  | 7 => u 6
  | _ => u 7
def fk_O (G : ms_H) (o x sb : Nat) (dw : Int32) (W H : Nat) (cl dr pa : Int32) (fa wa : Nat) : Prop := G o = some (.inr (6, [.ref x, .ref sb, .int dw, .int (nI W), .int (nI H), .int cl, .int dr, .int pa, .ref fa, .ref wa]))
def fk_F (G : ms_H) (fa W H : Nat) (fv : Nat → Nat → Int32) : Prop :=
  (∃ f : Nat → Option Nat, (∀ i, i < W → f i = some (mn_ad fa H i)) ∧ G fa = some (.inl (2, W, .inr (.inr (.inr (.inr f)))))) ∧
  (∀ i, i < W → ∃ f : Nat → Option Nat, (∀ j, j < H → f j = some (mn_ad fa H i + 1 + j)) ∧ G (mn_ad fa H i) = some (.inl (4, H, .inr (.inr (.inr (.inr f)))))) ∧
  ∀ i, i < W → ∀ j, j < H → ∃ r : Nat → Int32, (∀ c, c < 6 → r c = fv (j * W + i) c) ∧ G (mn_ad fa H i + 1 + j) = some (.inl (0, 6, .inl r))
def fk_W (G : ms_H) (wa W cnt : Nat) (wr : Nat → Nat) (u : Nat → Nat → Int32) : Prop :=
  (∃ f : Nat → Option Nat, (∀ k, k < cnt → f k = some (wr k)) ∧ G wa = some (.inl (4, cnt, .inr (.inr (.inr (.inr f)))))) ∧
  (∀ k, k < cnt → ∃ r : Nat → Int32, (∀ c, c < 9 → r c = wvX W (u k) c) ∧ G (wr k) = some (.inl (0, 9, .inl r))) ∧ ∀ j k, j < cnt → k < cnt → wr j = wr k → j = k
/-- a row of distances, by x, then y -/
def far_at (G : ms_H) (fr W H : Nat) (D : Nat → Int32) : Prop :=
  (∃ f : Nat → Option Nat, (∀ i, i < W → f i = some (fr + 1 + i)) ∧ G fr = some (.inl (4, W, .inr (.inr (.inr (.inr f)))))) ∧
  ∀ i, i < W → ∃ r : Nat → Int32, (∀ j, j < H → r j = D (j * W + i)) ∧ G (fr + 1 + i) = some (.inl (0, H, .inl r))
def fk_at (G : ms_H) (o x sb : Nat) (dw : Int32) (W H : Nat) (cl dr pa : Int32) (fa wa cnt : Nat) (wr : Nat → Nat) (fv u : Nat → Nat → Int32) : Prop := fk_O G o x sb dw W H cl dr pa fa wa ∧ fk_F G fa W H fv ∧ fk_W G wa W cnt wr u
theorem ad_nI {H i j fa i2 j2 : Nat} (hj : j < H) (hj2 : j2 < H) (h : mn_ad fa H i + 1 + j = mn_ad fa H i2 + 1 + j2) : i = i2 ∧ j = j2 := by
  rcases Nat.lt_trichotomy i i2 with e | e | e
  · have := mn_ad_lt (h := fa) (M := H) e
    omega
  · subst e
    exact ⟨rfl, by omega⟩
  · have := mn_ad_lt (h := fa) (M := H) e
    omega
theorem ad_row {H i fa i2 j2 : Nat} (hj2 : j2 < H) : mn_ad fa H i ≠ mn_ad fa H i2 + 1 + j2 := by
  intro h
  rcases Nat.lt_or_ge i2 i with e | e
  · have := mn_ad_lt (h := fa) (M := H) e
    omega
  · have h1 : mn_ad fa H i ≤ mn_ad fa H i2 := by
      have := Nat.mul_le_mul_right (1 + H) e
      unfold mn_ad
      omega
    omega
theorem ad_fa {H i fa : Nat} : fa < mn_ad fa H i := by unfold mn_ad; omega
theorem ad_end {H W i j fa : Nat} (hi : i < W) (hj : j < H) : mn_ad fa H i + 1 + j < mn_ad fa H W := by
  have := mn_ad_lt (h := fa) (M := H) hi
  omega
theorem ad_end0 {H W i fa : Nat} (hi : i < W) : mn_ad fa H i < mn_ad fa H W := by
  have := mn_ad_lt (h := fa) (M := H) hi
  omega
theorem fk_F.fr {G G1 : ms_H} {fa W H : Nat} {fv : Nat → Nat → Int32} (h : fk_F G fa W H fv) (hF : ∀ a, fa ≤ a → a < mn_ad fa H W → G1 a = G a) (hW : 0 < W) : fk_F G1 fa W H fv := by
  obtain ⟨⟨f, h1, h2⟩, h3, h4⟩ := h
  refine ⟨⟨f, h1, (hF fa (Nat.le_refl _) ad_fa).trans h2⟩, fun i hi => ?_, fun i hi j hj => ?_⟩
  · obtain ⟨f, a, b⟩ := h3 i hi
    exact ⟨f, a, (hF _ (Nat.le_of_lt ad_fa) (ad_end0 hi)).trans b⟩
  · obtain ⟨r, a, b⟩ := h4 i hi j hj
    exact ⟨r, a, (hF _ (by have := ad_fa (H := H) (i := i) (fa := fa); omega) (ad_end hi hj)).trans b⟩
theorem fk_W.fr {G G1 : ms_H} {wa W cnt : Nat} {wr : Nat → Nat} {u : Nat → Nat → Int32} (h : fk_W G wa W cnt wr u) (h0 : G1 wa = G wa) (hF : ∀ k, k < cnt → G1 (wr k) = G (wr k)) : fk_W G1 wa W cnt wr u := by
  obtain ⟨⟨f, h1, h2⟩, h3, h4⟩ := h
  refine ⟨⟨f, h1, h0.trans h2⟩, fun k hk => ?_, h4⟩
  obtain ⟨r, a, b⟩ := h3 k hk
  exact ⟨r, a, (hF k hk).trans b⟩
theorem far_at.fr {G G1 : ms_H} {fr W H : Nat} {D : Nat → Int32} (h : far_at G fr W H D) (hF : ∀ a, fr ≤ a → a < fr + 1 + W → G1 a = G a) : far_at G1 fr W H D := by
  obtain ⟨⟨f, h1, h2⟩, h3⟩ := h
  refine ⟨⟨f, h1, (hF fr (Nat.le_refl _) (by omega)).trans h2⟩, fun i hi => ?_⟩
  obtain ⟨r, a, b⟩ := h3 i hi
  exact ⟨r, a, (hF _ (by omega) (by omega)).trans b⟩
/-- a number of a field is written -/
theorem fk_F.set {G : ms_H} {fa W H i j c : Nat} {fv : Nat → Nat → Int32} {v : Int32} {r : Nat → Int32} (h : fk_F G fa W H fv) (hi : i < W) (hj : j < H) (hr : ∀ c, c < 6 → r c = fv (j * W + i) c) : fk_F (ms_up G (mn_ad fa H i + 1 + j) (.inl (0, 6, .inl (upd r c v)))) fa W H (va_up fv (j * W + i) (upd (fv (j * W + i)) c v)) := by
  obtain ⟨⟨f, h1, h2⟩, h3, h4⟩ := h
  refine ⟨⟨f, h1, (ms_up_n _ _ (by have := ad_fa (H := H) (i := i) (fa := fa); omega)).trans h2⟩, fun i2 hi2 => ?_, fun i2 hi2 j2 hj2 => ?_⟩
  · obtain ⟨f, a, b⟩ := h3 i2 hi2
    exact ⟨f, a, (ms_up_n _ _ (ad_row hj)).trans b⟩
  · by_cases e : i2 = i ∧ j2 = j
    · obtain ⟨rfl, rfl⟩ := e
      refine ⟨_, fun c2 hc2 => ?_, ms_up_s _ _ _⟩
      show upd r c v c2 = va_up fv (j2 * W + i2) (upd (fv (j2 * W + i2)) c v) (j2 * W + i2) c2
      rw [show va_up fv (j2 * W + i2) (upd (fv (j2 * W + i2)) c v) (j2 * W + i2) = upd (fv (j2 * W + i2)) c v from if_pos rfl]
      unfold upd
      split
      · rfl
      · exact hr c2 hc2
    · obtain ⟨r2, a, b⟩ := h4 i2 hi2 j2 hj2
      refine ⟨r2, fun c2 hc2 => (a c2 hc2).trans ?_, (ms_up_n _ _ (fun z => e (ad_nI hj2 hj z))).trans b⟩
      have hne : ¬ j2 * W + i2 = j * W + i := fun z => e (by
        have h5 := (fd_mod (y := j2) hi2)
        have h6 := (fd_mod (y := j) hi)
        rw [z] at h5
        exact ⟨h5.1.symm.trans h6.1, h5.2.symm.trans h6.2⟩)
      exact (congrFun (show va_up fv (j * W + i) (upd (fv (j * W + i)) c v) (j2 * W + i2) = fv (j2 * W + i2) from if_neg hne) c2).symm
/-- a number of a distance row is written -/
theorem far_at.set {G : ms_H} {fr W H i j : Nat} {D : Nat → Int32} {v : Int32} {r : Nat → Int32} (h : far_at G fr W H D) (hi : i < W) (hr : ∀ j, j < H → r j = D (j * W + i)) : far_at (ms_up G (fr + 1 + i) (.inl (0, H, .inl (upd r j v)))) fr W H (upd D (j * W + i) v) := by
  obtain ⟨⟨f, h1, h2⟩, h3⟩ := h
  refine ⟨⟨f, h1, (ms_up_n _ _ (by omega)).trans h2⟩, fun i2 hi2 => ?_⟩
  by_cases e : i2 = i
  · subst e
    refine ⟨_, fun j2 hj2 => ?_, ms_up_s _ _ _⟩
    unfold upd
    by_cases e2 : j2 = j
    · subst e2
      rw [if_pos rfl, if_pos rfl]
    · rw [if_neg e2, if_neg (fun z => e2 (Nat.eq_of_mul_eq_mul_right (by omega : 0 < W) (by omega)))]
      exact hr j2 hj2
  · obtain ⟨r2, a, b⟩ := h3 i2 hi2
    refine ⟨r2, fun j2 hj2 => (a j2 hj2).trans ?_, (ms_up_n _ _ (by omega)).trans b⟩
    have hne : ¬ j2 * W + i2 = j * W + i := fun z => e (by
      have h5 := (fd_mod (y := j2) hi2)
      have h6 := (fd_mod (y := j) hi)
      rw [z] at h5
      exact h5.1.symm.trans h6.1)
    exact (if_neg hne).symm
/-- a walker's row is written -/
theorem fk_W.row {G : ms_H} {wa W cnt k : Nat} {wr : Nat → Nat} {u : Nat → Nat → Int32} {v r : Nat → Int32} (h : fk_W G wa W cnt wr u) (hk : k < cnt) (hr : ∀ c, c < 9 → r c = wvX W v c) : fk_W (ms_up G (wr k) (.inl (0, 9, .inl r))) wa W cnt wr (va_up u k v) := by
  obtain ⟨⟨f, h1, h2⟩, h3, h4⟩ := h
  have hwa : wa ≠ wr k := fun e => by
    obtain ⟨r9, -, b⟩ := h3 k hk
    rw [← e, h2] at b
    cases b
  refine ⟨⟨f, h1, (ms_up_n _ _ hwa).trans h2⟩, fun j hj => ?_, h4⟩
  by_cases e : j = k
  · subst e
    exact ⟨r, fun c hc => by rw [show va_up u j v j = v from if_pos rfl]; exact hr c hc, ms_up_s _ _ _⟩
  · obtain ⟨r9, a, b⟩ := h3 j hj
    exact ⟨r9, fun c hc => by rw [show va_up u k v j = u j from if_neg e]; exact a c hc, (ms_up_n _ _ (fun z => e (h4 j k hj hk z))).trans b⟩
theorem fk_W.uc {G : ms_H} {wa W cnt : Nat} {wr : Nat → Nat} {u v : Nat → Nat → Int32} (h : fk_W G wa W cnt wr u) (e : ∀ k, k < cnt → ∀ j, j < 8 → u k j = v k j) : fk_W G wa W cnt wr v := by
  refine ⟨h.1, fun k hk => ?_, h.2.2⟩
  obtain ⟨r, a, b⟩ := h.2.1 k hk
  refine ⟨r, fun c hc => (a c hc).trans ?_, b⟩
  match c, hc with
  | 0, _ => exact e k hk 0 (by omega)
  | 1, _ => exact e k hk 1 (by omega)
  | 2, _ => exact e k hk 2 (by omega)
  | 3, _ => exact congrArg (xX W) (e k hk 3 (by omega))
  | 4, _ => exact congrArg (yX W) (e k hk 3 (by omega))
  | 5, _ => exact e k hk 4 (by omega)
  | 6, _ => exact e k hk 5 (by omega)
  | 7, _ => exact e k hk 6 (by omega)
  | 8, _ => exact e k hk 7 (by omega)
  | c + 9, hc => omega
theorem fk_F.fc {G : ms_H} {fa W H : Nat} {fv gv : Nat → Nat → Int32} (h : fk_F G fa W H fv) (e : ∀ f, f < W * H → ∀ c, c < 6 → fv f c = gv f c) : fk_F G fa W H gv := by
  refine ⟨h.1, h.2.1, fun i hi j hj => ?_⟩
  obtain ⟨r, a, b⟩ := h.2.2 i hi j hj
  refine ⟨r, fun c hc => (a c hc).trans (e _ ?_ c hc), b⟩
  have := Nat.mul_le_mul_right W (show j + 1 ≤ H from hj)
  rw [Nat.succ_mul, Nat.mul_comm H W] at this
  omega
theorem far_at.dc {G : ms_H} {fr W H : Nat} {D D2 : Nat → Int32} (h : far_at G fr W H D) (e : ∀ f, f < W * H → D f = D2 f) : far_at G fr W H D2 := by
  refine ⟨h.1, fun i hi => ?_⟩
  obtain ⟨r, a, b⟩ := h.2 i hi
  refine ⟨r, fun j hj => (a j hj).trans (e _ ?_), b⟩
  have := Nat.mul_le_mul_right W (show j + 1 ≤ H from hj)
  rw [Nat.succ_mul, Nat.mul_comm H W] at this
  omega
theorem fij {W H i j : Nat} (hi : i < W) (hj : j < H) : j * W + i < W * H := by
  have := Nat.mul_le_mul_right W (show j + 1 ≤ H from hj)
  rw [Nat.succ_mul, Nat.mul_comm H W] at this
  omega
section FKR
variable {x : Bool} {d : ms_D} {P : ms_P} {pc : Nat} {lv : List (Nat × Value)} {st : List Value} {n : Nat} {G : ms_H} {kr zr : Nat}
theorem fk_ldA {fa W H i : Nat} {fv : Nat → Nat → Int32} (hdg : decode d.2.1 pc = .ok (.aaload, 1)) (hF : fk_F G fa W H fv) (hi : i < W) (hW : W ≤ 14) (k : ms_W x d P (pc + 1) lv (.ref (mn_ad fa H i) :: st) n G kr zr) : ms_W x d P pc lv (.int (nI i) :: .ref fa :: st) n G kr zr := by
  obtain ⟨⟨f, h1, h2⟩, -, -⟩ := hF
  refine ms_aaloadB hdg h2 (vp_in_nI hi (by omega)) ?_
  rw [nI_clamp (by omega), h1 i hi]
  exact k
theorem fk_ldB {fa W H i j : Nat} {fv : Nat → Nat → Int32} (hdg : decode d.2.1 pc = .ok (.aaload, 1)) (hF : fk_F G fa W H fv) (hi : i < W) (hj : j < H) (hH : H ≤ 14) (k : ms_W x d P (pc + 1) lv (.ref (mn_ad fa H i + 1 + j) :: st) n G kr zr) : ms_W x d P pc lv (.int (nI j) :: .ref (mn_ad fa H i) :: st) n G kr zr := by
  obtain ⟨f, h1, h2⟩ := hF.2.1 i hi
  refine ms_aaloadA hdg h2 (vp_in_nI hj (by omega)) ?_
  rw [nI_clamp (by omega), h1 j hj]
  exact k
theorem fk_ldC {fa W H i j c : Nat} {fv : Nat → Nat → Int32} {ci : Int32} (hdg : decode d.2.1 pc = .ok (.iaload, 1)) (hF : fk_F G fa W H fv) (hi : i < W) (hj : j < H) (hc : c < 6) (hci : ci = nI c) (k : ms_W x d P (pc + 1) lv (.int (fv (j * W + i) c) :: st) n G kr zr) : ms_W x d P pc lv (.int ci :: .ref (mn_ad fa H i + 1 + j) :: st) n G kr zr := by
  obtain ⟨r, h1, h2⟩ := hF.2.2 i hi j hj
  subst hci
  refine ms_iaload hdg h2 (vp_in_nI hc (by omega)) ?_
  rw [nI_clamp (by omega), h1 c hc]
  exact k
theorem fk_stC {fa W H i j c : Nat} {fv : Nat → Nat → Int32} {ci v : Int32} (hdg : decode d.2.1 pc = .ok (.iastore, 1)) (hF : fk_F G fa W H fv) (hi : i < W) (hj : j < H) (hc : c < 6) (hci : ci = nI c) (k : ∀ K : ms_H, (∀ a, a ≠ mn_ad fa H i + 1 + j → K a = G a) → fk_F K fa W H (va_up fv (j * W + i) (upd (fv (j * W + i)) c v)) → ms_W x d P (pc + 1) lv st n K kr zr) : ms_W x d P pc lv (.int v :: .int ci :: .ref (mn_ad fa H i + 1 + j) :: st) n G kr zr := by
  obtain ⟨r, h1, h2⟩ := hF.2.2 i hi j hj
  subst hci
  refine ms_iastore hdg h2 (vp_in_nI hc (by omega)) ?_
  rw [nI_clamp (by omega)]
  exact k _ (fun a ha => ms_up_n _ _ ha) (hF.set hi hj h1)
theorem fk_ldW {wa W cnt i : Nat} {wr : Nat → Nat} {u : Nat → Nat → Int32} (hdg : decode d.2.1 pc = .ok (.aaload, 1)) (hF : fk_W G wa W cnt wr u) (hi : i < cnt) (hc : cnt ≤ 24) (k : ms_W x d P (pc + 1) lv (.ref (wr i) :: st) n G kr zr) : ms_W x d P pc lv (.int (nI i) :: .ref wa :: st) n G kr zr := by
  obtain ⟨⟨f, h1, h2⟩, -, -⟩ := hF
  refine ms_aaloadA hdg h2 (vp_in_nI hi (by omega)) ?_
  rw [nI_clamp (by omega), h1 i hi]
  exact k
theorem fk_ldR {wa W cnt i c : Nat} {wr : Nat → Nat} {u : Nat → Nat → Int32} {ci : Int32} (hdg : decode d.2.1 pc = .ok (.iaload, 1)) (hF : fk_W G wa W cnt wr u) (hi : i < cnt) (hc : c < 9) (hci : ci = nI c) (k : ms_W x d P (pc + 1) lv (.int (wvX W (u i) c) :: st) n G kr zr) : ms_W x d P pc lv (.int ci :: .ref (wr i) :: st) n G kr zr := by
  obtain ⟨r, h1, h2⟩ := hF.2.1 i hi
  subst hci
  refine ms_iaload hdg h2 (vp_in_nI hc (by omega)) ?_
  rw [nI_clamp (by omega), h1 c hc]
  exact k
theorem fk_len {wa W cnt : Nat} {wr : Nat → Nat} {u : Nat → Nat → Int32} (hdg : decode d.2.1 pc = .ok (.arraylength, 1)) (hF : fk_W G wa W cnt wr u) (k : ms_W x d P (pc + 1) lv (.int (nI cnt) :: st) n G kr zr) : ms_W x d P pc lv (.ref wa :: st) n G kr zr := by
  obtain ⟨⟨f, h1, h2⟩, -, -⟩ := hF
  exact ms_alen (ty := fun c => (c, .array .int)) hdg h2 (by decide) rfl k
theorem fk_lenF {fa W H : Nat} {fv : Nat → Nat → Int32} (hdg : decode d.2.1 pc = .ok (.arraylength, 1)) (hF : fk_F G fa W H fv) (k : ms_W x d P (pc + 1) lv (.int (nI W) :: st) n G kr zr) : ms_W x d P pc lv (.ref fa :: st) n G kr zr := by
  obtain ⟨⟨f, h1, h2⟩, -, -⟩ := hF
  exact ms_alen (ty := fun c => (c, .array (.array .int))) hdg h2 (by decide) rfl k
theorem fk_lenR {fa W H i : Nat} {fv : Nat → Nat → Int32} (hdg : decode d.2.1 pc = .ok (.arraylength, 1)) (hF : fk_F G fa W H fv) (hi : i < W) (k : ms_W x d P (pc + 1) lv (.int (nI H) :: st) n G kr zr) : ms_W x d P pc lv (.ref (mn_ad fa H i) :: st) n G kr zr := by
  obtain ⟨f, h1, h2⟩ := hF.2.1 i hi
  exact ms_alen (ty := fun c => (c, .array .int)) hdg h2 (by decide) rfl k
theorem far_ldA {fr W H i : Nat} {D : Nat → Int32} (hdg : decode d.2.1 pc = .ok (.aaload, 1)) (hF : far_at G fr W H D) (hi : i < W) (hW : W ≤ 14) (k : ms_W x d P (pc + 1) lv (.ref (fr + 1 + i) :: st) n G kr zr) : ms_W x d P pc lv (.int (nI i) :: .ref fr :: st) n G kr zr := by
  obtain ⟨⟨f, h1, h2⟩, -⟩ := hF
  refine ms_aaloadA hdg h2 (vp_in_nI hi (by omega)) ?_
  rw [nI_clamp (by omega), h1 i hi]
  exact k
theorem far_ldI {fr W H i j : Nat} {D : Nat → Int32} (hdg : decode d.2.1 pc = .ok (.iaload, 1)) (hF : far_at G fr W H D) (hi : i < W) (hj : j < H) (hH : H ≤ 14) (k : ms_W x d P (pc + 1) lv (.int (D (j * W + i)) :: st) n G kr zr) : ms_W x d P pc lv (.int (nI j) :: .ref (fr + 1 + i) :: st) n G kr zr := by
  obtain ⟨r, h1, h2⟩ := hF.2 i hi
  refine ms_iaload hdg h2 (vp_in_nI hj (by omega)) ?_
  rw [nI_clamp (by omega), h1 j hj]
  exact k
theorem far_st {fr W H i j : Nat} {D : Nat → Int32} {v : Int32} (hdg : decode d.2.1 pc = .ok (.iastore, 1)) (hF : far_at G fr W H D) (hi : i < W) (hj : j < H) (hH : H ≤ 14) (k : ∀ K : ms_H, (∀ a, a ≠ fr + 1 + i → K a = G a) → far_at K fr W H (upd D (j * W + i) v) → ms_W x d P (pc + 1) lv st n K kr zr) : ms_W x d P pc lv (.int v :: .int (nI j) :: .ref (fr + 1 + i) :: st) n G kr zr := by
  obtain ⟨r, h1, h2⟩ := hF.2 i hi
  refine ms_iastore hdg h2 (vp_in_nI hj (by omega)) ?_
  rw [nI_clamp (by omega)]
  exact k _ (fun a ha => ms_up_n _ _ ha) (hF.set hi h1)
end FKR
/-! numbers: places, sides -/
theorem xy_at {W H a b k cnt : Nat} {u : Nat → Nat → Int32} (hW : W ≤ 14) (hH : H ≤ 14) (hv : hvX (nI (W * H)) cnt u) (hk : k < cnt) (ha : a < W) (hb : b < H) : (xX W (u k 3) = nI a ∧ yX W (u k 3) = nI b) ↔ u k 3 = nI (b * W + a) := by
  have h9 : W * H ≤ 196 := Nat.mul_le_mul hW hH
  have hm := fd_mod (y := b) ha
  have hl := fij ha hb
  by_cases e : u k 3 = -1
  · unfold xX
    rw [e, if_pos rfl]
    exact ⟨fun z => absurd z.1.symm (nI_m1 (by omega)), fun z => absurd z.symm (nI_m1 (by omega))⟩
  · obtain ⟨o, ho, eo⟩ := pos_of hW hH hv hk e
    have hd := fd_div ho
    unfold xX yX
    rw [if_neg e, if_neg e, eo, nI_clamp (by omega), nI_eq (by omega) (by omega), nI_eq (by omega) (by omega), nI_eq (by omega) (by omega)]
    constructor
    · rintro ⟨z1, z2⟩
      rw [z1, z2] at hd
      exact hd.2.2.symm
    · intro z
      rw [z]
      exact hm
theorem xX_n {W o : Nat} {p : Int32} (ho : o < 1000) (e : p = nI o) : xX W p = nI (o % W) ∧ yX W p = nI (o / W) := by
  subst e
  unfold xX yX
  rw [if_neg (nI_m1 (by omega)), if_neg (nI_m1 (by omega)), nI_clamp (by omega)]
  exact ⟨rfl, rfl⟩
theorem xX_m {W : Nat} {p : Int32} (e : p = -1) : xX W p = -1 ∧ yX W p = -1 := ⟨if_pos e, if_pos e⟩
theorem xX_lt {W H cnt k : Nat} {u : Nat → Nat → Int32} (hW : W ≤ 14) (hH : H ≤ 14) (hv : hvX (nI (W * H)) cnt u) (hk : k < cnt) : xX W (u k 3) < 0 ↔ u k 3 = -1 := by
  have h9 : W * H ≤ 196 := Nat.mul_le_mul hW hH
  by_cases e : u k 3 = -1
  · rw [(xX_m e).1]
    exact ⟨fun _ => e, fun _ => by decide⟩
  · obtain ⟨o, ho, eo⟩ := pos_of hW hH hv hk e
    have hd := fd_div ho
    rw [(xX_n (by omega) eo).1]
    exact ⟨fun z => absurd z (nI_pos (by omega)), fun z => absurd z e⟩
def fsx (s : Int32) : Int32 := if s = 0 then 1 else if s = 2 then -1 else 0
def fsy (s : Int32) : Int32 := if s = 1 then 1 else if s = 3 then -1 else 0
theorem fsx_4 : fsx 4 = 0 ∧ fsy 4 = 0 := by decide
theorem fsx_s : ∀ s : Fin 4, fsx (nI s.1) = ms_sx s.1 ∧ fsy (nI s.1) = ms_sy s.1 := by decide +kernel

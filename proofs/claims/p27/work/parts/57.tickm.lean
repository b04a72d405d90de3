/-! a tick of Flock's and a tick of the class's: the numbers -/
abbrev sdK (n : Nat) (nr ds : Nat → Int32) (cnt : Nat) (dr : Int32) (X : cX) : Nat → Int32 := sdX (nI n) nr ds cnt dr X.2.2.1 X.1 (X.2.2.2 + 1)
abbrev tgK (n : Nat) (nr ds : Nat → Int32) (cnt : Nat) (dr : Int32) (X : cX) : Nat → Int32 := tgX (nI n) nr ds cnt dr X
/-- what Flock writes down of who wants what -/
def wfX (n : Nat) (nr ds : Nat → Int32) (cnt : Nat) (dr : Int32) (X : cX) (k : Nat) : Int32 := if wk_turn (X.1 k) (X.2.2.2 + 1) then bsX (nI n) nr ds cnt dr X.2.2.1 X.1 k else -1
/-- who goes -/
def goB (n : Nat) (nr ds : Nat → Int32) (cnt : Nat) (dr : Int32) (X : cX) (k : Nat) : Prop := ∃ f, f < n ∧ wnX (tgK n nr ds cnt dr X) X.1 (nI f) cnt = nI k
theorem tk3 {W H cnt N : Nat} {nr ds : Nat → Int32} {dr : Int32} {X : cX} (hL : lk_ok W H (W * H) nr) (hW : W ≤ 14) (hH : H ≤ 14) (hV : wdV W H cnt N X) {k : Nat} (hk : k < cnt) :
    (¬ wk_turn (X.1 k) (X.2.2.2 + 1) ∧ sdK (W * H) nr ds cnt dr X k = 4 ∧ tgK (W * H) nr ds cnt dr X k = -1 ∧ wfX (W * H) nr ds cnt dr X k = -1) ∨
    (wk_turn (X.1 k) (X.2.2.2 + 1) ∧ sdK (W * H) nr ds cnt dr X k = 4 ∧ tgK (W * H) nr ds cnt dr X k = -1 ∧ wfX (W * H) nr ds cnt dr X k = 4) ∨
    (wk_turn (X.1 k) (X.2.2.2 + 1) ∧ ∃ s own o, s < 4 ∧ own < W * H ∧ o < W * H ∧ X.1 k 3 = nI own ∧ nbX nr own s = nI o ∧ sdK (W * H) nr ds cnt dr X k = nI s ∧ wfX (W * H) nr ds cnt dr X k = nI s ∧ tgK (W * H) nr ds cnt dr X k = nI o ∧ X.2.2.1 o = -1) := by
  by_cases h : wk_turn (X.1 k) (X.2.2.2 + 1)
  · have e1 : sdK (W * H) nr ds cnt dr X k = bsX (nI (W * H)) nr ds cnt dr X.2.2.1 X.1 k := if_pos h
    have e2 : wfX (W * H) nr ds cnt dr X k = bsX (nI (W * H)) nr ds cnt dr X.2.2.1 X.1 k := if_pos h
    have e3 : tgK (W * H) nr ds cnt dr X k = amT nr (X.1 k) (sdK (W * H) nr ds cnt dr X k) := rfl
    obtain ⟨s, hs, es⟩ := bsX_val (fl := nI (W * H)) (nr := nr) (ds := ds) (cnt := cnt) (dr := dr) (on := X.2.2.1) (u := X.1) (k := k)
    rw [es] at e1 e2
    rcases Nat.lt_or_eq_of_le hs with h4 | h4
    · obtain ⟨own, ho, hpo⟩ := pos_of hW hH hV.2.1 hk h.1
      obtain ⟨o, ho2, e4, e5⟩ := bs_free hL hW hH ho hpo h4 es
      refine Or.inr (Or.inr ⟨h, s, own, o, h4, ho, ho2, hpo, e4, e1, e2, ?_, e5⟩)
      rw [e3, e1]
      unfold amT
      rw [if_neg (show ¬ nI s = 4 from fun z => by have := (nI_eq (b := 4) (by omega) (by omega)).mp z; omega), hpo]
      exact e4
    · subst h4
      refine Or.inr (Or.inl ⟨h, e1, ?_, e2⟩)
      rw [e3, e1]
      exact if_pos rfl
  · refine Or.inl ⟨h, if_neg h, ?_, if_neg h⟩
    show amT nr (X.1 k) (sdK (W * H) nr ds cnt dr X k) = -1
    rw [show sdK (W * H) nr ds cnt dr X k = 4 from if_neg h]
    exact if_pos rfl
/-- who goes has its turn, wants a side, and its field is the one it goes to -/
theorem goB_of {W H cnt N : Nat} {nr ds : Nat → Int32} {dr : Int32} {X : cX} (hL : lk_ok W H (W * H) nr) (hW : W ≤ 14) (hH : H ≤ 14) (hc : cnt ≤ 24) (hV : wdV W H cnt N X) {k : Nat} (hk : k < cnt) (h : goB (W * H) nr ds cnt dr X k) :
    wk_turn (X.1 k) (X.2.2.2 + 1) ∧ ∃ s own o, s < 4 ∧ own < W * H ∧ o < W * H ∧ X.1 k 3 = nI own ∧ nbX nr own s = nI o ∧ sdK (W * H) nr ds cnt dr X k = nI s ∧ wfX (W * H) nr ds cnt dr X k = nI s ∧ tgK (W * H) nr ds cnt dr X k = nI o ∧ X.2.2.1 o = -1 ∧ wnX (tgK (W * H) nr ds cnt dr X) X.1 (nI o) cnt = nI k := by
  have h9 : W * H ≤ 196 := Nat.mul_le_mul hW hH
  obtain ⟨f, hf, e⟩ := h
  have et : tgK (W * H) nr ds cnt dr X k = nI f := by
    rcases wnX_or (tg := tgK (W * H) nr ds cnt dr X) (u := X.1) (f := nI f) cnt with z | ⟨b, hb, z1, z2⟩
    · rw [e] at z
      exact absurd z (nI_m1 (by omega))
    · rw [e] at z1
      rw [(nI_eq (by omega) (by omega)).mp z1]
      exact z2
  rcases tk3 (dr := dr) (ds := ds) hL hW hH hV hk with ⟨-, -, z, -⟩ | ⟨-, -, z, -⟩ | ⟨h1, s, own, o, h2, h3, h4, h5, h6, h7, h8, h10, h11⟩
  · rw [et] at z
    exact absurd z (nI_m1 (by omega))
  · rw [et] at z
    exact absurd z (nI_m1 (by omega))
  · have eo : o = f := (nI_eq (by omega) (by omega)).mp (h10.symm.trans et)
    subst eo
    exact ⟨h1, s, own, o, h2, h3, h4, h5, h6, h7, h8, h10, h11, e⟩
abbrev rwK (n : Nat) (nr ds : Nat → Int32) (cnt : Nat) (dr : Int32) (X : cX) (k : Nat) : Nat → Int32 := rwX X.1 (tbX X.1 (X.2.2.2 + 1)) (sdK n nr ds cnt dr X) (tgK n nr ds cnt dr X) k
theorem rk_8 {n : Nat} {nr ds : Nat → Int32} {cnt : Nat} {dr : Int32} {X : cX} {k : Nat} : rwK n nr ds cnt dr X k 8 = tbX X.1 (X.2.2.2 + 1) k ∧ rwK n nr ds cnt dr X k 9 = sdK n nr ds cnt dr X k ∧ rwK n nr ds cnt dr X k 10 = tgK n nr ds cnt dr X k ∧ ∀ j, j < 8 → rwK n nr ds cnt dr X k j = X.1 k j := rw_8
theorem mv_go {W H cnt N : Nat} {nr ds : Nat → Int32} {dr : Int32} {X : cX} (hL : lk_ok W H (W * H) nr) (hW : W ≤ 14) (hH : H ≤ 14) (hc : cnt ≤ 24) (hV : wdV W H cnt N X) {k : Nat} (hk : k < cnt) :
    (¬ rwK (W * H) nr ds cnt dr X k 8 = 0 ∧ goP (nI (W * H)) (cmX (tgK (W * H) nr ds cnt dr X) X.1 cnt) (rwK (W * H) nr ds cnt dr X k) k) ↔ goB (W * H) nr ds cnt dr X k := by
  have h9 : W * H ≤ 196 := Nat.mul_le_mul hW hH
  obtain ⟨r8, r9, r10, -⟩ := rk_8 (n := W * H) (nr := nr) (ds := ds) (cnt := cnt) (dr := dr) (X := X) (k := k)
  constructor
  · rintro ⟨-, h1, h2⟩
    rw [r10] at h1 h2
    obtain ⟨o, ho, eo⟩ := has_nat h1
    rw [eo] at h1 h2
    have ho2 : o < W * H := (nI_ltI (by omega) (by omega)).mp h1.2.1
    rw [nI_clamp (by omega)] at h2
    exact ⟨o, ho2, h2⟩
  · intro h
    obtain ⟨h1, s, own, o, h2, h3, h4, h5, h6, h7, h8, h10, h11, h12⟩ := goB_of hL hW hH hc hV hk h
    refine ⟨?_, ?_⟩
    · rw [r8]
      unfold tbX
      rw [show ms_b (wk_turn (X.1 k) (X.2.2.2 + 1)) = 1 from if_pos h1]
      decide
    · unfold goP
      rw [r10, h10, nI_clamp (by omega)]
      exact ⟨⟨nI_pos' (by omega), nI_lt h4 (by omega), show nI o < nI 196 from nI_lt (by omega) (by omega)⟩, h12⟩
theorem nu_stay {W H cnt N : Nat} {nr mk ds : Nat → Int32} {dr : Int32} {X : cX} (hL : lk_ok W H (W * H) nr) (hW : W ≤ 14) (hH : H ≤ 14) (hc : cnt ≤ 24) (hV : wdV W H cnt N X) {k : Nat} (hk : k < cnt) (h : ¬ goB (W * H) nr ds cnt dr X k) : ∀ j, j < 8 → (stX1 (nI (W * H)) nr mk ds cnt dr X).1 k j = if wk_turn (X.1 k) (X.2.2.2 + 1) then upd (X.1 k) 5 (X.1 k 5 + 1) j else X.1 k j := fun j hj => by
  obtain ⟨r8, r9, r10, r⟩ := rk_8 (n := W * H) (nr := nr) (ds := ds) (cnt := cnt) (dr := dr) (X := X) (k := k)
  have hm : ¬ (¬ rwK (W * H) nr ds cnt dr X k 8 = 0 ∧ goP (nI (W * H)) (cmX (tgK (W * H) nr ds cnt dr X) X.1 cnt) (rwK (W * H) nr ds cnt dr X k) k) := fun z => h ((mv_go hL hW hH hc hV hk).mp z)
  show gwW _ _ _ _ _ (rwK (W * H) nr ds cnt dr X k) j = _
  unfold gwW
  by_cases ht : wk_turn (X.1 k) (X.2.2.2 + 1)
  · have h8 : ¬ rwK (W * H) nr ds cnt dr X k 8 = 0 := by
      rw [r8]
      unfold tbX
      rw [show ms_b (wk_turn (X.1 k) (X.2.2.2 + 1)) = 1 from if_pos ht]
      decide
    rw [if_pos h8, if_neg (fun z => hm ⟨h8, z⟩), if_pos ht]
    unfold waW
    exact up8 r (by rw [r 5 (by omega)]) j hj
  · have h8 : ¬ ¬ rwK (W * H) nr ds cnt dr X k 8 = 0 := fun z => z (by rw [r8]; exact if_neg ht)
    rw [if_neg h8, if_neg ht]
    exact r j hj
theorem nu_go {W H cnt N g s o : Nat} {nr mk ds : Nat → Int32} {dr : Int32} {X : cX} (hL : lk_ok W H (W * H) nr) (hW : W ≤ 14) (hH : H ≤ 14) (hc : cnt ≤ 24) (hV : wdV W H cnt N X) {k : Nat} (hk : k < cnt) (h : goB (W * H) nr ds cnt dr X k) (hg : g < 4) (eg : X.1 k 0 = nI g) (ho : o < W * H) (es : sdK (W * H) nr ds cnt dr X k = nI s) (et : tgK (W * H) nr ds cnt dr X k = nI o) : ∀ j, j < 8 → (stX1 (nI (W * H)) nr mk ds cnt dr X).1 k j = if ¬ mk o &&& (1 <<< (nI g &&& 31)) = 0 then (upd (upd (upd (upd (upd (X.1 k) 4 (nI s)) 5 0) 6 (X.1 k 6 + 1)) 3 (-1)) 7 (X.2.2.2 + 1)) j else (upd (upd (upd (upd (X.1 k) 4 (nI s)) 5 0) 6 (X.1 k 6 + 1)) 3 (nI o)) j := fun j hj => by
  have h9 : W * H ≤ 196 := Nat.mul_le_mul hW hH
  obtain ⟨r8, r9, r10, r⟩ := rk_8 (n := W * H) (nr := nr) (ds := ds) (cnt := cnt) (dr := dr) (X := X) (k := k)
  have hm := (mv_go (ds := ds) (dr := dr) hL hW hH hc hV hk).mpr h
  have hq : sq_mk (nI (W * H)) mk (rwK (W * H) nr ds cnt dr X k 0) (rwK (W * H) nr ds cnt dr X k 10) ↔ ¬ mk o &&& (1 <<< (nI g &&& 31)) = 0 := by
    rw [r 0 (by omega), r10, eg, et]
    exact sq_mkI hg ho h9
  show gwW _ _ _ _ _ (rwK (W * H) nr ds cnt dr X k) j = _
  unfold gwW
  rw [if_pos hm.1, if_pos hm.2]
  unfold goW
  by_cases hmk : ¬ mk o &&& (1 <<< (nI g &&& 31)) = 0
  · rw [if_pos (hq.mpr hmk), if_pos hmk]
    exact up8 (up8 (up8 (up8 (up8 r (by rw [r9, es])) rfl) (by rw [r 6 (by omega)])) rfl) rfl j hj
  · rw [if_neg (fun z => hmk (hq.mp z)), if_neg hmk]
    exact up8 (up8 (up8 (up8 r (by rw [r9, es])) rfl) (by rw [r 6 (by omega)])) (by rw [r10, et]) j hj
/-- the heat behind the first k -/
def hoK (n : Nat) (nr mk ds : Nat → Int32) (cnt : Nat) (dr : Int32) (X : cX) (k : Nat) : Nat → Int32 := (hoX (nI n) mk cnt X.1 (tbX X.1 (X.2.2.2 + 1)) (sdK n nr ds cnt dr X) (tgK n nr ds cnt dr X) X.2.1 X.2.2.1 k).1
theorem ho_stay {W H cnt N : Nat} {nr mk ds : Nat → Int32} {dr : Int32} {X : cX} (hL : lk_ok W H (W * H) nr) (hW : W ≤ 14) (hH : H ≤ 14) (hc : cnt ≤ 24) (hV : wdV W H cnt N X) {k : Nat} (hk : k < cnt) (h : ¬ goB (W * H) nr ds cnt dr X k) : hoK (W * H) nr mk ds cnt dr X (k + 1) = hoK (W * H) nr mk ds cnt dr X k := if_neg (fun z => h ((mv_go hL hW hH hc hV hk).mp z))
theorem ho_go {W H cnt N o : Nat} {nr mk ds : Nat → Int32} {dr : Int32} {X : cX} (hL : lk_ok W H (W * H) nr) (hW : W ≤ 14) (hH : H ≤ 14) (hc : cnt ≤ 24) (hV : wdV W H cnt N X) {k : Nat} (hk : k < cnt) (h : goB (W * H) nr ds cnt dr X k) (ho : o < W * H) (et : tgK (W * H) nr ds cnt dr X k = nI o) : hoK (W * H) nr mk ds cnt dr X (k + 1) = upd (hoK (W * H) nr mk ds cnt dr X k) o (hoK (W * H) nr mk ds cnt dr X k o + 1) := by
  have h9 : W * H ≤ 196 := Nat.mul_le_mul hW hH
  have hm := (mv_go (ds := ds) (dr := dr) hL hW hH hc hV hk).mpr h
  show gwH _ _ _ (rwK (W * H) nr ds cnt dr X k) (hoK (W * H) nr mk ds cnt dr X k) = _
  unfold gwH
  rw [if_pos hm]
  unfold goH
  rw [show rwK (W * H) nr ds cnt dr X k 10 = nI o from et, nI_clamp (by omega)]
/-- who is out in this tick -/
def pGf (n : Nat) (nr mk ds : Nat → Int32) (cnt : Nat) (dr : Int32) (X : cX) (k : Nat) : Bool := decide (¬ X.1 k 3 = -1 ∧ (stX1 (nI n) nr mk ds cnt dr X).1 k 3 = -1)
theorem pGf_out {W H cnt N : Nat} {nr mk ds : Nat → Int32} {dr : Int32} {X : cX} (hL : lk_ok W H (W * H) nr) (hW : W ≤ 14) (hH : H ≤ 14) (hc : cnt ≤ 24) (hV : wdV W H cnt N X) : ct (pOut (stX1 (nI (W * H)) nr mk ds cnt dr X).1) cnt = ct (pOut X.1) cnt + ct (pGf (W * H) nr mk ds cnt dr X) cnt := by
  refine ct_or (fun k hk => ?_)
  have key : X.1 k 3 = -1 → (stX1 (nI (W * H)) nr mk ds cnt dr X).1 k 3 = -1 := fun e => by
    have hng : ¬ goB (W * H) nr ds cnt dr X k := fun z => by
      have := (goB_of hL hW hH hc hV hk z).1.1
      exact this e
    rw [nu_stay hL hW hH hc hV hk hng 3 (by omega), if_neg (fun z => z.1 e)]
    exact e
  unfold pOut pGf
  by_cases e : X.1 k 3 = -1
  · rw [decide_eq_true (key e), decide_eq_true e, decide_eq_false (fun z => z.1 e)]
    exact ⟨rfl, rfl⟩
  · by_cases e2 : (stX1 (nI (W * H)) nr mk ds cnt dr X).1 k 3 = -1
    · rw [decide_eq_true e2, decide_eq_false e, decide_eq_true ⟨e, e2⟩]
      exact ⟨rfl, rfl⟩
    · rw [decide_eq_false e2, decide_eq_false e, decide_eq_false (fun z => e2 z.2)]
      exact ⟨rfl, rfl⟩
/-- rows of numbers, one of them spelled out -/
def fk_V (G : ms_H) (wa cnt : Nat) (wr : Nat → Nat) (wv : Nat → Nat → Int32) : Prop :=
  (∃ f : Nat → Option Nat, (∀ k, k < cnt → f k = some (wr k)) ∧ G wa = some (.inl (4, cnt, .inr (.inr (.inr (.inr f)))))) ∧
  (∀ k, k < cnt → ∃ r : Nat → Int32, (∀ c, c < 9 → r c = wv k c) ∧ G (wr k) = some (.inl (0, 9, .inl r))) ∧ ∀ j k, j < cnt → k < cnt → wr j = wr k → j = k
theorem fk_W.V {G : ms_H} {wa W cnt : Nat} {wr : Nat → Nat} {u : Nat → Nat → Int32} (h : fk_W G wa W cnt wr u) : fk_V G wa cnt wr (fun k => wvX W (u k)) := h
theorem fk_V.W {G : ms_H} {wa W cnt : Nat} {wr : Nat → Nat} {wv u : Nat → Nat → Int32} (h : fk_V G wa cnt wr wv) (e : ∀ k, k < cnt → ∀ c, c < 9 → wv k c = wvX W (u k) c) : fk_W G wa W cnt wr u := by
  refine ⟨h.1, fun k hk => ?_, h.2.2⟩
  obtain ⟨r, a, b⟩ := h.2.1 k hk
  exact ⟨r, fun c hc => (a c hc).trans (e k hk c hc), b⟩
theorem fk_V.fr {G G1 : ms_H} {wa cnt : Nat} {wr : Nat → Nat} {wv : Nat → Nat → Int32} (h : fk_V G wa cnt wr wv) (h0 : G1 wa = G wa) (hF : ∀ k, k < cnt → G1 (wr k) = G (wr k)) : fk_V G1 wa cnt wr wv := by
  obtain ⟨⟨f, h1, h2⟩, h3, h4⟩ := h
  refine ⟨⟨f, h1, h0.trans h2⟩, fun k hk => ?_, h4⟩
  obtain ⟨r, a, b⟩ := h3 k hk
  exact ⟨r, a, (hF k hk).trans b⟩
theorem fk_V.wide {G : ms_H} {wa cnt : Nat} {wr : Nat → Nat} {wv : Nat → Nat → Int32} (h : fk_V G wa cnt wr wv) (k : Nat) : fk_V G wa cnt wr (va_up wv k (wv k)) := by
  refine ⟨h.1, fun j hj => ?_, h.2.2⟩
  obtain ⟨r, a, b⟩ := h.2.1 j hj
  refine ⟨r, fun c hc => ?_, b⟩
  rw [a c hc]
  unfold va_up
  split
  · next e => rw [e]
  · rfl
section FKV
variable {x : Bool} {d : ms_D} {P : ms_P} {pc : Nat} {lv : List (Nat × Value)} {st : List Value} {n : Nat} {G : ms_H} {kr zr : Nat}
theorem fk_ldv {wa cnt i : Nat} {wr : Nat → Nat} {wv : Nat → Nat → Int32} (hdg : decode d.2.1 pc = .ok (.aaload, 1)) (hF : fk_V G wa cnt wr wv) (hi : i < cnt) (hc : cnt ≤ 24) (k : ms_W x d P (pc + 1) lv (.ref (wr i) :: st) n G kr zr) : ms_W x d P pc lv (.int (nI i) :: .ref wa :: st) n G kr zr := by
  obtain ⟨⟨f, h1, h2⟩, -, -⟩ := hF
  refine ms_aaloadA hdg h2 (vp_in_nI hi (by omega)) ?_
  rw [nI_clamp (by omega), h1 i hi]
  exact k
theorem fk_ldU {wa cnt i c : Nat} {wr : Nat → Nat} {wv : Nat → Nat → Int32} {R : Nat → Int32} {ci v : Int32} (hdg : decode d.2.1 pc = .ok (.iaload, 1)) (hF : fk_V G wa cnt wr (va_up wv i R)) (hi : i < cnt) (hc : c < 9) (hci : ci = nI c) (hv : R c = v) (k : ms_W x d P (pc + 1) lv (.int v :: st) n G kr zr) : ms_W x d P pc lv (.int ci :: .ref (wr i) :: st) n G kr zr := by
  obtain ⟨r, h1, h2⟩ := hF.2.1 i hi
  subst hci
  refine ms_iaload hdg h2 (vp_in_nI hc (by omega)) ?_
  rw [nI_clamp (by omega), h1 c hc, show va_up wv i R i = R from if_pos rfl, hv]
  exact k
theorem fk_stU {wa cnt i c : Nat} {wr : Nat → Nat} {wv : Nat → Nat → Int32} {R : Nat → Int32} {ci v : Int32} (hdg : decode d.2.1 pc = .ok (.iastore, 1)) (hF : fk_V G wa cnt wr (va_up wv i R)) (hi : i < cnt) (hc : c < 9) (hci : ci = nI c) (k : ∀ K : ms_H, (∀ a, a ≠ wr i → K a = G a) → fk_V K wa cnt wr (va_up wv i (upd R c v)) → ms_W x d P (pc + 1) lv st n K kr zr) : ms_W x d P pc lv (.int v :: .int ci :: .ref (wr i) :: st) n G kr zr := by
  obtain ⟨⟨f, f1, f2⟩, g, hj⟩ := hF
  obtain ⟨r, h1, h2⟩ := g i hi
  subst hci
  refine ms_iastore hdg h2 (vp_in_nI hc (by omega)) ?_
  rw [nI_clamp (by omega)]
  refine k _ (fun a ha => ms_up_n _ _ ha) ⟨⟨f, f1, (ms_up_n _ _ (fun e => by rw [← e, f2] at h2; cases h2)).trans f2⟩, fun j hj9 => ?_, hj⟩
  by_cases e : j = i
  · subst e
    refine ⟨_, fun c2 hc2 => ?_, ms_up_s _ _ _⟩
    rw [show va_up wv j (upd R c v) j = upd R c v from if_pos rfl]
    unfold upd
    split
    · rfl
    · rw [h1 c2 hc2, show va_up wv j R j = R from if_pos rfl]
  · obtain ⟨r2, a, b⟩ := g j hj9
    refine ⟨r2, fun c2 hc2 => ?_, (ms_up_n _ _ (fun z => e (hj j i hj9 hi z))).trans b⟩
    rw [a c2 hc2, show va_up wv i R j = wv j from if_neg e, show va_up wv i (upd R c v) j = wv j from if_neg e]
end FKV
/-- heat put in its place -/
def fvh (fv : Nat → Nat → Int32) (h : Nat → Int32) : Nat → Nat → Int32 := fun f c => if c = 1 then h f else fv f c
theorem fvh_up {fv : Nat → Nat → Int32} {h : Nat → Int32} {o : Nat} {v : Int32} : va_up (fvh fv h) o (upd (fvh fv h o) 1 v) = fvh fv (upd h o v) := by
  funext f c
  unfold va_up fvh upd
  by_cases e : f = o
  · rw [if_pos e]
    by_cases e2 : c = 1
    · rw [if_pos e2, if_pos e2, if_pos e]
    · rw [if_neg e2, if_neg e2, e]
      exact if_neg e2
  · rw [if_neg e]
    by_cases e2 : c = 1
    · rw [if_pos e2, if_pos e2, if_neg e]
    · rw [if_neg e2, if_neg e2]
def fk_ly (o fa W H wa cnt : Nat) (wr : Nat → Nat) : Prop := o < fa ∧ mn_ad fa H W ≤ wa ∧ ∀ k, k < cnt → mn_ad fa H W ≤ wr k

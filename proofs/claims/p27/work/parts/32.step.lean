/-! Crowd.step: one tick -/
/-- the crowd: walkers, heat, who is on each field, the clock -/
abbrev cX : Type := (Nat → Nat → Int32) × (Nat → Int32) × (Nat → Int32) × Int32
def cw_at (G : ms_H) (g q c cnt : Nat) (dr pa : Int32) (X : cX) : Prop := ∃ (hd cm : Nat → Int32) (wk : Nat → Nat → Int32), cr_at G g q c hd X.2.2.1 X.2.1 cm wk ∧ hd 0 = nI cnt ∧ hd 1 = X.2.2.2 ∧ hd 2 = dr ∧ hd 3 = pa ∧ ∀ k, k < cnt → ∀ j, j < 8 → wk k j = X.1 k j
theorem cw_at.fr {G G1 : ms_H} {g q c cnt lo len : Nat} {dr pa : Int32} {X : cX} (h : cw_at G g q c cnt dr pa X) (f : ms_fr lo len G G1) (hd9 : c + 28 < lo ∨ lo + len ≤ c) : cw_at G1 g q c cnt dr pa X := by
  obtain ⟨hd, cm, wk, h1, h2⟩ := h
  exact ⟨hd, cm, wk, h1.fr f hd9, h2⟩
theorem cr_at.wkc {G : ms_H} {g q c : Nat} {hd on ht cm : Nat → Int32} {wk wk' : Nat → Nat → Int32} (hC : cr_at G g q c hd on ht cm wk) (h : ∀ i, i < 24 → ∀ j, j < 11 → wk i j = wk' i j) : cr_at G g q c hd on ht cm wk' := by
  obtain ⟨h1, h2, h3, h4', h5, h6⟩ := hC
  refine ⟨h1, h2, h3, h4', h5, fun i hi => ?_⟩
  rw [h6 i hi]
  unfold cr_w
  rw [h i hi 0 (by omega), h i hi 1 (by omega), h i hi 2 (by omega), h i hi 3 (by omega), h i hi 4 (by omega), h i hi 5 (by omega), h i hi 6 (by omega), h i hi 7 (by omega), h i hi 8 (by omega), h i hi 9 (by omega), h i hi 10 (by omega)]
theorem pIs_cnt {cnt : Nat} (hc : cnt ≤ 24) {o : Int32} (h : pIs (nI cnt) o) : o.toNatClampNeg < cnt := nb_clt (M := nI cnt) (nI_toInt (by omega)) (Int32.not_lt.mpr h.1) (Int32.not_le.mpr h.2.1)
theorem cFace_c {cnt : Nat} (hc : cnt ≤ 24) {nr on : Nat → Int32} {wk wk' : Nat → Nat → Int32} {f s : Int32} (ha : ∀ k, k < cnt → ∀ j, j < 8 → wk k j = wk' k j) : cFace (nI cnt) nr on wk f s = cFace (nI cnt) nr on wk' f s := by
  unfold cFace
  congr 1
  refine ct_congr (fun k _ => ?_)
  unfold pFace
  refine decide_eq_decide.mpr ⟨fun z => ⟨z.1, ?_⟩, fun z => ⟨z.1, ?_⟩⟩
  · rw [← ha _ (pIs_cnt hc z.1) 4 (by omega)]; exact z.2
  · rw [ha _ (pIs_cnt hc z.1) 4 (by omega)]; exact z.2
theorem cr_cost_c {cnt : Nat} (hc : cnt ≤ 24) {fl : Int32} {nr ds on hd hd' : Nat → Int32} {wk wk' : Nat → Nat → Int32} {u u' : Nat → Int32} {s : Int32} (h0 : hd 0 = nI cnt) (h0' : hd' 0 = nI cnt) (h2 : hd 2 = hd' 2) (ha : ∀ k, k < cnt → ∀ j, j < 8 → wk k j = wk' k j) (hu : ∀ j, j < 8 → u j = u' j) : cr_cost fl nr ds on hd wk u s = cr_cost fl nr ds on hd' wk' u' s := by
  unfold cr_cost
  rw [hu 0 (by omega), hu 2 (by omega), hu 3 (by omega), h0, h0', h2, cFace_c hc ha]
def hdX (cnt : Nat) (dr : Int32) : Nat → Int32 := h4 (nI cnt) 0 dr 0
/-- the side that walker k wants -/
def bsX (fl : Int32) (nr ds : Nat → Int32) (cnt : Nat) (dr : Int32) (on : Nat → Int32) (u : Nat → Nat → Int32) (k : Nat) : Int32 := (cr_bs (fun j => cr_cost fl nr ds on (hdX cnt dr) u (u k) (nI j)) 5).1
def tbX (u : Nat → Nat → Int32) (t : Int32) (k : Nat) : Int32 := ms_b (wk_turn (u k) t)
def sdX (fl : Int32) (nr ds : Nat → Int32) (cnt : Nat) (dr : Int32) (on : Nat → Int32) (u : Nat → Nat → Int32) (t : Int32) (k : Nat) : Int32 := if wk_turn (u k) t then bsX fl nr ds cnt dr on u k else 4
def rwX (u : Nat → Nat → Int32) (tb sd tg : Nat → Int32) (k : Nat) : Nat → Int32 := upd (upd (upd (u k) 8 (tb k)) 9 (sd k)) 10 (tg k)
/-- who of the first k is to go to f -/
def wnX (tg : Nat → Int32) (u : Nat → Nat → Int32) (f : Int32) : Nat → Int32
  | 0 => -1
  | k + 1 => if tg k = f ∧ (wnX tg u f k = -1 ∨ u (wnX tg u f k).toNatClampNeg 5 < u k 5) then nI k else wnX tg u f k
def cmX (tg : Nat → Int32) (u : Nat → Nat → Int32) (cnt : Nat) : Nat → Int32 := fun f => wnX tg u (nI f) cnt
def nuX (fl : Int32) (mk : Nat → Int32) (cnt : Nat) (u : Nat → Nat → Int32) (tb sd tg : Nat → Int32) (tm : Int32) (k : Nat) : Nat → Int32 := gwW fl mk (cmX tg u cnt) tm k (rwX u tb sd tg k)
def hoX (fl : Int32) (mk : Nat → Int32) (cnt : Nat) (u : Nat → Nat → Int32) (tb sd tg ht on : Nat → Int32) : Nat → (Nat → Int32) × (Nat → Int32)
  | 0 => (ht, on)
  | k + 1 => (gwH fl (cmX tg u cnt) k (rwX u tb sd tg k) (hoX fl mk cnt u tb sd tg ht on k).1, gwO fl mk (cmX tg u cnt) k (rwX u tb sd tg k) (hoX fl mk cnt u tb sd tg ht on k).2)
def tgX (fl : Int32) (nr ds : Nat → Int32) (cnt : Nat) (dr : Int32) (X : cX) (k : Nat) : Int32 := amT nr (X.1 k) (sdX fl nr ds cnt dr X.2.2.1 X.1 (X.2.2.2 + 1) k)
/-- one tick -/
def stX1 (fl : Int32) (nr mk ds : Nat → Int32) (cnt : Nat) (dr : Int32) (X : cX) : cX :=
  (fun k => nuX fl mk cnt X.1 (tbX X.1 (X.2.2.2 + 1)) (sdX fl nr ds cnt dr X.2.2.1 X.1 (X.2.2.2 + 1)) (tgX fl nr ds cnt dr X) (X.2.2.2 + 1) k,
   (hoX fl mk cnt X.1 (tbX X.1 (X.2.2.2 + 1)) (sdX fl nr ds cnt dr X.2.2.1 X.1 (X.2.2.2 + 1)) (tgX fl nr ds cnt dr X) X.2.1 X.2.2.1 cnt).1,
   (hoX fl mk cnt X.1 (tbX X.1 (X.2.2.2 + 1)) (sdX fl nr ds cnt dr X.2.2.1 X.1 (X.2.2.2 + 1)) (tgX fl nr ds cnt dr X) X.2.1 X.2.2.1 cnt).2,
   X.2.2.2 + 1)
theorem wnX_or {tg : Nat → Int32} {u : Nat → Nat → Int32} {f : Int32} : ∀ k, wnX tg u f k = -1 ∨ ∃ b, b < k ∧ wnX tg u f k = nI b ∧ tg b = f
  | 0 => Or.inl rfl
  | k + 1 => by
    unfold wnX
    split
    · next h => exact Or.inr ⟨k, Nat.lt_succ_self k, rfl, h.1⟩
    · rcases wnX_or k with h | ⟨b, h1, h2⟩
      · exact Or.inl h
      · exact Or.inr ⟨b, by omega, h2⟩
theorem has_nI {fl f : Int32} (h : gr_has fl f) : f = nI f.toNatClampNeg := by
  obtain ⟨j, hj, rfl⟩ := nI_of (Int32.not_lt.mpr h.1)
  rw [nI_clamp hj]
theorem cmX_has {fl : Int32} {tg : Nat → Int32} {u : Nat → Nat → Int32} {cnt : Nat} {f : Int32} (h : gr_has fl f) : cmX tg u cnt f.toNatClampNeg = wnX tg u f cnt := by
  unfold cmX
  rw [← has_nI h]
theorem wnX_s {tg : Nat → Int32} {u : Nat → Nat → Int32} {f : Int32} {k : Nat} : wnX tg u f (k + 1) = if tg k = f ∧ (wnX tg u f k = -1 ∨ u (wnX tg u f k).toNatClampNeg 5 < u k 5) then nI k else wnX tg u f k := rfl
/-- what stands in the claims' row behind the first k claims -/
def i2X (fl : Int32) (tg : Nat → Int32) (u : Nat → Nat → Int32) (cnt k : Nat) (cm : Nat → Int32) : Prop := ∀ i, i < cnt → gr_has fl (tg i) → cm (tg i).toNatClampNeg = wnX tg u (tg i) k
theorem i2X.step {fl : Int32} {tg : Nat → Int32} {u wk : Nat → Nat → Int32} {cnt k : Nat} {cm : Nat → Int32} (hc : cnt ≤ 24) (h : i2X fl tg u cnt k cm) (hk : k < cnt) (h10 : wk k 10 = tg k) (h5 : ∀ i, i < cnt → wk i 5 = u i 5) : i2X fl tg u cnt (k + 1) (clC fl (nI cnt) wk k cm) := by
  intro i hi hf
  unfold clC
  rw [h10, h5 k hk]
  by_cases hg : gr_has fl (tg k)
  · have e := h k hk hg
    rw [e]
    have key : (pIs (nI cnt) (wnX tg u (tg k) k) → wk (wnX tg u (tg k) k).toNatClampNeg 5 < u k 5) ↔ (wnX tg u (tg k) k = -1 ∨ u (wnX tg u (tg k) k).toNatClampNeg 5 < u k 5) := by
      rcases wnX_or (tg := tg) (u := u) (f := tg k) k with h1 | ⟨b, hb, h1, -⟩
      · rw [h1]
        exact ⟨fun _ => Or.inl rfl, fun _ h9 => absurd h9.1 (by decide)⟩
      · rw [h1, nI_clamp (by omega), h5 b (by omega)]
        exact ⟨fun z => Or.inr (z ⟨nI_pos' (by omega), nI_lt (by omega) (by omega), show nI b < nI 24 from nI_lt (by omega) (by omega)⟩), fun z _ => z.resolve_left (nI_m1 (by omega))⟩
    by_cases hw : wnX tg u (tg k) k = -1 ∨ u (wnX tg u (tg k) k).toNatClampNeg 5 < u k 5
    · rw [if_pos ⟨hg, key.mpr hw⟩]
      by_cases ei : tg k = tg i
      · rw [← ei]
        unfold upd
        rw [if_pos rfl, wnX_s, if_pos ⟨rfl, hw⟩]
      · have e2 : (tg i).toNatClampNeg ≠ (tg k).toNatClampNeg := fun z => ei (by rw [has_nI hg, has_nI hf, z])
        unfold upd
        rw [if_neg e2, h i hi hf]
        rw [wnX_s, if_neg (fun z => ei z.1)]
    · rw [if_neg (fun z => hw (key.mp z.2)), h i hi hf]
      rw [wnX_s, if_neg (fun z => by
        have ei := z.1
        rw [← ei] at z
        exact hw z.2)]
  · rw [if_neg (fun z => hg z.1), h i hi hf]
    rw [wnX_s, if_neg (fun z => hg (by rw [z.1]; exact hf))]
theorem goP_c {fl : Int32} {tg : Nat → Int32} {u : Nat → Nat → Int32} {tb sd : Nat → Int32} {cnt k : Nat} {cm : Nat → Int32} (h : i2X fl tg u cnt cnt cm) (hk : k < cnt) : goP fl cm (rwX u tb sd tg k) k ↔ goP fl (cmX tg u cnt) (rwX u tb sd tg k) k := by
  show (gr_has fl (tg k) ∧ cm (tg k).toNatClampNeg = nI k) ↔ (gr_has fl (tg k) ∧ cmX tg u cnt (tg k).toNatClampNeg = nI k)
  constructor
  · rintro ⟨h1, h2⟩
    exact ⟨h1, by rw [cmX_has h1, ← h k hk h1]; exact h2⟩
  · rintro ⟨h1, h2⟩
    exact ⟨h1, by rw [h k hk h1, ← cmX_has h1]; exact h2⟩
theorem gw_c {fl : Int32} {mk : Nat → Int32} {tg : Nat → Int32} {u : Nat → Nat → Int32} {tb sd : Nat → Int32} {cnt k : Nat} {cm : Nat → Int32} (h : i2X fl tg u cnt cnt cm) (hk : k < cnt) (tm : Int32) (on ht : Nat → Int32) :
    gwW fl mk cm tm k (rwX u tb sd tg k) = gwW fl mk (cmX tg u cnt) tm k (rwX u tb sd tg k) ∧ gwH fl cm k (rwX u tb sd tg k) ht = gwH fl (cmX tg u cnt) k (rwX u tb sd tg k) ht ∧ gwO fl mk cm k (rwX u tb sd tg k) on = gwO fl mk (cmX tg u cnt) k (rwX u tb sd tg k) on := by
  have e := goP_c (tb := tb) (sd := sd) h hk
  unfold gwW gwH gwO
  by_cases h8 : rwX u tb sd tg k 8 = 0
  · refine ⟨?_, ?_, ?_⟩
    · rw [if_neg (fun z => z h8), if_neg (fun z => z h8)]
    · rw [if_neg (fun z => z.1 h8), if_neg (fun z => z.1 h8)]
    · rw [if_neg (fun z => z.1 h8), if_neg (fun z => z.1 h8)]
  · by_cases hg : goP fl cm (rwX u tb sd tg k) k
    · have hg2 := e.mp hg
      refine ⟨?_, ?_, ?_⟩
      · rw [if_pos h8, if_pos hg, if_pos h8, if_pos hg2]
      · rw [if_pos ⟨h8, hg⟩, if_pos ⟨h8, hg2⟩]
      · rw [if_pos ⟨h8, hg⟩, if_pos ⟨h8, hg2⟩]
    · have hg2 : ¬ goP fl (cmX tg u cnt) (rwX u tb sd tg k) k := fun z => hg (e.mpr z)
      refine ⟨?_, ?_, ?_⟩
      · rw [if_pos h8, if_neg hg, if_pos h8, if_neg hg2]
      · rw [if_neg (fun z => hg z.2), if_neg (fun z => hg2 z.2)]
      · rw [if_neg (fun z => hg z.2), if_neg (fun z => hg2 z.2)]
/-- the walkers' rows in the third pass -/
def w3X (fl : Int32) (mk : Nat → Int32) (cnt : Nat) (u : Nat → Nat → Int32) (tb sd tg : Nat → Int32) (tm : Int32) (wk : Nat → Nat → Int32) (k : Nat) : Nat → Nat → Int32 := fun i => if i < k then nuX fl mk cnt u tb sd tg tm i else if i < cnt then rwX u tb sd tg i else wk i
/-- and in the first one -/
def w1X (u : Nat → Nat → Int32) (tb sd tg : Nat → Int32) (wk : Nat → Nat → Int32) (k : Nat) : Nat → Nat → Int32 := fun i => if i < k then rwX u tb sd tg i else wk i
theorem w3X_at {fl : Int32} {mk : Nat → Int32} {cnt : Nat} {u : Nat → Nat → Int32} {tb sd tg : Nat → Int32} {tm : Int32} {wk : Nat → Nat → Int32} {k : Nat} (hk : k < cnt) : w3X fl mk cnt u tb sd tg tm wk k k = rwX u tb sd tg k := by
  unfold w3X
  rw [if_neg (Nat.lt_irrefl k), if_pos hk]
theorem w3X_s {fl : Int32} {mk : Nat → Int32} {cnt : Nat} {u : Nat → Nat → Int32} {tb sd tg : Nat → Int32} {tm : Int32} {wk : Nat → Nat → Int32} {k : Nat} : va_up (w3X fl mk cnt u tb sd tg tm wk k) k (nuX fl mk cnt u tb sd tg tm k) = w3X fl mk cnt u tb sd tg tm wk (k + 1) := by
  funext i
  unfold va_up w3X
  by_cases e : i = k
  · subst e
    rw [if_pos rfl, if_pos (Nat.lt_succ_self _)]
  · rw [if_neg e]
    by_cases h : i < k
    · rw [if_pos h, if_pos (show i < k + 1 by omega)]
    · rw [if_neg h, if_neg (show ¬ i < k + 1 by omega)]
theorem w3X_0 {fl : Int32} {mk : Nat → Int32} {cnt : Nat} {u : Nat → Nat → Int32} {tb sd tg : Nat → Int32} {tm : Int32} {wk : Nat → Nat → Int32} : w3X fl mk cnt u tb sd tg tm wk 0 = w1X u tb sd tg wk cnt := by
  funext i
  unfold w3X w1X
  rw [if_neg (Nat.not_lt_zero i)]
theorem w1X_at {u : Nat → Nat → Int32} {tb sd tg : Nat → Int32} {wk : Nat → Nat → Int32} {k : Nat} : w1X u tb sd tg wk k k = wk k := if_neg (Nat.lt_irrefl k)
theorem w1X_0 {u : Nat → Nat → Int32} {tb sd tg : Nat → Int32} {wk : Nat → Nat → Int32} : w1X u tb sd tg wk 0 = wk := by
  funext i
  exact if_neg (Nat.not_lt_zero i)
theorem w1X_s {u : Nat → Nat → Int32} {tb sd tg : Nat → Int32} {wk : Nat → Nat → Int32} {k : Nat} {b s T : Int32} (ha : ∀ j, j < 8 → wk k j = u k j) (hb : b = tb k) (h1 : s = sd k) (h2 : T = tg k) : ∀ i, i < 24 → ∀ j, j < 11 → va_up (va_up (w1X u tb sd tg wk k) k (upd (w1X u tb sd tg wk k k) 8 b)) k (amW (va_up (w1X u tb sd tg wk k) k (upd (w1X u tb sd tg wk k k) 8 b) k) s T) i j = w1X u tb sd tg wk (k + 1) i j := by
  intro i hi j hj
  subst hb; subst h1; subst h2
  rw [bx_uu]
  unfold va_up
  by_cases e : i = k
  · subst e
    rw [if_pos rfl, if_pos rfl, w1X_at]
    show amW (upd (wk i) 8 (tb i)) (sd i) (tg i) j = (if i < i + 1 then rwX u tb sd tg i else wk i) j
    rw [if_pos (Nat.lt_succ_self i)]
    unfold amW rwX upd
    by_cases h10 : j = 10
    · simp [h10]
    · by_cases h9 : j = 9
      · simp [h9]
      · by_cases h8 : j = 8
        · simp [h8]
        · simp [h10, h9, h8, ha j (by omega)]
  · rw [if_neg e]
    unfold w1X
    by_cases h : i < k
    · rw [if_pos h, if_pos (show i < k + 1 by omega)]
    · rw [if_neg h, if_neg (show ¬ i < k + 1 by omega)]
theorem w1X_a {u : Nat → Nat → Int32} {tb sd tg : Nat → Int32} {wk : Nat → Nat → Int32} {cnt k : Nat} {b : Int32} (ha : ∀ i, i < cnt → ∀ j, j < 8 → wk i j = u i j) : ∀ i, i < cnt → ∀ j, j < 8 → va_up (w1X u tb sd tg wk k) k (upd (w1X u tb sd tg wk k k) 8 b) i j = u i j := by
  intro i hi j hj
  unfold va_up
  by_cases e : i = k
  · subst e
    rw [if_pos rfl, w1X_at]
    unfold upd
    rw [if_neg (by omega)]
    exact ha i hi j hj
  · rw [if_neg e]
    unfold w1X
    by_cases h : i < k
    · rw [if_pos h]
      unfold rwX upd
      rw [if_neg (by omega), if_neg (by omega), if_neg (by omega)]
    · rw [if_neg h]
      exact ha i hi j hj
def st_P (g q c n : Nat) (G : ms_H) (cnt : Nat) (dr pa : Int32) (X : cX) : ms_P := fun r n1 G1 => r = .inl none ∧ n1 = n ∧ cw_at G1 g q c cnt dr pa X ∧ ms_fr c 29 G G1
set_option maxHeartbeats 4000000 in
set_option maxRecDepth 20000 in
theorem l3_X0_step {n g q c : Nat} {G : ms_H} {fl w h : Int32} {nr : Nat → Int32} {wl mk ds qu : Nat → Int32} {hd : Nat → Int32} {u wk0 : Nat → Nat → Int32} {tb sd tg on ht : Nat → Int32} {cnt : Nat} (hs : g + 1 < q) (hs2 : q + 4 < c) (hx : hd 0 = nI cnt) (hc : cnt ≤ 24) {cm : Nat → Int32} (h2 : i2X fl tg u cnt cnt cm) (hv : ∀ k, k < cnt → ¬ rwX u tb sd tg k 8 = 0 → gr_has fl (rwX u tb sd tg k 3)) : ∀ (r k : Nat), k + r = cnt → ∀ (K : ms_H), gr_at K g fl w h nr → sq_at K g q wl mk ds qu → cr_at K g q c hd (hoX fl mk cnt u tb sd tg ht on k).2 (hoX fl mk cnt u tb sd tg ht on k).1 cm (w3X fl mk cnt u tb sd tg (hd 1) wk0 k) → ms_fr c 29 G K → ms_W false m_X0_step (st_P g q c n G cnt (hd 2) (hd 3) ((fun k => nuX fl mk cnt u tb sd tg (hd 1) k), (hoX fl mk cnt u tb sd tg ht on cnt).1, (hoX fl mk cnt u tb sd tg ht on cnt).2, hd 1)) 92 [(0, .ref c), (1, .int (nI k))] [] n K 0 0 := by
  intro r
  induction r with
  | zero =>
    intro k hk K hG hQ hC hF
    have hkN : k = cnt := by omega
    refine ms_run (pc' := 94) (lv' := [(0, .ref c), (1, .int (nI k))]) (st' := [.ref c, .int (nI k)]) _ (ms_deC dX0_step_92 (ms_deC dX0_step_93 ms_deN)) rfl rfl ?_
    refine ms_getf dX0_step_94 fg_X0_43 hC.1 rfl ?_
    refine ms_icmp_ge (tgt := 111) dX0_step_97 (by decide) (fun h_97 => ?_) (fun h_97 => ?_)
    · skip
      refine ms_retv (st := []) dX0_step_111 rfl ?_
      rw [hkN] at hC
      exact ⟨rfl, rfl, ⟨hd, cm, _, hC, hx, rfl, rfl, rfl, fun i hi j hj => by show (w3X fl mk cnt u tb sd tg (hd 1) wk0 cnt) i j = _; unfold w3X; rw [if_pos hi]⟩, hF⟩
    · skip
      exact absurd (by rw [hx]; exact nI_le (b := k) (by omega) (by omega)) h_97
  | succ r ih =>
    intro k hk K hG hQ hC hF
    have hlt : k < cnt := by omega
    refine ms_run (pc' := 94) (lv' := [(0, .ref c), (1, .int (nI k))]) (st' := [.ref c, .int (nI k)]) _ (ms_deC dX0_step_92 (ms_deC dX0_step_93 ms_deN)) rfl rfl ?_
    refine ms_getf dX0_step_94 fg_X0_43 hC.1 rfl ?_
    refine ms_icmp_ge (tgt := 111) dX0_step_97 (by decide) (fun h_97 => ?_) (fun h_97 => ?_)
    · skip
      exact absurd h_97 (by rw [hx]; exact nI_ge (b := cnt) (by omega) (by omega))
    · skip
      refine ms_run (pc' := 102) (lv' := [(0, .ref c), (1, .int (nI k))]) (st' := [.int (nI k), .ref c]) _ (ms_deC dX0_step_100 (ms_deC dX0_step_101 ms_deN)) rfl rfl ?_
      refine ms_callV0 (As := [.int (nI k)]) dX0_step_102 (c_X0_goOrWait hG hQ hC hs hs2 (by omega) hx hc hlt (by rw [w3X_at hlt]; exact hv k hlt)) cv_X0_170 hC.1 rfl ⟨Nat.le_of_ble_eq_true rfl, Nat.le_of_ble_eq_true rfl⟩ rfl (Nat.le_of_ble_eq_true rfl) (fun v9 n9 K9 hp9 => ?_)
      obtain ⟨hv9, rfl, hC9, hF9⟩ := hp9
      cases hv9
      obtain ⟨e1, e2, e3⟩ := gw_c (mk := mk) (tb := tb) (sd := sd) h2 hlt (hd 1) (hoX fl mk cnt u tb sd tg ht on k).2 (hoX fl mk cnt u tb sd tg ht on k).1
      rw [w3X_at hlt, e1, e2, e3] at hC9
      have hC8 : cr_at K9 g q c hd (hoX fl mk cnt u tb sd tg ht on (k + 1)).2 (hoX fl mk cnt u tb sd tg ht on (k + 1)).1 cm (w3X fl mk cnt u tb sd tg (hd 1) wk0 (k + 1)) := by rw [← w3X_s]; exact hC9
      have hG9 := hG.fr hF9 (by omega)
      have hQ9 := hQ.fr hF9 (by omega)
      refine ms_run (pc' := 108) (lv' := [(1, .int ((nI k) + 1)), (0, .ref c)]) (st' := []) _ (ms_deC dX0_step_105 ms_deN) rfl rfl ?_
      refine ms_goto (tgt := 92) dX0_step_108 (by decide) ?_
      rw [nI_1 k]
      refine ms_W.sub (lv2 := [(0, _), (1, _)]) ?_ [1, 0] rfl
      exact ih (k + 1) (by omega) K9 hG9 hQ9 hC8 (hF.trans hF9)
set_option maxHeartbeats 4000000 in
set_option maxRecDepth 20000 in
theorem l2_X0_step {n g q c : Nat} {G : ms_H} {fl w h : Int32} {nr : Nat → Int32} {wl mk ds qu : Nat → Int32} {hd : Nat → Int32} {u wk0 : Nat → Nat → Int32} {tb sd tg on ht : Nat → Int32} {cnt : Nat} (hs : g + 1 < q) (hs2 : q + 4 < c) (hx : hd 0 = nI cnt) (hc : cnt ≤ 24) (hv : ∀ k, k < cnt → ¬ rwX u tb sd tg k 8 = 0 → gr_has fl (rwX u tb sd tg k 3)) : ∀ (r k : Nat), k + r = cnt → ∀ (K : ms_H) (cm : Nat → Int32), gr_at K g fl w h nr → sq_at K g q wl mk ds qu → cr_at K g q c hd on ht cm (w1X u tb sd tg wk0 cnt) → i2X fl tg u cnt k cm → ms_fr c 29 G K → ms_W false m_X0_step (st_P g q c n G cnt (hd 2) (hd 3) ((fun k => nuX fl mk cnt u tb sd tg (hd 1) k), (hoX fl mk cnt u tb sd tg ht on cnt).1, (hoX fl mk cnt u tb sd tg ht on cnt).2, hd 1)) 71 [(0, .ref c), (1, .int (nI k))] [] n K 0 0 := by
  intro r
  induction r with
  | zero =>
    intro k hk K cm hG hQ hC h2 hF
    have hkN : k = cnt := by omega
    refine ms_run (pc' := 73) (lv' := [(0, .ref c), (1, .int (nI k))]) (st' := [.ref c, .int (nI k)]) _ (ms_deC dX0_step_71 (ms_deC dX0_step_72 ms_deN)) rfl rfl ?_
    refine ms_getf dX0_step_73 fg_X0_43 hC.1 rfl ?_
    refine ms_icmp_ge (tgt := 90) dX0_step_76 (by decide) (fun h_76 => ?_) (fun h_76 => ?_)
    · skip
      refine ms_run (pc' := 92) (lv' := [(1, .int 0), (0, .ref c)]) (st' := []) _ (ms_deC dX0_step_90 (ms_deC dX0_step_91 ms_deN)) rfl rfl ?_
      rw [hkN] at h2
      refine ms_W.sub (lv2 := [(0, _), (1, _)]) ?_ [1, 0] rfl
      exact l3_X0_step hs hs2 hx hc h2 hv cnt 0 (by omega) K hG hQ (by rw [w3X_0]; exact hC) hF
    · skip
      exact absurd (by rw [hx]; exact nI_le (b := k) (by omega) (by omega)) h_76
  | succ r ih =>
    intro k hk K cm hG hQ hC h2 hF
    have hlt : k < cnt := by omega
    refine ms_run (pc' := 73) (lv' := [(0, .ref c), (1, .int (nI k))]) (st' := [.ref c, .int (nI k)]) _ (ms_deC dX0_step_71 (ms_deC dX0_step_72 ms_deN)) rfl rfl ?_
    refine ms_getf dX0_step_73 fg_X0_43 hC.1 rfl ?_
    refine ms_icmp_ge (tgt := 90) dX0_step_76 (by decide) (fun h_76 => ?_) (fun h_76 => ?_)
    · skip
      exact absurd h_76 (by rw [hx]; exact nI_ge (b := cnt) (by omega) (by omega))
    · skip
      refine ms_run (pc' := 81) (lv' := [(0, .ref c), (1, .int (nI k))]) (st' := [.int (nI k), .ref c]) _ (ms_deC dX0_step_79 (ms_deC dX0_step_80 ms_deN)) rfl rfl ?_
      refine ms_callV0 (As := [.int (nI k)]) dX0_step_81 (c_X0_claim hG hC hs hs2 (by omega) hx hc hlt) cv_X0_166 hC.1 rfl ⟨Nat.le_of_ble_eq_true rfl, Nat.le_of_ble_eq_true rfl⟩ rfl (Nat.le_of_ble_eq_true rfl) (fun v9 n9 K9 hp9 => ?_)
      obtain ⟨hv9, rfl, hC9, hF9⟩ := hp9
      cases hv9
      have hG9 := hG.fr hF9 (by omega)
      have hQ9 := hQ.fr hF9 (by omega)
      refine ms_run (pc' := 87) (lv' := [(1, .int ((nI k) + 1)), (0, .ref c)]) (st' := []) _ (ms_deC dX0_step_84 ms_deN) rfl rfl ?_
      refine ms_goto (tgt := 71) dX0_step_87 (by decide) ?_
      rw [nI_1 k]
      refine ms_W.sub (lv2 := [(0, _), (1, _)]) ?_ [1, 0] rfl
      exact ih (k + 1) (by omega) K9 _ hG9 hQ9 hC9 (by rw [hx]; exact h2.step hc hlt (by unfold w1X; rw [if_pos hlt]; rfl) (fun i hi => by unfold w1X; rw [if_pos hi]; rfl)) (hF.trans hF9)
/-- in the first pass: the claims of the first k targets are open -/
def i1X (fl : Int32) (tg : Nat → Int32) (k : Nat) (cm : Nat → Int32) : Prop := ∀ i, i < k → gr_has fl (tg i) → cm (tg i).toNatClampNeg = -1
theorem i1X_s {fl : Int32} {tg : Nat → Int32} {k : Nat} {cm : Nat → Int32} (h : i1X fl tg k cm) : i1X fl tg (k + 1) (amC fl cm (tg k)) := by
  intro i hi hf
  unfold amC
  by_cases hg : gr_has fl (tg k)
  · rw [if_pos hg]
    unfold upd
    by_cases e : (tg i).toNatClampNeg = (tg k).toNatClampNeg
    · rw [if_pos e]
    · rw [if_neg e]
      have hk : i ≠ k := fun z => e (by rw [z])
      exact h i (by omega) hf
  · rw [if_neg hg]
    have hk : i ≠ k := fun z => hg (by rw [← z]; exact hf)
    exact h i (by omega) hf
set_option maxHeartbeats 4000000 in
set_option maxRecDepth 20000 in
theorem l1_X0_step {n g q c : Nat} {G : ms_H} {fl w h : Int32} {nr : Nat → Int32} {wl mk ds qu : Nat → Int32} {hd : Nat → Int32} {u wk0 : Nat → Nat → Int32} {tb sd tg on ht : Nat → Int32} {cnt : Nat} (hs : g + 1 < q) (hs2 : q + 4 < c) (hx : hd 0 = nI cnt) (hc : cnt ≤ 24) (hv : ∀ k, k < cnt → ¬ rwX u tb sd tg k 8 = 0 → gr_has fl (rwX u tb sd tg k 3)) (ha : ∀ i, i < cnt → ∀ j, j < 8 → wk0 i j = u i j) (htg : ∀ k, k < cnt → tg k = amT nr (u k) (sd k)) (htb1 : ∀ k, k < cnt → wk_turn (u k) (hd 1) → 1 = tb k) (htb0 : ∀ k, k < cnt → ¬ wk_turn (u k) (hd 1) → 0 = tb k) (hrest : ∀ k, k < cnt → ¬ wk_turn (u k) (hd 1) → 4 = sd k) (hbest : ∀ k, k < cnt → wk_turn (u k) (hd 1) → ∀ W : Nat → Nat → Int32, (∀ i, i < cnt → ∀ j, j < 8 → W i j = u i j) → (cr_bs (fun j => cr_cost fl nr ds on hd W (W k) (nI j)) 5).1 = sd k) : ∀ (r k : Nat), k + r = cnt → ∀ (K : ms_H) (cm : Nat → Int32), gr_at K g fl w h nr → sq_at K g q wl mk ds qu → cr_at K g q c hd on ht cm (w1X u tb sd tg wk0 k) → i1X fl tg k cm → ms_fr c 29 G K → ms_W false m_X0_step (st_P g q c n G cnt (hd 2) (hd 3) ((fun k => nuX fl mk cnt u tb sd tg (hd 1) k), (hoX fl mk cnt u tb sd tg ht on cnt).1, (hoX fl mk cnt u tb sd tg ht on cnt).2, hd 1)) 12 [(0, .ref c), (1, .int (nI k))] [] n K 0 0 := by
  intro r
  induction r with
  | zero =>
    intro k hk K cm hG hQ hC h1 hF
    have hkN : k = cnt := by omega
    refine ms_run (pc' := 14) (lv' := [(0, .ref c), (1, .int (nI k))]) (st' := [.ref c, .int (nI k)]) _ (ms_deC dX0_step_12 (ms_deC dX0_step_13 ms_deN)) rfl rfl ?_
    refine ms_getf dX0_step_14 fg_X0_43 hC.1 rfl ?_
    refine ms_icmp_ge (tgt := 69) dX0_step_17 (by decide) (fun h_17 => ?_) (fun h_17 => ?_)
    · skip
      refine ms_run (pc' := 71) (lv' := [(1, .int 0), (0, .ref c)]) (st' := []) _ (ms_deC dX0_step_69 (ms_deC dX0_step_70 ms_deN)) rfl rfl ?_
      rw [hkN] at h1 hC
      refine ms_W.sub (lv2 := [(0, _), (1, _)]) ?_ [1, 0] rfl
      exact l2_X0_step hs hs2 hx hc hv cnt 0 (by omega) K cm hG hQ hC h1 hF
    · skip
      exact absurd (by rw [hx]; exact nI_le (b := k) (by omega) (by omega)) h_17
  | succ r ih =>
    intro k hk K cm hG hQ hC h1 hF
    have hlt : k < cnt := by omega
    refine ms_run (pc' := 14) (lv' := [(0, .ref c), (1, .int (nI k))]) (st' := [.ref c, .int (nI k)]) _ (ms_deC dX0_step_12 (ms_deC dX0_step_13 ms_deN)) rfl rfl ?_
    refine ms_getf dX0_step_14 fg_X0_43 hC.1 rfl ?_
    refine ms_icmp_ge (tgt := 69) dX0_step_17 (by decide) (fun h_17 => ?_) (fun h_17 => ?_)
    · skip
      exact absurd h_17 (by rw [hx]; exact nI_ge (b := cnt) (by omega) (by omega))
    · skip
      refine ms_run (pc' := 22) (lv' := [(0, .ref c), (1, .int (nI k))]) (st' := [.int (nI k), .ref c]) _ (ms_deC dX0_step_20 (ms_deC dX0_step_21 ms_deN)) rfl rfl ?_
      refine ms_callVp (As := [.int (nI k)]) dX0_step_22 (c_X0_getI hC hx hc hlt) cv_X0_55 hC.1 rfl ⟨Nat.le_of_ble_eq_true rfl, Nat.le_of_ble_eq_true rfl⟩ rfl (Nat.le_of_ble_eq_true rfl) ?_
      refine ms_run (pc' := 27) (lv' := [(2, .ref (c + 5 + k)), (0, .ref c), (1, .int (nI k))]) (st' := [.ref (c + 5 + k)]) _ (ms_deC dX0_step_25 (ms_deC dX0_step_26 ms_deN)) rfl rfl ?_
      refine ms_ifnull dX0_step_27 ?_
      refine ms_run (pc' := 33) (lv' := [(2, .ref (c + 5 + k)), (0, .ref c), (1, .int (nI k))]) (st' := [.ref c, .ref (c + 5 + k), .ref (c + 5 + k)]) _ (ms_deC dX0_step_30 (ms_deC dX0_step_31 (ms_deC dX0_step_32 ms_deN))) rfl rfl ?_
      refine ms_getf dX0_step_33 fg_X0_46 hC.1 rfl ?_
      refine ms_callVp (As := [.int (hd 1)]) dX0_step_36 (c_X4_isTurnAt (hC.2.2.2.2.2 k (by omega)) (hd 1)) cv_X0_151 (hC.2.2.2.2.2 k (by omega)) rfl ⟨Nat.le_of_ble_eq_true rfl, Nat.le_of_ble_eq_true rfl⟩ rfl (Nat.le_of_ble_eq_true rfl) ?_
      have e9 : wk_turn ((w1X u tb sd tg wk0 k) k) (hd 1) = wk_turn (u k) (hd 1) := by unfold wk_turn; rw [w1X_at, ha k hlt 1 (by omega), ha k hlt 3 (by omega)]
      simp only [e9]
      by_cases htn : wk_turn (u k) (hd 1)
      · rw [show ms_b (wk_turn (u k) (hd 1)) = 1 from if_pos htn]
        refine ms_putf dX0_step_39 fp_X0_154 (hC.2.2.2.2.2 k (by omega)) (Nat.le_of_ble_eq_true rfl) rfl rfl ?_
        obtain ⟨G_1, eG_1⟩ : ∃ K9 : ms_H, K9 = ms_up K (c + 5 + k) (.inr (4, cr_w (upd ((w1X u tb sd tg wk0 k) k) 8 1))) := ⟨_, rfl⟩
        refine ms_W.heq eG_1 ?_
        have hG_2 : gr_at G_1 g fl w h nr := by rw [eG_1]; exact gr_at.up hG (by omega)
        have hQ_3 : sq_at G_1 g q wl mk ds qu := by rw [eG_1]; exact sq_at.up hQ (by omega)
        have hC_4 : cr_at G_1 g q c hd on ht cm (va_up (w1X u tb sd tg wk0 k) k (upd ((w1X u tb sd tg wk0 k) k) 8 1)) := by rw [eG_1]; exact cr_at.s_wk hC (by omega) (upd ((w1X u tb sd tg wk0 k) k) 8 1)
        have hF_5 : ms_fr c 29 G G_1 := by rw [eG_1]; exact ms_fr.up hF (by omega)
        have hf_6 := (congrFun eG_1 q).trans ((ms_up_n K _ (by omega)).trans hQ.1)
        have hf_7 : G_1 (c + 5 + k) = some (.inr (4, cr_w (upd ((w1X u tb sd tg wk0 k) k) 8 1))) := by rw [eG_1]; exact ms_up_s _ _ _
        refine ms_run (pc' := 45) (lv' := [(2, .ref (c + 5 + k)), (0, .ref c), (1, .int (nI k))]) (st' := [.ref (c + 5 + k), .ref (c + 5 + k), .ref c]) _ (ms_deC dX0_step_42 (ms_deC dX0_step_43 (ms_deC dX0_step_44 ms_deN))) rfl rfl ?_
        refine ms_getf (v := .int 1) dX0_step_45 fg_X0_154 hf_7 rfl ?_
        refine ms_if_eq (tgt := 59) dX0_step_48 (by decide) (fun h9 => absurd h9 (by decide)) (fun _ => ?_)
        refine ms_run (pc' := 53) (lv' := [(2, .ref (c + 5 + k)), (0, .ref c), (1, .int (nI k))]) (st' := [.ref (c + 5 + k), .ref c, .ref (c + 5 + k), .ref c]) _ (ms_deC dX0_step_51 (ms_deC dX0_step_52 ms_deN)) rfl rfl ?_
        refine ms_callVp (As := [.ref (c + 5 + k)]) dX0_step_53 (c_X0_bestSide hG_2 hQ_3 hC_4 (hC_4.2.2.2.2.2 k (by omega))) cv_X0_158 hC_4.1 rfl ⟨Nat.le_of_ble_eq_true rfl, Nat.le_of_ble_eq_true rfl⟩ rfl (Nat.le_of_ble_eq_true rfl) ?_
        have hbs := hbest k hlt htn (va_up (w1X u tb sd tg wk0 k) k (upd ((w1X u tb sd tg wk0 k) k) 8 1)) (w1X_a ha)
        rw [hbs]
        refine ms_goto (tgt := 60) dX0_step_56 (by decide) ?_
        refine ms_callV0 (As := [.ref (c + 5 + k), .int (sd k)]) dX0_step_60 (c_X0_aim hG_2 hC_4 hs hs2 (by omega) (sd k)) cv_X0_162 hC_4.1 rfl ⟨Nat.le_of_ble_eq_true rfl, Nat.le_of_ble_eq_true rfl⟩ rfl (Nat.le_of_ble_eq_true rfl) (fun v9 n9 K9 hp9 => ?_)
        obtain ⟨hv9, rfl, hC9, hF9⟩ := hp9
        cases hv9
        have hsd : (sd k) = sd k := rfl
        have hT : amT nr (va_up (w1X u tb sd tg wk0 k) k (upd ((w1X u tb sd tg wk0 k) k) 8 1) k) (sd k) = tg k := by rw [htg k hlt, ← hsd]; unfold amT; rw [w1X_a ha k hlt 3 (by omega)]
        have hC8 := hC9.wkc (w1X_s (ha k hlt) (htb1 k hlt htn) hsd hT)
        have hG9 := hG_2.fr hF9 (by omega)
        have hQ9 := hQ_3.fr hF9 (by omega)
        have hF8 := hF_5.trans hF9
        rw [hT] at hC8
        refine ms_run (pc' := 66) (lv' := [(1, .int ((nI k) + 1)), (2, .ref (c + 5 + k)), (0, .ref c)]) (st' := []) _ (ms_deC dX0_step_63 ms_deN) rfl rfl ?_
        refine ms_goto (tgt := 12) dX0_step_66 (by decide) ?_
        rw [nI_1 k]
        refine ms_W.sub (lv2 := [(0, _), (1, _)]) ?_ [2, 0] rfl
        exact ih (k + 1) (by omega) K9 _ hG9 hQ9 hC8 (i1X_s h1) hF8
      · rw [show ms_b (wk_turn (u k) (hd 1)) = 0 from if_neg htn]
        refine ms_putf dX0_step_39 fp_X0_154 (hC.2.2.2.2.2 k (by omega)) (Nat.le_of_ble_eq_true rfl) rfl rfl ?_
        obtain ⟨G_8, eG_8⟩ : ∃ K9 : ms_H, K9 = ms_up K (c + 5 + k) (.inr (4, cr_w (upd ((w1X u tb sd tg wk0 k) k) 8 0))) := ⟨_, rfl⟩
        refine ms_W.heq eG_8 ?_
        have hG_9 : gr_at G_8 g fl w h nr := by rw [eG_8]; exact gr_at.up hG (by omega)
        have hQ_10 : sq_at G_8 g q wl mk ds qu := by rw [eG_8]; exact sq_at.up hQ (by omega)
        have hC_11 : cr_at G_8 g q c hd on ht cm (va_up (w1X u tb sd tg wk0 k) k (upd ((w1X u tb sd tg wk0 k) k) 8 0)) := by rw [eG_8]; exact cr_at.s_wk hC (by omega) (upd ((w1X u tb sd tg wk0 k) k) 8 0)
        have hF_12 : ms_fr c 29 G G_8 := by rw [eG_8]; exact ms_fr.up hF (by omega)
        have hf_13 := (congrFun eG_8 q).trans ((ms_up_n K _ (by omega)).trans hQ.1)
        have hf_14 : G_8 (c + 5 + k) = some (.inr (4, cr_w (upd ((w1X u tb sd tg wk0 k) k) 8 0))) := by rw [eG_8]; exact ms_up_s _ _ _
        refine ms_run (pc' := 45) (lv' := [(2, .ref (c + 5 + k)), (0, .ref c), (1, .int (nI k))]) (st' := [.ref (c + 5 + k), .ref (c + 5 + k), .ref c]) _ (ms_deC dX0_step_42 (ms_deC dX0_step_43 (ms_deC dX0_step_44 ms_deN))) rfl rfl ?_
        refine ms_getf (v := .int 0) dX0_step_45 fg_X0_154 hf_14 rfl ?_
        refine ms_if_eq (tgt := 59) dX0_step_48 (by decide) (fun _ => ?_) (fun h9 => absurd h9 (by decide))
        refine ms_run (pc' := 60) (lv' := [(2, .ref (c + 5 + k)), (0, .ref c), (1, .int (nI k))]) (st' := [.int 4, .ref (c + 5 + k), .ref c]) _ (ms_deC dX0_step_59 ms_deN) rfl rfl ?_
        refine ms_callV0 (As := [.ref (c + 5 + k), .int 4]) dX0_step_60 (c_X0_aim hG_9 hC_11 hs hs2 (by omega) 4) cv_X0_162 hC_11.1 rfl ⟨Nat.le_of_ble_eq_true rfl, Nat.le_of_ble_eq_true rfl⟩ rfl (Nat.le_of_ble_eq_true rfl) (fun v9 n9 K9 hp9 => ?_)
        obtain ⟨hv9, rfl, hC9, hF9⟩ := hp9
        cases hv9
        have hsd : 4 = sd k := hrest k hlt htn
        have hT : amT nr (va_up (w1X u tb sd tg wk0 k) k (upd ((w1X u tb sd tg wk0 k) k) 8 0) k) 4 = tg k := by rw [htg k hlt, ← hsd]; unfold amT; rw [w1X_a ha k hlt 3 (by omega)]
        have hC8 := hC9.wkc (w1X_s (ha k hlt) (htb0 k hlt htn) hsd hT)
        have hG9 := hG_9.fr hF9 (by omega)
        have hQ9 := hQ_10.fr hF9 (by omega)
        have hF8 := hF_12.trans hF9
        rw [hT] at hC8
        refine ms_run (pc' := 66) (lv' := [(1, .int ((nI k) + 1)), (2, .ref (c + 5 + k)), (0, .ref c)]) (st' := []) _ (ms_deC dX0_step_63 ms_deN) rfl rfl ?_
        refine ms_goto (tgt := 12) dX0_step_66 (by decide) ?_
        rw [nI_1 k]
        refine ms_W.sub (lv2 := [(0, _), (1, _)]) ?_ [2, 0] rfl
        exact ih (k + 1) (by omega) K9 _ hG9 hQ9 hC8 (i1X_s h1) hF8
set_option maxHeartbeats 4000000 in
set_option maxRecDepth 20000 in
theorem c_X0_stepR {n g q c : Nat} {G : ms_H} {fl w h : Int32} {nr : Nat → Int32} (hG : gr_at G g fl w h nr) {wl mk ds qu : Nat → Int32} (hQ : sq_at G g q wl mk ds qu) {hd cm : Nat → Int32} {wk u : Nat → Nat → Int32} {on ht : Nat → Int32} (hC : cr_at G g q c hd on ht cm wk) (hs : g + 1 < q) (hs2 : q + 4 < c) {cnt : Nat} (hx : hd 0 = nI cnt) (hc : cnt ≤ 24) (ha : ∀ k, k < cnt → ∀ j, j < 8 → wk k j = u k j) (hv : ∀ k, k < cnt → u k 3 = -1 ∨ gr_has fl (u k 3)) : ms_M m_X0_step [.ref c] n G 0 0 (st_P g q c n G cnt (hd 2) (hd 3) (stX1 fl nr mk ds cnt (hd 2) (u, ht, on, hd 1))) := by
  refine ms_M.of (by decide) (Nat.le_of_ble_eq_true rfl) ?_
  show ms_W false m_X0_step _ 0 [(0, .ref c)] [] n G 0 0
  have hF : ms_fr c 29 G G := ms_fr.rf
  refine ms_run (pc' := 2) (lv' := [(0, .ref c)]) (st' := [.ref c, .ref c]) _ (ms_deC dX0_step_0 (ms_deC dX0_step_1 ms_deN)) rfl rfl ?_
  refine ms_getf dX0_step_2 fg_X0_46 hC.1 rfl ?_
  refine ms_run (pc' := 7) (lv' := [(0, .ref c)]) (st' := [.int ((hd 1) + 1), .ref c]) _ (ms_deC dX0_step_5 (ms_deC dX0_step_6 ms_deN)) rfl rfl ?_
  refine ms_putf dX0_step_7 fp_X0_46 hC.1 (Nat.le_of_ble_eq_true rfl) rfl rfl ?_
  obtain ⟨G_1, eG_1⟩ : ∃ K9 : ms_H, K9 = ms_up G c (.inr (0, [.int (hd 0), .int ((hd 1) + 1), .int (hd 2), .int (hd 3), .ref g, .ref q, .ref (c + 1), .ref (c + 2), .ref (c + 3), .ref (c + 4)])) := ⟨_, rfl⟩
  refine ms_W.heq eG_1 ?_
  have hG_2 : gr_at G_1 g fl w h nr := by rw [eG_1]; exact gr_at.up hG (by omega)
  have hQ_3 : sq_at G_1 g q wl mk ds qu := by rw [eG_1]; exact sq_at.up hQ (by omega)
  have hC_4 : cr_at G_1 g q c (h4 (hd 0) ((hd 1) + 1) (hd 2) (hd 3)) on ht cm wk := by rw [eG_1]; exact cr_at.s_hd hC (hd 0) ((hd 1) + 1) (hd 2) (hd 3)
  have hF_5 : ms_fr c 29 G G_1 := by rw [eG_1]; exact ms_fr.up hF (by omega)
  have hf_6 := (congrFun eG_1 q).trans ((ms_up_n G _ (by omega)).trans hQ.1)
  refine ms_run (pc' := 12) (lv' := [(1, .int 0), (0, .ref c)]) (st' := []) _ (ms_deC dX0_step_10 (ms_deC dX0_step_11 ms_deN)) rfl rfl ?_
  refine ms_W.sub (lv2 := [(0, _), (1, _)]) ?_ [1, 0] rfl
  exact l1_X0_step (u := u) (tb := tbX u ((hd 1) + 1)) (sd := sdX fl nr ds cnt (hd 2) on u ((hd 1) + 1)) (tg := tgX fl nr ds cnt (hd 2) (u, ht, on, hd 1)) (hd := h4 (hd 0) (hd 1 + 1) (hd 2) (hd 3)) hs hs2 hx hc (fun k hk h8 => by
    have h9 : wk_turn (u k) ((hd 1) + 1) := by
      refine Decidable.byContradiction (fun z => h8 ?_)
      show tbX u ((hd 1) + 1) k = 0
      exact if_neg z
    exact (hv k hk).resolve_left h9.1) ha (fun k hk => rfl) (fun k hk h9 => by exact (if_pos h9).symm) (fun k hk h9 => by exact (if_neg h9).symm) (fun k hk h9 => by exact (if_neg h9).symm) (fun k hk h9 W hW => by
    have h9 : wk_turn (u k) (hd 1 + 1) := h9
    unfold sdX
    rw [if_pos h9]
    unfold bsX
    congr 2
    funext j
    exact cr_cost_c hc hx rfl rfl hW (fun j hj => hW k hk j hj)) cnt 0 (by omega) _ cm hG_2 hQ_3 (by rw [w1X_0]; exact hC_4) (fun i hi => absurd hi (Nat.not_lt_zero i)) hF_5
theorem c_X0_step {n g q c : Nat} {G : ms_H} {fl w h : Int32} {nr : Nat → Int32} (hG : gr_at G g fl w h nr) {wl mk ds qu : Nat → Int32} (hQ : sq_at G g q wl mk ds qu) {cnt : Nat} {dr pa : Int32} {X : cX} (hC : cw_at G g q c cnt dr pa X) (hs : g + 1 < q) (hs2 : q + 4 < c) (hc : cnt ≤ 24) (hv : ∀ k, k < cnt → X.1 k 3 = -1 ∨ gr_has fl (X.1 k 3)) : ms_M m_X0_step [.ref c] n G 0 0 (st_P g q c n G cnt dr pa (stX1 fl nr mk ds cnt dr X)) := by
  obtain ⟨hd, cm, wk, h1, h2, h3, h4', h5, h6⟩ := hC
  obtain ⟨u, ht, on, t⟩ := X
  subst h3
  subst h4'
  subst h5
  exact c_X0_stepR hG hQ h1 hs hs2 h2 hc h6 hv

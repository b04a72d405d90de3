/-! instances at numbers that are in range; what the counting methods count -/
theorem gr_hasI {fl : Int32} {nf k : Nat} (hf : fl = nI nf) (h : k < nf) (h9 : nf ≤ 196) : gr_has fl (nI k) := ⟨nI_pos' (by omega), by rw [hf]; exact nI_lt h (by omega), show nI k < nI 196 from nI_lt (by omega) (by omega)⟩
theorem gl_isI {gi : Nat} (h : gi < 4) : gl_is (nI gi) := ⟨nI_pos' (by omega), show nI gi < nI 4 from nI_lt (by omega) (by omega)⟩
theorem c_X3_isFreeI {n g q : Nat} {G : ms_H} {fl w h : Int32} {nr : Nat → Int32} (hG : gr_at G g fl w h nr) {wl mk ds qu : Nat → Int32} (hQ : sq_at G g q wl mk ds qu) {nf k : Nat} (hf : fl = nI nf) (h9 : nf ≤ 196) (hk : k < nf) : ms_M m_X3_isFree [.ref q, .int (nI k)] n G 0 0 (ms_p1 (some (.int (ms_b (wl k = 0)))) n G) := by
  have h1 := c_X3_isFree (n := n) hG hQ (nI k)
  have e : sq_fr fl wl (nI k) = (wl k = 0) := by
    unfold sq_fr
    rw [nI_clamp (by omega)]
    exact propext ⟨fun z => z.2, fun z => ⟨gr_hasI hf hk h9, z⟩⟩
  simpa only [e] using h1
theorem c_X3_isMarkedI {n g q : Nat} {G : ms_H} {fl w h : Int32} {nr : Nat → Int32} (hG : gr_at G g fl w h nr) {wl mk ds qu : Nat → Int32} (hQ : sq_at G g q wl mk ds qu) {nf k gi : Nat} (hf : fl = nI nf) (h9 : nf ≤ 196) (hk : k < nf) (hg : gi < 4) : ms_M m_X3_isMarked [.ref q, .int (nI gi), .int (nI k)] n G 0 0 (ms_p1 (some (.int (ms_b (¬ mk k &&& (1 <<< (nI gi &&& 31)) = 0)))) n G) := by
  have h1 := c_X3_isMarked (n := n) hG hQ (nI gi) (nI k)
  have e : sq_mk fl mk (nI gi) (nI k) = (¬ mk k &&& (1 <<< (nI gi &&& 31)) = 0) := by
    unfold sq_mk
    rw [nI_clamp (by omega)]
    exact propext ⟨fun z => z.2.2, fun z => ⟨gl_isI hg, gr_hasI hf hk h9, z⟩⟩
  simpa only [e] using h1
theorem sq_dsI {fl : Int32} {nf k gi : Nat} (ds : Nat → Int32) (hf : fl = nI nf) (h9 : nf ≤ 196) (hk : k < nf) (hg : gi < 4) : sq_ds fl ds (nI gi) (nI k) = ds (gi * 196 + k) := by
  unfold sq_ds
  rw [if_pos ⟨gl_isI hg, gr_hasI hf hk h9⟩, show (196 : Int32) = nI 196 from rfl, pk_mul, nI_add, nI_clamp (by omega)]
theorem cr_onI {k : Nat} (on : Nat → Int32) (hk : k < 196) : cr_on on (nI k) = on k := by
  unfold cr_on
  rw [if_pos ⟨nI_pos' (by omega), show nI k < nI 196 from nI_lt (by omega) (by omega)⟩, nI_clamp (by omega)]
theorem cr_htI {k : Nat} (ht : Nat → Int32) (hk : k < 196) : cr_ht ht (nI k) = ht k := by
  unfold cr_ht
  rw [if_pos ⟨nI_pos' (by omega), show nI k < nI 196 from nI_lt (by omega) (by omega)⟩, nI_clamp (by omega)]
theorem c_X0_getI {n g q c : Nat} {G : ms_H} {hd on ht cm : Nat → Int32} {wk : Nat → Nat → Int32} (hC : cr_at G g q c hd on ht cm wk) {cnt k : Nat} (hx : hd 0 = nI cnt) (hc : cnt ≤ 24) (h : k < cnt) : ms_M m_X0_get [.ref c, .int (nI k)] n G 0 0 (ms_p1 (some (.ref (c + 5 + k))) n G) := by
  have h1 := c_X0_get (n := n) hC (nI k)
  rwa [cr_getI hx hc h] at h1
def mx (f : Nat → Int32) : Nat → Int32
  | 0 => -1
  | k + 1 => if mx f k < f k then f k else mx f k
def sm (f : Nat → Int32) : Nat → Int32
  | 0 => 0
  | k + 1 => sm f k + f k
def an (p : Nat → Bool) : Nat → Bool
  | 0 => false
  | k + 1 => an p k || p k
theorem an_t {p : Nat → Bool} {k n : Nat} (h : p k = true) (hk : k < n) : an p n = true := by
  induction n with
  | zero => omega
  | succ n ih =>
    show (an p n || p n) = true
    rcases Nat.lt_or_ge k n with h1 | h1
    · rw [ih h1, Bool.true_or]
    · have : k = n := by omega
      subst this
      rw [h, Bool.or_true]
theorem an_f {p : Nat → Bool} {k : Nat} (h : p k = false) (ha : an p k = false) : an p (k + 1) = false := by
  show (an p k || p k) = false
  rw [h, ha]
  rfl
/-- the first place of the greatest among the first k + 1 -/
def hx (f : Nat → Int32) : Nat → Nat
  | 0 => 0
  | k + 1 => if f (hx f k) < f (k + 1) then k + 1 else hx f k
theorem hx_le (f : Nat → Int32) : ∀ k, hx f k ≤ k
  | 0 => Nat.le_refl 0
  | k + 1 => by
    have := hx_le f k
    unfold hx
    split <;> omega
def pWall (wl : Nat → Int32) (k : Nat) : Bool := decide (¬ wl k = 0)
def pMark (mk : Nat → Int32) (gi k : Nat) : Bool := decide (¬ mk k &&& (1 <<< (nI gi &&& 31)) = 0)
def pRound (nr on : Nat → Int32) (f : Int32) (k : Nat) : Bool := decide (¬ cr_on on (gr_next nr f (nI k)) = -1)
abbrev pIs (cnt : Int32) (o : Int32) : Prop := 0 ≤ o ∧ o < cnt ∧ o < 24
def pFace (cnt : Int32) (nr on : Nat → Int32) (wk : Nat → Nat → Int32) (f s : Int32) (k : Nat) : Bool := decide (pIs cnt (cr_on on (gr_next nr f (nI k))) ∧ wk (cr_on on (gr_next nr f (nI k))).toNatClampNeg 4 = s)
def pOut (wk : Nat → Nat → Int32) (k : Nat) : Bool := decide (wk k 3 = -1)
def pLost (fl : Int32) (ds : Nat → Int32) (wk : Nat → Nat → Int32) (k : Nat) : Bool := decide (¬ wk k 3 = -1 ∧ sq_ds fl ds (wk k 0) (wk k 3) = -1)
def vStep (o : Int32) (wk : Nat → Nat → Int32) (k : Nat) : Int32 := if o = 0 ∨ wk k 3 = -1 then wk k 6 else 0
abbrev pJam (p : Int32) (u : Nat → Int32) : Prop := ¬ u 3 = -1 ∧ p ≤ u 5
def cRound (nr on : Nat → Int32) (f : Int32) : Int32 := nI (ct (pRound nr on f) 8)
def cFace (cnt : Int32) (nr on : Nat → Int32) (wk : Nat → Nat → Int32) (f s : Int32) : Int32 := nI (ct (pFace cnt nr on wk f s) 8)
/-- what a side costs a walker u -/
def cr_cost (fl : Int32) (nr ds on hd : Nat → Int32) (wk : Nat → Nat → Int32) (u : Nat → Int32) (s : Int32) : Int32 :=
  if s = 4 then (if sq_ds fl ds (u 0) (u 3) = -1 then 10000 else 10 * sq_ds fl ds (u 0) (u 3) + u 2 * cRound nr on (u 3))
  else if sq_ds fl ds (u 0) (gr_next nr (u 3) s) = -1 ∨ ¬ cr_on on (gr_next nr (u 3) s) = -1 then 10000
  else 10 * sq_ds fl ds (u 0) (gr_next nr (u 3) s) + u 2 * (cRound nr on (gr_next nr (u 3) s) - 1) - hd 2 * cFace (hd 0) nr on wk (u 3) s
def cr_bs (f : Nat → Int32) : Nat → Int32 × Int32
  | 0 => (4, 10000)
  | k + 1 => if f k < (cr_bs f k).2 then (nI k, f k) else cr_bs f k
def cr_fig (fl : Int32) (ds : Nat → Int32) (u : Nat → Int32) (k : Nat) : Int32 := if k < 7 then u k else if k = 7 then (if u 3 = -1 then 0 else sq_ds fl ds (u 0) (u 3)) else u 7

/-! multianewarray of two and of three dimensions -/
section MN1
def mn_in (comp : ClassId) (M : Nat) (dv : Value) : Cell := { cls := comp, slots := Array.replicate M dv, vm := .none }
def mn_out (c : ClassId) (N : Nat) (ad : Nat → Nat) (i : Nat) : Cell := arrV c N (fun j => va_rf (if j < i then some (ad j) else none))
theorem mn_out_0 (c : ClassId) (N : Nat) (ad : Nat → Nat) : mn_out c N ad 0 = { cls := c, slots := Array.replicate N .null, vm := .none } := by
  rw [arrV_new]
  exact congrArg (arrV c N) (funext fun j => by simp [va_rf])
theorem mn_out_s (c : ClassId) (N : Nat) (ad : Nat → Nat) (i : Nat) : (mn_out c N ad i).setSlot i (.ref (ad i)) = mn_out c N ad (i + 1) := by
  unfold mn_out
  rw [arrV_store]
  refine congrArg (arrV c N) (funext fun j => ?_)
  by_cases e : j = i
  · subst e
    simp [updV, va_rf]
  · by_cases h : j < i
    · simp [updV, e, h, Nat.lt_succ_of_lt h]
    · simp [updV, e, h, show ¬ j < i + 1 by omega]
theorem mn_out_f (c : ClassId) (N : Nat) (ad : Nat → Nat) (i : Nat) : (mn_out c N ad i).cls = c ∧ (mn_out c N ad i).vm = .none ∧ (mn_out c N ad i).slots.size = N := ⟨rfl, rfl, arrV_size _ _ _⟩
def mn_f2 (s : State) (c comp : ClassId) (N M : Nat) (dv : Value) : Nat → State
  | 0 => s.pushCell (mn_out c N (fun j => s.heap.size + 1 + j) 0)
  | i + 1 => ((mn_f2 s c comp N M dv i).pushCell (mn_in comp M dv)).setCell s.heap.size (mn_out c N (fun j => s.heap.size + 1 + j) (i + 1))
theorem mn_f2_facts (s : State) (c comp : ClassId) (N M : Nat) (dv : Value) : ∀ i, (mn_f2 s c comp N M dv i).heap.size = s.heap.size + 1 + i ∧ (mn_f2 s c comp N M dv i).heap[s.heap.size]? = some (mn_out c N (fun j => s.heap.size + 1 + j) i) ∧
    (mn_f2 s c comp N M dv i).vm = s.vm ∧ (mn_f2 s c comp N M dv i).slotsUsed = s.slotsUsed + N + i * M
  | 0 => ⟨by simp [mn_f2], by simp [mn_f2], rfl, by simp [mn_f2, (mn_out_f c N _ 0).2.2]⟩
  | i + 1 => by
    obtain ⟨a, b, d, u⟩ := mn_f2_facts s c comp N M dv i
    have hlt : s.heap.size < (mn_f2 s c comp N M dv i).heap.size := by omega
    have hb' : ((mn_f2 s c comp N M dv i).pushCell (mn_in comp M dv)).heap[s.heap.size]? = some (mn_out c N (fun j => s.heap.size + 1 + j) i) := by rw [State.heap_pushCell_of_lt (h := hlt)]; exact b
    refine ⟨?_, State.heap_setCell_self hb', by simp [mn_f2, d], ?_⟩
    · simp [mn_f2, State.setCell, a]; omega
    · simp [mn_f2, u, mn_in, Nat.succ_mul]; omega
theorem mn_f2_setTop (s : State) (f : JFrame) (c comp : ClassId) (N M : Nat) (dv : Value) : ∀ i, mn_f2 (s.setTop f) c comp N M dv i = (mn_f2 s c comp N M dv i).setTop f
  | 0 => rfl
  | i + 1 => by simp only [mn_f2, mn_f2_setTop s f c comp N M dv i, State.heap_setTop, State.pushCell_setTop, State.setCell_setTop]
theorem mn_f2_old (s : State) (c comp : ClassId) (N M : Nat) (dv : Value) {a : Addr} (ha : a < s.heap.size) : ∀ i, (mn_f2 s c comp N M dv i).heap[a]? = s.heap[a]?
  | 0 => State.heap_pushCell_of_lt _ _ ha
  | i + 1 => by
    have f1 := (mn_f2_facts s c comp N M dv i).1
    have hlt : a < (mn_f2 s c comp N M dv i).heap.size := Nat.lt_of_lt_of_le ha (by rw [f1]; omega)
    show (((mn_f2 s c comp N M dv i).pushCell (mn_in comp M dv)).setCell s.heap.size _).heap[a]? = _
    rw [State.heap_setCell_other (Nat.ne_of_gt ha), State.heap_pushCell_of_lt (h := hlt)]
    exact mn_f2_old s c comp N M dv ha i
theorem mn_f2_in (s : State) (c comp : ClassId) (N M : Nat) (dv : Value) : ∀ i j, j < i → (mn_f2 s c comp N M dv i).heap[s.heap.size + 1 + j]? = some (mn_in comp M dv)
  | 0, _, h => absurd h (Nat.not_lt_zero _)
  | i + 1, j, h => by
    have f1 := (mn_f2_facts s c comp N M dv i).1
    show (((mn_f2 s c comp N M dv i).pushCell (mn_in comp M dv)).setCell s.heap.size _).heap[s.heap.size + 1 + j]? = _
    rw [State.heap_setCell_other (show s.heap.size ≠ s.heap.size + 1 + j by omega)]
    rcases Nat.lt_or_ge j i with hj | hj
    · have hlt : s.heap.size + 1 + j < (mn_f2 s c comp N M dv i).heap.size := by rw [f1]; omega
      rw [State.heap_pushCell_of_lt (h := hlt)]
      exact mn_f2_in s c comp N M dv i j hj
    · have e : j = i := by omega
      subst e
      rw [← f1]
      exact State.heap_pushCell_size _ _
def mn_ad (h M : Nat) (j : Nat) : Nat := h + 1 + j * (1 + M)
def mn_f3 (s : State) (c3 c2 c1 : ClassId) (N M K : Nat) (dv : Value) : Nat → State
  | 0 => s.pushCell (mn_out c3 N (mn_ad s.heap.size M) 0)
  | i + 1 => (mn_f2 (mn_f3 s c3 c2 c1 N M K dv i) c2 c1 M K dv M).setCell s.heap.size (mn_out c3 N (mn_ad s.heap.size M) (i + 1))
theorem mn_f3_facts (s : State) (c3 c2 c1 : ClassId) (N M K : Nat) (dv : Value) : ∀ i, (mn_f3 s c3 c2 c1 N M K dv i).heap.size = mn_ad s.heap.size M i ∧ (mn_f3 s c3 c2 c1 N M K dv i).heap[s.heap.size]? = some (mn_out c3 N (mn_ad s.heap.size M) i) ∧
    (mn_f3 s c3 c2 c1 N M K dv i).vm = s.vm ∧ (mn_f3 s c3 c2 c1 N M K dv i).slotsUsed = s.slotsUsed + N + i * (M + M * K)
  | 0 => ⟨by simp [mn_f3, mn_ad], by simp [mn_f3], rfl, by simp [mn_f3, (mn_out_f c3 N _ 0).2.2]⟩
  | i + 1 => by
    obtain ⟨a, b, d, u⟩ := mn_f3_facts s c3 c2 c1 N M K dv i
    obtain ⟨a2, b2, d2, u2⟩ := mn_f2_facts (mn_f3 s c3 c2 c1 N M K dv i) c2 c1 M K dv M
    have hlt : s.heap.size < (mn_f3 s c3 c2 c1 N M K dv i).heap.size := by rw [a]; unfold mn_ad; omega
    have hb' : (mn_f2 (mn_f3 s c3 c2 c1 N M K dv i) c2 c1 M K dv M).heap[s.heap.size]? = some (mn_out c3 N (mn_ad s.heap.size M) i) := by rw [mn_f2_old _ _ _ _ _ _ hlt]; exact b
    refine ⟨?_, State.heap_setCell_self hb', by simp [mn_f3, d, d2], ?_⟩
    · show ((mn_f2 (mn_f3 s c3 c2 c1 N M K dv i) c2 c1 M K dv M).heap.setIfInBounds _ _).size = _
      rw [Array.size_setIfInBounds, a2, a]
      unfold mn_ad
      rw [Nat.succ_mul]
      omega
    · show (mn_f2 (mn_f3 s c3 c2 c1 N M K dv i) c2 c1 M K dv M).slotsUsed = _
      rw [u2, u, Nat.succ_mul]
      omega
theorem mn_f3_setTop (s : State) (f : JFrame) (c3 c2 c1 : ClassId) (N M K : Nat) (dv : Value) : ∀ i, mn_f3 (s.setTop f) c3 c2 c1 N M K dv i = (mn_f3 s c3 c2 c1 N M K dv i).setTop f
  | 0 => rfl
  | i + 1 => by simp only [mn_f3, mn_f3_setTop s f c3 c2 c1 N M K dv i, mn_f2_setTop, State.heap_setTop, State.setCell_setTop]
theorem mn_f3_old (s : State) (c3 c2 c1 : ClassId) (N M K : Nat) (dv : Value) {a : Addr} (ha : a < s.heap.size) : ∀ i, (mn_f3 s c3 c2 c1 N M K dv i).heap[a]? = s.heap[a]?
  | 0 => State.heap_pushCell_of_lt _ _ ha
  | i + 1 => by
    have f1 := (mn_f3_facts s c3 c2 c1 N M K dv i).1
    have hlt : a < (mn_f3 s c3 c2 c1 N M K dv i).heap.size := Nat.lt_of_lt_of_le ha (by rw [f1]; unfold mn_ad; omega)
    show ((mn_f2 (mn_f3 s c3 c2 c1 N M K dv i) c2 c1 M K dv M).setCell s.heap.size _).heap[a]? = _
    rw [State.heap_setCell_other (Nat.ne_of_gt ha), mn_f2_old _ _ _ _ _ _ hlt]
    exact mn_f3_old s c3 c2 c1 N M K dv ha i
theorem mn_ad_lt {h M j i : Nat} (hj : j < i) : mn_ad h M j + (1 + M) ≤ mn_ad h M i := by
  have := Nat.mul_le_mul_right (1 + M) (show j + 1 ≤ i from hj)
  rw [Nat.succ_mul] at this
  unfold mn_ad
  omega
theorem mn_f3_in (s : State) (c3 c2 c1 : ClassId) (N M K : Nat) (dv : Value) : ∀ i j, j < i → (mn_f3 s c3 c2 c1 N M K dv i).heap[mn_ad s.heap.size M j]? = some (mn_out c2 M (fun q => mn_ad s.heap.size M j + 1 + q) M) ∧ ∀ q, q < M → (mn_f3 s c3 c2 c1 N M K dv i).heap[mn_ad s.heap.size M j + 1 + q]? = some (mn_in c1 K dv)
  | 0, _, h => absurd h (Nat.not_lt_zero _)
  | i + 1, j, h => by
    have f1 := (mn_f3_facts s c3 c2 c1 N M K dv i).1
    have hne : ∀ q, s.heap.size ≠ mn_ad s.heap.size M j + q := fun q => by unfold mn_ad; omega
    have hst : ∀ a, s.heap.size ≠ a → (mn_f3 s c3 c2 c1 N M K dv (i + 1)).heap[a]? = (mn_f2 (mn_f3 s c3 c2 c1 N M K dv i) c2 c1 M K dv M).heap[a]? := fun a ha => State.heap_setCell_other ha
    rcases Nat.lt_or_ge j i with hj | hj
    · obtain ⟨g1, g2⟩ := mn_f3_in s c3 c2 c1 N M K dv i j hj
      have hl := mn_ad_lt (h := s.heap.size) (M := M) hj
      refine ⟨?_, fun q hq => ?_⟩
      · rw [hst (mn_ad s.heap.size M j) (hne 0), mn_f2_old (mn_f3 s c3 c2 c1 N M K dv i) c2 c1 M K dv (a := mn_ad s.heap.size M j) (Nat.lt_of_lt_of_le (show mn_ad s.heap.size M j < mn_ad s.heap.size M i from by omega) (Nat.le_of_eq f1.symm)) M]; exact g1
      · rw [hst (mn_ad s.heap.size M j + 1 + q) (by have := hne (1 + q); omega), mn_f2_old (mn_f3 s c3 c2 c1 N M K dv i) c2 c1 M K dv (a := mn_ad s.heap.size M j + 1 + q) (Nat.lt_of_lt_of_le (show mn_ad s.heap.size M j + 1 + q < mn_ad s.heap.size M i from by omega) (Nat.le_of_eq f1.symm)) M]; exact g2 q hq
    · have e : j = i := by omega
      subst e
      refine ⟨?_, fun q hq => ?_⟩
      · rw [hst (mn_ad s.heap.size M j) (hne 0), ← f1]; exact (mn_f2_facts _ c2 c1 M K dv M).2.1
      · rw [hst (mn_ad s.heap.size M j + 1 + q) (by have := hne (1 + q); omega), ← f1]; exact mn_f2_in _ c2 c1 M K dv M q hq
end MN1
section MN2
variable {E : CtlPost} {e : Env} {d : Bool} {acts : List Action} {s : State}
theorem mn_newArray {c comp : ClassId} {k : Class} {type : FieldType} {len : Nat} {init : Value} (hk : s.vm.classes[c]? = some k) (hkind : k.kind = .array comp type)
    (hlimit : ¬ len > e.platform.arrayLengthLimit) (hheap : ¬ len * componentBytes type > e.platform.maxHeapBytes) (hfit : fits type init = true) (hdef : init.isDefault = true) {Q : Addr → Pre}
    (h1 : s.heap.size < e.platform.maxCells) (h2 : s.slotsUsed + len ≤ e.platform.maxSlots)
    (hq : Q s.heap.size d acts (s.pushCell { cls := c, slots := Array.replicate len init, vm := .none })) : wp (Jvm.newArray c len init) Q E e d acts s := by
  have hfits : ∀ i v, (Array.replicate len init)[i]? = some v → s.fitsSlot c .none i v = true := by
    intro i v hv
    simp only [Array.getElem?_replicate] at hv
    split at hv
    · cases hv; simp [State.fitsSlot, State.slotType?, hk, hkind, hfit]
    · cases hv
  have hda : allocActs (Array.replicate len init) s.heap.size acts = acts := by
    have hall : ((Array.replicate len init).all (·.isDefault)) = true := by
      rw [Array.all_replicate]; split <;> simp [hdef]
    unfold allocActs; rw [if_pos hall]
  simp only [Jvm.newArray, Jvm.arrayFits, wp_bind', W.ask, W.ite, hlimit, if_false, wp_pure', W.theClass, hk, hkind, hheap, W.alloc, W.stop, Option.some.injEq, exists_eq_left', Array.size_replicate, hda]
  rw [if_neg (by omega)]
  exact ⟨h1, h2, hfits, hq⟩
theorem mn_refFits {t : FieldType} (h : t.isReference = true) (v : Value) (hv : v = .null ∨ ∃ a, v = .ref a) : fits t v = true := by
  rcases hv with rfl | ⟨a, rfl⟩ <;> cases t <;> simp [FieldType.isReference] at h <;> rfl
theorem mn_make1 {comp cc : ClassId} {kc : Class} {type : FieldType} {m : Int32} (hkc : s.vm.classes[comp]? = some kc) (hkindc : kc.kind = .array cc type) (hm : ¬ m < 0)
    (hl2 : ¬ m.toNatClampNeg > e.platform.arrayLengthLimit) (hh2 : ¬ m.toNatClampNeg * componentBytes type > e.platform.maxHeapBytes)
    (hdf : fits type (defaultValue type) = true) (hdd : (defaultValue type).isDefault = true)
    (h1 : s.heap.size < e.platform.maxCells) (h2 : s.slotsUsed + m.toNatClampNeg ≤ e.platform.maxSlots)
    {Q : Addr → Pre} (hq : Q s.heap.size d acts (s.pushCell (mn_in comp m.toNatClampNeg (defaultValue type)))) :
    wp (multianewarray.make comp [m]) Q E e d acts s := by
  rw [multianewarray.make]
  simp only [wp_bind', W.ite, hm, if_false, wp_pure', W.theClass, hkc, hkindc, Option.some.injEq, exists_eq_left']
  exact mn_newArray hkc hkindc hl2 hh2 hdf hdd h1 h2 hq
end MN2
section MN3
variable {E : CtlPost} {e : Env}
theorem mn_range {P : Nat → State → Prop} {N : Nat} {f : Nat → PUnit → Sem (ForInStep PUnit)} {Q : PUnit → Pre} {d : Bool} {acts : List Action} {s : State} (h0 : P 0 s)
    (hstep : ∀ i s d acts (Q' : ForInStep PUnit → Pre), i < N → P i s → (∀ d' acts' s', P (i + 1) s' → Q' (.yield PUnit.unit) d' acts' s') → wp (f i PUnit.unit) Q' E e d acts s)
    (hend : ∀ d acts s, P N s → Q PUnit.unit d acts s) : wp (forIn (List.range' 0 N 1) PUnit.unit f) Q E e d acts s := by
  refine wp_forIn_inv (fun rest s' => ∃ i, i ≤ N ∧ rest = List.range' i (N - i) ∧ P i s') _ _ ⟨0, Nat.zero_le _, rfl, h0⟩ ?_ ?_
  · rintro x rest s' d' acts' Q' ⟨i, hi, hl, hp⟩ hnext
    have hlt : i < N := by
      rcases Nat.lt_or_ge i N with h | h
      · exact h
      · rw [show N - i = 0 from by omega] at hl; simp at hl
    obtain ⟨rfl, hrest⟩ : x = i ∧ rest = List.range' (i + 1) (N - (i + 1)) := by
      rw [show N - i = (N - (i + 1)) + 1 from by omega, List.range'_succ] at hl
      exact ⟨(List.cons.inj hl).1, (List.cons.inj hl).2⟩
    exact hstep x s' d' acts' Q' hlt hp (fun d9 a9 s9 h9 => hnext _ _ _ ⟨x + 1, hlt, hrest, h9⟩)
  · rintro s' d' acts' ⟨i, hi, hl, hp⟩
    have hiN : i = N := by
      rcases Nat.lt_or_ge i N with h | h
      · rw [show N - i = (N - (i + 1)) + 1 from by omega, List.range'_succ] at hl; cases hl
      · omega
    subst hiN
    exact hend _ _ _ hp
end MN3
section MN4
variable {E : CtlPost} {e : Env} {d : Bool} {acts : List Action} {s : State}
theorem mn_make2 {c comp cc : ClassId} {k kc : Class} {t0 type : FieldType} {n m : Int32} (hk : s.vm.classes[c]? = some k) (hkind : k.kind = .array comp t0) (href : t0.isReference = true)
    (hkc : s.vm.classes[comp]? = some kc) (hkindc : kc.kind = .array cc type) (hn : ¬ n < 0) (hm : ¬ m < 0)
    (hl1 : ¬ n.toNatClampNeg > e.platform.arrayLengthLimit) (hh1 : ¬ n.toNatClampNeg * componentBytes t0 > e.platform.maxHeapBytes)
    (hl2 : ¬ m.toNatClampNeg > e.platform.arrayLengthLimit) (hh2 : ¬ m.toNatClampNeg * componentBytes type > e.platform.maxHeapBytes)
    (hdf : fits type (defaultValue type) = true) (hdd : (defaultValue type).isDefault = true)
    (hc : s.heap.size + 1 + n.toNatClampNeg ≤ e.platform.maxCells) (hs : s.slotsUsed + n.toNatClampNeg + n.toNatClampNeg * m.toNatClampNeg ≤ e.platform.maxSlots)
    {Q : Addr → Pre} (hq : ∀ d' acts', Q s.heap.size d' acts' (mn_f2 s c comp n.toNatClampNeg m.toNatClampNeg (defaultValue type) n.toNatClampNeg)) :
    wp (multianewarray.make c [n, m]) Q E e d acts s := by
  have hfind : ([m].find? (· < 0)) = none := by simp [hm]
  rw [multianewarray.make]
  simp only [wp_bind', W.ite, hn, if_false, wp_pure', W.theClass, hk, hkind, Option.some.injEq, exists_eq_left']
  refine mn_newArray hk hkind hl1 hh1 (mn_refFits href _ (Or.inl rfl)) rfl (by omega) (by have := Nat.zero_le (n.toNatClampNeg * m.toNatClampNeg); omega) ?_
  simp only [hfind]
  rw [ite_self, wp_bind', Std.Legacy.Range.forIn_eq_forIn_range']
  have hsz : ([:n.toNatClampNeg] : Std.Legacy.Range).size = n.toNatClampNeg := by simp [Std.Legacy.Range.size]
  rw [hsz]
  show wp (forIn (List.range' 0 n.toNatClampNeg 1) PUnit.unit _) _ E e d acts _
  refine mn_range (P := fun i s' => s' = mn_f2 s c comp n.toNatClampNeg m.toNatClampNeg (defaultValue type) i) ?_ ?_ ?_
  · show s.pushCell _ = s.pushCell _
    rw [mn_out_0]
  · rintro x _ d' acts' Q' hlt rfl hnext
    obtain ⟨f1, f2, f3, f4⟩ := mn_f2_facts s c comp n.toNatClampNeg m.toNatClampNeg (defaultValue type) x
    obtain ⟨o1, o2, o3⟩ := mn_out_f c n.toNatClampNeg (fun j => s.heap.size + 1 + j) x
    have hmul : x * m.toNatClampNeg + m.toNatClampNeg ≤ n.toNatClampNeg * m.toNatClampNeg := by
      have := Nat.mul_le_mul_right m.toNatClampNeg (show x + 1 ≤ n.toNatClampNeg from hlt)
      rw [Nat.succ_mul] at this; exact this
    simp only [wp_bind']
    refine mn_make1 (by rw [f3]; exact hkc) hkindc hm hl2 hh2 hdf hdd (by rw [f1]; omega) (by rw [f4]; omega) ?_
    have hlt0 : s.heap.size < (mn_f2 s c comp n.toNatClampNeg m.toNatClampNeg (defaultValue type) x).heap.size := by rw [f1]; omega
    simp only [wp_bind', W.writeLoc, wp_pure']
    refine ⟨mn_out c n.toNatClampNeg (fun j => s.heap.size + 1 + j) x, by rw [State.heap_pushCell_of_lt (h := hlt0)]; exact f2, by rw [o2]; simp, by rw [o3]; exact hlt, ?_, hnext _ _ _ ?_⟩
    · rw [o1, o2]
      simp [State.fitsSlot, State.slotType?, f3, hk, hkind, mn_refFits href _ (Or.inr ⟨_, rfl⟩)]
    · rw [f1]
      show (State.pushCell _ _).setCell _ ((mn_out c n.toNatClampNeg (fun j => s.heap.size + 1 + j) x).setSlot x (.ref ((fun j => s.heap.size + 1 + j) x))) = _
      rw [mn_out_s]
      rfl
  · rintro d' acts' _ rfl
    exact hq _ _
theorem mn_make3 {c3 c2 c1 cc : ClassId} {k3 k2 k1 : Class} {t3 t2 type : FieldType} {n m k : Int32} (hk3 : s.vm.classes[c3]? = some k3) (hkind3 : k3.kind = .array c2 t3) (href3 : t3.isReference = true) (hk2 : s.vm.classes[c2]? = some k2) (hkind2 : k2.kind = .array c1 t2) (href2 : t2.isReference = true)
    (hk1 : s.vm.classes[c1]? = some k1) (hkind1 : k1.kind = .array cc type) (hn : ¬ n < 0) (hm : ¬ m < 0) (hk : ¬ k < 0)
    (hl1 : ¬ n.toNatClampNeg > e.platform.arrayLengthLimit) (hh1 : ¬ n.toNatClampNeg * componentBytes t3 > e.platform.maxHeapBytes)
    (hl2 : ¬ m.toNatClampNeg > e.platform.arrayLengthLimit) (hh2 : ¬ m.toNatClampNeg * componentBytes t2 > e.platform.maxHeapBytes)
    (hl3 : ¬ k.toNatClampNeg > e.platform.arrayLengthLimit) (hh3 : ¬ k.toNatClampNeg * componentBytes type > e.platform.maxHeapBytes)
    (hdf : fits type (defaultValue type) = true) (hdd : (defaultValue type).isDefault = true)
    (hc : mn_ad s.heap.size m.toNatClampNeg n.toNatClampNeg ≤ e.platform.maxCells) (hs : s.slotsUsed + n.toNatClampNeg + n.toNatClampNeg * (m.toNatClampNeg + m.toNatClampNeg * k.toNatClampNeg) ≤ e.platform.maxSlots)
    {Q : Addr → Pre} (hq : ∀ d' acts', Q s.heap.size d' acts' (mn_f3 s c3 c2 c1 n.toNatClampNeg m.toNatClampNeg k.toNatClampNeg (defaultValue type) n.toNatClampNeg)) :
    wp (multianewarray.make c3 [n, m, k]) Q E e d acts s := by
  have hfind : ([m, k].find? (· < 0)) = none := by simp [hm, hk]
  rw [multianewarray.make]
  simp only [wp_bind', W.ite, hn, if_false, wp_pure', W.theClass, hk3, hkind3, Option.some.injEq, exists_eq_left']
  have hc0 : s.heap.size + 1 ≤ mn_ad s.heap.size m.toNatClampNeg n.toNatClampNeg := by unfold mn_ad; omega
  refine mn_newArray hk3 hkind3 hl1 hh1 (mn_refFits href3 _ (Or.inl rfl)) rfl (by omega) (by have := Nat.zero_le (n.toNatClampNeg * (m.toNatClampNeg + m.toNatClampNeg * k.toNatClampNeg)); omega) ?_
  simp only [hfind]
  rw [ite_self, wp_bind', Std.Legacy.Range.forIn_eq_forIn_range']
  have hsz : ([:n.toNatClampNeg] : Std.Legacy.Range).size = n.toNatClampNeg := by simp [Std.Legacy.Range.size]
  rw [hsz]
  show wp (forIn (List.range' 0 n.toNatClampNeg 1) PUnit.unit _) _ E e d acts _
  refine mn_range (P := fun i s' => s' = mn_f3 s c3 c2 c1 n.toNatClampNeg m.toNatClampNeg k.toNatClampNeg (defaultValue type) i) ?_ ?_ ?_
  · show s.pushCell _ = s.pushCell _
    rw [mn_out_0]
  · rintro x _ d' acts' Q' hlt rfl hnext
    obtain ⟨f1, f2, f3, f4⟩ := mn_f3_facts s c3 c2 c1 n.toNatClampNeg m.toNatClampNeg k.toNatClampNeg (defaultValue type) x
    obtain ⟨o1, o2, o3⟩ := mn_out_f c3 n.toNatClampNeg (mn_ad s.heap.size m.toNatClampNeg) x
    have hmul : x * (m.toNatClampNeg + m.toNatClampNeg * k.toNatClampNeg) + (m.toNatClampNeg + m.toNatClampNeg * k.toNatClampNeg) ≤ n.toNatClampNeg * (m.toNatClampNeg + m.toNatClampNeg * k.toNatClampNeg) := by
      have := Nat.mul_le_mul_right (m.toNatClampNeg + m.toNatClampNeg * k.toNatClampNeg) (show x + 1 ≤ n.toNatClampNeg from hlt)
      rw [Nat.succ_mul] at this; exact this
    have had := mn_ad_lt (h := s.heap.size) (M := m.toNatClampNeg) hlt
    simp only [wp_bind']
    refine mn_make2 (by rw [f3]; exact hk2) hkind2 href2 (by rw [f3]; exact hk1) hkind1 hm hk hl2 hh2 hl3 hh3 hdf hdd (by rw [f1]; omega) (by rw [f4]; omega) (fun d9 a9 => ?_)
    obtain ⟨g1, g2, g3, g4⟩ := mn_f2_facts (mn_f3 s c3 c2 c1 n.toNatClampNeg m.toNatClampNeg k.toNatClampNeg (defaultValue type) x) c2 c1 m.toNatClampNeg k.toNatClampNeg (defaultValue type) m.toNatClampNeg
    have hlt0 : s.heap.size < (mn_f3 s c3 c2 c1 n.toNatClampNeg m.toNatClampNeg k.toNatClampNeg (defaultValue type) x).heap.size := by rw [f1]; unfold mn_ad; omega
    simp only [wp_bind', W.writeLoc, wp_pure']
    refine ⟨mn_out c3 n.toNatClampNeg (mn_ad s.heap.size m.toNatClampNeg) x, by rw [mn_f2_old _ _ _ _ _ _ hlt0]; exact f2, by rw [o2]; simp, by rw [o3]; exact hlt, ?_, hnext _ _ _ ?_⟩
    · rw [o1, o2]
      simp [State.fitsSlot, State.slotType?, g3, f3, hk3, hkind3, mn_refFits href3 _ (Or.inr ⟨_, rfl⟩)]
    · rw [f1]
      show State.setCell _ _ ((mn_out c3 n.toNatClampNeg (mn_ad s.heap.size m.toNatClampNeg) x).setSlot x (.ref (mn_ad s.heap.size m.toNatClampNeg x))) = _
      rw [mn_out_s]
      rfl
  · rintro d' acts' _ rfl
    exact hq _ _
end MN4
section MN5
variable {p : Program} {l : Launch} {e : Env} {R : Room} {s : State} {m : MethodId} {args : Array Value} {below : List Frame} {meth : Method} {c : Code} {T : State} {locs : List Loc} {cells slots : Nat}
theorem mn_stand2 (X : Stand p l e R s m args below meth c T locs cells slots) (cA comp : ClassId) (N M : Nat) (dv : Value) :
    ∀ i, Stand p l e R s m args below meth c (mn_f2 T cA comp N M dv i) (locs ++ (List.range i).map fun j => ⟨T.heap.size, j⟩) (cells + 1 + i) (slots + N + i * M)
  | 0 => by
    have h := X.pushed (mn_out cA N (fun j => T.heap.size + 1 + j) 0)
    rw [(mn_out_f cA N _ 0).2.2] at h
    simpa [mn_f2] using h
  | i + 1 => by
    have Xi := mn_stand2 X cA comp N M dv i
    obtain ⟨f1, f2, f3, f4⟩ := mn_f2_facts T cA comp N M dv i
    have hlt0 : T.heap.size < (mn_f2 T cA comp N M dv i).heap.size := by rw [f1]; omega
    have hcell : ((mn_f2 T cA comp N M dv i).pushCell (mn_in comp M dv)).heap[T.heap.size]? = some (mn_out cA N (fun j => T.heap.size + 1 + j) i) := by rw [State.heap_pushCell_of_lt (h := hlt0)]; exact f2
    have h := (Xi.pushed (mn_in comp M dv)).stored hcell i (.ref ((fun j => T.heap.size + 1 + j) i))
    have e1 : (mn_in comp M dv).slots.size = M := by simp [mn_in]
    rw [e1, mn_out_s] at h
    have e2 : (locs ++ (List.range (i + 1)).map fun j => (⟨T.heap.size, j⟩ : Loc)) = (locs ++ (List.range i).map fun j => (⟨T.heap.size, j⟩ : Loc)) ++ [⟨T.heap.size, i⟩] := by simp [List.range_succ, List.append_assoc]
    have e3 : slots + N + (i + 1) * M = slots + N + i * M + M := by rw [Nat.succ_mul]; omega
    rw [e2, e3]
    exact h
/-- the places that three dimensions write -/
def mn_l3 (h M : Nat) : Nat → List Loc
  | 0 => []
  | i + 1 => mn_l3 h M i ++ ((List.range M).map fun j => (⟨mn_ad h M i, j⟩ : Loc)) ++ [⟨h, i⟩]
theorem mn_l3_in {h M : Nat} : ∀ i, ∀ q ∈ mn_l3 h M i, h ≤ q.base
  | 0, q, hq => by cases hq
  | i + 1, q, hq => by
    unfold mn_l3 at hq
    rcases List.mem_append.mp hq with h1 | h1
    · rcases List.mem_append.mp h1 with h2 | h2
      · exact mn_l3_in i q h2
      · obtain ⟨j, -, e⟩ := List.mem_map.mp h2
        rw [← e]
        show h ≤ mn_ad h M i
        unfold mn_ad
        omega
    · rw [List.mem_singleton] at h1
      rw [h1]
      exact Nat.le_refl h
theorem mn_stand3 (X : Stand p l e R s m args below meth c T locs cells slots) (c3 c2 c1 : ClassId) (N M K : Nat) (dv : Value) :
    ∀ i, Stand p l e R s m args below meth c (mn_f3 T c3 c2 c1 N M K dv i) (locs ++ mn_l3 T.heap.size M i) (cells + 1 + i * (1 + M)) (slots + N + i * (M + M * K))
  | 0 => by
    have h := X.pushed (mn_out c3 N (mn_ad T.heap.size M) 0)
    rw [(mn_out_f c3 N _ 0).2.2] at h
    simpa [mn_f3, mn_l3] using h
  | i + 1 => by
    have Xi := mn_stand3 X c3 c2 c1 N M K dv i
    obtain ⟨f1, f2, f3, f4⟩ := mn_f3_facts T c3 c2 c1 N M K dv i
    have X2 := mn_stand2 Xi c2 c1 M K dv M
    have hlt0 : T.heap.size < (mn_f3 T c3 c2 c1 N M K dv i).heap.size := by rw [f1]; unfold mn_ad; omega
    have hcell : (mn_f2 (mn_f3 T c3 c2 c1 N M K dv i) c2 c1 M K dv M).heap[T.heap.size]? = some (mn_out c3 N (mn_ad T.heap.size M) i) := by rw [mn_f2_old _ _ _ _ _ _ hlt0]; exact f2
    have h := X2.stored hcell i (.ref (mn_ad T.heap.size M i))
    rw [mn_out_s, f1] at h
    have e2 : locs ++ mn_l3 T.heap.size M (i + 1) = locs ++ mn_l3 T.heap.size M i ++ ((List.range M).map fun j => (⟨mn_ad T.heap.size M i, j⟩ : Loc)) ++ [⟨T.heap.size, i⟩] := by simp [mn_l3, List.append_assoc]
    have e3 : cells + 1 + (i + 1) * (1 + M) = cells + 1 + i * (1 + M) + 1 + M := by rw [Nat.succ_mul]; omega
    have e4 : slots + N + (i + 1) * (M + M * K) = slots + N + i * (M + M * K) + M + M * K := by rw [Nat.succ_mul]; omega
    rw [e2, e3, e4]
    exact h
theorem mn_step2 (X : Stand p l e R s m args below meth c T locs cells slots) (hexec : p.tables.exec = Jvm.exec) {own : String} {index : Nat} {ty : FieldType}
    (hown : s.vm.findClass own = some m.cls) (hclink : (Cond.classLink own index ("[" ++ (FieldType.array ty).toString)).before args s = true)
    (hover : (Cond.arrayOver (.array ty)).before args s = true) (harr : (Cond.arrayClass ty).before args s = true)
    {g : JFrame} (hg : g.method = m) (hdg : decode c.code g.pc = .ok (.multianewarray index 2, 4)) {n k : Int32} {rest : List Value} (hstack : g.stack = .int k :: .int n :: rest)
    (hn : ¬ n < 0) (hk : ¬ k < 0) (hb1 : n.toNatClampNeg * 4 ≤ 536870912) (hb2 : k.toNatClampNeg * componentBytes ty ≤ 536870912) (hb3 : k.toNatClampNeg ≤ 536870912)
    (hdf : fits ty (defaultValue ty) = true) (hdd : (defaultValue ty).isDefault = true)
    (hcells : cells + (1 + n.toNatClampNeg) ≤ R.cells) (hslots : slots + (n.toNatClampNeg + n.toNatClampNeg * k.toNatClampNeg) ≤ R.slots) :
    ∃ (vm₁ : Vm) (cA comp : ClassId), s.vm.findClass ("[" ++ (FieldType.array ty).toString) = some cA ∧ s.vm.findClass (FieldType.array ty).toString = some comp ∧
      Stand p l e R s m args below meth c (mn_f2 (T.setVm vm₁) cA comp n.toNatClampNeg k.toNatClampNeg (defaultValue ty) n.toNatClampNeg) (locs ++ (List.range n.toNatClampNeg).map fun j => ⟨T.heap.size, j⟩) (cells + 1 + n.toNatClampNeg) (slots + n.toNatClampNeg + n.toNatClampNeg * k.toNatClampNeg) ∧
      ∀ target, Steps p.tables e below ((mn_f2 (T.setVm vm₁) cA comp n.toNatClampNeg k.toNatClampNeg (defaultValue ty) n.toNatClampNeg).setTop { g with pc := g.pc + 4, stack := .ref T.heap.size :: rest }) target →
        Steps p.tables e below (T.setTop g) target := by
  subst hg
  have hpl : e.platform.magicAccessors = ({} : Platform).magicAccessors := by rw [X.admits.platform]
  obtain ⟨comp, cA, kA, hcomp, -, hkA, hkindA, hnameA⟩ := arrayOverA_spec hover
  obtain ⟨comp', kC, cc, hcomp', hkC, hkindC⟩ := Cond.arrayClass_spec harr
  have ecomp : comp' = comp := Option.some.inj (hcomp'.symm.trans hcomp)
  subst ecomp
  obtain ⟨c0, hfc0, hcl⟩ := Cond.classLink_spec hown hclink e.platform hpl
  cases hnameA.symm.trans hfc0
  obtain ⟨hg₁, hwarm₁, hready₁⟩ := State.classEntry (e := e) X.warmed hcl
  generalize T.vm.noted g.method.cls index (.cls cA) = vm₁ at hg₁ hwarm₁ hready₁
  have hal : s.vm.Alike vm₁ := hwarm₁.alike
  obtain ⟨kA₁, hkA₁, heA⟩ := hal.2.2 _ _ hkA
  obtain ⟨kC₁, hkC₁, heC⟩ := hal.2.2 _ _ hkC
  have hkindA₁ : kA₁.kind = .array comp' (.array ty) := by rw [heA]; exact hkindA
  have hkindC₁ : kC₁.kind = .array cc ty := by rw [heC]; exact hkindC
  have X₁ := X.noted hwarm₁
  obtain ⟨hr1, hr2⟩ := X.roomAbove hcells hslots
  refine ⟨vm₁, cA, comp', hnameA, hcomp, mn_stand2 X₁ cA comp' _ _ _ _, fun target hrest => ?_⟩
  have hl1 : ¬ n.toNatClampNeg > e.platform.arrayLengthLimit := by rw [Launch.admits_arrayLengthLimit X.admits]; omega
  have hh1 : ¬ n.toNatClampNeg * componentBytes (.array ty) > e.platform.maxHeapBytes := by
    rw [Launch.admits_maxHeapBytes X.admits]; show ¬ n.toNatClampNeg * 4 > 536870912; omega
  have hl2 : ¬ k.toNatClampNeg > e.platform.arrayLengthLimit := by rw [Launch.admits_arrayLengthLimit X.admits]; omega
  have hh2 : ¬ k.toNatClampNeg * componentBytes ty > e.platform.maxHeapBytes := by rw [Launch.admits_maxHeapBytes X.admits]; omega
  jvm_step X.here [hexec, hdg]
  simp only [multianewarray.sem, wp_bind', W.resolveClassAt_links (State.method?_setTop g X.here.top) hg₁]
  rw [W.popN, if_neg (by decide)]
  refine ⟨g, State.topJava?_setTop' (s := T.setVm vm₁) g X.here.top, [.int n, .int k], rest, rfl, hstack, ?_⟩
  simp only [List.mapM_cons, List.mapM_nil, wp_bind', wp_pure']
  refine mn_make2 (k := kA₁) (kc := kC₁) (comp := comp') (cc := cc) (t0 := .array ty) (type := ty) hkA₁ hkindA₁ rfl hkC₁ hkindC₁ hn hk hl1 hh1 hl2 hh2 hdf hdd (by show T.heap.size + 1 + _ ≤ _; omega) (by show T.slotsUsed + _ + _ ≤ _; omega) (fun d' acts' => ?_)
  have XF := mn_stand2 X₁ cA comp' n.toNatClampNeg k.toNatClampNeg (defaultValue ty) n.toNatClampNeg
  have eS : ((T.setTop g).setVm vm₁).setTop { g with stack := rest } = (T.setVm vm₁).setTop { g with stack := rest } := by
    show ((T.setVm vm₁).setTop g).setTop _ = _
    rw [State.setTop_setTop]
  rw [eS, mn_f2_setTop]
  simp only [wp_bind', W.mark, W.pushRef, State.topJava?_setTop' _ XF.here.top, Option.some.injEq, exists_eq_left', State.setTop_setTop, State.heap_setTop]
  intro acts
  simp [jvm, XF.here.top]
  exact hrest
theorem mn_step3 (X : Stand p l e R s m args below meth c T locs cells slots) (hexec : p.tables.exec = Jvm.exec) {own : String} {index : Nat} {ty : FieldType}
    (hown : s.vm.findClass own = some m.cls) (hclink : (Cond.classLink own index ("[" ++ (FieldType.array (.array ty)).toString)).before args s = true)
    (hover3 : (Cond.arrayOver (.array (.array ty))).before args s = true) (hover : (Cond.arrayOver (.array ty)).before args s = true) (harr : (Cond.arrayClass ty).before args s = true)
    {g : JFrame} (hg : g.method = m) (hdg : decode c.code g.pc = .ok (.multianewarray index 3, 4)) {n k r : Int32} {rest : List Value} (hstack : g.stack = .int r :: .int k :: .int n :: rest)
    (hn : ¬ n < 0) (hk : ¬ k < 0) (hr : ¬ r < 0) (hb1 : n.toNatClampNeg * 4 ≤ 536870912) (hb2 : k.toNatClampNeg * 4 ≤ 536870912) (hb3 : r.toNatClampNeg * componentBytes ty ≤ 536870912) (hb4 : r.toNatClampNeg ≤ 536870912)
    (hdf : fits ty (defaultValue ty) = true) (hdd : (defaultValue ty).isDefault = true)
    (hcells : cells + (1 + n.toNatClampNeg * (1 + k.toNatClampNeg)) ≤ R.cells) (hslots : slots + (n.toNatClampNeg + n.toNatClampNeg * (k.toNatClampNeg + k.toNatClampNeg * r.toNatClampNeg)) ≤ R.slots) :
    ∃ (vm₁ : Vm) (c3 c2 c1 : ClassId), s.vm.findClass ("[" ++ (FieldType.array (.array ty)).toString) = some c3 ∧ s.vm.findClass ("[" ++ (FieldType.array ty).toString) = some c2 ∧ s.vm.findClass (FieldType.array ty).toString = some c1 ∧
      Stand p l e R s m args below meth c (mn_f3 (T.setVm vm₁) c3 c2 c1 n.toNatClampNeg k.toNatClampNeg r.toNatClampNeg (defaultValue ty) n.toNatClampNeg) (locs ++ mn_l3 T.heap.size k.toNatClampNeg n.toNatClampNeg) (cells + 1 + n.toNatClampNeg * (1 + k.toNatClampNeg)) (slots + n.toNatClampNeg + n.toNatClampNeg * (k.toNatClampNeg + k.toNatClampNeg * r.toNatClampNeg)) ∧
      ∀ target, Steps p.tables e below ((mn_f3 (T.setVm vm₁) c3 c2 c1 n.toNatClampNeg k.toNatClampNeg r.toNatClampNeg (defaultValue ty) n.toNatClampNeg).setTop { g with pc := g.pc + 4, stack := .ref T.heap.size :: rest }) target →
        Steps p.tables e below (T.setTop g) target := by
  subst hg
  have hpl : e.platform.magicAccessors = ({} : Platform).magicAccessors := by rw [X.admits.platform]
  obtain ⟨c2, c3, k3, hc2, -, hk3, hkind3, hname3⟩ := arrayOverA_spec hover3
  obtain ⟨c1, c2', k2, hc1, -, hk2, hkind2, hname2⟩ := arrayOverA_spec hover
  obtain ⟨c1', k1, cc, hc1', hk1, hkind1⟩ := Cond.arrayClass_spec harr
  have e1 : c1' = c1 := Option.some.inj (hc1'.symm.trans hc1)
  subst e1
  have e2 : c2' = c2 := Option.some.inj (hname2.symm.trans hc2)
  subst e2
  obtain ⟨c0, hfc0, hcl⟩ := Cond.classLink_spec hown hclink e.platform hpl
  cases hname3.symm.trans hfc0
  obtain ⟨hg₁, hwarm₁, hready₁⟩ := State.classEntry (e := e) X.warmed hcl
  generalize T.vm.noted g.method.cls index (.cls c3) = vm₁ at hg₁ hwarm₁ hready₁
  have hal : s.vm.Alike vm₁ := hwarm₁.alike
  obtain ⟨q3, hq3, he3⟩ := hal.2.2 _ _ hk3
  obtain ⟨q2, hq2, he2⟩ := hal.2.2 _ _ hk2
  obtain ⟨q1, hq1, he1⟩ := hal.2.2 _ _ hk1
  have hkd3 : q3.kind = .array c2' (.array (.array ty)) := by rw [he3]; exact hkind3
  have hkd2 : q2.kind = .array c1' (.array ty) := by rw [he2]; exact hkind2
  have hkd1 : q1.kind = .array cc ty := by rw [he1]; exact hkind1
  have X₁ := X.noted hwarm₁
  obtain ⟨hr1, hr2⟩ := X.roomAbove hcells hslots
  refine ⟨vm₁, c3, c2', c1', hname3, hname2, hc1, mn_stand3 X₁ c3 c2' c1' _ _ _ _ _, fun target hrest => ?_⟩
  have hl1 : ¬ n.toNatClampNeg > e.platform.arrayLengthLimit := by rw [Launch.admits_arrayLengthLimit X.admits]; omega
  have hh1 : ¬ n.toNatClampNeg * componentBytes (.array (.array ty)) > e.platform.maxHeapBytes := by
    rw [Launch.admits_maxHeapBytes X.admits]; show ¬ n.toNatClampNeg * 4 > 536870912; omega
  have hl2 : ¬ k.toNatClampNeg > e.platform.arrayLengthLimit := by rw [Launch.admits_arrayLengthLimit X.admits]; omega
  have hh2 : ¬ k.toNatClampNeg * componentBytes (.array ty) > e.platform.maxHeapBytes := by
    rw [Launch.admits_maxHeapBytes X.admits]; show ¬ k.toNatClampNeg * 4 > 536870912; omega
  have hl3 : ¬ r.toNatClampNeg > e.platform.arrayLengthLimit := by rw [Launch.admits_arrayLengthLimit X.admits]; omega
  have hh3 : ¬ r.toNatClampNeg * componentBytes ty > e.platform.maxHeapBytes := by rw [Launch.admits_maxHeapBytes X.admits]; omega
  jvm_step X.here [hexec, hdg]
  simp only [multianewarray.sem, wp_bind', W.resolveClassAt_links (State.method?_setTop g X.here.top) hg₁]
  rw [W.popN, if_neg (by decide)]
  refine ⟨g, State.topJava?_setTop' (s := T.setVm vm₁) g X.here.top, [.int n, .int k, .int r], rest, rfl, hstack, ?_⟩
  simp only [List.mapM_cons, List.mapM_nil, wp_bind', wp_pure']
  refine mn_make3 (k3 := q3) (k2 := q2) (k1 := q1) (c2 := c2') (c1 := c1') (cc := cc) (t3 := .array (.array ty)) (t2 := .array ty) (type := ty) hq3 hkd3 rfl hq2 hkd2 rfl hq1 hkd1 hn hk hr hl1 hh1 hl2 hh2 hl3 hh3 hdf hdd (by show T.heap.size + 1 + _ ≤ _; omega) (by show T.slotsUsed + _ + _ ≤ _; omega) (fun d' acts' => ?_)
  have XF := mn_stand3 X₁ c3 c2' c1' n.toNatClampNeg k.toNatClampNeg r.toNatClampNeg (defaultValue ty) n.toNatClampNeg
  have eS : ((T.setTop g).setVm vm₁).setTop { g with stack := rest } = (T.setVm vm₁).setTop { g with stack := rest } := by
    show ((T.setVm vm₁).setTop g).setTop _ = _
    rw [State.setTop_setTop]
  rw [eS, mn_f3_setTop]
  simp only [wp_bind', W.mark, W.pushRef, State.topJava?_setTop' _ XF.here.top, Option.some.injEq, exists_eq_left', State.setTop_setTop, State.heap_setTop]
  intro acts
  simp [jvm, XF.here.top]
  exact hrest
end MN5
section MN6
variable {x : Bool} {d : ms_D} {P : ms_P} {pc : Nat} {lv : List (Nat × Value)} {st : List Value} {n : Nat} {G : ms_H} {kr zr : Nat}
/-- the heap behind new int[N][M] at n -/
def mn_G2 (G : ms_H) (n N M : Nat) : ms_H := fun a => if a = n then some (.inl (4, N, .inr (.inr (.inr (.inr (fun j => if j < N then some (n + 1 + j) else none)))))) else if n < a ∧ a < n + 1 + N then some (.inl (0, M, .inl (fun _ => 0))) else G a
/-- the heap behind new int[N][M][K] at n -/
def mn_G3 (G : ms_H) (n N M K : Nat) : ms_H := fun a => if a = n then some (.inl (2, N, .inr (.inr (.inr (.inr (fun j => if j < N then some (mn_ad n M j) else none)))))) else if n < a ∧ a < mn_ad n M N then (if (a - (n + 1)) % (1 + M) = 0 then some (.inl (4, M, .inr (.inr (.inr (.inr (fun q => if q < M then some (a + 1 + q) else none)))))) else some (.inl (0, K, .inl (fun _ => 0)))) else G a
theorem mn_in_0 (c : ClassId) (M : Nat) : mn_in c M (defaultValue .int) = vp_cell c (M, .inl (fun _ => 0)) := arrV_new c M (.int 0)
theorem ms_mna2 {i : Nat} {v k9 : Int32} {N M : Nat} (hdg : decode d.2.1 pc = .ok (.multianewarray i 2, 4)) (hw : Cond.classLink d.1.cls i "[[I" ∈ ms_big) (hw2 : Cond.arrayClass .int ∈ ms_big) (h0 : ¬ v < 0) (h1 : ¬ k9 < 0) (hN : v.toNatClampNeg = N) (hM : k9.toNatClampNeg = M) (hb : N * 4 ≤ 536870912) (hb2 : M * 4 ≤ 536870912) (k : ms_W x d P (pc + 4) lv (.ref n :: st) (n + 1 + N) (mn_G2 G n N M) kr zr) : ms_W x d P pc lv (.int k9 :: .int v :: st) n G (1 + N + kr) (N + N * M + zr) := by
  intro mc ms p l e s m args below meth c D cA base H locs cells slots ls F c1 c2 c3 c4 c5 c6
  subst hN
  subst hM
  intro T hT X
  obtain ⟨vm₁, cB, cC, fB, fC, X', step⟩ := mn_step2 (ty := .int) X F.exec F.own (F.big _ hw) (over_moved (u := s) (E := s) (Vm.Alike.refl s.vm) F.SE.2.2.2.2.1.1) (F.big _ hw2) (g := F0 m pc ls (.int k9 :: .int v :: st)) rfl (by rw [F.code]; exact hdg) rfl h0 h1 hb (by show k9.toNatClampNeg * 4 ≤ _; exact hb2) (by omega) rfl rfl (show cells + (1 + v.toNatClampNeg) ≤ mc by omega) (show slots + (v.toNatClampNeg + v.toNatClampNeg * k9.toNatClampNeg) ≤ ms by omega)
  have hcB : cB = cA 4 := Option.some.inj (fB.symm.trans (F.K.2 4 _ rfl).2)
  subst hcB
  have hcC : cC = cA 0 := Option.some.inj (fC.symm.trans (F.K.2 0 _ rfl).2)
  subst hcC
  obtain ⟨f1, f2, -, -⟩ := mn_f2_facts (T.setVm vm₁) (cA 4) (cA 0) v.toNatClampNeg k9.toNatClampNeg (defaultValue .int) v.toNatClampNeg
  have hold : ∀ a : Nat, a < n → (mn_f2 (T.setVm vm₁) (cA 4) (cA 0) v.toNatClampNeg k9.toNatClampNeg (defaultValue .int) v.toNatClampNeg).heap[a]? = H[a]? := fun a ha => by
    rw [mn_f2_old _ _ _ _ _ _ (by show a < T.heap.size; rw [hT, c3]; exact ha)]
    show T.heap[a]? = _
    rw [hT]
  have hin := mn_f2_in (T.setVm vm₁) (cA 4) (cA 0) v.toNatClampNeg k9.toNatClampNeg (defaultValue .int) v.toNatClampNeg
  have hTs : (T.setVm vm₁).heap.size = n := by show T.heap.size = n; rw [hT]; exact c3
  have hTz : T.heap.size = n := by rw [hT]; exact c3
  rw [hTs] at f1 f2 hin
  rw [hTz] at X' step
  generalize hF : mn_f2 (T.setVm vm₁) (cA 4) (cA 0) v.toNatClampNeg k9.toNatClampNeg (defaultValue .int) v.toNatClampNeg = U at f1 f2 hold hin X' step
  have hbn : base ≤ n := by have := F.low; have := c5.1; omega
  obtain ⟨t, a1, b1⟩ := k mc ms p l e s m args below meth c D cA base U.heap _ (cells + 1 + v.toNatClampNeg) (slots + v.toNatClampNeg + v.toNatClampNeg * k9.toNatClampNeg) ls F (by omega) (by omega) f1 (fun a y ha => by
    unfold mn_G2 at ha
    by_cases e1 : a = n
    · rw [if_pos e1] at ha
      cases ha
      subst e1
      exact ⟨f2, hbn⟩
    · rw [if_neg e1] at ha
      by_cases e2 : n < a ∧ a < n + 1 + v.toNatClampNeg
      · rw [if_pos e2] at ha
        cases ha
        have h9 := hin (a - (n + 1)) (by omega)
        rw [show n + 1 + (a - (n + 1)) = a by omega, mn_in_0] at h9
        exact ⟨h9, by omega⟩
      · rw [if_neg e2] at ha
        have h9 := c4 a y ha
        exact ⟨h9.1.kept (hold a (by rw [← c3]; exact va_at.lt h9.1)), h9.2⟩) ⟨by rw [f1]; have := c5.1; omega, fun q h1 h2 => (hold q (by have := c5.1; omega)).trans (c5.2.1 q h1 h2), fun q hq => by
      rcases List.mem_append.mp hq with h | h
      · exact c5.2.2 q h
      · obtain ⟨j, -, e9⟩ := List.mem_map.mp h
        rw [← e9]
        exact hbn⟩ c6 U rfl X'
  exact ⟨t, step t a1, b1⟩
theorem ms_mna3 {i : Nat} {v k9 r9 : Int32} {N M K : Nat} (hdg : decode d.2.1 pc = .ok (.multianewarray i 3, 4)) (hw : Cond.classLink d.1.cls i "[[[I" ∈ ms_big) (hw2 : Cond.arrayClass .int ∈ ms_big) (h0 : ¬ v < 0) (h1 : ¬ k9 < 0) (h2 : ¬ r9 < 0) (hN : v.toNatClampNeg = N) (hM : k9.toNatClampNeg = M) (hK : r9.toNatClampNeg = K) (hb : N * 4 ≤ 536870912) (hb2 : M * 4 ≤ 536870912) (hb3 : K * 4 ≤ 536870912) (k : ms_W x d P (pc + 4) lv (.ref n :: st) (mn_ad n M N) (mn_G3 G n N M K) kr zr) : ms_W x d P pc lv (.int r9 :: .int k9 :: .int v :: st) n G (1 + N * (1 + M) + kr) (N + N * (M + M * K) + zr) := by
  intro mc ms p l e s m args below meth c D cA base H locs cells slots ls F c1 c2 c3 c4 c5 c6
  subst hN
  subst hM
  subst hK
  intro T hT X
  obtain ⟨vm₁, cB3, cB, cC, fB3, fB, fC, X', step⟩ := mn_step3 (ty := .int) X F.exec F.own (F.big _ hw) (over_moved (u := s) (E := s) (Vm.Alike.refl s.vm) F.SE.2.2.2.2.1.2) (over_moved (u := s) (E := s) (Vm.Alike.refl s.vm) F.SE.2.2.2.2.1.1) (F.big _ hw2) (g := F0 m pc ls (.int r9 :: .int k9 :: .int v :: st)) rfl (by rw [F.code]; exact hdg) rfl h0 h1 h2 hb hb2 (by show r9.toNatClampNeg * 4 ≤ _; exact hb3) (by omega) rfl rfl (show cells + (1 + v.toNatClampNeg * (1 + k9.toNatClampNeg)) ≤ mc by omega) (show slots + (v.toNatClampNeg + v.toNatClampNeg * (k9.toNatClampNeg + k9.toNatClampNeg * r9.toNatClampNeg)) ≤ ms by omega)
  have hc3 : cB3 = cA 2 := Option.some.inj (fB3.symm.trans (F.K.2 2 _ rfl).2)
  subst hc3
  have hcB : cB = cA 4 := Option.some.inj (fB.symm.trans (F.K.2 4 _ rfl).2)
  subst hcB
  have hcC : cC = cA 0 := Option.some.inj (fC.symm.trans (F.K.2 0 _ rfl).2)
  subst hcC
  obtain ⟨f1, f2, -, -⟩ := mn_f3_facts (T.setVm vm₁) (cA 2) (cA 4) (cA 0) v.toNatClampNeg k9.toNatClampNeg r9.toNatClampNeg (defaultValue .int) v.toNatClampNeg
  have hold : ∀ a : Nat, a < n → (mn_f3 (T.setVm vm₁) (cA 2) (cA 4) (cA 0) v.toNatClampNeg k9.toNatClampNeg r9.toNatClampNeg (defaultValue .int) v.toNatClampNeg).heap[a]? = H[a]? := fun a ha => by
    rw [mn_f3_old _ _ _ _ _ _ _ _ (by show a < T.heap.size; rw [hT, c3]; exact ha)]
    show T.heap[a]? = _
    rw [hT]
  have hin := mn_f3_in (T.setVm vm₁) (cA 2) (cA 4) (cA 0) v.toNatClampNeg k9.toNatClampNeg r9.toNatClampNeg (defaultValue .int) v.toNatClampNeg
  have hTs : (T.setVm vm₁).heap.size = n := by show T.heap.size = n; rw [hT]; exact c3
  have hTz : T.heap.size = n := by rw [hT]; exact c3
  rw [hTs] at f1 f2 hin
  rw [hTz] at X' step
  generalize hF : mn_f3 (T.setVm vm₁) (cA 2) (cA 4) (cA 0) v.toNatClampNeg k9.toNatClampNeg r9.toNatClampNeg (defaultValue .int) v.toNatClampNeg = U at f1 f2 hold hin X' step
  have hbn : base ≤ n := by have := F.low; have := c5.1; omega
  have hM0 : 0 < 1 + k9.toNatClampNeg := by omega
  obtain ⟨t, a1, b1⟩ := k mc ms p l e s m args below meth c D cA base U.heap _ (cells + 1 + v.toNatClampNeg * (1 + k9.toNatClampNeg)) (slots + v.toNatClampNeg + v.toNatClampNeg * (k9.toNatClampNeg + k9.toNatClampNeg * r9.toNatClampNeg)) ls F (by omega) (by omega) f1 (fun a y ha => by
    unfold mn_G3 at ha
    by_cases e1 : a = n
    · rw [if_pos e1] at ha
      cases ha
      subst e1
      exact ⟨f2, hbn⟩
    · rw [if_neg e1] at ha
      by_cases e2 : n < a ∧ a < mn_ad n k9.toNatClampNeg v.toNatClampNeg
      · rw [if_pos e2] at ha
        have hdm := Nat.div_add_mod (a - (n + 1)) (1 + k9.toNatClampNeg)
        have hml := Nat.mod_lt (a - (n + 1)) hM0
        have hj : (a - (n + 1)) / (1 + k9.toNatClampNeg) < v.toNatClampNeg := by
          rw [Nat.div_lt_iff_lt_mul hM0]
          have := e2.2
          unfold mn_ad at this
          omega
        have had : mn_ad n k9.toNatClampNeg ((a - (n + 1)) / (1 + k9.toNatClampNeg)) + (a - (n + 1)) % (1 + k9.toNatClampNeg) = a := by
          unfold mn_ad
          rw [Nat.mul_comm]
          omega
        obtain ⟨g1, g2⟩ := hin _ hj
        by_cases e3 : (a - (n + 1)) % (1 + k9.toNatClampNeg) = 0
        · rw [if_pos e3] at ha
          cases ha
          rw [e3, Nat.add_zero] at had
          rw [had] at g1
          exact ⟨g1, by omega⟩
        · rw [if_neg e3] at ha
          cases ha
          have h9 := g2 ((a - (n + 1)) % (1 + k9.toNatClampNeg) - 1) (by omega)
          rw [show mn_ad n k9.toNatClampNeg ((a - (n + 1)) / (1 + k9.toNatClampNeg)) + 1 + ((a - (n + 1)) % (1 + k9.toNatClampNeg) - 1) = a by omega, mn_in_0] at h9
          exact ⟨h9, by omega⟩
      · rw [if_neg e2] at ha
        have h9 := c4 a y ha
        exact ⟨h9.1.kept (hold a (by rw [← c3]; exact va_at.lt h9.1)), h9.2⟩) ⟨by rw [f1]; unfold mn_ad; have := c5.1; omega, fun q h1 h2 => (hold q (by have := c5.1; omega)).trans (c5.2.1 q h1 h2), fun q hq => by
      rcases List.mem_append.mp hq with h | h
      · exact c5.2.2 q h
      · exact Nat.le_trans hbn (mn_l3_in _ q h)⟩ c6 U rfl X'
  exact ⟨t, step t a1, b1⟩
end MN6

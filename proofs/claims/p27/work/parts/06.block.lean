/-! THE RULES, one an instruction; and the block rule: a stretch of loads, stores and arithmetic in one step -/
def ms_get (lv : List (Nat × Value)) (i : Nat) : Option Value := (lv.find? (fun q => q.1 == i)).map (fun q => q.2)
theorem ms_get_at {ls : Array Slot} {nL : Nat} {lv : List (Nat × Value)} {i : Nat} {v : Value} (h : lv_has ls nL lv) (hg : ms_get lv i = some v) : ls[i]? = some (.val v) := by
  unfold ms_get at hg
  rw [Option.map_eq_some_iff] at hg
  obtain ⟨q, h1, h2⟩ := hg
  have h3 := List.mem_of_find?_eq_some h1
  have h4 := List.find?_some h1
  have h5 : q.1 = i := by simpa using h4
  rw [← h5, ← h2]
  exact h.2.2 q h3
abbrev ms_s1 (lv : List (Nat × Value)) (i : Nat) (v : Value) : List (Nat × Value) := (i, v) :: lv.filter (fun q => !(q.1 == i) && !(q.1 + 1 == i && q.2.category == 2))
abbrev ms_s2 (lv : List (Nat × Value)) (i : Nat) (v : Value) : List (Nat × Value) := (i, v) :: lv.filter (fun q => !(q.1 == i) && (!(q.1 == i + 1) && !(q.1 + 1 == i && q.2.category == 2)))
def ms_ldI (lv : List (Nat × Value)) (st : List Value) (i : Nat) : Option (List (Nat × Value) × List Value) := match ms_get lv i with
  | some (.int v) => some (lv, .int v :: st)
  | _ => none
def ms_ldL (lv : List (Nat × Value)) (st : List Value) (i : Nat) : Option (List (Nat × Value) × List Value) := match ms_get lv i with
  | some (.long v) => some (lv, .long v :: st)
  | _ => none
def ms_ldA (lv : List (Nat × Value)) (st : List Value) (i : Nat) : Option (List (Nat × Value) × List Value) := match ms_get lv i with
  | some (.ref v) => some (lv, .ref v :: st)
  | some .null => some (lv, .null :: st)
  | _ => none
def ms_stI (mL : Nat) (lv : List (Nat × Value)) (i : Nat) (st : List Value) : Option (List (Nat × Value) × List Value) := match st with
  | .int v :: r => if i < mL then some (ms_s1 lv i (.int v), r) else none
  | _ => none
def ms_stL (mL : Nat) (lv : List (Nat × Value)) (i : Nat) (st : List Value) : Option (List (Nat × Value) × List Value) := match st with
  | .long v :: r => if i + 1 < mL then some (ms_s2 lv i (.long v), r) else none
  | _ => none
def ms_stA (mL : Nat) (lv : List (Nat × Value)) (i : Nat) (st : List Value) : Option (List (Nat × Value) × List Value) := match st with
  | .ref v :: r => if i < mL then some (ms_s1 lv i (.ref v), r) else none
  | .null :: r => if i < mL then some (ms_s1 lv i .null, r) else none
  | _ => none
def ms_b2 (lv : List (Nat × Value)) (f : Int32 → Int32 → Int32) (st : List Value) : Option (List (Nat × Value) × List Value) := match st with
  | .int y :: .int z :: r => some (lv, .int (f z y) :: r)
  | _ => none
def ms_b2L (lv : List (Nat × Value)) (f : Int64 → Int64 → Int64) (st : List Value) : Option (List (Nat × Value) × List Value) := match st with
  | .long y :: .long z :: r => some (lv, .long (f z y) :: r)
  | _ => none
def ms_inc (mL : Nat) (lv : List (Nat × Value)) (st : List Value) (i : Nat) (k : Int) : Option (List (Nat × Value) × List Value) := match ms_get lv i with
  | some (.int v) => if i < mL then some (ms_s1 lv i (.int (v + Int32.ofInt k)), st) else none
  | _ => none
def ms_dup (lv : List (Nat × Value)) (st : List Value) : Option (List (Nat × Value) × List Value) := match st with
  | v :: r => if v.category = 1 then some (lv, v :: v :: r) else none
  | _ => none
def ms_pop (lv : List (Nat × Value)) (st : List Value) : Option (List (Nat × Value) × List Value) := match st with
  | v :: r => if v.category = 1 then some (lv, r) else none
  | _ => none
def ms_dup2 (lv : List (Nat × Value)) (st : List Value) : Option (List (Nat × Value) × List Value) := match st with
  | v :: w :: r => if v.category = 1 ∧ w.category = 1 then some (lv, v :: w :: v :: w :: r) else none
  | _ => none
def ms_dupx (lv : List (Nat × Value)) (st : List Value) : Option (List (Nat × Value) × List Value) := match st with
  | v :: w :: r => if v.category = 1 ∧ w.category = 1 then some (lv, v :: w :: v :: r) else none
  | _ => none
def ms_i2l (lv : List (Nat × Value)) (st : List Value) : Option (List (Nat × Value) × List Value) := match st with
  | .int v :: r => some (lv, .long v.toInt64 :: r)
  | _ => none
def ms_neg (lv : List (Nat × Value)) (st : List Value) : Option (List (Nat × Value) × List Value) := match st with
  | .int v :: r => some (lv, .int (-v) :: r)
  | _ => none
theorem pr_iconst {x : Bool} {d : ms_D} {P : ms_P} {pc : Nat} {lv lv' : List (Nat × Value)} {st st' : List Value} {n : Nat} {G : ms_H} {kr zr : Nat} {j : Int} (hdg : decode d.2.1 pc = .ok (.iconst j, 1)) (h : some (lv, Value.int (Int32.ofInt j) :: st) = some (lv', st')) (k : ms_W x d P (pc + 1) lv' st' n G kr zr) : ms_W x d P pc lv st n G kr zr := by
  cases h
  intro mc ms p l e s m args below meth c D cA base H locs cells slots ls F c1 c2 c3 c4 c5 c6
  exact lv_iconst F.exec F.code hdg rfl (k mc ms p l e s m args below meth c D cA base H locs cells slots ls F c1 c2 c3 c4 c5 c6)
theorem pr_bipush {x : Bool} {d : ms_D} {P : ms_P} {pc : Nat} {lv lv' : List (Nat × Value)} {st st' : List Value} {n : Nat} {G : ms_H} {kr zr : Nat} {j : Int} (hdg : decode d.2.1 pc = .ok (.bipush j, 2)) (h : some (lv, Value.int ((Int8.ofInt j).toInt32) :: st) = some (lv', st')) (k : ms_W x d P (pc + 2) lv' st' n G kr zr) : ms_W x d P pc lv st n G kr zr := by
  cases h
  intro mc ms p l e s m args below meth c D cA base H locs cells slots ls F c1 c2 c3 c4 c5 c6
  exact lv_bipush F.exec F.code hdg rfl (k mc ms p l e s m args below meth c D cA base H locs cells slots ls F c1 c2 c3 c4 c5 c6)
theorem pr_sipush {x : Bool} {d : ms_D} {P : ms_P} {pc : Nat} {lv lv' : List (Nat × Value)} {st st' : List Value} {n : Nat} {G : ms_H} {kr zr : Nat} {j : Int} (hdg : decode d.2.1 pc = .ok (.sipush j, 3)) (h : some (lv, Value.int ((Int16.ofInt j).toInt32) :: st) = some (lv', st')) (k : ms_W x d P (pc + 3) lv' st' n G kr zr) : ms_W x d P pc lv st n G kr zr := by
  cases h
  intro mc ms p l e s m args below meth c D cA base H locs cells slots ls F c1 c2 c3 c4 c5 c6
  exact lv_sipush F.exec F.code hdg rfl (k mc ms p l e s m args below meth c D cA base H locs cells slots ls F c1 c2 c3 c4 c5 c6)
theorem pr_null {x : Bool} {d : ms_D} {P : ms_P} {pc : Nat} {lv lv' : List (Nat × Value)} {st st' : List Value} {n : Nat} {G : ms_H} {kr zr : Nat} (hdg : decode d.2.1 pc = .ok (.aconst_null, 1)) (h : some (lv, Value.null :: st) = some (lv', st')) (k : ms_W x d P (pc + 1) lv' st' n G kr zr) : ms_W x d P pc lv st n G kr zr := by
  cases h
  intro mc ms p l e s m args below meth c D cA base H locs cells slots ls F c1 c2 c3 c4 c5 c6
  exact lv_null F.exec F.code hdg (k mc ms p l e s m args below meth c D cA base H locs cells slots ls F c1 c2 c3 c4 c5 c6)
theorem pr_iload_n {x : Bool} {d : ms_D} {P : ms_P} {pc : Nat} {lv lv' : List (Nat × Value)} {st st' : List Value} {n : Nat} {G : ms_H} {kr zr : Nat} {j : Fin 4} (hdg : decode d.2.1 pc = .ok (.iload_n j, 1)) (h : ms_ldI lv st (j : Nat) = some (lv', st')) (k : ms_W x d P (pc + 1) lv' st' n G kr zr) : ms_W x d P pc lv st n G kr zr := by
  unfold ms_ldI at h
  split at h
  · next v hv =>
    cases h
    intro mc ms p l e s m args below meth c D cA base H locs cells slots ls F c1 c2 c3 c4 c5 c6
    exact lv_iload_n F.exec F.code hdg rfl (ms_get_at c6 hv) (k mc ms p l e s m args below meth c D cA base H locs cells slots ls F c1 c2 c3 c4 c5 c6)
  · cases h
theorem pr_iload {x : Bool} {d : ms_D} {P : ms_P} {pc : Nat} {lv lv' : List (Nat × Value)} {st st' : List Value} {n : Nat} {G : ms_H} {kr zr : Nat} {j : Nat} (hdg : decode d.2.1 pc = .ok (.iload j, 2)) (h : ms_ldI lv st j = some (lv', st')) (k : ms_W x d P (pc + 2) lv' st' n G kr zr) : ms_W x d P pc lv st n G kr zr := by
  unfold ms_ldI at h
  split at h
  · next v hv =>
    cases h
    intro mc ms p l e s m args below meth c D cA base H locs cells slots ls F c1 c2 c3 c4 c5 c6
    exact lv_iload F.exec F.code hdg (ms_get_at c6 hv) (k mc ms p l e s m args below meth c D cA base H locs cells slots ls F c1 c2 c3 c4 c5 c6)
  · cases h
theorem pr_lload_n {x : Bool} {d : ms_D} {P : ms_P} {pc : Nat} {lv lv' : List (Nat × Value)} {st st' : List Value} {n : Nat} {G : ms_H} {kr zr : Nat} {j : Fin 4} (hdg : decode d.2.1 pc = .ok (.lload_n j, 1)) (h : ms_ldL lv st (j : Nat) = some (lv', st')) (k : ms_W x d P (pc + 1) lv' st' n G kr zr) : ms_W x d P pc lv st n G kr zr := by
  unfold ms_ldL at h
  split at h
  · next v hv =>
    cases h
    intro mc ms p l e s m args below meth c D cA base H locs cells slots ls F c1 c2 c3 c4 c5 c6
    exact lv_lload_n F.exec F.code hdg rfl (ms_get_at c6 hv) (k mc ms p l e s m args below meth c D cA base H locs cells slots ls F c1 c2 c3 c4 c5 c6)
  · cases h
theorem pr_lload {x : Bool} {d : ms_D} {P : ms_P} {pc : Nat} {lv lv' : List (Nat × Value)} {st st' : List Value} {n : Nat} {G : ms_H} {kr zr : Nat} {j : Nat} (hdg : decode d.2.1 pc = .ok (.lload j, 2)) (h : ms_ldL lv st j = some (lv', st')) (k : ms_W x d P (pc + 2) lv' st' n G kr zr) : ms_W x d P pc lv st n G kr zr := by
  unfold ms_ldL at h
  split at h
  · next v hv =>
    cases h
    intro mc ms p l e s m args below meth c D cA base H locs cells slots ls F c1 c2 c3 c4 c5 c6
    exact lv_lload F.exec F.code hdg (ms_get_at c6 hv) (k mc ms p l e s m args below meth c D cA base H locs cells slots ls F c1 c2 c3 c4 c5 c6)
  · cases h
theorem pr_aload_n {x : Bool} {d : ms_D} {P : ms_P} {pc : Nat} {lv lv' : List (Nat × Value)} {st st' : List Value} {n : Nat} {G : ms_H} {kr zr : Nat} {j : Fin 4} (hdg : decode d.2.1 pc = .ok (.aload_n j, 1)) (h : ms_ldA lv st (j : Nat) = some (lv', st')) (k : ms_W x d P (pc + 1) lv' st' n G kr zr) : ms_W x d P pc lv st n G kr zr := by
  unfold ms_ldA at h
  split at h
  · next v hv =>
    cases h
    intro mc ms p l e s m args below meth c D cA base H locs cells slots ls F c1 c2 c3 c4 c5 c6
    exact lv_aload_n F.exec F.code hdg rfl (ms_get_at c6 hv) (k mc ms p l e s m args below meth c D cA base H locs cells slots ls F c1 c2 c3 c4 c5 c6)
  · next hv =>
    cases h
    intro mc ms p l e s m args below meth c D cA base H locs cells slots ls F c1 c2 c3 c4 c5 c6
    exact lv_aload_nN F.exec F.code hdg rfl (ms_get_at c6 hv) (k mc ms p l e s m args below meth c D cA base H locs cells slots ls F c1 c2 c3 c4 c5 c6)
  · cases h
theorem pr_aload {x : Bool} {d : ms_D} {P : ms_P} {pc : Nat} {lv lv' : List (Nat × Value)} {st st' : List Value} {n : Nat} {G : ms_H} {kr zr : Nat} {j : Nat} (hdg : decode d.2.1 pc = .ok (.aload j, 2)) (h : ms_ldA lv st j = some (lv', st')) (k : ms_W x d P (pc + 2) lv' st' n G kr zr) : ms_W x d P pc lv st n G kr zr := by
  unfold ms_ldA at h
  split at h
  · next v hv =>
    cases h
    intro mc ms p l e s m args below meth c D cA base H locs cells slots ls F c1 c2 c3 c4 c5 c6
    exact lv_aload F.exec F.code hdg (ms_get_at c6 hv) (k mc ms p l e s m args below meth c D cA base H locs cells slots ls F c1 c2 c3 c4 c5 c6)
  · next hv =>
    cases h
    intro mc ms p l e s m args below meth c D cA base H locs cells slots ls F c1 c2 c3 c4 c5 c6
    exact lv_aloadN F.exec F.code hdg (ms_get_at c6 hv) (k mc ms p l e s m args below meth c D cA base H locs cells slots ls F c1 c2 c3 c4 c5 c6)
  · cases h
theorem pr_istore_n {x : Bool} {d : ms_D} {P : ms_P} {pc : Nat} {lv lv' : List (Nat × Value)} {st st' : List Value} {n : Nat} {G : ms_H} {kr zr : Nat} {j : Fin 4} (hdg : decode d.2.1 pc = .ok (.istore_n j, 1)) (h : ms_stI d.2.2.1 lv (j : Nat) st = some (lv', st')) (k : ms_W x d P (pc + 1) lv' st' n G kr zr) : ms_W x d P pc lv st n G kr zr := by
  unfold ms_stI at h
  split at h
  · next v r =>
    split at h
    · next hi =>
      cases h
      intro mc ms p l e s m args below meth c D cA base H locs cells slots ls F c1 c2 c3 c4 c5 c6
      exact lv_istore_n F.exec F.code hdg rfl c6 hi rfl (fun ls9 hl9 => (k mc ms p l e s m args below meth c D cA base H locs cells slots ls9 F c1 c2 c3 c4 c5 hl9))
    · cases h
  · cases h
theorem pr_istore {x : Bool} {d : ms_D} {P : ms_P} {pc : Nat} {lv lv' : List (Nat × Value)} {st st' : List Value} {n : Nat} {G : ms_H} {kr zr : Nat} {j : Nat} (hdg : decode d.2.1 pc = .ok (.istore j, 2)) (h : ms_stI d.2.2.1 lv j st = some (lv', st')) (k : ms_W x d P (pc + 2) lv' st' n G kr zr) : ms_W x d P pc lv st n G kr zr := by
  unfold ms_stI at h
  split at h
  · next v r =>
    split at h
    · next hi =>
      cases h
      intro mc ms p l e s m args below meth c D cA base H locs cells slots ls F c1 c2 c3 c4 c5 c6
      exact lv_istore F.exec F.code hdg c6 hi rfl (fun ls9 hl9 => (k mc ms p l e s m args below meth c D cA base H locs cells slots ls9 F c1 c2 c3 c4 c5 hl9))
    · cases h
  · cases h
theorem pr_lstore_n {x : Bool} {d : ms_D} {P : ms_P} {pc : Nat} {lv lv' : List (Nat × Value)} {st st' : List Value} {n : Nat} {G : ms_H} {kr zr : Nat} {j : Fin 4} (hdg : decode d.2.1 pc = .ok (.lstore_n j, 1)) (h : ms_stL d.2.2.1 lv (j : Nat) st = some (lv', st')) (k : ms_W x d P (pc + 1) lv' st' n G kr zr) : ms_W x d P pc lv st n G kr zr := by
  unfold ms_stL at h
  split at h
  · next v r =>
    split at h
    · next hi =>
      cases h
      intro mc ms p l e s m args below meth c D cA base H locs cells slots ls F c1 c2 c3 c4 c5 c6
      exact lv_lstore_n F.exec F.code hdg rfl c6 hi rfl (fun ls9 hl9 => (k mc ms p l e s m args below meth c D cA base H locs cells slots ls9 F c1 c2 c3 c4 c5 hl9))
    · cases h
  · cases h
theorem pr_lstore {x : Bool} {d : ms_D} {P : ms_P} {pc : Nat} {lv lv' : List (Nat × Value)} {st st' : List Value} {n : Nat} {G : ms_H} {kr zr : Nat} {j : Nat} (hdg : decode d.2.1 pc = .ok (.lstore j, 2)) (h : ms_stL d.2.2.1 lv j st = some (lv', st')) (k : ms_W x d P (pc + 2) lv' st' n G kr zr) : ms_W x d P pc lv st n G kr zr := by
  unfold ms_stL at h
  split at h
  · next v r =>
    split at h
    · next hi =>
      cases h
      intro mc ms p l e s m args below meth c D cA base H locs cells slots ls F c1 c2 c3 c4 c5 c6
      exact lv_lstore F.exec F.code hdg c6 hi rfl (fun ls9 hl9 => (k mc ms p l e s m args below meth c D cA base H locs cells slots ls9 F c1 c2 c3 c4 c5 hl9))
    · cases h
  · cases h
theorem pr_astore_n {x : Bool} {d : ms_D} {P : ms_P} {pc : Nat} {lv lv' : List (Nat × Value)} {st st' : List Value} {n : Nat} {G : ms_H} {kr zr : Nat} {j : Fin 4} (hdg : decode d.2.1 pc = .ok (.astore_n j, 1)) (h : ms_stA d.2.2.1 lv (j : Nat) st = some (lv', st')) (k : ms_W x d P (pc + 1) lv' st' n G kr zr) : ms_W x d P pc lv st n G kr zr := by
  unfold ms_stA at h
  split at h
  · next v r =>
    split at h
    · next hi =>
      cases h
      intro mc ms p l e s m args below meth c D cA base H locs cells slots ls F c1 c2 c3 c4 c5 c6
      exact lv_astore_n F.exec F.code hdg rfl c6 hi rfl (fun ls9 hl9 => (k mc ms p l e s m args below meth c D cA base H locs cells slots ls9 F c1 c2 c3 c4 c5 hl9))
    · cases h
  · next r =>
    split at h
    · next hi =>
      cases h
      intro mc ms p l e s m args below meth c D cA base H locs cells slots ls F c1 c2 c3 c4 c5 c6
      exact lv_astore_nN F.exec F.code hdg rfl c6 hi rfl (fun ls9 hl9 => (k mc ms p l e s m args below meth c D cA base H locs cells slots ls9 F c1 c2 c3 c4 c5 hl9))
    · cases h
  · cases h
theorem pr_astore {x : Bool} {d : ms_D} {P : ms_P} {pc : Nat} {lv lv' : List (Nat × Value)} {st st' : List Value} {n : Nat} {G : ms_H} {kr zr : Nat} {j : Nat} (hdg : decode d.2.1 pc = .ok (.astore j, 2)) (h : ms_stA d.2.2.1 lv j st = some (lv', st')) (k : ms_W x d P (pc + 2) lv' st' n G kr zr) : ms_W x d P pc lv st n G kr zr := by
  unfold ms_stA at h
  split at h
  · next v r =>
    split at h
    · next hi =>
      cases h
      intro mc ms p l e s m args below meth c D cA base H locs cells slots ls F c1 c2 c3 c4 c5 c6
      exact lv_astore F.exec F.code hdg c6 hi rfl (fun ls9 hl9 => (k mc ms p l e s m args below meth c D cA base H locs cells slots ls9 F c1 c2 c3 c4 c5 hl9))
    · cases h
  · next r =>
    split at h
    · next hi =>
      cases h
      intro mc ms p l e s m args below meth c D cA base H locs cells slots ls F c1 c2 c3 c4 c5 c6
      exact lv_astoreN F.exec F.code hdg c6 hi rfl (fun ls9 hl9 => (k mc ms p l e s m args below meth c D cA base H locs cells slots ls9 F c1 c2 c3 c4 c5 hl9))
    · cases h
  · cases h
theorem pr_iadd {x : Bool} {d : ms_D} {P : ms_P} {pc : Nat} {lv lv' : List (Nat × Value)} {st st' : List Value} {n : Nat} {G : ms_H} {kr zr : Nat} (hdg : decode d.2.1 pc = .ok (.iadd, 1)) (h : ms_b2 lv (· + ·) st = some (lv', st')) (k : ms_W x d P (pc + 1) lv' st' n G kr zr) : ms_W x d P pc lv st n G kr zr := by
  unfold ms_b2 at h
  split at h
  · cases h
    intro mc ms p l e s m args below meth c D cA base H locs cells slots ls F c1 c2 c3 c4 c5 c6
    exact lv_iadd F.exec F.code hdg (k mc ms p l e s m args below meth c D cA base H locs cells slots ls F c1 c2 c3 c4 c5 c6)
  · cases h
theorem pr_isub {x : Bool} {d : ms_D} {P : ms_P} {pc : Nat} {lv lv' : List (Nat × Value)} {st st' : List Value} {n : Nat} {G : ms_H} {kr zr : Nat} (hdg : decode d.2.1 pc = .ok (.isub, 1)) (h : ms_b2 lv (· - ·) st = some (lv', st')) (k : ms_W x d P (pc + 1) lv' st' n G kr zr) : ms_W x d P pc lv st n G kr zr := by
  unfold ms_b2 at h
  split at h
  · cases h
    intro mc ms p l e s m args below meth c D cA base H locs cells slots ls F c1 c2 c3 c4 c5 c6
    exact lv_isub F.exec F.code hdg (k mc ms p l e s m args below meth c D cA base H locs cells slots ls F c1 c2 c3 c4 c5 c6)
  · cases h
theorem pr_imul {x : Bool} {d : ms_D} {P : ms_P} {pc : Nat} {lv lv' : List (Nat × Value)} {st st' : List Value} {n : Nat} {G : ms_H} {kr zr : Nat} (hdg : decode d.2.1 pc = .ok (.imul, 1)) (h : ms_b2 lv (· * ·) st = some (lv', st')) (k : ms_W x d P (pc + 1) lv' st' n G kr zr) : ms_W x d P pc lv st n G kr zr := by
  unfold ms_b2 at h
  split at h
  · cases h
    intro mc ms p l e s m args below meth c D cA base H locs cells slots ls F c1 c2 c3 c4 c5 c6
    exact lv_imul F.exec F.code hdg (k mc ms p l e s m args below meth c D cA base H locs cells slots ls F c1 c2 c3 c4 c5 c6)
  · cases h
theorem pr_iand {x : Bool} {d : ms_D} {P : ms_P} {pc : Nat} {lv lv' : List (Nat × Value)} {st st' : List Value} {n : Nat} {G : ms_H} {kr zr : Nat} (hdg : decode d.2.1 pc = .ok (.iand, 1)) (h : ms_b2 lv (· &&& ·) st = some (lv', st')) (k : ms_W x d P (pc + 1) lv' st' n G kr zr) : ms_W x d P pc lv st n G kr zr := by
  unfold ms_b2 at h
  split at h
  · cases h
    intro mc ms p l e s m args below meth c D cA base H locs cells slots ls F c1 c2 c3 c4 c5 c6
    exact lv_iand F.exec F.code hdg (k mc ms p l e s m args below meth c D cA base H locs cells slots ls F c1 c2 c3 c4 c5 c6)
  · cases h
theorem pr_ixor {x : Bool} {d : ms_D} {P : ms_P} {pc : Nat} {lv lv' : List (Nat × Value)} {st st' : List Value} {n : Nat} {G : ms_H} {kr zr : Nat} (hdg : decode d.2.1 pc = .ok (.ixor, 1)) (h : ms_b2 lv (· ^^^ ·) st = some (lv', st')) (k : ms_W x d P (pc + 1) lv' st' n G kr zr) : ms_W x d P pc lv st n G kr zr := by
  unfold ms_b2 at h
  split at h
  · cases h
    intro mc ms p l e s m args below meth c D cA base H locs cells slots ls F c1 c2 c3 c4 c5 c6
    exact lv_ixor F.exec F.code hdg (k mc ms p l e s m args below meth c D cA base H locs cells slots ls F c1 c2 c3 c4 c5 c6)
  · cases h
theorem pr_ishl {x : Bool} {d : ms_D} {P : ms_P} {pc : Nat} {lv lv' : List (Nat × Value)} {st st' : List Value} {n : Nat} {G : ms_H} {kr zr : Nat} (hdg : decode d.2.1 pc = .ok (.ishl, 1)) (h : ms_b2 lv (fun a b => a <<< (b &&& 31)) st = some (lv', st')) (k : ms_W x d P (pc + 1) lv' st' n G kr zr) : ms_W x d P pc lv st n G kr zr := by
  unfold ms_b2 at h
  split at h
  · cases h
    intro mc ms p l e s m args below meth c D cA base H locs cells slots ls F c1 c2 c3 c4 c5 c6
    exact lv_ishl F.exec F.code hdg (k mc ms p l e s m args below meth c D cA base H locs cells slots ls F c1 c2 c3 c4 c5 c6)
  · cases h
theorem pr_ladd {x : Bool} {d : ms_D} {P : ms_P} {pc : Nat} {lv lv' : List (Nat × Value)} {st st' : List Value} {n : Nat} {G : ms_H} {kr zr : Nat} (hdg : decode d.2.1 pc = .ok (.ladd, 1)) (h : ms_b2L lv (· + ·) st = some (lv', st')) (k : ms_W x d P (pc + 1) lv' st' n G kr zr) : ms_W x d P pc lv st n G kr zr := by
  unfold ms_b2L at h
  split at h
  · cases h
    intro mc ms p l e s m args below meth c D cA base H locs cells slots ls F c1 c2 c3 c4 c5 c6
    exact lv_ladd F.exec F.code hdg (k mc ms p l e s m args below meth c D cA base H locs cells slots ls F c1 c2 c3 c4 c5 c6)
  · cases h
theorem pr_lmul {x : Bool} {d : ms_D} {P : ms_P} {pc : Nat} {lv lv' : List (Nat × Value)} {st st' : List Value} {n : Nat} {G : ms_H} {kr zr : Nat} (hdg : decode d.2.1 pc = .ok (.lmul, 1)) (h : ms_b2L lv (· * ·) st = some (lv', st')) (k : ms_W x d P (pc + 1) lv' st' n G kr zr) : ms_W x d P pc lv st n G kr zr := by
  unfold ms_b2L at h
  split at h
  · cases h
    intro mc ms p l e s m args below meth c D cA base H locs cells slots ls F c1 c2 c3 c4 c5 c6
    exact lv_lmul F.exec F.code hdg (k mc ms p l e s m args below meth c D cA base H locs cells slots ls F c1 c2 c3 c4 c5 c6)
  · cases h
theorem pr_iinc {x : Bool} {d : ms_D} {P : ms_P} {pc : Nat} {lv lv' : List (Nat × Value)} {st st' : List Value} {n : Nat} {G : ms_H} {kr zr : Nat} {j : Nat} {i : Int} (hdg : decode d.2.1 pc = .ok (.iinc j i, 3)) (h : ms_inc d.2.2.1 lv st j i = some (lv', st')) (k : ms_W x d P (pc + 3) lv' st' n G kr zr) : ms_W x d P pc lv st n G kr zr := by
  unfold ms_inc at h
  split at h
  · next v hv =>
    split at h
    · next hi =>
      cases h
      intro mc ms p l e s m args below meth c D cA base H locs cells slots ls F c1 c2 c3 c4 c5 c6
      have hv2 := hv
      unfold ms_get at hv2
      rw [Option.map_eq_some_iff] at hv2
      obtain ⟨q, h1, h2⟩ := hv2
      have h4 := List.find?_some h1
      have h5 : q.1 = j := by simpa using h4
      obtain ⟨kk, hkk⟩ := List.getElem?_of_mem (List.mem_of_find?_eq_some h1)
      exact lv_iinc F.exec F.code hdg c6 (k := kk) (by rw [hkk, ← h5, ← h2]) rfl hi rfl (fun ls9 hl9 => (k mc ms p l e s m args below meth c D cA base H locs cells slots ls9 F c1 c2 c3 c4 c5 hl9))
    · cases h
  · cases h
theorem pr_dup {x : Bool} {d : ms_D} {P : ms_P} {pc : Nat} {lv lv' : List (Nat × Value)} {st st' : List Value} {n : Nat} {G : ms_H} {kr zr : Nat} (hdg : decode d.2.1 pc = .ok (.dup, 1)) (h : ms_dup lv st = some (lv', st')) (k : ms_W x d P (pc + 1) lv' st' n G kr zr) : ms_W x d P pc lv st n G kr zr := by
  unfold ms_dup at h
  split at h
  · split at h
    · next hc =>
      cases h
      intro mc ms p l e s m args below meth c D cA base H locs cells slots ls F c1 c2 c3 c4 c5 c6
      exact lv_dup F.exec F.code hdg hc (k mc ms p l e s m args below meth c D cA base H locs cells slots ls F c1 c2 c3 c4 c5 c6)
    · cases h
  · cases h
theorem pr_pop {x : Bool} {d : ms_D} {P : ms_P} {pc : Nat} {lv lv' : List (Nat × Value)} {st st' : List Value} {n : Nat} {G : ms_H} {kr zr : Nat} (hdg : decode d.2.1 pc = .ok (.pop, 1)) (h : ms_pop lv st = some (lv', st')) (k : ms_W x d P (pc + 1) lv' st' n G kr zr) : ms_W x d P pc lv st n G kr zr := by
  unfold ms_pop at h
  split at h
  · split at h
    · next hc =>
      cases h
      intro mc ms p l e s m args below meth c D cA base H locs cells slots ls F c1 c2 c3 c4 c5 c6
      exact lv_pop F.exec F.code hdg hc (k mc ms p l e s m args below meth c D cA base H locs cells slots ls F c1 c2 c3 c4 c5 c6)
    · cases h
  · cases h
theorem pr_dup2 {x : Bool} {d : ms_D} {P : ms_P} {pc : Nat} {lv lv' : List (Nat × Value)} {st st' : List Value} {n : Nat} {G : ms_H} {kr zr : Nat} (hdg : decode d.2.1 pc = .ok (.dup2, 1)) (h : ms_dup2 lv st = some (lv', st')) (k : ms_W x d P (pc + 1) lv' st' n G kr zr) : ms_W x d P pc lv st n G kr zr := by
  unfold ms_dup2 at h
  split at h
  · split at h
    · next hc =>
      cases h
      intro mc ms p l e s m args below meth c D cA base H locs cells slots ls F c1 c2 c3 c4 c5 c6
      exact lv_dup2_11 F.exec F.code hdg hc.1 hc.2 (k mc ms p l e s m args below meth c D cA base H locs cells slots ls F c1 c2 c3 c4 c5 c6)
    · cases h
  · cases h
theorem pr_dup_x1 {x : Bool} {d : ms_D} {P : ms_P} {pc : Nat} {lv lv' : List (Nat × Value)} {st st' : List Value} {n : Nat} {G : ms_H} {kr zr : Nat} (hdg : decode d.2.1 pc = .ok (.dup_x1, 1)) (h : ms_dupx lv st = some (lv', st')) (k : ms_W x d P (pc + 1) lv' st' n G kr zr) : ms_W x d P pc lv st n G kr zr := by
  unfold ms_dupx at h
  split at h
  · split at h
    · next hc =>
      cases h
      intro mc ms p l e s m args below meth c D cA base H locs cells slots ls F c1 c2 c3 c4 c5 c6
      exact lv_dup_x1 F.exec F.code hdg hc.1 hc.2 (k mc ms p l e s m args below meth c D cA base H locs cells slots ls F c1 c2 c3 c4 c5 c6)
    · cases h
  · cases h
theorem pr_i2l {x : Bool} {d : ms_D} {P : ms_P} {pc : Nat} {lv lv' : List (Nat × Value)} {st st' : List Value} {n : Nat} {G : ms_H} {kr zr : Nat} (hdg : decode d.2.1 pc = .ok (.i2l, 1)) (h : ms_i2l lv st = some (lv', st')) (k : ms_W x d P (pc + 1) lv' st' n G kr zr) : ms_W x d P pc lv st n G kr zr := by
  unfold ms_i2l at h
  split at h
  · cases h
    intro mc ms p l e s m args below meth c D cA base H locs cells slots ls F c1 c2 c3 c4 c5 c6
    exact lv_i2l F.exec F.code hdg rfl (k mc ms p l e s m args below meth c D cA base H locs cells slots ls F c1 c2 c3 c4 c5 c6)
  · cases h
theorem pr_ineg {x : Bool} {d : ms_D} {P : ms_P} {pc : Nat} {lv lv' : List (Nat × Value)} {st st' : List Value} {n : Nat} {G : ms_H} {kr zr : Nat} (hdg : decode d.2.1 pc = .ok (.ineg, 1)) (h : ms_neg lv st = some (lv', st')) (k : ms_W x d P (pc + 1) lv' st' n G kr zr) : ms_W x d P pc lv st n G kr zr := by
  unfold ms_neg at h
  split at h
  · cases h
    intro mc ms p l e s m args below meth c D cA base H locs cells slots ls F c1 c2 c3 c4 c5 c6
    exact lv_ineg F.exec F.code hdg (k mc ms p l e s m args below meth c D cA base H locs cells slots ls F c1 c2 c3 c4 c5 c6)
  · cases h
/-- what a plain instruction does to locals and stack -/
def ms_ps (mL : Nat) (lv : List (Nat × Value)) (st : List Value) (q : Instr × Nat) : Option (List (Nat × Value) × List Value) := match q with
  | (.iconst j, 1) => some (lv, .int (Int32.ofInt j) :: st)
  | (.bipush j, 2) => some (lv, .int ((Int8.ofInt j).toInt32) :: st)
  | (.sipush j, 3) => some (lv, .int ((Int16.ofInt j).toInt32) :: st)
  | (.aconst_null, 1) => some (lv, .null :: st)
  | (.iload_n j, 1) => ms_ldI lv st (j : Nat)
  | (.iload j, 2) => ms_ldI lv st j
  | (.lload_n j, 1) => ms_ldL lv st (j : Nat)
  | (.lload j, 2) => ms_ldL lv st j
  | (.aload_n j, 1) => ms_ldA lv st (j : Nat)
  | (.aload j, 2) => ms_ldA lv st j
  | (.istore_n j, 1) => ms_stI mL lv (j : Nat) st
  | (.istore j, 2) => ms_stI mL lv j st
  | (.lstore_n j, 1) => ms_stL mL lv (j : Nat) st
  | (.lstore j, 2) => ms_stL mL lv j st
  | (.astore_n j, 1) => ms_stA mL lv (j : Nat) st
  | (.astore j, 2) => ms_stA mL lv j st
  | (.iadd, 1) => ms_b2 lv (· + ·) st
  | (.isub, 1) => ms_b2 lv (· - ·) st
  | (.imul, 1) => ms_b2 lv (· * ·) st
  | (.iand, 1) => ms_b2 lv (· &&& ·) st
  | (.ixor, 1) => ms_b2 lv (· ^^^ ·) st
  | (.ishl, 1) => ms_b2 lv (fun a b => a <<< (b &&& 31)) st
  | (.ladd, 1) => ms_b2L lv (· + ·) st
  | (.lmul, 1) => ms_b2L lv (· * ·) st
  | (.iinc j i, 3) => ms_inc mL lv st j i
  | (.dup, 1) => ms_dup lv st
  | (.pop, 1) => ms_pop lv st
  | (.dup2, 1) => ms_dup2 lv st
  | (.dup_x1, 1) => ms_dupx lv st
  | (.i2l, 1) => ms_i2l lv st
  | (.ineg, 1) => ms_neg lv st
  | _ => none
theorem ms_ps1 {x : Bool} {d : ms_D} {P : ms_P} {pc : Nat} {lv lv' : List (Nat × Value)} {st st' : List Value} {n : Nat} {G : ms_H} {kr zr : Nat} {q : Instr × Nat} (hdg : decode d.2.1 pc = .ok q) (h : ms_ps d.2.2.1 lv st q = some (lv', st')) (k : ms_W x d P (pc + q.2) lv' st' n G kr zr) : ms_W x d P pc lv st n G kr zr := by
  unfold ms_ps at h
  split at h
  · exact pr_iconst hdg h k
  · exact pr_bipush hdg h k
  · exact pr_sipush hdg h k
  · exact pr_null hdg h k
  · exact pr_iload_n hdg h k
  · exact pr_iload hdg h k
  · exact pr_lload_n hdg h k
  · exact pr_lload hdg h k
  · exact pr_aload_n hdg h k
  · exact pr_aload hdg h k
  · exact pr_istore_n hdg h k
  · exact pr_istore hdg h k
  · exact pr_lstore_n hdg h k
  · exact pr_lstore hdg h k
  · exact pr_astore_n hdg h k
  · exact pr_astore hdg h k
  · exact pr_iadd hdg h k
  · exact pr_isub hdg h k
  · exact pr_imul hdg h k
  · exact pr_iand hdg h k
  · exact pr_ixor hdg h k
  · exact pr_ishl hdg h k
  · exact pr_ladd hdg h k
  · exact pr_lmul hdg h k
  · exact pr_iinc hdg h k
  · exact pr_dup hdg h k
  · exact pr_pop hdg h k
  · exact pr_dup2 hdg h k
  · exact pr_dup_x1 hdg h k
  · exact pr_i2l hdg h k
  · exact pr_ineg hdg h k
  · cases h
def ms_pr (mL : Nat) : List (Instr × Nat) → List (Nat × Value) → List Value → Option (List (Nat × Value) × List Value)
  | [], lv, st => some (lv, st)
  | q :: r, lv, st => match ms_ps mL lv st q with
    | some z => ms_pr mL r z.1 z.2
    | none => none
def ms_de (cc : ByteArray) : Nat → List (Instr × Nat) → Prop
  | _, [] => True
  | pc, q :: r => decode cc pc = .ok q ∧ ms_de cc (pc + q.2) r
def ms_ln : List (Instr × Nat) → Nat
  | [] => 0
  | q :: r => q.2 + ms_ln r
theorem ms_run {x : Bool} {d : ms_D} {P : ms_P} {n : Nat} {G : ms_H} {kr zr : Nat} : ∀ (is : List (Instr × Nat)) {pc pc' : Nat} {lv lv' : List (Nat × Value)} {st st' : List Value} (_ : ms_de d.2.1 pc is) (_ : pc + ms_ln is = pc') (_ : ms_pr d.2.2.1 is lv st = some (lv', st')) (_ : ms_W x d P pc' lv' st' n G kr zr), ms_W x d P pc lv st n G kr zr
  | [], pc, pc', lv, lv', st, st', _, hl, hr, k => by
    cases hr
    rw [← hl] at k
    exact k
  | q :: r, pc, pc', lv, lv', st, st', hd, hl, hr, k => by
    unfold ms_pr at hr
    split at hr
    · next z hz =>
      refine ms_ps1 hd.1 (lv' := z.1) (st' := z.2) hz (ms_run r hd.2 ?_ hr k)
      rw [← hl]
      show pc + q.2 + ms_ln r = pc + (q.2 + ms_ln r)
      omega
    · cases hr

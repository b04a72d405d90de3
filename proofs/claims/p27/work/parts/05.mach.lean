/-! THE ABSTRACT MACHINE LAYER: the kit's walks with everything that stays the same hidden: 'ms_W' says that from an abstract state (program counter, locals, stack, heap size, abstract heap, room left) the method comes to its end with P. One rule an instruction. -/
abbrev ms_E : Type := (Nat × vp_A) ⊕ (Nat × List Value)
abbrev ms_H : Type := Nat → Option ms_E
/-- what a run ends with: a value (or none), or the class of what was thrown -/
abbrev ms_Rs : Type := Option Value ⊕ String
abbrev ms_P : Type := ms_Rs → Nat → ms_H → Prop
def ms_cE (cA : Nat → ClassId) : ms_E → va_E
  | .inl x => .inl (cA x.1, x.2)
  | .inr o => .inr o
def ms_up (G : ms_H) (a : Nat) (x : ms_E) : ms_H := fun b => if b = a then some x else G b
theorem ms_up_s (G : ms_H) (a : Nat) (x : ms_E) : ms_up G a x a = some x := if_pos rfl
theorem ms_up_n (G : ms_H) {a b : Nat} (x : ms_E) (h : b ≠ a) : ms_up G a x b = G b := if_neg h
theorem ms_up_up (G : ms_H) (a : Nat) (x y : ms_E) : ms_up (ms_up G a x) a y = ms_up G a y := by
  funext b; unfold ms_up; by_cases h : b = a <;> simp [h]
theorem ms_up_id (G : ms_H) {a : Nat} {x : ms_E} (h : G a = some x) : ms_up G a x = G := by
  funext b; unfold ms_up; by_cases hb : b = a
  · subst hb; simp [h]
  · simp [hb]
theorem ms_up_co (G : ms_H) {a b : Nat} (x y : ms_E) (h : a ≠ b) : ms_up (ms_up G a x) b y = ms_up (ms_up G b y) a x := by
  funext c; unfold ms_up; by_cases h1 : c = a <;> by_cases h2 : c = b <;> simp [h1, h2]
  · subst h1; subst h2; exact absurd rfl h
  · intro h3; exact absurd h3 h
  · intro h3; exact absurd h3.symm h
def ms_wd (D : va_G) (cA : Nat → ClassId) (base : Nat) (G : ms_H) (H : Heap) : Prop := ∀ (a : Nat) (x : ms_E), G a = some x → va_at D vwCl (a, ms_cE cA x) H ∧ base ≤ a
def ms_tys (cA : Nat → ClassId) : List (ClassId × FieldType) := [(cA 0, .int), (cA 1, .boolean), (cA 2, .array (.array .int)), (cA 3, .object "StarlingSquare$Walker"), (cA 4, .array .int)]
def ms_sx (j : Nat) : Int32 := [1, 0, -1, 0, 1, -1, -1, 1].getD j 0
def ms_sy (j : Nat) : Int32 := [0, 1, 0, -1, 1, 1, -1, -1].getD j 0
/-- the static rows -/
def ms_st (base : Nat) (U : State) (H : Heap) : Prop :=
  (∃ t, va_Z "StarlingSquare" "STEP_X" "[I" (.ref t) (fun q => base ≤ q) U H ∧ va_T .int t 8 (fun j => .int (ms_sx j)) (fun q => base ≤ q) U H) ∧
  (∃ t, va_Z "StarlingSquare" "STEP_Y" "[I" (.ref t) (fun q => base ≤ q) U H ∧ va_T .int t 8 (fun j => .int (ms_sy j)) (fun q => base ≤ q) U H)
def ms_nw (U : State) : Prop := (∀ q ∈ ms_nM, va_Nw (.methodLinkNest q.1 q.2.1 q.2.2.1 q.2.2.2) U) ∧ ∀ q ∈ ms_nF, va_Nw (.fieldLinkNest q.1 q.2.1 q.2.2.1 q.2.2.2.1 q.2.2.2.2.1 q.2.2.2.2.2) U
/-- what a throw and a catch want beside the words -/
def ms_xs (base : Nat) (U : State) (H : Heap) : Prop := vx_Zq Bundle.tN "UNASSIGNED_STACK" Bundle.steD (fun q => base ≤ q) U H ∧ vx_Zq Bundle.tN "SUPPRESSED_SENTINEL" Bundle.listD (fun q => base ≤ q) U H ∧ (∀ q ∈ ms_strs, ∃ sa : Nat, vk_R q.1 q.2.1 q.2.2 sa U) ∧ (∀ q ∈ ms_ncs, va_Nc q.1 q.2 U) ∧ (∀ E ∈ ms_exs, ∃ c, U.vm.findClass E = some c) ∧ ∀ y ∈ ms_dcl, va_Nw (.declares y) U
def ms_SE (D : va_G) (cA : Nat → ClassId) (base : Nat) (U : State) : Prop := va_K D vwCl (ms_tys cA) U ∧ ms_st base U U.heap ∧ ms_nw U ∧ va_AO "StarlingSquare$Walker" U ∧ ((Cond.arrayOver (.array .int)).before #[] U = true ∧ (Cond.arrayOver (.array (.array .int))).before #[] U = true) ∧ ms_xs base U U.heap
theorem ms_st.kept {base : Nat} {u U : State} {H H1 : Heap} (hvm : u.vm.Alike U.vm) (h : ms_st base u H) (hq : ∀ a : Nat, a < H.size → ¬ base ≤ a → H1[a]? = H[a]?) : ms_st base U H1 := by
  obtain ⟨⟨t, a1, a2⟩, t', b1, b2⟩ := h
  exact ⟨⟨t, (a1.moved hvm).kept hq, (a2.moved hvm).kept hq⟩, t', (b1.moved hvm).kept hq, (b2.moved hvm).kept hq⟩
theorem ms_SE.to {D : va_G} {cA : Nat → ClassId} {base : Nat} {s U : State} {H : Heap} {locs : List Loc} (h : ms_SE D cA base s) (hU : U.heap = H) (hW : s.WarmedH U.vm) (hS : va_S (fun q => base ≤ q) s.heap H locs) : ms_SE D cA base U := by
  obtain ⟨h1, h2, ⟨h3, h4⟩, h5, h6, h7, h8, h9, h10, h11, h12⟩ := h
  have hk : ∀ a : Nat, a < s.heap.size → ¬ base ≤ a → U.heap[a]? = s.heap[a]? := fun a ha hb => by rw [hU]; exact hS.2.1 a ha hb
  exact ⟨va_K.moved hW.alike h1, ms_st.kept hW.alike h2 hk, ⟨fun q hq => (h3 q hq).warmM hW, fun q hq => (h4 q hq).warmF hW⟩, h5.moved hW.alike, ⟨over_moved hW.alike h6.1, over_moved hW.alike h6.2⟩, (h7.moved hW.alike).kept hk, (h8.moved hW.alike).kept hk, fun q hq => (h9 q hq).elim fun sa h => ⟨sa, h.warm hW⟩, fun q hq => (h10 q hq).moved hW.alike, fun q hq => (h11 q hq).elim fun c h => ⟨c, by rw [hW.alike.findClass]; exact h⟩, fun y hy => va_Nw.warmD hW (h12 y hy)⟩
theorem ms_SE.blind {D : va_G} {cA : Nat → ClassId} {base : Nat} {U : State} {g : JFrame} {mk : MethodId} {a : Array Value} (h : ms_SE D cA base U) : ms_SE D cA base (U.calling g mk a) := by
  obtain ⟨h1, h2, ⟨h3, h4⟩, h5, h6, h7, h8, h9, h10, h11, h12⟩ := h
  exact ⟨va_K.moved (u := U) (U := U.calling g mk a) (Vm.Alike.refl U.vm) h1, ms_st.kept (u := U) (U := U.calling g mk a) (Vm.Alike.refl U.vm) h2 (fun _ _ _ => rfl), ⟨fun q hq => (h3 q hq).same rfl rfl, fun q hq => (h4 q hq).same rfl rfl⟩, va_AO.moved (u := U) (U := U.calling g mk a) (Vm.Alike.refl U.vm) h5, ⟨over_moved (u := U) (E := U.calling g mk a) (Vm.Alike.refl U.vm) h6.1, over_moved (u := U) (E := U.calling g mk a) (Vm.Alike.refl U.vm) h6.2⟩, vx_Zq.moved (u := U) (U := U.calling g mk a) (Vm.Alike.refl U.vm) h7, vx_Zq.moved (u := U) (U := U.calling g mk a) (Vm.Alike.refl U.vm) h8, fun q hq => (h9 q hq).elim fun sa h => ⟨sa, vk_R.same (u := U) (U := U.calling g mk a) rfl h⟩, fun q hq => va_Nc.moved (u := U) (U := U.calling g mk a) (Vm.Alike.refl U.vm) (h10 q hq), h11, fun y hy => (h12 y hy).same rfl rfl⟩
def ms_R (d : ms_D) (mc ms : Nat) : Room := { frames := d.2.2.2.2.1, cells := mc, slots := ms, locals := d.2.2.2.2.2.1 }
def ms_sc (o : Option (Nat × Nat × (Nat → Int32))) (base : Nat) (s : State) : Prop := match o with
  | none => True
  | some q => va_X q.1 q.2.1 q.2.2 s s.heap ∧ q.1 < s.heap.size ∧ ¬ base ≤ q.1
theorem ms_sc.to {o : Option (Nat × Nat × (Nat → Int32))} {base : Nat} {s U : State} {H : Heap} {locs : List Loc} (h : ms_sc o base s) (hU : U.heap = H) (hW : s.WarmedH U.vm) (hS : va_S (fun q => base ≤ q) s.heap H locs) : ms_sc o base U := by
  match o, h with
  | none, _ => trivial
  | some q, h =>
    obtain ⟨h1, h2, h3⟩ := h
    refine ⟨(va_X.moved hW.alike h1).kept ?_, ?_, h3⟩
    · rw [hU]; exact hS.2.1 _ h2 h3
    · rw [hU]; exact Nat.lt_of_lt_of_le h2 hS.1
theorem ms_sc.blind {o : Option (Nat × Nat × (Nat → Int32))} {base : Nat} {U : State} {g : JFrame} {mk : MethodId} {a : Array Value} (h : ms_sc o base U) : ms_sc o base (U.calling g mk a) := by
  match o, h with
  | none, _ => trivial
  | some q, h => exact ⟨va_X.moved (u := U) (U := U.calling g mk a) (Vm.Alike.refl U.vm) h.1, h.2.1, h.2.2⟩
/-- what stays the same in a method's walk -/
def ms_FX (d : ms_D) (p : Program) (l : Launch) (s : State) (m : MethodId) (args : Array Value) (meth : Method) (c : Code) (D : va_G) (cA : Nat → ClassId) (base : Nat) : Prop :=
  p.tables.exec = Jvm.exec ∧ c.code = d.2.1 ∧ meth.sig.returnType = d.2.2.2.1 ∧ c.maxLocals = d.2.2.1 ∧ meth.locks = false ∧ s.vm.findClass d.1.cls = some m.cls ∧ meth.name = d.1.name ∧ (∀ w ∈ ms_big, w.before args s = true) ∧ ms_SE D cA base s ∧ l.flags = flags0 ∧ c.exceptionTable.toList = tableOf d.2.2.2.2.2.2.1 ∧ base ≤ s.heap.size ∧ ms_sc d.2.2.2.2.2.2.2 base s
def ms_Qc (D : va_G) (cA : Nat → ClassId) (base : Nat) (P : ms_P) : Array Value → State → Outcome → State → Prop := fun _ st oc t => ∃ (v : Option Value) (G' : ms_H), oc = .returned v ∧ P (.inl v) t.heap.size G' ∧ ms_wd D cA base G' t.heap ∧ va_F (fun q => base ≤ q) st t
def ms_XC (D : va_G) (cA : Nat → ClassId) (base : Nat) (P : ms_P) : String → State → State → Prop := fun E st t => ∃ G' : ms_H, P (.inr E) t.heap.size G' ∧ ms_wd D cA base G' t.heap ∧ va_F (fun q => base ≤ q) st t
def ms_T (x : Bool) (D : va_G) (cA : Nat → ClassId) (base : Nat) (P : ms_P) (below : List Frame) (args : Array Value) (s : State) (mc ms : Nat) : State → Prop := match x with
  | false => MQ below (ms_Qc D cA base P) args s mc ms (fun q => base ≤ q)
  | true => vx_MQ below (ms_Qc D cA base P) (ms_XC D cA base P) args s mc ms (fun q => base ≤ q)
def ms_W (x : Bool) (d : ms_D) (P : ms_P) (pc : Nat) (lv : List (Nat × Value)) (st : List Value) (n : Nat) (G : ms_H) (kr zr : Nat) : Prop :=
  ∀ (mc ms : Nat) (p : Program) (l : Launch) (e : Env) (s : State) (m : MethodId) (args : Array Value) (below : List Frame) (meth : Method) (c : Code) (D : va_G) (cA : Nat → ClassId) (base : Nat) (H : Heap) (locs : List Loc) (cells slots : Nat) (ls : Array Slot),
    ms_FX d p l s m args meth c D cA base → cells + kr ≤ mc → slots + zr ≤ ms → H.size = n → ms_wd D cA base G H → va_S (fun q => base ≤ q) s.heap H locs → lv_has ls d.2.2.1 lv →
    W p l e (ms_R d mc ms) s m args below meth c H locs cells slots (ms_T x D cA base P below args s mc ms) (F0 m pc ls st)
theorem ms_FX.exec {d : ms_D} {p : Program} {l : Launch} {s : State} {m : MethodId} {args : Array Value} {meth : Method} {c : Code} {D : va_G} {cA : Nat → ClassId} {base : Nat} (F : ms_FX d p l s m args meth c D cA base) : p.tables.exec = Jvm.exec := F.1
theorem ms_FX.code {d : ms_D} {p : Program} {l : Launch} {s : State} {m : MethodId} {args : Array Value} {meth : Method} {c : Code} {D : va_G} {cA : Nat → ClassId} {base : Nat} (F : ms_FX d p l s m args meth c D cA base) : c.code = d.2.1 := F.2.1
theorem ms_FX.K {d : ms_D} {p : Program} {l : Launch} {s : State} {m : MethodId} {args : Array Value} {meth : Method} {c : Code} {D : va_G} {cA : Nat → ClassId} {base : Nat} (F : ms_FX d p l s m args meth c D cA base) : va_K D vwCl (ms_tys cA) s := F.2.2.2.2.2.2.2.2.1.1
theorem ms_FX.own {d : ms_D} {p : Program} {l : Launch} {s : State} {m : MethodId} {args : Array Value} {meth : Method} {c : Code} {D : va_G} {cA : Nat → ClassId} {base : Nat} (F : ms_FX d p l s m args meth c D cA base) : s.vm.findClass d.1.cls = some m.cls := F.2.2.2.2.2.1
theorem ms_FX.big {d : ms_D} {p : Program} {l : Launch} {s : State} {m : MethodId} {args : Array Value} {meth : Method} {c : Code} {D : va_G} {cA : Nat → ClassId} {base : Nat} (F : ms_FX d p l s m args meth c D cA base) : ∀ w ∈ ms_big, w.before args s = true := F.2.2.2.2.2.2.2.1
theorem ms_FX.SE {d : ms_D} {p : Program} {l : Launch} {s : State} {m : MethodId} {args : Array Value} {meth : Method} {c : Code} {D : va_G} {cA : Nat → ClassId} {base : Nat} (F : ms_FX d p l s m args meth c D cA base) : ms_SE D cA base s := F.2.2.2.2.2.2.2.2.1
theorem ms_FX.sc {d d' : ms_D} {p : Program} {l : Launch} {s U : State} {m : MethodId} {args : Array Value} {meth : Method} {c : Code} {D : va_G} {cA : Nat → ClassId} {base : Nat} {H : Heap} {locs : List Loc} (F : ms_FX d p l s m args meth c D cA base) (hs : d'.2.2.2.2.2.2.2 = none ∨ d'.2.2.2.2.2.2.2 = d.2.2.2.2.2.2.2) (hU : U.heap = H) (hW : s.WarmedH U.vm) (hS : va_S (fun q => base ≤ q) s.heap H locs) : ms_sc d'.2.2.2.2.2.2.2 base U := by
  rcases hs with h | h
  · rw [h]; trivial
  · rw [h]; exact ms_sc.to F.2.2.2.2.2.2.2.2.2.2.2.2 hU hW hS
theorem ms_FX.low {d : ms_D} {p : Program} {l : Launch} {s : State} {m : MethodId} {args : Array Value} {meth : Method} {c : Code} {D : va_G} {cA : Nat → ClassId} {base : Nat} (F : ms_FX d p l s m args meth c D cA base) : base ≤ s.heap.size := F.2.2.2.2.2.2.2.2.2.2.2.1
theorem ms_wd.P1 {D : va_G} {cA : Nat → ClassId} {base : Nat} {G : ms_H} {H : Heap} (h : ms_wd D cA base G H) {a : Nat} {x : ms_E} (ha : G a = some x) : va_P D vwCl [(a, ms_cE cA x)] H := by
  intro k q hq
  match k, hq with
  | 0, hq => cases hq; exact (h a x ha).1
  | k + 1, hq => simp at hq
theorem ms_wd.set {D : va_G} {cA : Nat → ClassId} {base : Nat} {G : ms_H} {H H1 : Heap} (h : ms_wd D cA base G H) {a : Nat} {x y : ms_E} (ha : G a = some x) (he : va_at D vwCl (a, ms_cE cA y) H1) (oq : ∀ q : Nat, q ≠ a → H1[q]? = H[q]?) : ms_wd D cA base (ms_up G a y) H1 := by
  intro b z hz
  by_cases hb : b = a
  · subst hb
    rw [ms_up_s] at hz
    cases hz
    exact ⟨he, (h _ _ ha).2⟩
  · rw [ms_up_n _ _ hb] at hz
    exact ⟨(h b z hz).1.kept (oq b hb), (h b z hz).2⟩
theorem ms_wd.new {D : va_G} {cA : Nat → ClassId} {base n : Nat} {G : ms_H} {H H1 : Heap} (h : ms_wd D cA base G H) {y : ms_E} (hn : H.size = n) (hb : base ≤ n) (he : va_at D vwCl (n, ms_cE cA y) H1) (oq : ∀ q : Nat, q < n → H1[q]? = H[q]?) : ms_wd D cA base (ms_up G n y) H1 := by
  intro b z hz
  by_cases h9 : b = n
  · subst h9
    rw [ms_up_s] at hz
    cases hz
    exact ⟨he, hb⟩
  · rw [ms_up_n _ _ h9] at hz
    have h1 := (h b z hz).1
    have h2 : b < n := by rw [← hn]; exact va_at.lt h1
    exact ⟨h1.kept (oq b h2), (h b z hz).2⟩
theorem ms_wd.fresh {D : va_G} {cA : Nat → ClassId} {base : Nat} {G : ms_H} {H : Heap} (h : ms_wd D cA base G H) {a : Nat} (ha : H.size ≤ a) : G a = none := by
  cases hx : G a with
  | none => rfl
  | some x => exact absurd (va_at.lt (h a x hx).1) (Nat.not_lt.mpr ha)
section MS
variable {x : Bool} {d : ms_D} {P : ms_P} {pc : Nat} {lv : List (Nat × Value)} {st : List Value} {n : Nat} {G : ms_H} {kr zr : Nat}
theorem ms_W.room {k2 z2 : Nat} (h : ms_W x d P pc lv st n G k2 z2) (h1 : k2 ≤ kr) (h2 : z2 ≤ zr) : ms_W x d P pc lv st n G kr zr := by
  intro mc ms p l e s m args below meth c D cA base H locs cells slots ls F c1 c2
  exact h mc ms p l e s m args below meth c D cA base H locs cells slots ls F (by omega) (by omega)
theorem ms_W.sub {lv2 : List (Nat × Value)} (h : ms_W x d P pc lv2 st n G kr zr) (ks : List Nat) (hl : lv_pick lv ks = lv2) : ms_W x d P pc lv st n G kr zr := by
  intro mc ms p l e s m args below meth c D cA base H locs cells slots ls F c1 c2 c3 c4 c5 c6
  exact h mc ms p l e s m args below meth c D cA base H locs cells slots ls F c1 c2 c3 c4 c5 (lv_sub c6 ks hl)
theorem ms_iaload {a N : Nat} {i : Int32} {f : Nat → Int32} (hdg : decode d.2.1 pc = .ok (.iaload, 1)) (ha : G a = some (.inl (0, N, .inl f))) (hin : vp_in i N) (k : ms_W x d P (pc + 1) lv (.int (f i.toNatClampNeg) :: st) n G kr zr) : ms_W x d P pc lv (.int i :: .ref a :: st) n G kr zr := by
  intro mc ms p l e s m args below meth c D cA base H locs cells slots ls F c1 c2 c3 c4 c5 c6
  exact va_iald F.exec F.code F.K (c4.P1 ha) 0 0 rfl rfl hin hdg (k mc ms p l e s m args below meth c D cA base H locs cells slots ls F c1 c2 c3 c4 c5 c6)
theorem ms_zaload {a N : Nat} {i : Int32} {f : Nat → Int32} (hdg : decode d.2.1 pc = .ok (.baload, 1)) (ha : G a = some (.inl (1, N, .inl f))) (hin : vp_in i N) (k : ms_W x d P (pc + 1) lv (.int (f i.toNatClampNeg) :: st) n G kr zr) : ms_W x d P pc lv (.int i :: .ref a :: st) n G kr zr := by
  intro mc ms p l e s m args below meth c D cA base H locs cells slots ls F c1 c2 c3 c4 c5 c6
  exact va_zald F.exec F.code F.K (c4.P1 ha) 0 1 rfl rfl hin hdg (k mc ms p l e s m args below meth c D cA base H locs cells slots ls F c1 c2 c3 c4 c5 c6)
theorem ms_aaload {a N : Nat} {i : Int32} {f : Nat → Option Nat} (hdg : decode d.2.1 pc = .ok (.aaload, 1)) (ha : G a = some (.inl (3, N, .inr (.inr (.inr (.inr f)))))) (hin : vp_in i N) (k : ms_W x d P (pc + 1) lv (va_rf (f i.toNatClampNeg) :: st) n G kr zr) : ms_W x d P pc lv (.int i :: .ref a :: st) n G kr zr := by
  intro mc ms p l e s m args below meth c D cA base H locs cells slots ls F c1 c2 c3 c4 c5 c6
  exact va_aldq F.exec F.code F.K (c4.P1 ha) 0 3 rfl rfl hin hdg (k mc ms p l e s m args below meth c D cA base H locs cells slots ls F c1 c2 c3 c4 c5 c6)
theorem ms_alen {a : Nat} {kd : Nat} {y : vp_A} {v : Int32} {ty : ClassId → ClassId × FieldType} (hdg : decode d.2.1 pc = .ok (.arraylength, 1)) (ha : G a = some (.inl (kd, y))) (hk : kd < 5) (hv : Int32.ofNat y.1 = v) (k : ms_W x d P (pc + 1) lv (.int v :: st) n G kr zr) : ms_W x d P pc lv (.ref a :: st) n G kr zr := by
  intro mc ms p l e s m args below meth c D cA base H locs cells slots ls F c1 c2 c3 c4 c5 c6
  have hty : ∃ ty, (ms_tys cA)[kd]? = some (cA kd, ty) := by
    match kd, hk with
    | 0, _ => exact ⟨_, rfl⟩
    | 1, _ => exact ⟨_, rfl⟩
    | 2, _ => exact ⟨_, rfl⟩
    | 3, _ => exact ⟨_, rfl⟩
    | 4, _ => exact ⟨_, rfl⟩
  obtain ⟨ty, hty⟩ := hty
  exact va_alen F.exec F.code F.K (c4.P1 ha) 0 kd rfl hty hv hdg (k mc ms p l e s m args below meth c D cA base H locs cells slots ls F c1 c2 c3 c4 c5 c6)
theorem ms_iastore {a N : Nat} {i v : Int32} {f : Nat → Int32} (hdg : decode d.2.1 pc = .ok (.iastore, 1)) (ha : G a = some (.inl (0, N, .inl f))) (hin : vp_in i N) (k : ms_W x d P (pc + 1) lv st n (ms_up G a (.inl (0, N, .inl (upd f i.toNatClampNeg v)))) kr zr) : ms_W x d P pc lv (.int v :: .int i :: .ref a :: st) n G kr zr := by
  intro mc ms p l e s m args below meth c D cA base H locs cells slots ls F c1 c2 c3 c4 c5 c6
  have hb := (c4 a _ ha).2
  refine W.iast F.exec F.code (c4.P1 ha 0 _ rfl) ((F.K.2 0 _ rfl).1 N (fun j => .int (f j))) (fun q => by cases q) (by show ¬ (i < 0 ∨ (arrV _ _ _).slots.size ≤ _); rw [arrV_size]; exact hin) rfl rfl hdg fun H1 h9 z oq => ?_
  refine k mc ms p l e s m args below meth c D cA base H1 _ cells slots ls F c1 c2 (z.trans c3) (c4.set ha ?_ oq) (c5.put z oq hb) c6
  show H1[a]? = some (vp_cell _ _)
  rw [h9]
  rw [vp_cell_i, vp_cell_i, arrV_store]
  congr 2
  funext q
  by_cases hq : q = i.toNatClampNeg
  · subst hq
    simp [updV, upd]
  · simp [updV, upd, hq]
end MS

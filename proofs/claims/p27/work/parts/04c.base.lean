/-! What needs no walk: descriptors of methods, the words that stay, what a field, a call, an object, a throw, a catch wants of them. -/
/-- a method: name, code, locals, answer, frames and words of locals that it may use below it, its handlers, the script that it reads -/
abbrev ms_D : Type := MethodName × ByteArray × Nat × Option FieldType × Nat × Nat × List (Nat × Nat × Nat × Nat) × Option (Nat × Nat × (Nat → Int32))
/-- the tables' words that stay where they are whatever is resolved -/
def ms_big : List Cond := lw_tbl.filter goodWord
theorem ms_big_good : ∀ w ∈ ms_big, goodWord w = true := fun w h => (List.mem_filter.mp h).2
theorem ms_big_in {w : Cond} (h : w ∈ lw_tbl) (hg : goodWord w = true) : w ∈ ms_big := List.mem_filter.mpr ⟨h, hg⟩
theorem ms_at {w : Cond} (i : Nat) (h : lw_tbl[i]? = some w) (hg : goodWord w = true) : w ∈ ms_big := ms_big_in (List.mem_of_getElem? h) hg
theorem ms_sub (ws : List Cond) (ps : List Nat) (hp : ws = ps.filterMap (fun i => lw_tbl[i]?)) (hg : ws.all goodWord = true) : ∀ w ∈ ws, w ∈ ms_big := by
  intro w hw
  have h1 := List.all_eq_true.mp hg w hw
  rw [hp] at hw
  obtain ⟨i, -, hi⟩ := List.mem_filterMap.mp hw
  exact ms_at i hi h1
/-- the code word of a method -/
def ms_cd (d : ms_D) : Cond := match d.2.2.2.2.2.2.1 with
  | [] => .code d.1 d.2.1 d.2.2.1 d.2.2.2.1
  | h :: t => .codeWith d.1 d.2.1 d.2.2.1 d.2.2.2.1 (h :: t)
theorem ms_cd_nil {d : ms_D} (h : d.2.2.2.2.2.2.1 = []) : ms_cd d = .code d.1 d.2.1 d.2.2.1 d.2.2.2.1 := by unfold ms_cd; rw [h]
theorem ms_cd_cons {d : ms_D} (h : ¬ d.2.2.2.2.2.2.1 = []) : ms_cd d = .codeWith d.1 d.2.1 d.2.2.1 d.2.2.2.1 d.2.2.2.2.2.2.1 := by
  unfold ms_cd
  cases e : d.2.2.2.2.2.2.1 with
  | nil => exact absurd e h
  | cons x t => rfl
def ms_ws (d : ms_D) : List Cond := ms_cd d :: ms_big
def ms_nF : List (String × Nat × String × String × String × String) := [("StarlingSquare$Grid", 37, "StarlingSquare", "STEP_X", "[I", "StarlingSquare"), ("StarlingSquare$Grid", 40, "StarlingSquare", "STEP_Y", "[I", "StarlingSquare"), ("StarlingSquare$Jams", 51, "StarlingSquare$Crowd", "grid", "LStarlingSquare$Grid;", "StarlingSquare")]
/-- the links between nest mates -/
def ms_nM : List (String × Nat × MethodName × String) := [(RX5, 9, yX1_init, RX5), (RX5, 36, yX2_init, RX5), (RX0, 42, yX4_init, RX5), (RX3, 40, yX5_isGoal, RX5), (RX6, 46, yL_cell, RL), (RX6, 52, yL_below, RL)]
/-- the texts of the exceptions -/
def ms_strs : List (String × Nat × String) := [("StarlingSquare", 53, "an edge is 2 to 14"), ("StarlingSquare", 68, "no such field"), ("StarlingSquare", 85, "a walker is on it"), ("StarlingSquare", 103, "no such goal or field"), ("StarlingSquare", 118, "a walker with that goal is on it"), ("StarlingSquare", 130, "draw is 0 to 9, jam 1 to 20"), ("StarlingSquare", 138, "what is 0 to 3"), ("StarlingSquare", 146, "no such goal"), ("StarlingSquare", 154, "pace is 1 to 3, mood 0 to 9"), ("StarlingSquare", 166, "no walker can come there"), ("StarlingSquare", 172, "no such walker or goal"), ("StarlingSquare", 174, "mood is 0 to 9"), ("StarlingSquare", 183, "it is out, or at that goal"), ("StarlingSquare", 188, "ticks is 1 to 20"), ("StarlingSquare", 199, "what is 0 to 8"), ("StarlingSquare", 208, "no such walker"), ("StarlingSquare", 214, "no such walker, or it is out"), ("StarlingSquare", 216, "side is 0 to 4"), ("StarlingSquare", 225, "k is below 0"), ("StarlingSquare", 241, "ticks is 1 to 60"), ("StarlingSquare", 249, "ticks is 1 to 60, draw 0 to 9")]
/-- who isn't whose -/
def ms_ncs : List (String × String) := []
def ms_exs : List String := ["java/lang/IllegalArgumentException", "java/lang/IllegalStateException", "java/lang/IndexOutOfBoundsException"]
def ms_dcl : List MethodName := [⟨"java/lang/RuntimeException", "<init>", "(Ljava/lang/String;)V"⟩, ⟨"java/lang/Exception", "<init>", "(Ljava/lang/String;)V"⟩, ⟨"java/lang/Throwable", "<init>", "(Ljava/lang/String;)V"⟩]
def ms_names : List String := ["java/lang/RuntimeException", "java/lang/Exception"]
def ms_okR (d d' : ms_D) : Prop := d'.2.2.2.2.1 + 1 ≤ d.2.2.2.2.1 ∧ 8 + (d'.2.2.1 + 11) + d'.2.2.2.2.2.1 ≤ d.2.2.2.2.2.1
def ms_okY (d' : ms_D) (na : Nat) : Prop := d'.1.cls ≠ "java/lang/invoke/MethodHandle" ∧ d'.1.cls ≠ "java/lang/invoke/VarHandle" ∧ (parseMethodDescriptor d'.1.desc).map (fun d => d.parameters.length) = some na
def ms_okF (own : String) (idx ci k : Nat) : Prop := ∃ (C : String) (T : u_T) (N : Nat), vwCl[ci]? = some (C, T, N) ∧ k < N ∧ (∀ w ∈ u_ws C T N, w ∈ ms_big) ∧ Cond.fieldLink own idx C (T k).2.1 (T k).2.2.1 ∈ ms_big ∧ (T k).1 = C
def ms_okP (own : String) (idx ci k : Nat) (ty : FieldType) (fin : Bool) : Prop := ∃ (C : String) (T : u_T) (N : Nat) (t0 : Nat → FieldType), vwCl[ci]? = some (C, T, N) ∧ k < N ∧ (∀ w ∈ u_ws C T N, w ∈ ms_big) ∧ Cond.fieldLink own idx C (T k).2.1 (T k).2.2.1 ∈ ms_big ∧ (T k).1 = C ∧
  (∀ k, k < N → parseFieldDescriptor (T k).2.2.1 = some (t0 k)) ∧ (∀ a, a < N → ∀ b, b < N → a ≠ b → (T a).2.1 ≠ (T b).2.1) ∧ (T k).2.2.2 = fin ∧ t0 k = ty ∧ (fin = true → C = own)
def ms_okN (own : String) (idx ci : Nat) (fs : List Value) : Prop := ∃ (C : String) (T : u_T) (N : Nat) (t0 : Nat → FieldType), vwCl[ci]? = some (C, T, N) ∧ (∀ w ∈ u_ws C T N, w ∈ ms_big) ∧ (∀ k, k < N → parseFieldDescriptor (T k).2.2.1 = some (t0 k)) ∧ Cond.classLink own idx C ∈ ms_big ∧ Cond.instantiable C N ∈ ms_big ∧ Cond.initialized C ∈ ms_big ∧ fs = (List.range N).map (fun j => defaultValue (t0 j))
/-- the words of a virtual call: its link, that it is there, what it selects -/
def ms_okV (own : String) (idx : Nat) (d' : ms_D) (ci na : Nat) : Prop := Cond.methodLink own idx d'.1 ∈ ms_big ∧ (∀ w ∈ [Cond.instanceMethod d'.1, Cond.selects d'.1.cls d'.1 d'.1, Cond.initialized d'.1.cls, ms_cd d'], w ∈ ms_big) ∧ (∃ (T : u_T) (N : Nat), vwCl[ci]? = some (d'.1.cls, T, N)) ∧ ms_okY d' na ∧ d'.2.2.2.2.2.2.1 = []
def ms_okS (own : String) (idx : Nat) (d' : ms_D) (na : Nat) : Prop := d'.1.cls = own ∧ Cond.methodLink own idx d'.1 ∈ ms_big ∧ (∀ w ∈ [Cond.static d'.1, Cond.initialized own, ms_cd d'], w ∈ ms_big) ∧ ms_okY d' na
/-- a static call of a nest mate's private method -/
def ms_okSN (own : String) (idx : Nat) (d' : ms_D) (host : String) (na : Nat) : Prop := (own, idx, d'.1, host) ∈ ms_nM ∧ (∀ w ∈ [Cond.static d'.1, Cond.initialized d'.1.cls, ms_cd d'], w ∈ ms_big) ∧ ms_okY d' na ∧ d'.2.2.2.2.2.2.1 = []
/-- a constructor's call -/
def ms_okI (own : String) (idx : Nat) (d' : ms_D) (na : Nat) : Prop := Cond.methodLink own idx d'.1 ∈ ms_big ∧ (∀ w ∈ [Cond.instanceMethod d'.1, Cond.initialized d'.1.cls, ms_cd d'], w ∈ ms_big) ∧ d'.1.name = "<init>" ∧ ms_okY d' na ∧ d'.2.2.2.2.2.2.1 = [] ∧ d'.2.2.2.1 = none
def ms_okIN (own : String) (idx : Nat) (d' : ms_D) (host : String) (na : Nat) : Prop := (own, idx, d'.1, host) ∈ ms_nM ∧ (∀ w ∈ [Cond.instanceMethod d'.1, Cond.initialized d'.1.cls, ms_cd d'], w ∈ ms_big) ∧ d'.1.name = "<init>" ∧ ms_okY d' na ∧ d'.2.2.2.2.2.2.1 = [] ∧ d'.2.2.2.1 = none
/-- a throw: class and its constructor, the text -/
def ms_okT (own : String) (ik is ic : Nat) (E text : String) : Prop := Bundle.fit E = true ∧ (∀ n ∈ ms_names, Bundle.fit n = true) ∧ (∀ w ∈ Cond.classLink own ik E :: Cond.initialized E :: (vx_atS own ic E ms_names).filter goodWord, w ∈ ms_big) ∧ (own, is, text) ∈ ms_strs ∧ (∀ w ∈ (vx_atS own ic E ms_names).filter (fun w => !goodWord w), w ∈ Cond.castable E E :: ms_dcl.map Cond.declares) ∧ E ∈ ms_exs
theorem ms_asg (vm : Vm) (c : ClassId) : vm.assignable c c = true := by
  show vm.assignableAux (255 + 1) c c = true
  unfold Vm.assignableAux
  rw [beq_self_eq_true, Bool.true_or]
theorem ms_cas {args : Array Value} {s : State} {E : String} (h : ∃ c, s.vm.findClass E = some c) : (Cond.castable E E).before args s = true := by
  obtain ⟨c, h⟩ := h
  have e := ms_asg s.vm c
  simp [Cond.before, Cond.holds, Cond.value, h, e]
/-- E, thrown at pc, is caught at hpc -/
def ms_hd (d : ms_D) (E : String) (pc hpc : Nat) : Prop := ∃ (pre suf : List ExceptionTableEntry) (x : ExceptionTableEntry) (name : String), tableOf d.2.2.2.2.2.2.1 = pre ++ x :: suf ∧ (∀ z ∈ pre, z.catchType ≠ 0 ∧ ∃ nm : String, Cond.classLink d.1.cls z.catchType nm ∈ ms_big ∧ (E, nm) ∈ ms_ncs) ∧ covers x pc = true ∧ x.catchType ≠ 0 ∧ Cond.classLink d.1.cls x.catchType name ∈ ms_big ∧ name = E ∧ E ∈ ms_exs ∧ x.handlerPc = hpc
/-- a method that may read the script -/
abbrev ms_S (q : Nat × Nat × (Nat → Int32)) (d : ms_D) : ms_D := (d.1, d.2.1, d.2.2.1, d.2.2.2.1, d.2.2.2.2.1, d.2.2.2.2.2.1, d.2.2.2.2.2.2.1, some q)
/-- the words of a virtual call of a method with handlers -/
def ms_okVH (own : String) (idx : Nat) (d' : ms_D) (ci na : Nat) : Prop := Cond.methodLink own idx d'.1 ∈ ms_big ∧ (∀ w ∈ [Cond.instanceMethod d'.1, Cond.selects d'.1.cls d'.1 d'.1, Cond.initialized d'.1.cls, ms_cd d'], w ∈ ms_big) ∧ (∃ (T : u_T) (N : Nat), vwCl[ci]? = some (d'.1.cls, T, N)) ∧ ms_okY d' na ∧ ¬ d'.2.2.2.2.2.2.1 = []

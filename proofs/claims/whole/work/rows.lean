section
/-! ===== BEGIN words of one list among another's, by their places ===== -/
theorem goodIn_r {big : List Cond} (ws : List Cond) (ps : List Nat) (hp : ws = ps.filterMap (fun i => big[i]?)) (h : ws.all goodWord = true) : GoodIn big ws := by
  intro w hw
  have h1 := List.all_eq_true.mp h w hw
  rw [hp] at hw
  obtain ⟨i, -, hi⟩ := List.mem_filterMap.mp hw
  have hm : w ∈ big := by first | exact List.mem_of_getElem? hi | exact List.getElem?_mem hi
  exact ⟨hm, good_of_word h1⟩
theorem goodIn_app {big a b : List Cond} (ha : GoodIn big a) (hb : GoodIn big b) : GoodIn big (a ++ b) := fun w h => (List.mem_append.mp h).elim (ha w) (hb w)
theorem goodIn_ca {big a b : List Cond} {c : Cond} (ha : GoodIn big (c :: a)) (hb : GoodIn big b) : GoodIn big (c :: (a ++ b)) := fun w h => (List.mem_cons.mp h).elim (fun e => ha w (List.mem_cons.mpr (Or.inl e))) (fun h => (List.mem_append.mp h).elim (fun h => ha w (List.mem_cons.mpr (Or.inr h))) (hb w))
theorem goodIn_sub {big ws : List Cond} (hm : ∀ w ∈ ws, w ∈ big) (h : ws.all goodWord = true) : GoodIn big ws := fun w hw => ⟨hm w hw, good_of_word (List.all_eq_true.mp h w hw)⟩
/-! ===== END ===== -/

/-! ===== BEGIN exceptions that leave a method, and their catching by the caller (launches without stack traces) ===== -/
section VXA
/-! The laws vx_back, vx_callV, vx_callS, vx_callSW, vx_throw0, vx_throwS follow proofs of the library, with one case more: JvmDerived/Free/Laws.lean (Back.of_free), Shelf42/LK1.lean (callV, callS), Shelf/KitTraced.lean (throwNew0V, throwNewS). -/
/-- where a method has thrown q: the class by its name, the cell, what was written, the world -/
def vx_T (XC : String → State → State → Prop) (st : State) (q : Addr) (t : State) (mc ms : Nat) (free : Addr → Prop) : Prop :=
  ∃ (E : String) (ce : Cell) (L : List Loc), XC E st t ∧ t.heap[q]? = some ce ∧ ce.vm = .none ∧ st.vm.findClass E = some ce.cls ∧ st.WarmedH t.vm ∧ st.sameButNew ({ t with vm := st.vm } : State) L mc ms ∧ ∀ z ∈ L, free z.base
def vx_Q (Qc : Array Value → State → Outcome → State → Prop) (XC : String → State → State → Prop) (mc ms : Nat) (free : Addr → Prop) : Array Value → State → Outcome → State → Prop := fun a st o t =>
  (Qc a st o t ∧ ∃ L, FrameEnd st o t L mc ms ∧ ∀ q ∈ L, free q.base) ∨ ∃ q, o = .threw q ∧ vx_T XC st q t mc ms free
/-- a callee that returns or throws -/
def vx_Met (l : Launch) (y : MethodName) (ws : List Cond) (rm : Room) (Pc : Array Value → State → Prop) (Qc : Array Value → State → Outcome → State → Prop) (XC : String → State → State → Prop) (mc ms : Nat) (free : Addr → Prop) : Prop :=
  MetFree l y (headSpec ws rm) Pc (fun _ _ _ _ _ => True) (vx_Q Qc XC mc ms free)
def vx_Post (XC : String → State → State → Prop) (mc ms : Nat) (free : Addr → Prop) : Pt → Array Value → Addr → Pt → Prop := fun A a q B =>
  ∃ (g : JFrame) (mk : MethodId) (t : State) (L : List Loc) (E : String) (ce : Cell), B.U.heap = t.heap ∧ B.U.vm = t.vm ∧ XC E (A.U.calling g mk a) t ∧ t.heap[q]? = some ce ∧ ce.vm = .none ∧ A.U.vm.findClass E = some ce.cls ∧ B.locs = A.locs ++ L ∧ (∀ z ∈ L, free z.base) ∧ B.cells = A.cells + mc ∧ B.slots = A.slots + ms
def vx_Back (l : Launch) (R : Room) (p : Program) (e : Env) (below : List Frame) (s : State) (sargs : Array Value) (y : MethodName) (len W9 : Nat)
    (Pre : Pt → Array Value → Prop) (Post : Pt → Array Value → Option Value → Pt → Prop) (PostX : Pt → Array Value → Addr → Pt → Prop) : Prop :=
  ∀ (m : MethodId) (meth : Method) (c : Code) (A : Pt) (g : JFrame) (ig : Instr) (mk : MethodId) (a : Array Value),
    Stand p l e R s m sargs below meth c A.U A.locs A.cells A.slots → g.method = m → g.locals.size = c.maxLocals → decode c.code g.pc = .ok (ig, len) →
    2 * g.monitorRoom + (g.stack.map fun v => v.category).sum ≤ W9 → A.U.methodNamed? y = some mk → Pre A a →
    (∃ (v : Option Value) (B : Pt), Stand p l e R s m sargs below meth c B.U B.locs B.cells B.slots ∧ Post A a v B ∧
      Steps p.tables e below (doInvoke e (A.U.setTop g) [] mk a).1 (B.U.setTop { g with pc := g.pc + len, stack := v.toList ++ g.stack })) ∨
    (∃ (q : Addr) (B : Pt), Stand p l e R s m sargs below meth c B.U B.locs B.cells B.slots ∧ PostX A a q B ∧
      Steps p.tables e below (doInvoke e (A.U.setTop g) [] mk a).1 ((B.U.setTop g).pushFrame (.throwing q)))
section Payer
variable {l : Launch} {R : Room} {p : Program} {e : Env} {below : List Frame} {s : State} {sargs : Array Value} {y : MethodName} {len W9 : Nat}
theorem vx_back {ws : List Cond} {rm : Room} {Pc : Array Value → State → Prop} {Qc : Array Value → State → Outcome → State → Prop} {XC : String → State → State → Prop} {mc ms : Nat} {free : Addr → Prop} {bytes : ByteArray} {maxL : Nat} {ret : Option FieldType}
    (hM : vx_Met l y ws rm Pc Qc XC mc ms free) (hblind : FrameBlind Pc) (hrc : rm.cells = mc) (hrs : rm.slots = ms)
    (hframes : rm.frames + 1 ≤ R.frames) (hlocals : W9 + (maxL + 11) + rm.locals ≤ R.locals)
    (hws : ∀ w ∈ ws, ∀ a' U, s.WarmedH U.vm → w.before a' U = true) (hcode : Cond.code y bytes maxL ret ∈ ws) (hinit : ∀ a' U, s.WarmedH U.vm → (Cond.initialized y.cls).before a' U = true) :
    vx_Back l R p e below s sargs y len W9 (PreOf R mc ms Pc) (PostOf Qc mc ms free) (vx_Post XC mc ms free) := by
  intro m meth c A g ig mk a X hg hsize hdg hW hn hp
  have h1 : (headSpec ws rm).pre.before a A.U = true := atoms_intro fun w hw => hws w hw _ _ X.warmed
  have h2 : (Cond.code y bytes maxL ret).before a A.U = true := hws _ hcode _ _ X.warmed
  have h3 : (Cond.initialized y.cls).before a A.U = true := hinit _ _ X.warmed
  have h4 : A.cells + (headSpec ws rm).room.cells ≤ R.cells := by rw [show (headSpec ws rm).room.cells = mc from hrc]; exact hp.1
  have h5 : A.slots + (headSpec ws rm).room.slots ≤ R.slots := by rw [show (headSpec ws rm).room.slots = ms from hrs]; exact hp.2.1
  have hPc : Pc a (A.U.calling g mk a) := hblind _ _ _ _ hp.2.2
  obtain ⟨U, Ls, c0, s0⟩ := A
  dsimp only [Pt.U, Pt.locs, Pt.cells, Pt.slots] at h1 h2 h3 h4 h5 X hn hPc ⊢
  obtain ⟨methY, cY, hmY, hcY, -, hlY, -, -, -, -⟩ := Cond.code_spec hn h2
  obtain ⟨kY, hkY, -⟩ := className_of_methodNamed hn
  have hinitY : kY.init = .initialized := Cond.initialized_spec (findClass_of_methodNamed hn) hkY h3
  have h : At U g.method c below := by rw [hg]; exact X.here
  have hlocals9 : W9 + (maxL + 11) + (headSpec ws rm).room.locals ≤ R.locals := hlocals
  have happ : (headSpec ws rm).appliesLoose y e.platform (U.calling g mk a) = true :=
    Spec.appliesLoose_calling (g := g) h hdg hn hkY hinitY
      (X.room_calling (g := g) (R' := (headSpec ws rm).room) hsize hmY hcY hframes (by rw [hlY]; omega) h4 h5) h1
  obtain ⟨mid, hmid⟩ := h.above
  have hfr : (U.setTop g).frames = (.java g :: mid) ++ below := by rw [State.frames_setTop' g h.top, hmid]; rfl
  obtain ⟨o, s₂, hsteps, -, hend, hq⟩ := Steps.callFree hM p X.admits X.cas X.clock (acts := []) hfr happ hPc trivial
  have hq' : vx_Q Qc XC mc ms free a (U.calling g mk a) o s₂ := hq
  rw [State.frames_setTop' g h.top] at hend
  obtain ⟨g₀, hg0⟩ := Option.isSome_iff_exists.mp h.top
  obtain ⟨r, hr⟩ := State.topJava?_eq_some.mp hg0
  have hr' : (({ U with heap := s₂.heap, slotsUsed := s₂.slotsUsed } : State).setVm s₂.vm).frames = .java g₀ :: r := hr
  rcases hq' with ⟨hqc, L, hfe, hL⟩ | ⟨q, rfl, E, ce, L, hx, hce, hcv, hcl, hW₂, hsm, hL⟩
  · obtain ⟨⟨v, rfl⟩, hW₂, e2, q2, q3, q4, q5, q6⟩ := id hfe
    have e3 : s₂ = ({ (U.calling g mk a).setFrames s₂.frames with heap := s₂.heap, slotsUsed := s₂.slotsUsed } : State).setVm s₂.vm := by
      have : s₂ = ({ s₂ with vm := (U.calling g mk a).vm } : State).setVm s₂.vm := rfl
      rw [e2] at this
      exact this
    obtain ⟨c₂, i₂, len₂, hc₂, hd₂, hf₂⟩ := hend
    have hW' : U.WarmedH s₂.vm := hW₂
    have hcc : c₂ = c := by
      have h1 : s₂.code? g.method = U.code? g.method := by
        rw [State.code?_eq, State.code?_eq, hW'.alike.method?]
      exact Option.some.inj (hc₂.symm.trans (h1.trans h.code))
    subst hcc
    have hlen : len₂ = len := by rw [hdg] at hd₂; cases hd₂; rfl
    subst hlen
    have hs₂ : s₂ = (({ U with heap := s₂.heap, slotsUsed := s₂.slotsUsed } : State).setVm s₂.vm).setTop { g with pc := g.pc + len₂, stack := v.toList ++ g.stack } := by
      refine e3.trans ?_
      rw [hf₂, State.calling_eq h.top, State.setFrames_setFrames, State.setTop_of_frames _ hr', hr]
      rfl
    have hsame : U.sameButNew ({ U with heap := s₂.heap, slotsUsed := s₂.slotsUsed } : State) L mc ms := by
      refine ⟨?_, q2, q3, q4, q5, q6⟩
      obtain ⟨t, ht, -⟩ := State.frames_cons hr
      show ({ U with heap := s₂.heap, slotsUsed := s₂.slotsUsed } : State) = { U.setFrames U.frames with heap := s₂.heap, slotsUsed := s₂.slotsUsed }
      rw [State.setFrames_self ht]
    subst hg
    refine Or.inl ⟨v, ⟨(({ U with heap := s₂.heap, slotsUsed := s₂.slotsUsed } : State).setVm s₂.vm), Ls ++ L, c0 + mc, s0 + ms⟩,
      ⟨X.admits, X.cas, X.clock, X.frames, X.room, X.hears, X.method, X.code, (X.here.setHeapUsed s₂.heap s₂.slotsUsed).setVm hW'.alike, X.tail, State.WarmedH.trans X.warmed hW', X.limits, X.bytes, X.same.trans (hsame.setVm s.vm)⟩,
      ⟨g, mk, s₂, L, rfl, rfl, hqc, rfl, hL, rfl, rfl⟩, ?_⟩
    show Steps p.tables e below _ ((({ U with heap := s₂.heap, slotsUsed := s₂.slotsUsed } : State).setVm s₂.vm).setTop { g with pc := g.pc + len₂, stack := v.toList ++ g.stack })
    rw [← hs₂]
    exact hsteps
  · obtain ⟨e2, q2, q3, q4, q5, q6⟩ := id hsm
    have e3 : s₂ = ({ (U.calling g mk a).setFrames s₂.frames with heap := s₂.heap, slotsUsed := s₂.slotsUsed } : State).setVm s₂.vm := by
      have : s₂ = ({ s₂ with vm := (U.calling g mk a).vm } : State).setVm s₂.vm := rfl
      rw [e2] at this
      exact this
    have hf₂ : s₂.frames = .throwing q :: .java g :: U.frames.tail := hend
    have hW' : U.WarmedH s₂.vm := hW₂
    have hs₂ : s₂ = ((({ U with heap := s₂.heap, slotsUsed := s₂.slotsUsed } : State).setVm s₂.vm).setTop g).pushFrame (.throwing q) := by
      refine e3.trans ?_
      rw [hf₂, State.calling_eq h.top, State.setFrames_setFrames, State.pushFrame, State.frames_setTop _ hr', State.setTop_of_frames _ hr', State.setFrames_setFrames, hr]
      rfl
    have hsame : U.sameButNew ({ U with heap := s₂.heap, slotsUsed := s₂.slotsUsed } : State) L mc ms := by
      refine ⟨?_, q2, q3, q4, q5, q6⟩
      obtain ⟨t, ht, -⟩ := State.frames_cons hr
      show ({ U with heap := s₂.heap, slotsUsed := s₂.slotsUsed } : State) = { U.setFrames U.frames with heap := s₂.heap, slotsUsed := s₂.slotsUsed }
      rw [State.setFrames_self ht]
    subst hg
    refine Or.inr ⟨q, ⟨(({ U with heap := s₂.heap, slotsUsed := s₂.slotsUsed } : State).setVm s₂.vm), Ls ++ L, c0 + mc, s0 + ms⟩,
      ⟨X.admits, X.cas, X.clock, X.frames, X.room, X.hears, X.method, X.code, (X.here.setHeapUsed s₂.heap s₂.slotsUsed).setVm hW'.alike, X.tail, State.WarmedH.trans X.warmed hW', X.limits, X.bytes, X.same.trans (hsame.setVm s.vm)⟩,
      ⟨g, mk, s₂, L, E, ce, rfl, rfl, hx, hce, hcv, hcl, rfl, hL, rfl, rfl⟩, ?_⟩
    show Steps p.tables e below _ (((({ U with heap := s₂.heap, slotsUsed := s₂.slotsUsed } : State).setVm s₂.vm).setTop g).pushFrame (.throwing q))
    rw [← hs₂]
    exact hsteps
end Payer
section Calls
variable {p : Program} {l : Launch} {e : Env} {R : Room} {s : State} {m : MethodId} {args : Array Value} {below : List Frame} {meth : Method} {c : Code} {T : State} {locs : List Loc} {cells slots : Nat}
theorem vx_callV (X : Stand p l e R s m args below meth c T locs cells slots) (hexec : p.tables.exec = Jvm.exec) {own C : String} {index : Nat} {y : MethodName} {bytes : ByteArray} {maxL : Nat} {ret : Option FieldType}
    (hown : s.vm.findClass own = some m.cls) (hlink : (Cond.methodLink own index y).before args s = true) (hinst : (Cond.instanceMethod y).before args s = true) (hsel : (Cond.selects C y y).before args s = true)
    (hcode : (Cond.code y bytes maxL ret).before args s = true) (hy : y.cls ≠ "java/lang/invoke/MethodHandle" ∧ y.cls ≠ "java/lang/invoke/VarHandle")
    {W9 : Nat} {Pre : Pt → Array Value → Prop} {Post : Pt → Array Value → Option Value → Pt → Prop} {PostX : Pt → Array Value → Addr → Pt → Prop} (hK : vx_Back l R p e below s args y 3 W9 Pre Post PostX)
    {b : Addr} {cellB : Cell} (hcell : T.heap[b]? = some cellB) (hobj : cellB.vm.isStatics = false) (hcls : s.vm.findClass C = some cellB.cls)
    {g : JFrame} (hg : g.method = m) (hsize : g.locals.size = c.maxLocals) {argsL rest : List Value} (hlen : ∀ sig, parseMethodDescriptor y.desc = some sig → argsL.length = sig.parameters.length)
    (hstack : g.stack = argsL.reverse ++ .ref b :: rest) (hW : 2 * g.monitorRoom + (rest.map fun v => v.category).sum ≤ W9) (hdg : decode c.code g.pc = .ok (.invokevirtual index, 3))
    (hpre : ∀ vm₁, s.WarmedH vm₁ → Pre ⟨T.setVm vm₁, locs, cells, slots⟩ (Value.ref b :: argsL).toArray) :
    (∃ (v : Option Value) (vm₁ : Vm) (B : Pt), s.WarmedH vm₁ ∧ Stand p l e R s m args below meth c B.U B.locs B.cells B.slots ∧ Post ⟨T.setVm vm₁, locs, cells, slots⟩ (Value.ref b :: argsL).toArray v B ∧
      ∀ target, Steps p.tables e below (B.U.setTop { g with pc := g.pc + 3, stack := v.toList ++ rest }) target → Steps p.tables e below (T.setTop g) target) ∨
    (∃ (q : Addr) (vm₁ : Vm) (B : Pt), s.WarmedH vm₁ ∧ Stand p l e R s m args below meth c B.U B.locs B.cells B.slots ∧ PostX ⟨T.setVm vm₁, locs, cells, slots⟩ (Value.ref b :: argsL).toArray q B ∧
      Steps p.tables e below (T.setTop g) ((B.U.setTop { g with stack := rest }).pushFrame (.throwing q))) := by
  obtain ⟨mk, methM, hnamed, hmethM, hstM, habM⟩ := Cond.instanceMethod_spec hinst
  obtain ⟨methM', cM, hmethM', -, -, -, -, -, -, hsigM⟩ := Cond.code_spec hnamed hcode
  cases hmethM.symm.trans hmethM'
  obtain ⟨c2, r2, m2, q1, q2, q3, q4, kP, hkP, hkPi⟩ := Cond.selects_spec hsel
  cases hcls.symm.trans q1
  cases (State.methodFound?_of_named hnamed hy).symm.trans q2
  cases hnamed.symm.trans q3
  have hselP : selectMethod e.platform s.vm cellB.cls mk = .method mk := by rw [Launch.admits_selectMethod X.admits]; exact q4
  obtain ⟨vm₁, X₁, hstep₁⟩ := X.invokevirtual hexec hown hlink hnamed hmethM hstM hkP hkPi hy (a := b) (cell := cellB) hcell
    (fun z h => by rw [h] at hobj; cases hobj) hselP hmethM habM hkP hkPi (g := g) hg (argsL := argsL) (rest := rest) (hlen _ hsigM) hstack hdg
  rcases hK m meth c ⟨T.setVm vm₁, locs, cells, slots⟩ { g with stack := rest } (.invokevirtual index) mk (Value.ref b :: argsL).toArray X₁ hg hsize hdg hW (X₁.named hnamed) (hpre vm₁ X₁.warmed) with ⟨v, B, X', hpost, hsteps⟩ | ⟨q, B, X', hpost, hsteps⟩
  · exact Or.inl ⟨v, vm₁, B, X₁.warmed, X', hpost, fun target h => hstep₁ _ fun acts => by rw [doInvoke_state]; exact hsteps.trans h⟩
  · exact Or.inr ⟨q, vm₁, B, X₁.warmed, X', hpost, hstep₁ _ fun acts => by rw [doInvoke_state]; exact hsteps⟩
theorem vx_callS (X : Stand p l e R s m args below meth c T locs cells slots) (hexec : p.tables.exec = Jvm.exec) {own : String} {index : Nat} {y : MethodName} {bytes : ByteArray} {maxL : Nat} {ret : Option FieldType}
    (hown : s.vm.findClass own = some m.cls) (hlink : (Cond.methodLink own index y).before args s = true) (hstat : (Cond.static y).before args s = true) (hinit : (Cond.initialized y.cls).before args s = true)
    (hcode : (Cond.code y bytes maxL ret).before args s = true) (hy : y.cls ≠ "java/lang/invoke/MethodHandle" ∧ y.cls ≠ "java/lang/invoke/VarHandle")
    {W9 : Nat} {Pre : Pt → Array Value → Prop} {Post : Pt → Array Value → Option Value → Pt → Prop} {PostX : Pt → Array Value → Addr → Pt → Prop} (hK : vx_Back l R p e below s args y 3 W9 Pre Post PostX)
    {g : JFrame} (hg : g.method = m) (hsize : g.locals.size = c.maxLocals) {argsL rest : List Value} (hlen : ∀ sig, parseMethodDescriptor y.desc = some sig → argsL.length = sig.parameters.length)
    (hstack : g.stack = argsL.reverse ++ rest) (hW : 2 * g.monitorRoom + (rest.map fun v => v.category).sum ≤ W9) (hdg : decode c.code g.pc = .ok (.invokestatic index, 3))
    (hpre : ∀ vm₁, s.WarmedH vm₁ → Pre ⟨T.setVm vm₁, locs, cells, slots⟩ argsL.toArray) :
    (∃ (v : Option Value) (vm₁ : Vm) (B : Pt), s.WarmedH vm₁ ∧ Stand p l e R s m args below meth c B.U B.locs B.cells B.slots ∧ Post ⟨T.setVm vm₁, locs, cells, slots⟩ argsL.toArray v B ∧
      ∀ target, Steps p.tables e below (B.U.setTop { g with pc := g.pc + 3, stack := v.toList ++ rest }) target → Steps p.tables e below (T.setTop g) target) ∨
    (∃ (q : Addr) (vm₁ : Vm) (B : Pt), s.WarmedH vm₁ ∧ Stand p l e R s m args below meth c B.U B.locs B.cells B.slots ∧ PostX ⟨T.setVm vm₁, locs, cells, slots⟩ argsL.toArray q B ∧
      Steps p.tables e below (T.setTop g) ((B.U.setTop { g with stack := rest }).pushFrame (.throwing q))) := by
  obtain ⟨mk, hnamed⟩ := Cond.code_named hcode
  obtain ⟨methM, cM, hmethM, -, -, -, -, -, -, hsigM⟩ := Cond.code_spec hnamed hcode
  have hstatic : methM.isStatic = true := Cond.static_spec hnamed hmethM hstat
  obtain ⟨kP, hkP, -⟩ := className_of_methodNamed hnamed
  have hinitP : kP.init = .initialized := Cond.initialized_spec (findClass_of_methodNamed hnamed) hkP hinit
  obtain ⟨vm₁, X₁, hstep₁⟩ := X.invokestatic hexec hown hlink hnamed hmethM hstatic hkP hinitP hy (g := g) hg (argsL := argsL) (rest := rest) (hlen _ hsigM) hstack hdg
  rcases hK m meth c ⟨T.setVm vm₁, locs, cells, slots⟩ { g with stack := rest } (.invokestatic index) mk argsL.toArray X₁ hg hsize hdg hW (X₁.named hnamed) (hpre vm₁ X₁.warmed) with ⟨v, B, X', hpost, hsteps⟩ | ⟨q, B, X', hpost, hsteps⟩
  · exact Or.inl ⟨v, vm₁, B, X₁.warmed, X', hpost, fun target h => hstep₁ _ fun acts => by rw [doInvoke_state]; exact hsteps.trans h⟩
  · exact Or.inr ⟨q, vm₁, B, X₁.warmed, X', hpost, hstep₁ _ fun acts => by rw [doInvoke_state]; exact hsteps⟩
end Calls
theorem vx_cls {s : State} {T : State} {vm₁ : Vm} {E : String} {k : ClassId} (hW : s.WarmedH vm₁) (h : (T.setVm vm₁).vm.findClass E = some k) : s.vm.findClass E = some k := by
  have h1 : vm₁.findClass E = some k := h
  rw [hW.alike.findClass] at h1
  exact h1
/-- the method's frame g, with q thrown over it -/
def vx_W (p : Program) (l : Launch) (e : Env) (R : Room) (s : State) (m : MethodId) (args : Array Value) (below : List Frame) (meth : Method) (c : Code) (H : Heap) (locs : List Loc) (cells slots : Nat) (Q : State → Prop) (g : JFrame) (q : Addr) : Prop :=
  ∀ T : State, T.heap = H → Stand p l e R s m args below meth c T locs cells slots → ∃ t, Steps p.tables e below ((T.setTop g).pushFrame (.throwing q)) t ∧ Q t
def vx_Run (p : Program) (l : Launch) (e : Env) (R : Room) (s : State) (m : MethodId) (args : Array Value) (below : List Frame) (meth : Method) (c : Code) (H : Heap) (locs : List Loc) (cells slots mc ms : Nat) (g : JFrame) (rest : List Value) (Qa : State → Outcome → State → Prop) (XC : String → State → State → Prop) (free : Addr → Prop) : Prop :=
  ∀ T : State, T.heap = H → Stand p l e R s m args below meth c T locs cells slots →
    (∃ (v : Option Value) (st₀ t T' : State) (L : List Loc), st₀.heap = H ∧ Stand p l e R s m args below meth c T' (locs ++ L) (cells + mc) (slots + ms) ∧ (∀ q ∈ L, free q.base) ∧ T'.heap = t.heap ∧ T'.vm = t.vm ∧ Qa st₀ (.returned v) t ∧
      Goes p e below T g T' { g with pc := g.pc + 3, stack := v.toList ++ rest }) ∨
    (∃ (q : Addr) (st₀ t T' : State) (L : List Loc) (E : String) (ce : Cell), st₀.heap = H ∧ Stand p l e R s m args below meth c T' (locs ++ L) (cells + mc) (slots + ms) ∧ (∀ z ∈ L, free z.base) ∧ T'.heap = t.heap ∧ T'.vm = t.vm ∧ XC E st₀ t ∧ t.heap[q]? = some ce ∧ ce.vm = .none ∧ s.vm.findClass E = some ce.cls ∧
      Steps p.tables e below (T.setTop g) ((T'.setTop { g with stack := rest }).pushFrame (.throwing q)))
def vx_X {S : Type} (px : S → Prop) (B : String → S → State → Prop) (A : Nat → Prop) : String → State → State → Prop := fun E st t => ∃ u : S, px u ∧ B E u t ∧ va_F A st t
section Runs
variable {p : Program} {l : Launch} {e : Env} {R : Room} {s : State} {m : MethodId} {args : Array Value} {below : List Frame} {meth : Method} {c : Code} {H : Heap} {locs : List Loc} {cells slots : Nat}
variable {y : MethodName} {bytes cc : ByteArray} {maxL nL mc ms n index : Nat} {ret : Option FieldType} {ws : List Cond} {rm : Room} {Pc : Array Value → State → Prop} {Qc : Array Value → State → Outcome → State → Prop} {XC : String → State → State → Prop} {free : Addr → Prop} {Ts : List Cond} {own C : String} {b : Addr} {As rest : List Value} {g : JFrame}
theorem vx_callBack (cb : CallB R s args own index y bytes maxL ret ws rm mc ms n) (hM : vx_Met l y ws rm Pc Qc XC mc ms free) (hbl : FrameBlind Pc) : vx_Back l R p e below s args y 3 8 (PreOf R mc ms Pc) (PostOf Qc mc ms free) (vx_Post XC mc ms free) := by
  obtain ⟨hrc, hrs, hfr, hlo, hws, hcw, -, hini, -⟩ := cb
  exact vx_back (bytes := bytes) (maxL := maxL) (ret := ret) hM hbl hrc hrs hfr hlo hws hcw (fun a' U hW => word_at hW (Or.inl (by first | rfl | simp [Cond.onTables, Cond.keeps, Cond.steady])) hini)
theorem vx_runV (S : CallFix p m c cc nL s args Ts own) (hM : vx_Met l y ws rm Pc Qc XC mc ms free) (cw : CallW R s args own C index y bytes maxL ret ws rm mc ms n) (hp : PreV s H C b Pc As)
    (hg : g.method = m) (hn : As.length = n) (hsize : g.locals.size = nL) (hstack : g.stack = As.reverse ++ .ref b :: rest) (hW : 2 * g.monitorRoom + (rest.map fun v => v.category).sum ≤ 8) (hdg : decode cc g.pc = .ok (.invokevirtual index, 3)) (hf : cells + mc ≤ R.cells ∧ slots + ms ≤ R.slots) :
    vx_Run p l e R s m args below meth c H locs cells slots mc ms g rest (Qc (Value.ref b :: As).toArray) XC free := by
  have hK : vx_Back l R p e below s args y 3 8 (PreOf R mc ms Pc) (PostOf Qc mc ms free) (vx_Post XC mc ms free) := vx_callBack cw.1 hM hp.1
  obtain ⟨⟨-, -, -, -, -, -, hcode, -, hy, hlen, hl⟩, hin, hse⟩ := cw
  obtain ⟨hx, hb, hml, ho, -⟩ := S
  obtain ⟨-, ⟨cellB, hcB, hoB, hclB⟩, hPc⟩ := hp
  intro T hT X
  rcases vx_callV X hx (C := C) (bytes := bytes) (maxL := maxL) (ret := ret) ho hl hin hse hcode hy hK (by rw [hT]; exact hcB) hoB hclB hg (hsize.trans hml.symm) (argsL := As) (rest := rest) (fun sig h => hn.trans (hlen sig h)) hstack hW (by rw [hb]; exact hdg)
    (fun vm₁ hW₁ => ⟨hf.1, hf.2, hPc (T.setVm vm₁) hT hW₁⟩) with ⟨v, vm₁, ⟨U', l2, c2, s2⟩, hW₁, X', ⟨g', mk, t, L, e1, e2, hq, h1, hL, h2, h3⟩, st⟩ | ⟨q, vm₁, ⟨U', l2, c2, s2⟩, hW₁, X', ⟨g', mk, t, L, E, ce, e1, e2, hq, hce, hcv, hcl, h1, hL, h2, h3⟩, st⟩
  · dsimp only [Pt.U, Pt.locs, Pt.cells, Pt.slots] at X' e1 e2 h1 h2 h3 st
    subst h1; subst h2; subst h3
    exact Or.inl ⟨v, (T.setVm vm₁).calling g' mk (Value.ref b :: As).toArray, t, U', L, hT, X', hL, e1, e2, hq, st⟩
  · dsimp only [Pt.U, Pt.locs, Pt.cells, Pt.slots] at X' e1 e2 h1 h2 h3 st hcl
    subst h1; subst h2; subst h3
    exact Or.inr ⟨q, (T.setVm vm₁).calling g' mk (Value.ref b :: As).toArray, t, U', L, E, ce, hT, X', hL, e1, e2, hq, hce, hcv, vx_cls hW₁ hcl, st⟩
theorem vx_runS (S : CallFix p m c cc nL s args Ts own) (hM : vx_Met l y ws rm Pc Qc XC mc ms free) (cw : CallB R s args own index y bytes maxL ret ws rm mc ms n ∧ (Cond.static y).before args s = true) (hp : PreS s H Pc As)
    (hg : g.method = m) (hn : As.length = n) (hsize : g.locals.size = nL) (hstack : g.stack = As.reverse ++ rest) (hW : 2 * g.monitorRoom + (rest.map fun v => v.category).sum ≤ 8) (hdg : decode cc g.pc = .ok (.invokestatic index, 3)) (hf : cells + mc ≤ R.cells ∧ slots + ms ≤ R.slots) :
    vx_Run p l e R s m args below meth c H locs cells slots mc ms g rest (Qc As.toArray) XC free := by
  have hK : vx_Back l R p e below s args y 3 8 (PreOf R mc ms Pc) (PostOf Qc mc ms free) (vx_Post XC mc ms free) := vx_callBack cw.1 hM hp.1
  obtain ⟨⟨-, -, -, -, -, -, hcode, hini, hy, hlen, hl⟩, hstt⟩ := cw
  obtain ⟨hx, hb, hml, ho, -⟩ := S
  intro T hT X
  rcases vx_callS X hx (bytes := bytes) (maxL := maxL) (ret := ret) ho hl hstt hini hcode hy hK hg (hsize.trans hml.symm) (argsL := As) (rest := rest) (fun sig h => hn.trans (hlen sig h)) hstack hW (by rw [hb]; exact hdg)
    (fun vm₁ hW₁ => ⟨hf.1, hf.2, hp.2 (T.setVm vm₁) hT hW₁⟩) with ⟨v, vm₁, ⟨U', l2, c2, s2⟩, hW₁, X', ⟨g', mk, t, L, e1, e2, hq, h1, hL, h2, h3⟩, st⟩ | ⟨q, vm₁, ⟨U', l2, c2, s2⟩, hW₁, X', ⟨g', mk, t, L, E, ce, e1, e2, hq, hce, hcv, hcl, h1, hL, h2, h3⟩, st⟩
  · dsimp only [Pt.U, Pt.locs, Pt.cells, Pt.slots] at X' e1 e2 h1 h2 h3 st
    subst h1; subst h2; subst h3
    exact Or.inl ⟨v, (T.setVm vm₁).calling g' mk As.toArray, t, U', L, hT, X', hL, e1, e2, hq, st⟩
  · dsimp only [Pt.U, Pt.locs, Pt.cells, Pt.slots] at X' e1 e2 h1 h2 h3 st hcl
    subst h1; subst h2; subst h3
    exact Or.inr ⟨q, (T.setVm vm₁).calling g' mk As.toArray, t, U', L, E, ce, hT, X', hL, e1, e2, hq, hce, hcv, vx_cls hW₁ hcl, st⟩
end Runs
section Rows
variable {p : Program} {l : Launch} {e : Env} {R : Room} {s : State} {m : MethodId} {args : Array Value} {below : List Frame} {meth : Method} {c : Code} {H : Heap} {locs : List Loc} {cells slots : Nat} {Q : State → Prop}
variable {mc ms : Nat} {free : Addr → Prop} {A0 A1 : Nat → Prop} {H0 : Heap} {a : Array Value} {pc : Nat} {ls : Array Slot} {st0 rest : List Value}
theorem vx_keep {st₀ t T' : State} {L : List Loc} (h0 : st₀.heap = H) (e1 : T'.heap = t.heap) (hS : va_S A0 H0 H locs) (hA : ∀ q, q < H.size → A1 q → A0 q) (hf : ∀ q, free q → A0 q) (hL : ∀ q ∈ L, free q.base) (hF : va_F A1 st₀ t) :
    H.size ≤ T'.heap.size ∧ (∀ q : Nat, q < H.size → ¬ A1 q → T'.heap[q]? = H[q]?) ∧ va_S A0 H0 T'.heap (locs ++ L) := by
  obtain ⟨hz, hk⟩ := hF
  rw [h0] at hz hk
  exact ⟨by rw [e1]; exact hz, fun q h1 h2 => by rw [e1]; exact hk q h1 h2,
    ⟨Nat.le_trans hS.1 (by rw [e1]; exact hz), fun q h1 h2 => by rw [e1, hk q (Nat.lt_of_lt_of_le h1 hS.1) (fun z => h2 (hA q (Nat.lt_of_lt_of_le h1 hS.1) z))]; exact hS.2.1 q h1 h2, fun q hq => by
      rcases List.mem_append.mp hq with h | h
      · exact hS.2.2 q h
      · exact hf _ (hL q h)⟩⟩
theorem vx_calli {S SX : Type} {post : Int32 → S → Prop} {px : SX → Prop} {B : S → State → Prop} {BX : String → SX → State → Prop} {AX : Nat → Prop} (hr : vx_Run p l e R s m args below meth c H locs cells slots mc ms (F0 m pc ls st0) rest (va_Qi post B A1 a) (vx_X px BX AX) free) (hS : va_S A0 H0 H locs) (hA : ∀ q, q < H.size → A1 q → A0 q) (hf : ∀ q, free q → A0 q) (hAX : ∀ q, q < H.size → AX q → A0 q)
    (kx : ∀ (E : String) (ce : Cell) (q9 : Addr) (u : SX) (t : State) (H1 : Heap) (locs1 : List Loc), t.heap = H1 → s.vm.Alike t.vm → px u → BX E u t → H.size ≤ H1.size → (∀ q : Nat, q < H.size → ¬ AX q → H1[q]? = H[q]?) → va_S A0 H0 H1 locs1 → H1[q9]? = some ce → ce.vm = .none → s.vm.findClass E = some ce.cls → vx_W p l e R s m args below meth c H1 locs1 (cells + mc) (slots + ms) Q (F0 m pc ls rest) q9)
    (kk : ∀ (r : Int32) (u : S) (t : State) (H1 : Heap) (locs1 : List Loc), t.heap = H1 → s.vm.Alike t.vm → post r u → B u t → H.size ≤ H1.size → (∀ q : Nat, q < H.size → ¬ A1 q → H1[q]? = H[q]?) → va_S A0 H0 H1 locs1 → W p l e R s m args below meth c H1 locs1 (cells + mc) (slots + ms) Q (F0 m (pc + 3) ls (.int r :: rest))) : W p l e R s m args below meth c H locs cells slots Q (F0 m pc ls st0) := by
  intro T hT X
  rcases hr T hT X with ⟨v, st₀, t, T', L, h0, X', hL, e1, e2, ⟨⟨r, u, hv, hp, hb⟩, hF⟩, st⟩ | ⟨q, st₀, t, T', L, E, ce, h0, X', hL, e1, e2, ⟨u, hp, hb, hF⟩, hce, hcv, hcl, st⟩
  · cases hv
    obtain ⟨k1, k2, k3⟩ := vx_keep h0 e1 hS hA hf hL hF
    obtain ⟨t2, a1, b1⟩ := kk r u t T'.heap (locs ++ L) e1.symm (by rw [← e2]; exact X'.warmed.alike) hp hb k1 k2 k3 T' rfl X'
    exact ⟨t2, st t2 a1, b1⟩
  · obtain ⟨k1, k2, k3⟩ := vx_keep h0 e1 hS hAX hf hL hF
    obtain ⟨t2, a1, b1⟩ := kx E ce q u t T'.heap (locs ++ L) e1.symm (by rw [← e2]; exact X'.warmed.alike) hp hb k1 k2 k3 (by rw [e1]; exact hce) hcv hcl T' rfl X'
    exact ⟨t2, st.trans a1, b1⟩
theorem vx_calll {S SX : Type} {post : Int64 → S → Prop} {px : SX → Prop} {B : S → State → Prop} {BX : String → SX → State → Prop} {AX : Nat → Prop} (hr : vx_Run p l e R s m args below meth c H locs cells slots mc ms (F0 m pc ls st0) rest (va_Ql post B A1 a) (vx_X px BX AX) free) (hS : va_S A0 H0 H locs) (hA : ∀ q, q < H.size → A1 q → A0 q) (hf : ∀ q, free q → A0 q) (hAX : ∀ q, q < H.size → AX q → A0 q)
    (kx : ∀ (E : String) (ce : Cell) (q9 : Addr) (u : SX) (t : State) (H1 : Heap) (locs1 : List Loc), t.heap = H1 → s.vm.Alike t.vm → px u → BX E u t → H.size ≤ H1.size → (∀ q : Nat, q < H.size → ¬ AX q → H1[q]? = H[q]?) → va_S A0 H0 H1 locs1 → H1[q9]? = some ce → ce.vm = .none → s.vm.findClass E = some ce.cls → vx_W p l e R s m args below meth c H1 locs1 (cells + mc) (slots + ms) Q (F0 m pc ls rest) q9)
    (kk : ∀ (r : Int64) (u : S) (t : State) (H1 : Heap) (locs1 : List Loc), t.heap = H1 → s.vm.Alike t.vm → post r u → B u t → H.size ≤ H1.size → (∀ q : Nat, q < H.size → ¬ A1 q → H1[q]? = H[q]?) → va_S A0 H0 H1 locs1 → W p l e R s m args below meth c H1 locs1 (cells + mc) (slots + ms) Q (F0 m (pc + 3) ls (.long r :: rest))) : W p l e R s m args below meth c H locs cells slots Q (F0 m pc ls st0) := by
  intro T hT X
  rcases hr T hT X with ⟨v, st₀, t, T', L, h0, X', hL, e1, e2, ⟨⟨r, u, hv, hp, hb⟩, hF⟩, st⟩ | ⟨q, st₀, t, T', L, E, ce, h0, X', hL, e1, e2, ⟨u, hp, hb, hF⟩, hce, hcv, hcl, st⟩
  · cases hv
    obtain ⟨k1, k2, k3⟩ := vx_keep h0 e1 hS hA hf hL hF
    obtain ⟨t2, a1, b1⟩ := kk r u t T'.heap (locs ++ L) e1.symm (by rw [← e2]; exact X'.warmed.alike) hp hb k1 k2 k3 T' rfl X'
    exact ⟨t2, st t2 a1, b1⟩
  · obtain ⟨k1, k2, k3⟩ := vx_keep h0 e1 hS hAX hf hL hF
    obtain ⟨t2, a1, b1⟩ := kx E ce q u t T'.heap (locs ++ L) e1.symm (by rw [← e2]; exact X'.warmed.alike) hp hb k1 k2 k3 (by rw [e1]; exact hce) hcv hcl T' rfl X'
    exact ⟨t2, st.trans a1, b1⟩
theorem vx_callf {S SX : Type} {post : UInt32 → S → Prop} {px : SX → Prop} {B : S → State → Prop} {BX : String → SX → State → Prop} {AX : Nat → Prop} (hr : vx_Run p l e R s m args below meth c H locs cells slots mc ms (F0 m pc ls st0) rest (va_Qf post B A1 a) (vx_X px BX AX) free) (hS : va_S A0 H0 H locs) (hA : ∀ q, q < H.size → A1 q → A0 q) (hf : ∀ q, free q → A0 q) (hAX : ∀ q, q < H.size → AX q → A0 q)
    (kx : ∀ (E : String) (ce : Cell) (q9 : Addr) (u : SX) (t : State) (H1 : Heap) (locs1 : List Loc), t.heap = H1 → s.vm.Alike t.vm → px u → BX E u t → H.size ≤ H1.size → (∀ q : Nat, q < H.size → ¬ AX q → H1[q]? = H[q]?) → va_S A0 H0 H1 locs1 → H1[q9]? = some ce → ce.vm = .none → s.vm.findClass E = some ce.cls → vx_W p l e R s m args below meth c H1 locs1 (cells + mc) (slots + ms) Q (F0 m pc ls rest) q9)
    (kk : ∀ (r : UInt32) (u : S) (t : State) (H1 : Heap) (locs1 : List Loc), t.heap = H1 → s.vm.Alike t.vm → post r u → B u t → H.size ≤ H1.size → (∀ q : Nat, q < H.size → ¬ A1 q → H1[q]? = H[q]?) → va_S A0 H0 H1 locs1 → W p l e R s m args below meth c H1 locs1 (cells + mc) (slots + ms) Q (F0 m (pc + 3) ls (.float r :: rest))) : W p l e R s m args below meth c H locs cells slots Q (F0 m pc ls st0) := by
  intro T hT X
  rcases hr T hT X with ⟨v, st₀, t, T', L, h0, X', hL, e1, e2, ⟨⟨r, u, hv, hp, hb⟩, hF⟩, st⟩ | ⟨q, st₀, t, T', L, E, ce, h0, X', hL, e1, e2, ⟨u, hp, hb, hF⟩, hce, hcv, hcl, st⟩
  · cases hv
    obtain ⟨k1, k2, k3⟩ := vx_keep h0 e1 hS hA hf hL hF
    obtain ⟨t2, a1, b1⟩ := kk r u t T'.heap (locs ++ L) e1.symm (by rw [← e2]; exact X'.warmed.alike) hp hb k1 k2 k3 T' rfl X'
    exact ⟨t2, st t2 a1, b1⟩
  · obtain ⟨k1, k2, k3⟩ := vx_keep h0 e1 hS hAX hf hL hF
    obtain ⟨t2, a1, b1⟩ := kx E ce q u t T'.heap (locs ++ L) e1.symm (by rw [← e2]; exact X'.warmed.alike) hp hb k1 k2 k3 (by rw [e1]; exact hce) hcv hcl T' rfl X'
    exact ⟨t2, st.trans a1, b1⟩
theorem vx_calld {S SX : Type} {post : UInt64 → S → Prop} {px : SX → Prop} {B : S → State → Prop} {BX : String → SX → State → Prop} {AX : Nat → Prop} (hr : vx_Run p l e R s m args below meth c H locs cells slots mc ms (F0 m pc ls st0) rest (va_Qd post B A1 a) (vx_X px BX AX) free) (hS : va_S A0 H0 H locs) (hA : ∀ q, q < H.size → A1 q → A0 q) (hf : ∀ q, free q → A0 q) (hAX : ∀ q, q < H.size → AX q → A0 q)
    (kx : ∀ (E : String) (ce : Cell) (q9 : Addr) (u : SX) (t : State) (H1 : Heap) (locs1 : List Loc), t.heap = H1 → s.vm.Alike t.vm → px u → BX E u t → H.size ≤ H1.size → (∀ q : Nat, q < H.size → ¬ AX q → H1[q]? = H[q]?) → va_S A0 H0 H1 locs1 → H1[q9]? = some ce → ce.vm = .none → s.vm.findClass E = some ce.cls → vx_W p l e R s m args below meth c H1 locs1 (cells + mc) (slots + ms) Q (F0 m pc ls rest) q9)
    (kk : ∀ (r : UInt64) (u : S) (t : State) (H1 : Heap) (locs1 : List Loc), t.heap = H1 → s.vm.Alike t.vm → post r u → B u t → H.size ≤ H1.size → (∀ q : Nat, q < H.size → ¬ A1 q → H1[q]? = H[q]?) → va_S A0 H0 H1 locs1 → W p l e R s m args below meth c H1 locs1 (cells + mc) (slots + ms) Q (F0 m (pc + 3) ls (.double r :: rest))) : W p l e R s m args below meth c H locs cells slots Q (F0 m pc ls st0) := by
  intro T hT X
  rcases hr T hT X with ⟨v, st₀, t, T', L, h0, X', hL, e1, e2, ⟨⟨r, u, hv, hp, hb⟩, hF⟩, st⟩ | ⟨q, st₀, t, T', L, E, ce, h0, X', hL, e1, e2, ⟨u, hp, hb, hF⟩, hce, hcv, hcl, st⟩
  · cases hv
    obtain ⟨k1, k2, k3⟩ := vx_keep h0 e1 hS hA hf hL hF
    obtain ⟨t2, a1, b1⟩ := kk r u t T'.heap (locs ++ L) e1.symm (by rw [← e2]; exact X'.warmed.alike) hp hb k1 k2 k3 T' rfl X'
    exact ⟨t2, st t2 a1, b1⟩
  · obtain ⟨k1, k2, k3⟩ := vx_keep h0 e1 hS hAX hf hL hF
    obtain ⟨t2, a1, b1⟩ := kx E ce q u t T'.heap (locs ++ L) e1.symm (by rw [← e2]; exact X'.warmed.alike) hp hb k1 k2 k3 (by rw [e1]; exact hce) hcv hcl T' rfl X'
    exact ⟨t2, st.trans a1, b1⟩
theorem vx_callv {S SX : Type} {post : S → Prop} {px : SX → Prop} {B : S → State → Prop} {BX : String → SX → State → Prop} {AX : Nat → Prop} (hr : vx_Run p l e R s m args below meth c H locs cells slots mc ms (F0 m pc ls st0) rest (va_Qv post B A1 a) (vx_X px BX AX) free) (hS : va_S A0 H0 H locs) (hA : ∀ q, q < H.size → A1 q → A0 q) (hf : ∀ q, free q → A0 q) (hAX : ∀ q, q < H.size → AX q → A0 q)
    (kx : ∀ (E : String) (ce : Cell) (q9 : Addr) (u : SX) (t : State) (H1 : Heap) (locs1 : List Loc), t.heap = H1 → s.vm.Alike t.vm → px u → BX E u t → H.size ≤ H1.size → (∀ q : Nat, q < H.size → ¬ AX q → H1[q]? = H[q]?) → va_S A0 H0 H1 locs1 → H1[q9]? = some ce → ce.vm = .none → s.vm.findClass E = some ce.cls → vx_W p l e R s m args below meth c H1 locs1 (cells + mc) (slots + ms) Q (F0 m pc ls rest) q9)
    (kk : ∀ (u : S) (t : State) (H1 : Heap) (locs1 : List Loc), t.heap = H1 → s.vm.Alike t.vm → post u → B u t → H.size ≤ H1.size → (∀ q : Nat, q < H.size → ¬ A1 q → H1[q]? = H[q]?) → va_S A0 H0 H1 locs1 → W p l e R s m args below meth c H1 locs1 (cells + mc) (slots + ms) Q (F0 m (pc + 3) ls (rest))) : W p l e R s m args below meth c H locs cells slots Q (F0 m pc ls st0) := by
  intro T hT X
  rcases hr T hT X with ⟨v, st₀, t, T', L, h0, X', hL, e1, e2, ⟨⟨u, hv, hp, hb⟩, hF⟩, st⟩ | ⟨q, st₀, t, T', L, E, ce, h0, X', hL, e1, e2, ⟨u, hp, hb, hF⟩, hce, hcv, hcl, st⟩
  · cases hv
    obtain ⟨k1, k2, k3⟩ := vx_keep h0 e1 hS hA hf hL hF
    obtain ⟨t2, a1, b1⟩ := kk u t T'.heap (locs ++ L) e1.symm (by rw [← e2]; exact X'.warmed.alike) hp hb k1 k2 k3 T' rfl X'
    exact ⟨t2, st t2 a1, b1⟩
  · obtain ⟨k1, k2, k3⟩ := vx_keep h0 e1 hS hAX hf hL hF
    obtain ⟨t2, a1, b1⟩ := kx E ce q u t T'.heap (locs ++ L) e1.symm (by rw [← e2]; exact X'.warmed.alike) hp hb k1 k2 k3 (by rw [e1]; exact hce) hcv hcl T' rfl X'
    exact ⟨t2, st.trans a1, b1⟩
/-- caught by the row x of this method's table; the rows ahead don't take it -/
theorem vx_catch {own name : String} {E : String} {ce : Cell} {q : Addr} (hown : s.vm.findClass own = some m.cls) (pre : List ExceptionTableEntry) (x : ExceptionTableEntry) (suf : List ExceptionTableEntry) (hsplit : c.exceptionTable.toList = pre ++ x :: suf)
    (hpass : ∀ z ∈ pre, covers z pc = false ∨ (z.catchType ≠ 0 ∧ ∃ nm : String, (Cond.classLink own z.catchType nm).before args s = true ∧ va_Nc E nm s)) (hx : covers x pc = true) (h0 : x.catchType ≠ 0)
    (hlink : (Cond.classLink own x.catchType name).before args s = true) (hcast : (Cond.castable E name).before args s = true) (hcell : H[q]? = some ce) (hv : ce.vm = .none) (hcl : s.vm.findClass E = some ce.cls)
    (kk : W p l e R s m args below meth c H locs cells slots Q (F0 m x.handlerPc ls [.ref q])) : vx_W p l e R s m args below meth c H locs cells slots Q (F0 m pc ls rest) q := by
  intro T hT X
  have hpl : e.platform.magicAccessors = ({} : Platform).magicAccessors := by rw [X.admits.platform]
  obtain ⟨c3, c4, hc3, hc4, hasg⟩ := Cond.castable_spec hcast
  cases Option.some.inj (hc3.symm.trans hcl)
  obtain ⟨c5, hc5, hcl5⟩ := Cond.classLink_spec hown hlink e.platform hpl
  cases Option.some.inj (hc4.symm.trans hc5)
  obtain ⟨vm', X', st⟩ := X.thenCaughtThrough q (g := F0 m pc ls rest) rfl (Steps.refl _) (by rw [hT]; exact hcell) (by rw [hv]; rfl) (by obtain ⟨k9, h9, -⟩ := Vm.findClass_spec hcl; exact ⟨k9, h9⟩) pre x suf hsplit
    (fun z hz => by
      rcases hpass z hz with h | ⟨hz0, nm, hl1, hn1⟩
      · exact Or.inl h
      · obtain ⟨c6, hc6, hcl6⟩ := Cond.classLink_spec hown hl1 e.platform hpl
        obtain ⟨a8, b8, h1, h2, h3⟩ := hn1
        cases Option.some.inj (h1.symm.trans hcl)
        cases Option.some.inj (h2.symm.trans hc6)
        exact Or.inr ⟨hz0, _, hcl6, h3⟩) hx (Or.inr ⟨h0, c4, hcl5, hasg⟩)
  obtain ⟨t, a1, b1⟩ := kk (T.setVm vm') hT X'
  exact ⟨t, st.trans a1, b1⟩
end Rows
section Ends
variable {p : Program} {l : Launch} {e : Env} {R : Room} {s : State} {m : MethodId} {args : Array Value} {below : List Frame} {meth : Method} {c : Code} {H : Heap} {locs : List Loc} {cells slots : Nat} {Q : State → Prop}
variable {mc ms : Nat} {free : Addr → Prop} {A0 A1 : Nat → Prop} {H0 : Heap} {a : Array Value} {ls : Array Slot} {st0 rest : List Value}
variable {Qc : Array Value → State → Outcome → State → Prop} {XC : String → State → State → Prop}
/-- what a body that may throw owes at its end -/
def vx_MQ (below : List Frame) (Qc : Array Value → State → Outcome → State → Prop) (XC : String → State → State → Prop) (a : Array Value) (s : State) (mc ms : Nat) (free : Addr → Prop) : State → Prop := fun t =>
  ∃ o, t.status = .running ∧ Ended t below o ∧ vx_Q Qc XC mc ms free a s o t
theorem vx_ret {g : JFrame} {mc ms : Nat} (k : W p l e R s m args below meth c H locs cells slots (MQ below Qc args s mc ms free) g) : W p l e R s m args below meth c H locs cells slots (vx_MQ below Qc XC args s mc ms free) g := by
  intro T hT X
  obtain ⟨t, a1, o, b1, b2, b3, b4⟩ := k T hT X
  exact ⟨t, a1, o, b1, b2, Or.inl ⟨b3, b4⟩⟩
/-- not caught here: it goes on to the caller -/
theorem vx_widen {g : JFrame} {q : Addr} {k n : Nat} (h1 : cells ≤ k) (h2 : slots ≤ n) (kk : vx_W p l e R s m args below meth c H locs k n Q g q) : vx_W p l e R s m args below meth c H locs cells slots Q g q := fun T hT X => kk T hT (stand_widen X h1 h2)
theorem vx_out {pc : Nat} {E : String} {ce : Cell} {q : Addr} {mc ms : Nat} (hout : ∀ x ∈ c.exceptionTable.toList, covers x pc = false) (hlocks : meth.locks = false) (hcell : H[q]? = some ce) (hv : ce.vm = .none) (hcl : s.vm.findClass E = some ce.cls)
    (hx : ∀ t : State, t.heap = H → s.vm.Alike t.vm → XC E s t) (hf : ∀ z ∈ locs, free z.base) (hc : cells ≤ mc) (hs : slots ≤ ms) :
    vx_W p l e R s m args below meth c H locs cells slots (vx_MQ below Qc XC args s mc ms free) (F0 m pc ls rest) q := by
  intro T hT X
  obtain ⟨st1, hrun, hend, hW, hsm⟩ := X.leaveThrown q (g := F0 m pc ls rest) rfl rfl rfl hout hlocks
  have hcell9 : (T.setFrames (.throwing q :: below)).heap[q]? = some ce := by
    show T.heap[q]? = some ce
    rw [hT]; exact hcell
  exact ⟨_, st1, .threw q, hrun, hend, Or.inr ⟨q, rfl, E, ce, locs, hx _ hT hW.alike, hcell9, hv, hcl, hW, hsm.mono hc hs, hf⟩⟩
theorem vx_frame {U : State} {k n : Nat} (h : s.sameButNew ({ U with vm := s.vm } : State) locs k n) : s.heap.size ≤ U.heap.size ∧ ∀ q : Nat, q < s.heap.size → (∀ z ∈ locs, z.base ≠ q) → U.heap[q]? = s.heap[q]? := by
  obtain ⟨-, h2, -, -, -, h6⟩ := h
  refine ⟨h2, fun q hq hz => ?_⟩
  obtain ⟨c9, e1, e2, e3, e4⟩ := h6 q _ (Array.getElem?_eq_getElem hq)
  have hs : c9.slots = (s.heap[q]).slots := Array.ext_getElem? fun i => e4 i fun hm => hz _ hm rfl
  have h9 : c9 = s.heap[q] := by
    rw [hs] at e2
    exact e2
  have e5 : U.heap[q]? = some c9 := e1
  rw [e5, h9, Array.getElem?_eq_getElem hq]
/-- the words of a throw but the four that speak of the heap -/
def vx_no (w : Cond) : Bool := decide (w ≠ .isRef (.static Bundle.tN "UNASSIGNED_STACK" Bundle.steD)) && decide (w ≠ .isRef (.static Bundle.tN "SUPPRESSED_SENTINEL" Bundle.listD)) && decide (w ≠ .laysStatic Bundle.tN "UNASSIGNED_STACK" Bundle.steD) && decide (w ≠ .laysStatic Bundle.tN "SUPPRESSED_SENTINEL" Bundle.listD)
def vx_at0 (own : String) (ic : Nat) (X : String) (names : List String) : List Cond := (Bundle.ownAtoms0 own ic X names).filter vx_no
def vx_atS (own : String) (ic : Nat) (X : String) (names : List String) : List Cond := (Bundle.ownAtoms own ic X names).filter vx_no
/-- a word that the tables alone decide, or a good one -/
def vx_ot (w : Cond) : Bool := w.onTables || goodWord w
theorem vx_ot_at {args a' : Array Value} {s U : State} {w : Cond} (hW : s.WarmedH U.vm) (hvm : s.vm = U.vm) (hg : vx_ot w = true) (h : w.before args s = true) : w.before a' U = true := by
  simp only [vx_ot, Bool.or_eq_true] at hg
  rcases hg with hg | hg
  · exact va_tabs hg hvm h
  · exact word_at hW (good_of_word hg) h
/-- a list's words: the good ones out of the method's own list, the others by premises of their own -/
theorem vx_hat {args : Array Value} {s : State} {L B : List Cond} (h1 : ∀ w ∈ L.filter goodWord, w.before args s = true) (h2 : ∀ w ∈ L.filter (fun w => !goodWord w), w ∈ B) (h3 : ∀ w ∈ B, w.before args s = true) : ∀ w ∈ L, w.before args s = true := by
  intro w hw
  by_cases g : goodWord w = true
  · exact h1 w (List.mem_filter.mpr ⟨hw, g⟩)
  · refine h3 w (h2 w (List.mem_filter.mpr ⟨hw, ?_⟩))
    show (!goodWord w) = true
    cases hgw : goodWord w
    · rfl
    · exact absurd hgw g
theorem vx_c {args : Array Value} {s : State} {w : Cond} {B : List Cond} (h : w.before args s = true) (t : ∀ w ∈ B, w.before args s = true) : ∀ w' ∈ w :: B, w'.before args s = true := fun w' h' => (List.mem_cons.mp h').elim (fun e => by rw [e]; exact h) (t w')
theorem vx_n {args : Array Value} {s : State} : ∀ w ∈ ([] : List Cond), w.before args s = true := fun _ h => nomatch h
theorem vx_own {args : Array Value} {s : State} {L : List Cond} (h1 : ∀ w ∈ L.filter vx_no, w.before args s = true)
    (hU : (Cond.isRef (.static Bundle.tN "UNASSIGNED_STACK" Bundle.steD)).before args s = true) (hN : (Cond.isRef (.static Bundle.tN "SUPPRESSED_SENTINEL" Bundle.listD)).before args s = true)
    (lU : (Cond.laysStatic Bundle.tN "UNASSIGNED_STACK" Bundle.steD).before args s = true) (lN : (Cond.laysStatic Bundle.tN "SUPPRESSED_SENTINEL" Bundle.listD).before args s = true) : ∀ w ∈ L, w.before args s = true := by
  intro w hw
  by_cases e1 : w = .isRef (.static Bundle.tN "UNASSIGNED_STACK" Bundle.steD)
  · rw [e1]; exact hU
  · by_cases e2 : w = .isRef (.static Bundle.tN "SUPPRESSED_SENTINEL" Bundle.listD)
    · rw [e2]; exact hN
    · by_cases e3 : w = .laysStatic Bundle.tN "UNASSIGNED_STACK" Bundle.steD
      · rw [e3]; exact lU
      · by_cases e4 : w = .laysStatic Bundle.tN "SUPPRESSED_SENTINEL" Bundle.listD
        · rw [e4]; exact lN
        · exact h1 w (List.mem_filter.mpr ⟨hw, by unfold vx_no; rw [decide_eq_true e1, decide_eq_true e2, decide_eq_true e3, decide_eq_true e4]; rfl⟩)
/-- where a static field lies, its class's statics cell in H -/
def vx_L (C n d : String) (A : Nat → Prop) (U : State) (H : Heap) : Prop := ∃ (c : ClassId) (k : Class) (i : Nat) (f : Field) (a : Nat) (cell : Cell), U.vm.findClass C = some c ∧ U.fieldFound? C n d = some (c, k, i, f) ∧ f.isStatic = true ∧ k.statics = some a ∧ H[a]? = some cell ∧ cell.vm.isStatics = true ∧ cell.cls = c ∧ f.slot < cell.slots.size ∧ k.staticTypes[f.slot]? = some f.type ∧ ¬ A a
theorem vx_L.moved {C n d : String} {A : Nat → Prop} {u U : State} {H : Heap} (hvm : u.vm.Alike U.vm) (h : vx_L C n d A u H) : vx_L C n d A U H := by
  obtain ⟨c, k, i, f, a, cell, h1, h2, h3, h4, h5, h6, h7, h8, h9, h10⟩ := h
  obtain ⟨k', hi', he⟩ := State.fieldFound?_setVm hvm h2
  exact ⟨c, k', i, f, a, cell, by rw [hvm.findClass]; exact h1, hi', h3, by rw [he]; exact h4, h5, h6, h7, h8, by rw [he]; exact h9, h10⟩
theorem vx_L.kept {C n d : String} {A : Nat → Prop} {U : State} {H H1 : Heap} (h : vx_L C n d A U H) (hq : ∀ a : Nat, a < H.size → ¬ A a → H1[a]? = H[a]?) : vx_L C n d A U H1 := by
  obtain ⟨c, k, i, f, a, cell, h1, h2, h3, h4, h5, h6, h7, h8, h9, h10⟩ := h
  exact ⟨c, k, i, f, a, cell, h1, h2, h3, h4, by rw [hq a (Array.getElem?_eq_some_iff.mp h5).1 h10]; exact h5, h6, h7, h8, h9, h10⟩
theorem vx_L.narrow {C n d : String} {A B : Nat → Prop} {U : State} {H : Heap} (h : vx_L C n d A U H) (hAB : ∀ q, B q → A q) : vx_L C n d B U H := by
  obtain ⟨c, k, i, f, a, cell, h1, h2, h3, h4, h5, h6, h7, h8, h9, h10⟩ := h
  exact ⟨c, k, i, f, a, cell, h1, h2, h3, h4, h5, h6, h7, h8, h9, fun z => h10 (hAB _ z)⟩
theorem vx_L.word {C n d : String} {A : Nat → Prop} {s : State} {args : Array Value} (h : vx_L C n d A s s.heap) : (Cond.laysStatic C n d).before args s = true := by
  obtain ⟨c, k, i, f, a, cell, h1, h2, h3, h4, h5, h6, h7, h8, h9, -⟩ := h
  show (Cond.laysStatic C n d).holds args s none s [] = true
  exact Cond.laysStatic_of h1 h2 h3 h4 h5 h6 h7 h8 h9
/-- .. and what it holds: null or some reference -/
def vx_Zq (C n d : String) (A : Nat → Prop) (U : State) (H : Heap) : Prop := va_Zq C n d A U H ∧ vx_L C n d A U H
theorem vx_Zq.moved {C n d : String} {A : Nat → Prop} {u U : State} {H : Heap} (hvm : u.vm.Alike U.vm) (h : vx_Zq C n d A u H) : vx_Zq C n d A U H := ⟨va_Zq.moved hvm h.1, vx_L.moved hvm h.2⟩
theorem vx_Zq.kept {C n d : String} {A : Nat → Prop} {U : State} {H H1 : Heap} (h : vx_Zq C n d A U H) (hq : ∀ a : Nat, a < H.size → ¬ A a → H1[a]? = H[a]?) : vx_Zq C n d A U H1 := ⟨va_Zq.kept h.1 hq, vx_L.kept h.2 hq⟩
theorem vx_Zq.narrow {C n d : String} {A B : Nat → Prop} {U : State} {H : Heap} (h : vx_Zq C n d A U H) (hAB : ∀ q, B q → A q) : vx_Zq C n d B U H := ⟨va_Zq.narrow h.1 hAB, vx_L.narrow h.2 hAB⟩
theorem vx_Zqof {args : Array Value} {s : State} {C n d : String} {A : Nat → Prop} (hl : (Cond.laysStatic C n d).before args s = true) (hini : (Cond.initialized C).before args s = true) (h : (Cond.isRef (.static C n d)).before args s = true) (hA : ∀ a : Nat, a < s.heap.size → ¬ A a) : vx_Zq C n d A s s.heap := by
  refine ⟨va_Zqof hl hini h hA, ?_⟩
  obtain ⟨c, k, i, f, a, cell, h1, h2, h3, h4, h5, h6, h7, h8, h9⟩ := Cond.laysStatic_spec hl
  exact ⟨c, k, i, f, a, cell, h1, h2, h3, h4, h5, h6, h7, h8, h9, hA a (Array.getElem?_eq_some_iff.mp h5).1⟩
theorem vx_isRef {C n d : String} {v : Value} {A : Nat → Prop} {s : State} {args : Array Value} (h : va_Z C n d v A s s.heap) (hv : v.isRef = true) : (Cond.isRef (.static C n d)).before args s = true := by
  obtain ⟨cf, kf, fi, f, a, cell, h1, h2, h3, h4, h5, h6, h7, -⟩ := h
  have he : (Term.static C n d).eval args s none [] s = some v := by
    simp [Term.eval, State.fieldNamed?, h1, h2, h4, h5, h6, h7]
  simp only [Cond.before, Cond.holds, Cond.value, he]
  cases v <;> simp_all [Value.isRef]
theorem vx_isRefq {C n d : String} {A : Nat → Prop} {s : State} {args : Array Value} (h : va_Zq C n d A s s.heap) : (Cond.isRef (.static C n d)).before args s = true := by
  rcases h with h | ⟨t, h⟩
  · exact vx_isRef h rfl
  · exact vx_isRef h rfl
/-- the same frame, seen from here: as if the method were called anew in this heap -/
theorem vx_rebase {T : State} (X : Stand p l e R s m args below meth c T locs cells slots) {R' : Room} (hf : R'.frames ≤ R.frames) (hl : R'.locals ≤ R.locals) (hc : cells + R'.cells ≤ R.cells) (hs : slots + R'.slots ≤ R.slots) :
    Stand p l e R' ((T.setVm s.vm).setFrames (.invoking m args :: below)) m args below meth c T [] 0 0 := by
  have htop : (T.setVm s.vm).topJava?.isSome := X.here.top
  have hF : ((T.setVm s.vm).setFrames (.invoking m args :: below)).frames = .invoking m args :: below := State.frames_setFrames _ (State.cur_lt_of_top htop)
  obtain ⟨g₀, hg0⟩ := Option.isSome_iff_exists.mp htop
  obtain ⟨r, hr⟩ := State.topJava?_eq_some.mp hg0
  have hl9 : e.platform.stackLimits (T.setVm s.vm).me = e.platform.stackLimits s.me := X.limits
  have hb9 : (T.setVm s.vm).me.stackBytes = s.me.stackBytes := X.bytes
  refine ⟨X.admits, X.cas, X.clock, hF, ?_, X.hears, X.method, X.code, X.here, X.tail, X.warmed, ?_, ?_, ?_⟩
  · have h := X.room
    have hU : ((T.setVm s.vm).setFrames (.invoking m args :: below)).localsInUse = s.localsInUse := by
      rw [State.localsInUse_invoking hF (meth := meth) (c := c) X.method X.code, State.localsInUse_invoking X.frames X.method X.code]
    simp only [State.hasRoom, Bool.and_eq_true, decide_eq_true_eq] at h ⊢
    obtain ⟨⟨⟨⟨h1, h2, h3, h4, h5, h6⟩, h7⟩, h8⟩, h9⟩ := h
    rw [X.frames, List.length_cons] at h2 h3
    have q1 := X.heapSize
    have q2 := X.used
    simp only [hF, hU, List.length_cons, State.stackLimits_setFrames, State.stackBytes_setFrames, hl9, hb9]
    refine ⟨⟨⟨⟨by omega, by omega, by omega, by omega, by omega, h6⟩, ?_⟩, ?_⟩, X.book⟩
    · show T.heap.size + R'.cells ≤ e.platform.maxCells
      omega
    · show T.slotsUsed + R'.slots ≤ e.platform.maxSlots
      omega
  · rw [State.stackLimits_setFrames]; rfl
  · rw [State.stackBytes_setFrames]; rfl
  · refine ⟨?_, Nat.le_refl _, Nat.le_refl _, ?_, ?_, fun a c9 h9 => ⟨c9, h9, rfl, rfl, fun _ _ => rfl⟩⟩
    · obtain ⟨t, ht, -⟩ := State.frames_cons hr
      show T.setVm s.vm = { ((T.setVm s.vm).setFrames (.invoking m args :: below)).setFrames (T.setVm s.vm).frames with heap := T.heap, slotsUsed := T.slotsUsed }
      rw [State.setFrames_setFrames, State.setFrames_self ht]
      rfl
    · show T.slotsUsed = T.slotsUsed + ((T.heap.toList.drop T.heap.size).map (·.slots.size)).sum
      rw [List.drop_eq_nil_of_le (Nat.le_of_eq Array.length_toList)]
      rfl
    · show ((T.heap.toList.drop T.heap.size).map (·.slots.size)).sum ≤ 0
      rw [List.drop_eq_nil_of_le (Nat.le_of_eq Array.length_toList)]
      exact Nat.le_refl _
/-- 'throw new E()': new; dup; invokespecial; athrow -/
theorem vx_throw0 {cc : ByteArray} {pc : Nat} (hexec : p.tables.exec = Jvm.exec) (hb : c.code = cc) (hl : l.stackTraces = false) {own cls : String} {names : List String} {ik ic mc ms : Nat} {A : Nat → Prop}
    (hown : s.vm.findClass own = some m.cls) (hcls : Bundle.fit cls = true) (hnames : ∀ n ∈ names, Bundle.fit n = true)
    (hk : (Cond.classLink own ik cls).before args s = true) (hini : (Cond.initialized cls).before args s = true) (hat : ∀ w ∈ vx_at0 own ic cls names, w.before args s = true)
    (hgood : ∀ w ∈ Cond.classLink own ik cls :: Cond.initialized cls :: vx_at0 own ic cls names, vx_ot w = true)
    (hU : vx_Zq Bundle.tN "UNASSIGNED_STACK" Bundle.steD A s s.heap) (hN : vx_Zq Bundle.tN "SUPPRESSED_SENTINEL" Bundle.listD A s s.heap) (hS : va_S A s.heap H locs) (hsize : ls.size = c.maxLocals)
    (d0 : decode cc pc = .ok (.new ik, 3)) (d3 : decode cc (pc + 3) = .ok (.dup, 1)) (d4 : decode cc (pc + 4) = .ok (.invokespecial ic, 3)) (d7 : decode cc (pc + 7) = .ok (.athrow, 1))
    (hout : ∀ x ∈ c.exceptionTable.toList, covers x (pc + 7) = false)
    (hRframes : names.length + 3 < R.frames) (hRlocals : (rest.map fun v => v.category).sum + (13 * (names.length + 1) + 42) ≤ R.locals) (hRcells : cells + 1 ≤ R.cells) (hRslots : slots + 6 ≤ R.slots) (hlocks : meth.locks = false)
    (hx : ∀ t : State, s.vm.Alike t.vm → H.size ≤ t.heap.size → (∀ q : Nat, q < H.size → t.heap[q]? = H[q]?) → XC cls s t)
    (hf : ∀ z ∈ locs, free z.base) (hc : cells + 1 ≤ mc) (hs : slots + 6 ≤ ms) :
    W p l e R s m args below meth c H locs cells slots (vx_MQ below Qc XC args s mc ms free) (F0 m pc ls rest) := by
  intro T hT X
  have htr : e.platform.stackTraces = false := (show e.platform.stackTraces = l.stackTraces by rw [X.admits.platform]).trans hl
  have Y := vx_rebase X (R' := { frames := R.frames, locals := R.locals, cells := 1, slots := 6 }) (Nat.le_refl _) (Nat.le_refl _) hRcells hRslots
  obtain ⟨s', hA⟩ : ∃ z, z = (T.setVm s.vm).setFrames (.invoking m args :: below) := ⟨_, rfl⟩
  rw [← hA] at Y
  have hvm : s'.vm = s.vm := by rw [hA]; rfl
  have hhp : s'.heap = H := by rw [hA]; exact hT
  have hW0 : s.WarmedH s'.vm := by rw [hvm]; exact State.WarmedH.refl s
  have hat' : ∀ w ∈ vx_at0 own ic cls names, w.before args s' = true := fun w hw => vx_ot_at hW0 hvm.symm (hgood w (List.mem_cons_of_mem _ (List.mem_cons_of_mem _ hw))) (hat w hw)
  have hk' : (Cond.classLink own ik cls).before args s' = true := vx_ot_at hW0 hvm.symm (hgood _ List.mem_cons_self) hk
  have hini' : (Cond.initialized cls).before args s' = true := vx_ot_at hW0 hvm.symm (hgood _ (List.mem_cons_of_mem _ List.mem_cons_self)) hini
  have hU' : vx_Zq Bundle.tN "UNASSIGNED_STACK" Bundle.steD A s' s'.heap := by rw [hhp]; exact vx_Zq.moved hW0.alike (hU.kept hS.2.1)
  have hN' : vx_Zq Bundle.tN "SUPPRESSED_SENTINEL" Bundle.listD A s' s'.heap := by rw [hhp]; exact vx_Zq.moved hW0.alike (hN.kept hS.2.1)
  have h : ∀ w ∈ Bundle.ownAtoms0 own ic cls names, w.before args s' = true := vx_own hat' (vx_isRefq hU'.1) (vx_isRefq hN'.1) hU'.2.word hN'.2.word
  have hown' : s'.vm.findClass own = some m.cls := by rw [hvm]; exact hown
  have hins : (Cond.instantiable cls 6).before args s' = true := h _ (by simp [Bundle.ownAtoms0])
  obtain ⟨vm₁, cX, kX, hfX, hkX, -, -, X₁, st1⟩ := Y.newCold hexec (own := own) (C := cls) (index := ik) (n := 6) hown' hk' hins hini'
    (g := F0 m pc ls rest) rfl (by rw [hb]; exact d0) (Nat.le_refl _) (Nat.le_refl _)
  generalize hT1 : (T.setVm vm₁).pushCell { cls := cX, slots := kX.instanceTypes.map defaultValue, vm := .none } = T1 at X₁ st1
  have hcat : (Value.ref T.heap.size).category = 1 := rfl
  have hcellA : T1.heap[T.heap.size]? = some (freshCell cX kX) := by rw [← hT1]; exact State.heap_pushCell_size _ _
  have d3' : decode c.code (pc + 3) = .ok (.dup, 1) := by rw [hb]; exact d3
  obtain ⟨U, hsteps, hrun, hend, hW, hsame, ce, hce, hO⟩ := X₁.ctorThrow0 hexec htr (own := own) (cls := cls) (names := names) (ic := ic) hown' hcls hnames h (fun x hx => nomatch hx) hfX hkX hcellA (by rw [hhp, hT]; exact Nat.le_refl _)
    (g := { method := m, pc := pc + 4, locals := ls, stack := .ref T.heap.size :: .ref T.heap.size :: rest, locked := none }) rfl hsize rfl rfl (rest := rest) rfl
    (by rw [hb]; exact d4) (by rw [hb]; exact d7) hout hRframes (by simp only [List.map_cons, List.sum_cons, hcat]; omega) hlocks
  obtain ⟨f1, f2⟩ := vx_frame hsame
  rw [hhp] at f1 f2
  have hWs : s.WarmedH U.vm := State.WarmedH.trans hW0 hW
  have hcl : s.vm.findClass cls = some ce.cls := by
    have h9 := hO.cls
    rw [hvm] at h9
    exact h9
  have hall : s.sameButNew ({ U with vm := s.vm } : State) locs mc ms := by
    subst hA
    obtain ⟨e1, e2⟩ := hsame
    rw [State.setFrames_setFrames] at e1
    have h2 : (T.setVm s.vm).sameButNew ({ U with vm := s.vm } : State) [] (0 + 1) (0 + 6) := ⟨e1, e2⟩
    have h3 := X.same.trans h2
    rw [List.append_nil] at h3
    exact h3.mono hc hs
  refine ⟨U, ?_, .threw T.heap.size, hrun, hend, Or.inr ⟨T.heap.size, rfl, cls, ce, locs, hx U hWs.alike f1 (fun q hq => f2 q hq (fun z hz => nomatch hz)), hce, hO.vm, hcl, hWs, hall, hf⟩⟩
  refine st1 _ ?_
  show Steps p.tables e below (T1.setTop { method := m, pc := pc + 3, locals := ls, stack := .ref T.heap.size :: rest, locked := none }) _
  jvm_step X₁.here [X₁.here.top, hexec, d3', Value.category]
  exact hsteps
/-- 'throw new E("text")': new; dup; ldc; invokespecial; athrow -/
theorem vx_throwS {cc : ByteArray} {pc : Nat} (hexec : p.tables.exec = Jvm.exec) (hb : c.code = cc) (hl : l.stackTraces = false) {own cls text : String} {names : List String} {ik is ic mc ms sa : Nat} {A : Nat → Prop}
    (hown : s.vm.findClass own = some m.cls) (hcls : Bundle.fit cls = true) (hnames : ∀ n ∈ names, Bundle.fit n = true)
    (hk : (Cond.classLink own ik cls).before args s = true) (hini : (Cond.initialized cls).before args s = true) (hstr : vk_R own is text sa s) (hat : ∀ w ∈ vx_atS own ic cls names, w.before args s = true)
    (hgood : ∀ w ∈ Cond.classLink own ik cls :: Cond.initialized cls :: vx_atS own ic cls names, vx_ot w = true)
    (hU : vx_Zq Bundle.tN "UNASSIGNED_STACK" Bundle.steD A s s.heap) (hN : vx_Zq Bundle.tN "SUPPRESSED_SENTINEL" Bundle.listD A s s.heap) (hS : va_S A s.heap H locs) (hsize : ls.size = c.maxLocals)
    (d0 : decode cc pc = .ok (.new ik, 3)) (d3 : decode cc (pc + 3) = .ok (.dup, 1)) (d4 : decode cc (pc + 4) = .ok (.ldc is, 2)) (d6 : decode cc (pc + 6) = .ok (.invokespecial ic, 3)) (d9 : decode cc (pc + 9) = .ok (.athrow, 1))
    (hout : ∀ x ∈ c.exceptionTable.toList, covers x (pc + 9) = false)
    (hRframes : names.length + 3 < R.frames) (hRlocals : (rest.map fun v => v.category).sum + (13 * (names.length + 1) + 43) ≤ R.locals) (hRcells : cells + 1 ≤ R.cells) (hRslots : slots + 6 ≤ R.slots) (hlocks : meth.locks = false)
    (hx : ∀ t : State, s.vm.Alike t.vm → H.size ≤ t.heap.size → (∀ q : Nat, q < H.size → t.heap[q]? = H[q]?) → XC cls s t)
    (hf : ∀ z ∈ locs, free z.base) (hc : cells + 1 ≤ mc) (hs : slots + 6 ≤ ms) :
    W p l e R s m args below meth c H locs cells slots (vx_MQ below Qc XC args s mc ms free) (F0 m pc ls rest) := by
  intro T hT X
  have htr : e.platform.stackTraces = false := (show e.platform.stackTraces = l.stackTraces by rw [X.admits.platform]).trans hl
  have Y := vx_rebase X (R' := { frames := R.frames, locals := R.locals, cells := 1, slots := 6 }) (Nat.le_refl _) (Nat.le_refl _) hRcells hRslots
  obtain ⟨s', hA⟩ : ∃ z, z = (T.setVm s.vm).setFrames (.invoking m args :: below) := ⟨_, rfl⟩
  rw [← hA] at Y
  have hvm : s'.vm = s.vm := by rw [hA]; rfl
  have hhp : s'.heap = H := by rw [hA]; exact hT
  have hW0 : s.WarmedH s'.vm := by rw [hvm]; exact State.WarmedH.refl s
  have hat' : ∀ w ∈ vx_atS own ic cls names, w.before args s' = true := fun w hw => vx_ot_at hW0 hvm.symm (hgood w (List.mem_cons_of_mem _ (List.mem_cons_of_mem _ hw))) (hat w hw)
  have hk' : (Cond.classLink own ik cls).before args s' = true := vx_ot_at hW0 hvm.symm (hgood _ List.mem_cons_self) hk
  have hini' : (Cond.initialized cls).before args s' = true := vx_ot_at hW0 hvm.symm (hgood _ (List.mem_cons_of_mem _ List.mem_cons_self)) hini
  have hU' : vx_Zq Bundle.tN "UNASSIGNED_STACK" Bundle.steD A s' s'.heap := by rw [hhp]; exact vx_Zq.moved hW0.alike (hU.kept hS.2.1)
  have hN' : vx_Zq Bundle.tN "SUPPRESSED_SENTINEL" Bundle.listD A s' s'.heap := by rw [hhp]; exact vx_Zq.moved hW0.alike (hN.kept hS.2.1)
  have h : ∀ w ∈ Bundle.ownAtoms own ic cls names, w.before args s' = true := vx_own hat' (vx_isRefq hU'.1) (vx_isRefq hN'.1) hU'.2.word hN'.2.word
  have hown' : s'.vm.findClass own = some m.cls := by rw [hvm]; exact hown
  have hins : (Cond.instantiable cls 6).before args s' = true := h _ (by simp [Bundle.ownAtoms])
  obtain ⟨vm₁, cX, kX, hfX, hkX, -, -, X₁, st1⟩ := Y.newCold hexec (own := own) (C := cls) (index := ik) (n := 6) hown' hk' hins hini'
    (g := F0 m pc ls rest) rfl (by rw [hb]; exact d0) (Nat.le_refl _) (Nat.le_refl _)
  generalize hT1 : (T.setVm vm₁).pushCell { cls := cX, slots := kX.instanceTypes.map defaultValue, vm := .none } = T1 at X₁ st1
  have hcat : (Value.ref T.heap.size).category = 1 := rfl
  have hcellA : T1.heap[T.heap.size]? = some (freshCell cX kX) := by rw [← hT1]; exact State.heap_pushCell_size _ _
  have d3' : decode c.code (pc + 3) = .ok (.dup, 1) := by rw [hb]; exact d3
  have d4' : decode c.code (pc + 4) = .ok (.ldc is, 2) := by rw [hb]; exact d4
  have hstr' : vk_R own is text sa s' := vk_R.warm hW0 hstr
  obtain ⟨U, hsteps, hrun, hend, hW, hsame, ce, hce, hO⟩ := X₁.ctorThrowS hexec htr (own := own) (cls := cls) (names := names) (ic := ic) hown' hcls hnames h (fun x hx => nomatch hx) hfX hkX hcellA (by rw [hhp, hT]; exact Nat.le_refl _) (msg := .ref sa) rfl
    (g := { method := m, pc := pc + 6, locals := ls, stack := .ref sa :: .ref T.heap.size :: .ref T.heap.size :: rest, locked := none }) rfl hsize rfl rfl (rest := rest) rfl
    (by rw [hb]; exact d6) (by rw [hb]; exact d9) hout hRframes (by simp only [List.map_cons, List.sum_cons, hcat]; omega) hlocks
  obtain ⟨f1, f2⟩ := vx_frame hsame
  rw [hhp] at f1 f2
  have hWs : s.WarmedH U.vm := State.WarmedH.trans hW0 hW
  have hcl : s.vm.findClass cls = some ce.cls := by
    have h9 := hO.cls
    rw [hvm] at h9
    exact h9
  have hall : s.sameButNew ({ U with vm := s.vm } : State) locs mc ms := by
    subst hA
    obtain ⟨e1, e2⟩ := hsame
    rw [State.setFrames_setFrames] at e1
    have h2 : (T.setVm s.vm).sameButNew ({ U with vm := s.vm } : State) [] (0 + 1) (0 + 6) := ⟨e1, e2⟩
    have h3 := X.same.trans h2
    rw [List.append_nil] at h3
    exact h3.mono hc hs
  refine ⟨U, ?_, .threw T.heap.size, hrun, hend, Or.inr ⟨T.heap.size, rfl, cls, ce, locs, hx U hWs.alike f1 (fun q hq => f2 q hq (fun z hz => nomatch hz)), hce, hO.vm, hcl, hWs, hall, hf⟩⟩
  refine st1 _ ?_
  show Steps p.tables e below (T1.setTop { method := m, pc := pc + 3, locals := ls, stack := .ref T.heap.size :: rest, locked := none }) _
  jvm_step X₁.here [X₁.here.top, hexec, d3', Value.category]
  exact X₁.ldcString hexec (own := own) (text := text) (index := is) (a := sa) hown' hstr'.1 hstr'.2
    (g := { method := m, pc := pc + 4, locals := ls, stack := .ref T.heap.size :: .ref T.heap.size :: rest, locked := none }) rfl d4' _ hsteps
/-- 'throw new E("text")', the text by a wide index -/
theorem vx_throwSW {cc : ByteArray} {pc : Nat} (hexec : p.tables.exec = Jvm.exec) (hb : c.code = cc) (hl : l.stackTraces = false) {own cls text : String} {names : List String} {ik is ic mc ms sa : Nat} {A : Nat → Prop}
    (hown : s.vm.findClass own = some m.cls) (hcls : Bundle.fit cls = true) (hnames : ∀ n ∈ names, Bundle.fit n = true)
    (hk : (Cond.classLink own ik cls).before args s = true) (hini : (Cond.initialized cls).before args s = true) (hstr : vk_R own is text sa s) (hat : ∀ w ∈ vx_atS own ic cls names, w.before args s = true)
    (hgood : ∀ w ∈ Cond.classLink own ik cls :: Cond.initialized cls :: vx_atS own ic cls names, vx_ot w = true)
    (hU : vx_Zq Bundle.tN "UNASSIGNED_STACK" Bundle.steD A s s.heap) (hN : vx_Zq Bundle.tN "SUPPRESSED_SENTINEL" Bundle.listD A s s.heap) (hS : va_S A s.heap H locs) (hsize : ls.size = c.maxLocals)
    (d0 : decode cc pc = .ok (.new ik, 3)) (d3 : decode cc (pc + 3) = .ok (.dup, 1)) (d4 : decode cc (pc + 4) = .ok (.ldc_w is, 3)) (d7 : decode cc (pc + 7) = .ok (.invokespecial ic, 3)) (d10 : decode cc (pc + 10) = .ok (.athrow, 1))
    (hout : ∀ x ∈ c.exceptionTable.toList, covers x (pc + 10) = false)
    (hRframes : names.length + 3 < R.frames) (hRlocals : (rest.map fun v => v.category).sum + (13 * (names.length + 1) + 43) ≤ R.locals) (hRcells : cells + 1 ≤ R.cells) (hRslots : slots + 6 ≤ R.slots) (hlocks : meth.locks = false)
    (hx : ∀ t : State, s.vm.Alike t.vm → H.size ≤ t.heap.size → (∀ q : Nat, q < H.size → t.heap[q]? = H[q]?) → XC cls s t)
    (hf : ∀ z ∈ locs, free z.base) (hc : cells + 1 ≤ mc) (hs : slots + 6 ≤ ms) :
    W p l e R s m args below meth c H locs cells slots (vx_MQ below Qc XC args s mc ms free) (F0 m pc ls rest) := by
  intro T hT X
  have htr : e.platform.stackTraces = false := (show e.platform.stackTraces = l.stackTraces by rw [X.admits.platform]).trans hl
  have Y := vx_rebase X (R' := { frames := R.frames, locals := R.locals, cells := 1, slots := 6 }) (Nat.le_refl _) (Nat.le_refl _) hRcells hRslots
  obtain ⟨s', hA⟩ : ∃ z, z = (T.setVm s.vm).setFrames (.invoking m args :: below) := ⟨_, rfl⟩
  rw [← hA] at Y
  have hvm : s'.vm = s.vm := by rw [hA]; rfl
  have hhp : s'.heap = H := by rw [hA]; exact hT
  have hW0 : s.WarmedH s'.vm := by rw [hvm]; exact State.WarmedH.refl s
  have hat' : ∀ w ∈ vx_atS own ic cls names, w.before args s' = true := fun w hw => vx_ot_at hW0 hvm.symm (hgood w (List.mem_cons_of_mem _ (List.mem_cons_of_mem _ hw))) (hat w hw)
  have hk' : (Cond.classLink own ik cls).before args s' = true := vx_ot_at hW0 hvm.symm (hgood _ List.mem_cons_self) hk
  have hini' : (Cond.initialized cls).before args s' = true := vx_ot_at hW0 hvm.symm (hgood _ (List.mem_cons_of_mem _ List.mem_cons_self)) hini
  have hU' : vx_Zq Bundle.tN "UNASSIGNED_STACK" Bundle.steD A s' s'.heap := by rw [hhp]; exact vx_Zq.moved hW0.alike (hU.kept hS.2.1)
  have hN' : vx_Zq Bundle.tN "SUPPRESSED_SENTINEL" Bundle.listD A s' s'.heap := by rw [hhp]; exact vx_Zq.moved hW0.alike (hN.kept hS.2.1)
  have h : ∀ w ∈ Bundle.ownAtoms own ic cls names, w.before args s' = true := vx_own hat' (vx_isRefq hU'.1) (vx_isRefq hN'.1) hU'.2.word hN'.2.word
  have hown' : s'.vm.findClass own = some m.cls := by rw [hvm]; exact hown
  have hins : (Cond.instantiable cls 6).before args s' = true := h _ (by simp [Bundle.ownAtoms])
  obtain ⟨vm₁, cX, kX, hfX, hkX, -, -, X₁, st1⟩ := Y.newCold hexec (own := own) (C := cls) (index := ik) (n := 6) hown' hk' hins hini'
    (g := F0 m pc ls rest) rfl (by rw [hb]; exact d0) (Nat.le_refl _) (Nat.le_refl _)
  generalize hT1 : (T.setVm vm₁).pushCell { cls := cX, slots := kX.instanceTypes.map defaultValue, vm := .none } = T1 at X₁ st1
  have hcat : (Value.ref T.heap.size).category = 1 := rfl
  have hcellA : T1.heap[T.heap.size]? = some (freshCell cX kX) := by rw [← hT1]; exact State.heap_pushCell_size _ _
  have d3' : decode c.code (pc + 3) = .ok (.dup, 1) := by rw [hb]; exact d3
  have d4' : decode c.code (pc + 4) = .ok (.ldc_w is, 3) := by rw [hb]; exact d4
  have hstr' : vk_R own is text sa s' := vk_R.warm hW0 hstr
  obtain ⟨U, hsteps, hrun, hend, hW, hsame, ce, hce, hO⟩ := X₁.ctorThrowS hexec htr (own := own) (cls := cls) (names := names) (ic := ic) hown' hcls hnames h (fun x hx => nomatch hx) hfX hkX hcellA (by rw [hhp, hT]; exact Nat.le_refl _) (msg := .ref sa) rfl
    (g := { method := m, pc := pc + 7, locals := ls, stack := .ref sa :: .ref T.heap.size :: .ref T.heap.size :: rest, locked := none }) rfl hsize rfl rfl (rest := rest) rfl
    (by rw [hb]; exact d7) (by rw [hb]; exact d10) hout hRframes (by simp only [List.map_cons, List.sum_cons, hcat]; omega) hlocks
  obtain ⟨f1, f2⟩ := vx_frame hsame
  rw [hhp] at f1 f2
  have hWs : s.WarmedH U.vm := State.WarmedH.trans hW0 hW
  have hcl : s.vm.findClass cls = some ce.cls := by
    have h9 := hO.cls
    rw [hvm] at h9
    exact h9
  have hall : s.sameButNew ({ U with vm := s.vm } : State) locs mc ms := by
    subst hA
    obtain ⟨e1, e2⟩ := hsame
    rw [State.setFrames_setFrames] at e1
    have h2 : (T.setVm s.vm).sameButNew ({ U with vm := s.vm } : State) [] (0 + 1) (0 + 6) := ⟨e1, e2⟩
    have h3 := X.same.trans h2
    rw [List.append_nil] at h3
    exact h3.mono hc hs
  refine ⟨U, ?_, .threw T.heap.size, hrun, hend, Or.inr ⟨T.heap.size, rfl, cls, ce, locs, hx U hWs.alike f1 (fun q hq => f2 q hq (fun z hz => nomatch hz)), hce, hO.vm, hcl, hWs, hall, hf⟩⟩
  refine st1 _ ?_
  show Steps p.tables e below (T1.setTop { method := m, pc := pc + 3, locals := ls, stack := .ref T.heap.size :: rest, locked := none }) _
  jvm_step X₁.here [X₁.here.top, hexec, d3', Value.category]
  exact X₁.ldcStringW hexec (own := own) (text := text) (index := is) (a := sa) hown' hstr'.1 hstr'.2
    (g := { method := m, pc := pc + 4, locals := ls, stack := .ref T.heap.size :: .ref T.heap.size :: rest, locked := none }) rfl d4' _ hsteps
end Ends
section Bodies
variable {l : Launch}
theorem vx_ofW {y : MethodName} {ws ws' : List Cond} {rm : Room} {Pc : Array Value → State → Prop} {Qc : Array Value → State → Outcome → State → Prop} {XC : String → State → State → Prop} {mc ms : Nat} {free : Addr → Prop} {cc : ByteArray} {maxL : Nat} {ret : Option FieldType}
    (hy : plainName y.cls = true) (hw : ws = Cond.code y cc maxL ret :: ws')
    (body : ∀ p e s m args below meth c s₁, BodyLoose p l y (headSpec ws rm) cc maxL ret e s m args below meth c s₁ → c.maxLocals = maxL → (∀ x ∈ c.exceptionTable.toList, False) → Pc args s →
      W p l e (headSpec ws rm).room s m args below meth c s.heap [] 0 0 (vx_MQ below Qc XC args s mc ms free) (entryFrame m args maxL)) : vx_Met l y ws rm Pc Qc XC mc ms free := by
  refine MetFree.of_bodyS (code := cc) (maxLocals := maxL) (ret := ret) hy ?_ ?_
  · intro args s m h hn
    obtain ⟨meth, c, h1, h2, h3, h4, h5, h6, -, -⟩ := Cond.code_spec hn (atoms_spec (ws := ws) h _ (by rw [hw]; exact List.mem_cons_self))
    exact ⟨meth, c, h1, h2, h3, h4, h5, h6⟩
  · intro p e s m args below meth c s₁ B hml hP _
    have hh0 : s₁.heap = s.heap := by rw [B.state]; rfl
    have ht : ∀ x ∈ c.exceptionTable.toList, False := by
      obtain ⟨meth9, c9, h1, h2, -, -, -, -, h7, -⟩ := Cond.code_spec B.named (atoms_spec (ws := ws) B.pre _ (by rw [hw]; exact List.mem_cons_self))
      cases Option.some.inj (h1.symm.trans B.method)
      cases Option.some.inj (h2.symm.trans (Stand.of_body B).code)
      intro x hx
      rw [Array.isEmpty_iff.mp h7] at hx
      cases hx
    obtain ⟨t, a1, o, b1, b2, b3⟩ := body p e s m args below meth c s₁ B hml ht hP s₁ hh0 (Stand.of_body B)
    exact ⟨t, o, a1, b1, b2, b3⟩
/-- the table of a body with handlers -/
theorem vx_table {p : Program} {x y : MethodName} {S : Spec} {cc bytes : ByteArray} {maxL maxL' : Nat} {ret ret' : Option FieldType} {e : Env} {s s₁ : State} {m : MethodId} {args : Array Value} {below : List Frame} {meth : Method} {c : Code} {hh : List (Nat × Nat × Nat × Nat)}
    (B : BodyLoose p l y S cc maxL ret e s m args below meth c s₁) (h : (Cond.codeWith y bytes maxL' ret' hh).before args s = true) : c.exceptionTable.toList = tableOf hh := by
  obtain ⟨m9, meth9, c9, hn9, h1, h2, -, -, h6, -⟩ := Cond.codeWith_spec h
  cases Option.some.inj (hn9.symm.trans B.named)
  cases Option.some.inj (h1.symm.trans B.method)
  cases Option.some.inj (h2.symm.trans (Stand.of_body B).code)
  rw [← h6, table_eq]
end Bodies
end VXA
/-! ===== END ===== -/
/-! ===== BEGIN a static call of a method with an exception table ===== -/
section VXS
variable {p : Program} {l : Launch} {e : Env} {R : Room} {s : State} {m : MethodId} {args : Array Value} {below : List Frame} {meth : Method} {c : Code} {T : State} {H : Heap} {locs : List Loc} {cells slots : Nat}
abbrev vx_CSW (R : Room) (s : State) (args : Array Value) (own : String) (index : Nat) (y : MethodName) (bytes : ByteArray) (maxL : Nat) (ret : Option FieldType) (hh : List (Nat × Nat × Nat × Nat)) (ws : List Cond) (rm : Room) (mc ms n : Nat) : Prop :=
  (rm.cells = mc ∧ rm.slots = ms ∧ rm.frames + 1 ≤ R.frames ∧ 8 + (maxL + 11) + rm.locals ≤ R.locals ∧ (∀ w ∈ ws, ∀ (a' : Array Value) (U : State), s.WarmedH U.vm → w.before a' U = true) ∧ Cond.codeWith y bytes maxL ret hh ∈ ws) ∧
  (Cond.codeWith y bytes maxL ret hh).before args s = true ∧ (Cond.initialized y.cls).before args s = true ∧ (y.cls ≠ "java/lang/invoke/MethodHandle" ∧ y.cls ≠ "java/lang/invoke/VarHandle") ∧
  (∀ sig, parseMethodDescriptor y.desc = some sig → n = sig.parameters.length) ∧ (Cond.methodLink own index y).before args s = true ∧ (Cond.static y).before args s = true
theorem vx_cwSW {own : String} {index maxL mc ms : Nat} {y : MethodName} {bytes : ByteArray} {ret : Option FieldType} {hh : List (Nat × Nat × Nat × Nat)} {Ts ws ws' : List Cond} {rm : Room} (n : Nat) (ht : ∀ w ∈ Ts, w.before args s = true) (hT : GoodIn Ts (va_wsS own index y ws)) (hw : ws = Cond.codeWith y bytes maxL ret hh :: ws') (hrc : rm.cells = mc) (hrs : rm.slots = ms)
    (hd : y.cls ≠ "java/lang/invoke/MethodHandle" ∧ y.cls ≠ "java/lang/invoke/VarHandle" ∧ (parseMethodDescriptor y.desc).map (fun d => d.parameters.length) = some n) (hR : rm.frames + 1 ≤ R.frames ∧ 8 + (maxL + 11) + rm.locals ≤ R.locals) :
    vx_CSW R s args own index y bytes maxL ret hh ws rm mc ms n := by
  have ok : ∀ w ∈ va_wsS own index y ws, w.before args s = true := fun w h => ht w (hT w h).1
  have hG : GoodIn Ts ws := fun w h => hT w (by unfold va_wsS; exact List.mem_append_right _ h)
  have hc : Cond.codeWith y bytes maxL ret hh ∈ ws := by rw [hw]; exact List.mem_cons_self
  refine ⟨⟨hrc, hrs, hR.1, hR.2, pay_in ht hG, hc⟩, ht _ (hG _ hc).1, ok _ (by simp [va_wsS]), ⟨hd.1, hd.2.1⟩, fun sig h => ?_, ok _ (by simp [va_wsS]), ok _ (by simp [va_wsS])⟩
  have h2 := hd.2.2
  rw [h] at h2
  exact (Option.some.inj h2).symm
theorem vx_callSW (X : Stand p l e R s m args below meth c T locs cells slots) (hexec : p.tables.exec = Jvm.exec) {own : String} {index : Nat} {y : MethodName} {bytes : ByteArray} {maxL : Nat} {ret : Option FieldType} {hh : List (Nat × Nat × Nat × Nat)}
    (hown : s.vm.findClass own = some m.cls) (hlink : (Cond.methodLink own index y).before args s = true) (hstat : (Cond.static y).before args s = true) (hinit : (Cond.initialized y.cls).before args s = true)
    (hcode : (Cond.codeWith y bytes maxL ret hh).before args s = true) (hy : y.cls ≠ "java/lang/invoke/MethodHandle" ∧ y.cls ≠ "java/lang/invoke/VarHandle")
    {W9 : Nat} {Pre : Pt → Array Value → Prop} {Post : Pt → Array Value → Option Value → Pt → Prop} (hK : Back l R p e below s args y 3 W9 Pre Post)
    {g : JFrame} (hg : g.method = m) (hsize : g.locals.size = c.maxLocals) {argsL rest : List Value} (hlen : ∀ sig, parseMethodDescriptor y.desc = some sig → argsL.length = sig.parameters.length)
    (hstack : g.stack = argsL.reverse ++ rest) (hW : 2 * g.monitorRoom + (rest.map fun v => v.category).sum ≤ W9) (hdg : decode c.code g.pc = .ok (.invokestatic index, 3))
    (hpre : ∀ vm₁, s.WarmedH vm₁ → Pre ⟨T.setVm vm₁, locs, cells, slots⟩ argsL.toArray) :
    ∃ (v : Option Value) (vm₁ : Vm) (B : Pt), s.WarmedH vm₁ ∧ Stand p l e R s m args below meth c B.U B.locs B.cells B.slots ∧ Post ⟨T.setVm vm₁, locs, cells, slots⟩ argsL.toArray v B ∧
      ∀ target, Steps p.tables e below (B.U.setTop { g with pc := g.pc + 3, stack := v.toList ++ rest }) target → Steps p.tables e below (T.setTop g) target := by
  obtain ⟨mk, methM, cM, hnamed, hmethM, -, -, -, -, -, -, hsigM⟩ := Cond.codeWith_spec hcode
  have hstatic : methM.isStatic = true := Cond.static_spec hnamed hmethM hstat
  obtain ⟨kP, hkP, -⟩ := className_of_methodNamed hnamed
  have hinitP : kP.init = .initialized := Cond.initialized_spec (findClass_of_methodNamed hnamed) hkP hinit
  obtain ⟨vm₁, X₁, hstep₁⟩ := X.invokestatic hexec hown hlink hnamed hmethM hstatic hkP hinitP hy (g := g) hg (argsL := argsL) (rest := rest) (hlen _ hsigM) hstack hdg
  obtain ⟨v, B, X', hpost, hsteps⟩ := hK m meth c ⟨T.setVm vm₁, locs, cells, slots⟩ { g with stack := rest } (.invokestatic index) mk argsL.toArray X₁ hg hsize hdg hW (X₁.named hnamed) (hpre vm₁ X₁.warmed)
  exact ⟨v, vm₁, B, X₁.warmed, X', hpost, fun target h => hstep₁ _ fun acts => by rw [doInvoke_state]; exact hsteps.trans h⟩
theorem vx_runSW {y : MethodName} {bytes cc : ByteArray} {maxL nL mc ms n index : Nat} {ret : Option FieldType} {hh : List (Nat × Nat × Nat × Nat)} {ws : List Cond} {rm : Room} {Pc : Array Value → State → Prop} {Qc : Array Value → State → Outcome → State → Prop} {free : Addr → Prop} {Ts : List Cond} {own : String} {As rest : List Value} {g : JFrame}
    (S : CallFix p m c cc nL s args Ts own) (hM : Met l y ws rm Pc Qc mc ms free) (cw : vx_CSW R s args own index y bytes maxL ret hh ws rm mc ms n) (hp : PreS s H Pc As)
    (hg : g.method = m) (hn : As.length = n) (hsize : g.locals.size = nL) (hstack : g.stack = As.reverse ++ rest) (hW : 2 * g.monitorRoom + (rest.map fun v => v.category).sum ≤ 8) (hdg : decode cc g.pc = .ok (.invokestatic index, 3)) (hf : cells + mc ≤ R.cells ∧ slots + ms ≤ R.slots) :
    va_Run p l e R s m args below meth c H locs cells slots mc ms g rest (Qc As.toArray) (free) := by
  obtain ⟨⟨hrc, hrs, hfr, hlo, hws, hcw⟩, hcode, hini, hy, hlen, hl, hstt⟩ := cw
  have hK : Back l R p e below s args y 3 8 (PreOf R mc ms Pc) (PostOf Qc mc ms free) := va_backW (hh := hh) (bytes := bytes) (maxL := maxL) (ret := ret) hM hp.1 hrc hrs hfr hlo hws hcw (fun a' U hW => word_at hW (Or.inl (by first | rfl | simp [Cond.onTables, Cond.keeps, Cond.steady])) hini)
  obtain ⟨hx, hb, hml, ho, -⟩ := S
  intro T hT X
  obtain ⟨v, vm₁, ⟨U', l2, c2, s2⟩, hW₁, X', ⟨g', mk, t, L, e1, e2, hq, h1, hL, h2, h3⟩, st⟩ := vx_callSW X hx (hh := hh) (bytes := bytes) (maxL := maxL) (ret := ret) ho hl hstt hini hcode hy hK hg (hsize.trans hml.symm) (argsL := As) (rest := rest) (fun sig h => hn.trans (hlen sig h)) hstack hW (by rw [hb]; exact hdg)
    (fun vm₁ hW₁ => ⟨hf.1, hf.2, hp.2 (T.setVm vm₁) hT hW₁⟩)
  dsimp only [Pt.U, Pt.locs, Pt.cells, Pt.slots] at X' e1 e2 h1 h2 h3 st
  subst h1; subst h2; subst h3
  exact ⟨v, (T.setVm vm₁).calling g' mk As.toArray, t, U', L, hT, X', hL, e1, e2, hq, st⟩
/-- not caught here, past rows that name other classes: it goes on to the caller -/
theorem vx_outP {p : Program} {l : Launch} {e : Env} {R : Room} {s : State} {m : MethodId} {args : Array Value} {below : List Frame} {meth : Method} {c : Code} {H : Heap} {locs : List Loc} {cells slots : Nat} {free : Addr → Prop} {ls : Array Slot} {rest : List Value} {Qc : Array Value → State → Outcome → State → Prop} {XC : String → State → State → Prop}
    {pc : Nat} {own E : String} {ce : Cell} {q : Addr} {mc ms : Nat} (hown : s.vm.findClass own = some m.cls) (hlocks : meth.locks = false)
    (hpass : ∀ z ∈ c.exceptionTable.toList, covers z pc = false ∨ (z.catchType ≠ 0 ∧ ∃ nm : String, (Cond.classLink own z.catchType nm).before args s = true ∧ va_Nc E nm s)) (hcell : H[q]? = some ce) (hv : ce.vm = .none) (hcl : s.vm.findClass E = some ce.cls)
    (hx : ∀ t : State, t.heap = H → s.vm.Alike t.vm → XC E s t) (hf : ∀ z ∈ locs, free z.base) (hc : cells ≤ mc) (hs : slots ≤ ms) :
    vx_W p l e R s m args below meth c H locs cells slots (vx_MQ below Qc XC args s mc ms free) (F0 m pc ls rest) q := by
  intro T hT X
  have hpl : e.platform.magicAccessors = ({} : Platform).magicAccessors := by rw [X.admits.platform]
  obtain ⟨vm', hW', X', st⟩ := X.outThrough hlocks q (g := F0 m pc ls rest) rfl rfl rfl (cell := ce) (by rw [hT]; exact hcell) (by rw [hv]; rfl)
    (by obtain ⟨k9, h9, -⟩ := Vm.findClass_spec hcl; exact ⟨k9, h9⟩) (fun z hz => by
      rcases hpass z hz with h | ⟨hz0, nm, hl1, hn1⟩
      · exact Or.inl h
      · obtain ⟨c6, hc6, hcl6⟩ := Cond.classLink_spec hown hl1 e.platform hpl
        obtain ⟨a8, b8, h1, h2, h3⟩ := hn1
        cases Option.some.inj (h1.symm.trans hcl)
        cases Option.some.inj (h2.symm.trans hc6)
        exact Or.inr ⟨hz0, _, hcl6, h3⟩)
  obtain ⟨g₀, hfr⟩ := X'.frames_eq
  have hcell9 : ((T.setVm vm').setFrames (.throwing q :: below)).heap[q]? = some ce := by
    show T.heap[q]? = some ce
    rw [hT]; exact hcell
  have hend : Ended ((T.setVm vm').setFrames (.throwing q :: below)) below (.threw q) := State.frames_setFrames _ (State.cur_lt_of_frames hfr)
  refine ⟨(T.setVm vm').setFrames (.throwing q :: below), ?_, .threw q, X'.here.running, hend, Or.inr ⟨q, rfl, E, ce, locs, hx _ hT (X'.ends _).1.alike, hcell9, hv, hcl, (X'.ends _).1, (X'.ends _).2.mono hc hs, hf⟩⟩
  rw [X.pushThrowing_eq]
  exact st
/-- a thing of a world lies in the heap -/
theorem vx_lt {D : va_G} {cl : List vw_C} {ws : va_W} {H1 : Heap} (h : va_P D cl ws H1) {k : Nat} {q : Nat × va_E} (hk : ws[k]? = some q) : q.1 < H1.size := (h k q hk).lt
end VXS
/-! ===== END ===== -/
/-! ===== BEGIN methods with a table of their own: called by a name, returning or throwing ===== -/
section VXH
/-! vx_backW, vx_callVX, vx_callSX, vx_callVW, vx_runVW, vx_runVX, vx_runSX, vx_ofWH follow the same proofs as their sisters above (Free/Laws.lean, Shelf42/LK1.lean); vx_outP calls Shelf42/NT130.lean (outThrough). -/
section
variable {l : Launch} {R : Room} {p : Program} {e : Env} {below : List Frame} {s : State} {sargs : Array Value} {y : MethodName} {len W9 : Nat}
theorem vx_backW {ws : List Cond} {rm : Room} {Pc : Array Value → State → Prop} {Qc : Array Value → State → Outcome → State → Prop} {XC : String → State → State → Prop} {mc ms : Nat} {free : Addr → Prop} {bytes : ByteArray} {maxL : Nat} {ret : Option FieldType} {hh : List (Nat × Nat × Nat × Nat)}
    (hM : vx_Met l y ws rm Pc Qc XC mc ms free) (hblind : FrameBlind Pc) (hrc : rm.cells = mc) (hrs : rm.slots = ms)
    (hframes : rm.frames + 1 ≤ R.frames) (hlocals : W9 + (maxL + 11) + rm.locals ≤ R.locals)
    (hws : ∀ w ∈ ws, ∀ a' U, s.WarmedH U.vm → w.before a' U = true) (hcode : Cond.codeWith y bytes maxL ret hh ∈ ws) (hinit : ∀ a' U, s.WarmedH U.vm → (Cond.initialized y.cls).before a' U = true) :
    vx_Back l R p e below s sargs y len W9 (PreOf R mc ms Pc) (PostOf Qc mc ms free) (vx_Post XC mc ms free) := by
  intro m meth c A g ig mk a X hg hsize hdg hW hn hp
  have h1 : (headSpec ws rm).pre.before a A.U = true := atoms_intro fun w hw => hws w hw _ _ X.warmed
  have h2 : (Cond.codeWith y bytes maxL ret hh).before a A.U = true := hws _ hcode _ _ X.warmed
  have h3 : (Cond.initialized y.cls).before a A.U = true := hinit _ _ X.warmed
  have h4 : A.cells + (headSpec ws rm).room.cells ≤ R.cells := by rw [show (headSpec ws rm).room.cells = mc from hrc]; exact hp.1
  have h5 : A.slots + (headSpec ws rm).room.slots ≤ R.slots := by rw [show (headSpec ws rm).room.slots = ms from hrs]; exact hp.2.1
  have hPc : Pc a (A.U.calling g mk a) := hblind _ _ _ _ hp.2.2
  obtain ⟨U, Ls, c0, s0⟩ := A
  dsimp only [Pt.U, Pt.locs, Pt.cells, Pt.slots] at h1 h2 h3 h4 h5 X hn hPc ⊢
  obtain ⟨m9, methY, cY, hn9, hmY, hcY, -, hlY, -⟩ := Cond.codeWith_spec h2
  cases Option.some.inj (hn9.symm.trans hn)
  obtain ⟨kY, hkY, -⟩ := className_of_methodNamed hn
  have hinitY : kY.init = .initialized := Cond.initialized_spec (findClass_of_methodNamed hn) hkY h3
  have h : At U g.method c below := by rw [hg]; exact X.here
  have hlocals9 : W9 + (maxL + 11) + (headSpec ws rm).room.locals ≤ R.locals := hlocals
  have happ : (headSpec ws rm).appliesLoose y e.platform (U.calling g mk a) = true :=
    Spec.appliesLoose_calling (g := g) h hdg hn hkY hinitY
      (X.room_calling (g := g) (R' := (headSpec ws rm).room) hsize hmY hcY hframes (by rw [hlY]; omega) h4 h5) h1
  obtain ⟨mid, hmid⟩ := h.above
  have hfr : (U.setTop g).frames = (.java g :: mid) ++ below := by rw [State.frames_setTop' g h.top, hmid]; rfl
  obtain ⟨o, s₂, hsteps, -, hend, hq⟩ := Steps.callFree hM p X.admits X.cas X.clock (acts := []) hfr happ hPc trivial
  have hq' : vx_Q Qc XC mc ms free a (U.calling g mk a) o s₂ := hq
  rw [State.frames_setTop' g h.top] at hend
  obtain ⟨g₀, hg0⟩ := Option.isSome_iff_exists.mp h.top
  obtain ⟨r, hr⟩ := State.topJava?_eq_some.mp hg0
  have hr' : (({ U with heap := s₂.heap, slotsUsed := s₂.slotsUsed } : State).setVm s₂.vm).frames = .java g₀ :: r := hr
  rcases hq' with ⟨hqc, L, hfe, hL⟩ | ⟨q, rfl, E, ce, L, hx, hce, hcv, hcl, hW₂, hsm, hL⟩
  · obtain ⟨⟨v, rfl⟩, hW₂, e2, q2, q3, q4, q5, q6⟩ := id hfe
    have e3 : s₂ = ({ (U.calling g mk a).setFrames s₂.frames with heap := s₂.heap, slotsUsed := s₂.slotsUsed } : State).setVm s₂.vm := by
      have : s₂ = ({ s₂ with vm := (U.calling g mk a).vm } : State).setVm s₂.vm := rfl
      rw [e2] at this
      exact this
    obtain ⟨c₂, i₂, len₂, hc₂, hd₂, hf₂⟩ := hend
    have hW' : U.WarmedH s₂.vm := hW₂
    have hcc : c₂ = c := by
      have h1 : s₂.code? g.method = U.code? g.method := by
        rw [State.code?_eq, State.code?_eq, hW'.alike.method?]
      exact Option.some.inj (hc₂.symm.trans (h1.trans h.code))
    subst hcc
    have hlen : len₂ = len := by rw [hdg] at hd₂; cases hd₂; rfl
    subst hlen
    have hs₂ : s₂ = (({ U with heap := s₂.heap, slotsUsed := s₂.slotsUsed } : State).setVm s₂.vm).setTop { g with pc := g.pc + len₂, stack := v.toList ++ g.stack } := by
      refine e3.trans ?_
      rw [hf₂, State.calling_eq h.top, State.setFrames_setFrames, State.setTop_of_frames _ hr', hr]
      rfl
    have hsame : U.sameButNew ({ U with heap := s₂.heap, slotsUsed := s₂.slotsUsed } : State) L mc ms := by
      refine ⟨?_, q2, q3, q4, q5, q6⟩
      obtain ⟨t, ht, -⟩ := State.frames_cons hr
      show ({ U with heap := s₂.heap, slotsUsed := s₂.slotsUsed } : State) = { U.setFrames U.frames with heap := s₂.heap, slotsUsed := s₂.slotsUsed }
      rw [State.setFrames_self ht]
    subst hg
    refine Or.inl ⟨v, ⟨(({ U with heap := s₂.heap, slotsUsed := s₂.slotsUsed } : State).setVm s₂.vm), Ls ++ L, c0 + mc, s0 + ms⟩,
      ⟨X.admits, X.cas, X.clock, X.frames, X.room, X.hears, X.method, X.code, (X.here.setHeapUsed s₂.heap s₂.slotsUsed).setVm hW'.alike, X.tail, State.WarmedH.trans X.warmed hW', X.limits, X.bytes, X.same.trans (hsame.setVm s.vm)⟩,
      ⟨g, mk, s₂, L, rfl, rfl, hqc, rfl, hL, rfl, rfl⟩, ?_⟩
    show Steps p.tables e below _ ((({ U with heap := s₂.heap, slotsUsed := s₂.slotsUsed } : State).setVm s₂.vm).setTop { g with pc := g.pc + len₂, stack := v.toList ++ g.stack })
    rw [← hs₂]
    exact hsteps
  · obtain ⟨e2, q2, q3, q4, q5, q6⟩ := id hsm
    have e3 : s₂ = ({ (U.calling g mk a).setFrames s₂.frames with heap := s₂.heap, slotsUsed := s₂.slotsUsed } : State).setVm s₂.vm := by
      have : s₂ = ({ s₂ with vm := (U.calling g mk a).vm } : State).setVm s₂.vm := rfl
      rw [e2] at this
      exact this
    have hf₂ : s₂.frames = .throwing q :: .java g :: U.frames.tail := hend
    have hW' : U.WarmedH s₂.vm := hW₂
    have hs₂ : s₂ = ((({ U with heap := s₂.heap, slotsUsed := s₂.slotsUsed } : State).setVm s₂.vm).setTop g).pushFrame (.throwing q) := by
      refine e3.trans ?_
      rw [hf₂, State.calling_eq h.top, State.setFrames_setFrames, State.pushFrame, State.frames_setTop _ hr', State.setTop_of_frames _ hr', State.setFrames_setFrames, hr]
      rfl
    have hsame : U.sameButNew ({ U with heap := s₂.heap, slotsUsed := s₂.slotsUsed } : State) L mc ms := by
      refine ⟨?_, q2, q3, q4, q5, q6⟩
      obtain ⟨t, ht, -⟩ := State.frames_cons hr
      show ({ U with heap := s₂.heap, slotsUsed := s₂.slotsUsed } : State) = { U.setFrames U.frames with heap := s₂.heap, slotsUsed := s₂.slotsUsed }
      rw [State.setFrames_self ht]
    subst hg
    refine Or.inr ⟨q, ⟨(({ U with heap := s₂.heap, slotsUsed := s₂.slotsUsed } : State).setVm s₂.vm), Ls ++ L, c0 + mc, s0 + ms⟩,
      ⟨X.admits, X.cas, X.clock, X.frames, X.room, X.hears, X.method, X.code, (X.here.setHeapUsed s₂.heap s₂.slotsUsed).setVm hW'.alike, X.tail, State.WarmedH.trans X.warmed hW', X.limits, X.bytes, X.same.trans (hsame.setVm s.vm)⟩,
      ⟨g, mk, s₂, L, E, ce, rfl, rfl, hx, hce, hcv, hcl, rfl, hL, rfl, rfl⟩, ?_⟩
    show Steps p.tables e below _ (((({ U with heap := s₂.heap, slotsUsed := s₂.slotsUsed } : State).setVm s₂.vm).setTop g).pushFrame (.throwing q))
    rw [← hs₂]
    exact hsteps
end
variable {p : Program} {l : Launch} {e : Env} {R : Room} {s : State} {m : MethodId} {args : Array Value} {below : List Frame} {meth : Method} {c : Code} {T : State} {H : Heap} {locs : List Loc} {cells slots : Nat}
theorem vx_callVX (X : Stand p l e R s m args below meth c T locs cells slots) (hexec : p.tables.exec = Jvm.exec) {own C : String} {index : Nat} {y : MethodName} {bytes : ByteArray} {maxL : Nat} {ret : Option FieldType} {hh : List (Nat × Nat × Nat × Nat)}
    (hown : s.vm.findClass own = some m.cls) (hlink : (Cond.methodLink own index y).before args s = true) (hinst : (Cond.instanceMethod y).before args s = true) (hsel : (Cond.selects C y y).before args s = true)
    (hcode : (Cond.codeWith y bytes maxL ret hh).before args s = true) (hy : y.cls ≠ "java/lang/invoke/MethodHandle" ∧ y.cls ≠ "java/lang/invoke/VarHandle")
    {W9 : Nat} {Pre : Pt → Array Value → Prop} {Post : Pt → Array Value → Option Value → Pt → Prop} {PostX : Pt → Array Value → Addr → Pt → Prop} (hK : vx_Back l R p e below s args y 3 W9 Pre Post PostX)
    {b : Addr} {cellB : Cell} (hcell : T.heap[b]? = some cellB) (hobj : cellB.vm.isStatics = false) (hcls : s.vm.findClass C = some cellB.cls)
    {g : JFrame} (hg : g.method = m) (hsize : g.locals.size = c.maxLocals) {argsL rest : List Value} (hlen : ∀ sig, parseMethodDescriptor y.desc = some sig → argsL.length = sig.parameters.length)
    (hstack : g.stack = argsL.reverse ++ .ref b :: rest) (hW : 2 * g.monitorRoom + (rest.map fun v => v.category).sum ≤ W9) (hdg : decode c.code g.pc = .ok (.invokevirtual index, 3))
    (hpre : ∀ vm₁, s.WarmedH vm₁ → Pre ⟨T.setVm vm₁, locs, cells, slots⟩ (Value.ref b :: argsL).toArray) :
    (∃ (v : Option Value) (vm₁ : Vm) (B : Pt), s.WarmedH vm₁ ∧ Stand p l e R s m args below meth c B.U B.locs B.cells B.slots ∧ Post ⟨T.setVm vm₁, locs, cells, slots⟩ (Value.ref b :: argsL).toArray v B ∧
      ∀ target, Steps p.tables e below (B.U.setTop { g with pc := g.pc + 3, stack := v.toList ++ rest }) target → Steps p.tables e below (T.setTop g) target) ∨
    (∃ (q : Addr) (vm₁ : Vm) (B : Pt), s.WarmedH vm₁ ∧ Stand p l e R s m args below meth c B.U B.locs B.cells B.slots ∧ PostX ⟨T.setVm vm₁, locs, cells, slots⟩ (Value.ref b :: argsL).toArray q B ∧
      Steps p.tables e below (T.setTop g) ((B.U.setTop { g with stack := rest }).pushFrame (.throwing q))) := by
  obtain ⟨mk, methM, hnamed, hmethM, hstM, habM⟩ := Cond.instanceMethod_spec hinst
  obtain ⟨m8, methM', cM, hn8, hmethM', -, -, -, -, -, -, hsigM⟩ := Cond.codeWith_spec hcode
  cases Option.some.inj (hn8.symm.trans hnamed)
  cases hmethM.symm.trans hmethM'
  obtain ⟨c2, r2, m2, q1, q2, q3, q4, kP, hkP, hkPi⟩ := Cond.selects_spec hsel
  cases hcls.symm.trans q1
  cases (State.methodFound?_of_named hnamed hy).symm.trans q2
  cases hnamed.symm.trans q3
  have hselP : selectMethod e.platform s.vm cellB.cls mk = .method mk := by rw [Launch.admits_selectMethod X.admits]; exact q4
  obtain ⟨vm₁, X₁, hstep₁⟩ := X.invokevirtual hexec hown hlink hnamed hmethM hstM hkP hkPi hy (a := b) (cell := cellB) hcell
    (fun z h => by rw [h] at hobj; cases hobj) hselP hmethM habM hkP hkPi (g := g) hg (argsL := argsL) (rest := rest) (hlen _ hsigM) hstack hdg
  rcases hK m meth c ⟨T.setVm vm₁, locs, cells, slots⟩ { g with stack := rest } (.invokevirtual index) mk (Value.ref b :: argsL).toArray X₁ hg hsize hdg hW (X₁.named hnamed) (hpre vm₁ X₁.warmed) with ⟨v, B, X', hpost, hsteps⟩ | ⟨q, B, X', hpost, hsteps⟩
  · exact Or.inl ⟨v, vm₁, B, X₁.warmed, X', hpost, fun target h => hstep₁ _ fun acts => by rw [doInvoke_state]; exact hsteps.trans h⟩
  · exact Or.inr ⟨q, vm₁, B, X₁.warmed, X', hpost, hstep₁ _ fun acts => by rw [doInvoke_state]; exact hsteps⟩
theorem vx_callSX (X : Stand p l e R s m args below meth c T locs cells slots) (hexec : p.tables.exec = Jvm.exec) {own : String} {index : Nat} {y : MethodName} {bytes : ByteArray} {maxL : Nat} {ret : Option FieldType} {hh : List (Nat × Nat × Nat × Nat)}
    (hown : s.vm.findClass own = some m.cls) (hlink : (Cond.methodLink own index y).before args s = true) (hstat : (Cond.static y).before args s = true) (hinit : (Cond.initialized y.cls).before args s = true)
    (hcode : (Cond.codeWith y bytes maxL ret hh).before args s = true) (hy : y.cls ≠ "java/lang/invoke/MethodHandle" ∧ y.cls ≠ "java/lang/invoke/VarHandle")
    {W9 : Nat} {Pre : Pt → Array Value → Prop} {Post : Pt → Array Value → Option Value → Pt → Prop} {PostX : Pt → Array Value → Addr → Pt → Prop} (hK : vx_Back l R p e below s args y 3 W9 Pre Post PostX)
    {g : JFrame} (hg : g.method = m) (hsize : g.locals.size = c.maxLocals) {argsL rest : List Value} (hlen : ∀ sig, parseMethodDescriptor y.desc = some sig → argsL.length = sig.parameters.length)
    (hstack : g.stack = argsL.reverse ++ rest) (hW : 2 * g.monitorRoom + (rest.map fun v => v.category).sum ≤ W9) (hdg : decode c.code g.pc = .ok (.invokestatic index, 3))
    (hpre : ∀ vm₁, s.WarmedH vm₁ → Pre ⟨T.setVm vm₁, locs, cells, slots⟩ argsL.toArray) :
    (∃ (v : Option Value) (vm₁ : Vm) (B : Pt), s.WarmedH vm₁ ∧ Stand p l e R s m args below meth c B.U B.locs B.cells B.slots ∧ Post ⟨T.setVm vm₁, locs, cells, slots⟩ argsL.toArray v B ∧
      ∀ target, Steps p.tables e below (B.U.setTop { g with pc := g.pc + 3, stack := v.toList ++ rest }) target → Steps p.tables e below (T.setTop g) target) ∨
    (∃ (q : Addr) (vm₁ : Vm) (B : Pt), s.WarmedH vm₁ ∧ Stand p l e R s m args below meth c B.U B.locs B.cells B.slots ∧ PostX ⟨T.setVm vm₁, locs, cells, slots⟩ argsL.toArray q B ∧
      Steps p.tables e below (T.setTop g) ((B.U.setTop { g with stack := rest }).pushFrame (.throwing q))) := by
  obtain ⟨mk, methM, cM, hnamed, hmethM, -, -, -, -, -, -, hsigM⟩ := Cond.codeWith_spec hcode
  have hstatic : methM.isStatic = true := Cond.static_spec hnamed hmethM hstat
  obtain ⟨kP, hkP, -⟩ := className_of_methodNamed hnamed
  have hinitP : kP.init = .initialized := Cond.initialized_spec (findClass_of_methodNamed hnamed) hkP hinit
  obtain ⟨vm₁, X₁, hstep₁⟩ := X.invokestatic hexec hown hlink hnamed hmethM hstatic hkP hinitP hy (g := g) hg (argsL := argsL) (rest := rest) (hlen _ hsigM) hstack hdg
  rcases hK m meth c ⟨T.setVm vm₁, locs, cells, slots⟩ { g with stack := rest } (.invokestatic index) mk argsL.toArray X₁ hg hsize hdg hW (X₁.named hnamed) (hpre vm₁ X₁.warmed) with ⟨v, B, X', hpost, hsteps⟩ | ⟨q, B, X', hpost, hsteps⟩
  · exact Or.inl ⟨v, vm₁, B, X₁.warmed, X', hpost, fun target h => hstep₁ _ fun acts => by rw [doInvoke_state]; exact hsteps.trans h⟩
  · exact Or.inr ⟨q, vm₁, B, X₁.warmed, X', hpost, hstep₁ _ fun acts => by rw [doInvoke_state]; exact hsteps⟩
theorem vx_callVW (X : Stand p l e R s m args below meth c T locs cells slots) (hexec : p.tables.exec = Jvm.exec) {own C : String} {index : Nat} {y : MethodName} {bytes : ByteArray} {maxL : Nat} {ret : Option FieldType} {hh : List (Nat × Nat × Nat × Nat)}
    (hown : s.vm.findClass own = some m.cls) (hlink : (Cond.methodLink own index y).before args s = true) (hinst : (Cond.instanceMethod y).before args s = true) (hsel : (Cond.selects C y y).before args s = true)
    (hcode : (Cond.codeWith y bytes maxL ret hh).before args s = true) (hy : y.cls ≠ "java/lang/invoke/MethodHandle" ∧ y.cls ≠ "java/lang/invoke/VarHandle")
    {W9 : Nat} {Pre : Pt → Array Value → Prop} {Post : Pt → Array Value → Option Value → Pt → Prop} (hK : Back l R p e below s args y 3 W9 Pre Post)
    {b : Addr} {cellB : Cell} (hcell : T.heap[b]? = some cellB) (hobj : cellB.vm.isStatics = false) (hcls : s.vm.findClass C = some cellB.cls)
    {g : JFrame} (hg : g.method = m) (hsize : g.locals.size = c.maxLocals) {argsL rest : List Value} (hlen : ∀ sig, parseMethodDescriptor y.desc = some sig → argsL.length = sig.parameters.length)
    (hstack : g.stack = argsL.reverse ++ .ref b :: rest) (hW : 2 * g.monitorRoom + (rest.map fun v => v.category).sum ≤ W9) (hdg : decode c.code g.pc = .ok (.invokevirtual index, 3))
    (hpre : ∀ vm₁, s.WarmedH vm₁ → Pre ⟨T.setVm vm₁, locs, cells, slots⟩ (Value.ref b :: argsL).toArray) :
    ∃ (v : Option Value) (vm₁ : Vm) (B : Pt), s.WarmedH vm₁ ∧ Stand p l e R s m args below meth c B.U B.locs B.cells B.slots ∧ Post ⟨T.setVm vm₁, locs, cells, slots⟩ (Value.ref b :: argsL).toArray v B ∧
      ∀ target, Steps p.tables e below (B.U.setTop { g with pc := g.pc + 3, stack := v.toList ++ rest }) target → Steps p.tables e below (T.setTop g) target := by
  obtain ⟨mk, methM, hnamed, hmethM, hstM, habM⟩ := Cond.instanceMethod_spec hinst
  obtain ⟨m8, methM', cM, hn8, hmethM', -, -, -, -, -, -, hsigM⟩ := Cond.codeWith_spec hcode
  cases Option.some.inj (hn8.symm.trans hnamed)
  cases hmethM.symm.trans hmethM'
  obtain ⟨c2, r2, m2, q1, q2, q3, q4, kP, hkP, hkPi⟩ := Cond.selects_spec hsel
  cases hcls.symm.trans q1
  cases (State.methodFound?_of_named hnamed hy).symm.trans q2
  cases hnamed.symm.trans q3
  have hselP : selectMethod e.platform s.vm cellB.cls mk = .method mk := by rw [Launch.admits_selectMethod X.admits]; exact q4
  obtain ⟨vm₁, X₁, hstep₁⟩ := X.invokevirtual hexec hown hlink hnamed hmethM hstM hkP hkPi hy (a := b) (cell := cellB) hcell
    (fun z h => by rw [h] at hobj; cases hobj) hselP hmethM habM hkP hkPi (g := g) hg (argsL := argsL) (rest := rest) (hlen _ hsigM) hstack hdg
  obtain ⟨v, B, X', hpost, hsteps⟩ := hK m meth c ⟨T.setVm vm₁, locs, cells, slots⟩ { g with stack := rest } (.invokevirtual index) mk (Value.ref b :: argsL).toArray X₁ hg hsize hdg hW (X₁.named hnamed) (hpre vm₁ X₁.warmed)
  exact ⟨v, vm₁, B, X₁.warmed, X', hpost, fun target h => hstep₁ _ fun acts => by rw [doInvoke_state]; exact hsteps.trans h⟩
abbrev vx_CVW (R : Room) (s : State) (args : Array Value) (own C : String) (index : Nat) (y : MethodName) (bytes : ByteArray) (maxL : Nat) (ret : Option FieldType) (hh : List (Nat × Nat × Nat × Nat)) (ws : List Cond) (rm : Room) (mc ms n : Nat) : Prop :=
  (rm.cells = mc ∧ rm.slots = ms ∧ rm.frames + 1 ≤ R.frames ∧ 8 + (maxL + 11) + rm.locals ≤ R.locals ∧ (∀ w ∈ ws, ∀ (a' : Array Value) (U : State), s.WarmedH U.vm → w.before a' U = true) ∧ Cond.codeWith y bytes maxL ret hh ∈ ws) ∧
  (Cond.codeWith y bytes maxL ret hh).before args s = true ∧ (Cond.initialized y.cls).before args s = true ∧ (y.cls ≠ "java/lang/invoke/MethodHandle" ∧ y.cls ≠ "java/lang/invoke/VarHandle") ∧
  (∀ sig, parseMethodDescriptor y.desc = some sig → n = sig.parameters.length) ∧ (Cond.methodLink own index y).before args s = true ∧ (Cond.instanceMethod y).before args s = true ∧ (Cond.selects C y y).before args s = true
theorem vx_cwVW {own C : String} {index maxL mc ms : Nat} {y : MethodName} {bytes : ByteArray} {ret : Option FieldType} {hh : List (Nat × Nat × Nat × Nat)} {Ts ws ws' : List Cond} {rm : Room} (n : Nat) (ht : ∀ w ∈ Ts, w.before args s = true) (hT : GoodIn Ts (wsV own index C y ws)) (hw : ws = Cond.codeWith y bytes maxL ret hh :: ws') (hrc : rm.cells = mc) (hrs : rm.slots = ms)
    (hd : y.cls = C ∧ y.cls ≠ "java/lang/invoke/MethodHandle" ∧ y.cls ≠ "java/lang/invoke/VarHandle" ∧ (parseMethodDescriptor y.desc).map (fun d => d.parameters.length) = some n) (hR : rm.frames + 1 ≤ R.frames ∧ 8 + (maxL + 11) + rm.locals ≤ R.locals) :
    vx_CVW R s args own C index y bytes maxL ret hh ws rm mc ms n := by
  obtain ⟨hC, hd⟩ := hd
  subst hC
  have ok : ∀ w ∈ wsV own index y.cls y ws, w.before args s = true := fun w h => ht w (hT w h).1
  have hG : GoodIn Ts ws := fun w h => hT w (by unfold wsV; exact List.mem_append_right _ h)
  have hc : Cond.codeWith y bytes maxL ret hh ∈ ws := by rw [hw]; exact List.mem_cons_self
  refine ⟨⟨hrc, hrs, hR.1, hR.2, pay_in ht hG, hc⟩, ht _ (hG _ hc).1, ok _ (by simp [wsV]), ⟨hd.1, hd.2.1⟩, fun sig h => ?_, ok _ (by simp [wsV]), ok _ (by simp [wsV]), ok _ (by simp [wsV])⟩
  have h2 := hd.2.2
  rw [h] at h2
  exact (Option.some.inj h2).symm
theorem vx_runVW {y : MethodName} {bytes cc : ByteArray} {maxL nL mc ms n index : Nat} {ret : Option FieldType} {hh : List (Nat × Nat × Nat × Nat)} {ws : List Cond} {rm : Room} {Pc : Array Value → State → Prop} {Qc : Array Value → State → Outcome → State → Prop} {free : Addr → Prop} {Ts : List Cond} {own C : String} {b : Addr} {As rest : List Value} {g : JFrame}
    (S : CallFix p m c cc nL s args Ts own) (hM : Met l y ws rm Pc Qc mc ms free) (cw : vx_CVW R s args own C index y bytes maxL ret hh ws rm mc ms n) (hp : PreV s H C b Pc As)
    (hg : g.method = m) (hn : As.length = n) (hsize : g.locals.size = nL) (hstack : g.stack = As.reverse ++ .ref b :: rest) (hW : 2 * g.monitorRoom + (rest.map fun v => v.category).sum ≤ 8) (hdg : decode cc g.pc = .ok (.invokevirtual index, 3)) (hf : cells + mc ≤ R.cells ∧ slots + ms ≤ R.slots) :
    va_Run p l e R s m args below meth c H locs cells slots mc ms g rest (Qc (Value.ref b :: As).toArray) free := by
  obtain ⟨⟨hrc, hrs, hfr, hlo, hws, hcw⟩, hcode, hini, hy, hlen, hl, hin, hse⟩ := cw
  have hK : Back l R p e below s args y 3 8 (PreOf R mc ms Pc) (PostOf Qc mc ms free) := va_backW (hh := hh) (bytes := bytes) (maxL := maxL) (ret := ret) hM hp.1 hrc hrs hfr hlo hws hcw (fun a' U hW => word_at hW (Or.inl (by first | rfl | simp [Cond.onTables, Cond.keeps, Cond.steady])) hini)
  obtain ⟨hx, hb, hml, ho, -⟩ := S
  obtain ⟨-, ⟨cellB, hcB, hoB, hclB⟩, hPc⟩ := hp
  intro T hT X
  obtain ⟨v, vm₁, ⟨U', l2, c2, s2⟩, hW₁, X', ⟨g', mk, t, L, e1, e2, hq, h1, hL, h2, h3⟩, st⟩ := vx_callVW X hx (C := C) (hh := hh) (bytes := bytes) (maxL := maxL) (ret := ret) ho hl hin hse hcode hy hK (by rw [hT]; exact hcB) hoB hclB hg (hsize.trans hml.symm) (argsL := As) (rest := rest) (fun sig h => hn.trans (hlen sig h)) hstack hW (by rw [hb]; exact hdg)
    (fun vm₁ hW₁ => ⟨hf.1, hf.2, hPc (T.setVm vm₁) hT hW₁⟩)
  dsimp only [Pt.U, Pt.locs, Pt.cells, Pt.slots] at X' e1 e2 h1 h2 h3 st
  subst h1; subst h2; subst h3
  exact ⟨v, (T.setVm vm₁).calling g' mk (Value.ref b :: As).toArray, t, U', L, hT, X', hL, e1, e2, hq, st⟩
section
variable {y : MethodName} {bytes cc : ByteArray} {maxL nL mc ms n index : Nat} {ret : Option FieldType} {ws : List Cond} {rm : Room} {Pc : Array Value → State → Prop} {Qc : Array Value → State → Outcome → State → Prop} {XC : String → State → State → Prop} {free : Addr → Prop} {Ts : List Cond} {own C : String} {b : Addr} {As rest : List Value} {g : JFrame}
theorem vx_runVX {hh : List (Nat × Nat × Nat × Nat)} (S : CallFix p m c cc nL s args Ts own) (hM : vx_Met l y ws rm Pc Qc XC mc ms free) (cw : vx_CVW R s args own C index y bytes maxL ret hh ws rm mc ms n) (hp : PreV s H C b Pc As)
    (hg : g.method = m) (hn : As.length = n) (hsize : g.locals.size = nL) (hstack : g.stack = As.reverse ++ .ref b :: rest) (hW : 2 * g.monitorRoom + (rest.map fun v => v.category).sum ≤ 8) (hdg : decode cc g.pc = .ok (.invokevirtual index, 3)) (hf : cells + mc ≤ R.cells ∧ slots + ms ≤ R.slots) :
    vx_Run p l e R s m args below meth c H locs cells slots mc ms g rest (Qc (Value.ref b :: As).toArray) XC free := by
  obtain ⟨⟨hrc, hrs, hfr, hlo, hws, hcw⟩, hcode, hini, hy, hlen, hl, hin, hse⟩ := cw
  have hK : vx_Back l R p e below s args y 3 8 (PreOf R mc ms Pc) (PostOf Qc mc ms free) (vx_Post XC mc ms free) := vx_backW (hh := hh) (bytes := bytes) (maxL := maxL) (ret := ret) hM hp.1 hrc hrs hfr hlo hws hcw (fun a' U hW => word_at hW (Or.inl (by first | rfl | simp [Cond.onTables, Cond.keeps, Cond.steady])) hini)
  obtain ⟨hx, hb, hml, ho, -⟩ := S
  obtain ⟨-, ⟨cellB, hcB, hoB, hclB⟩, hPc⟩ := hp
  intro T hT X
  rcases vx_callVX X hx (C := C) (hh := hh) (bytes := bytes) (maxL := maxL) (ret := ret) ho hl hin hse hcode hy hK (by rw [hT]; exact hcB) hoB hclB hg (hsize.trans hml.symm) (argsL := As) (rest := rest) (fun sig h => hn.trans (hlen sig h)) hstack hW (by rw [hb]; exact hdg)
    (fun vm₁ hW₁ => ⟨hf.1, hf.2, hPc (T.setVm vm₁) hT hW₁⟩) with ⟨v, vm₁, ⟨U', l2, c2, s2⟩, hW₁, X', ⟨g', mk, t, L, e1, e2, hq, h1, hL, h2, h3⟩, st⟩ | ⟨q, vm₁, ⟨U', l2, c2, s2⟩, hW₁, X', ⟨g', mk, t, L, E, ce, e1, e2, hq, hce, hcv, hcl, h1, hL, h2, h3⟩, st⟩
  · dsimp only [Pt.U, Pt.locs, Pt.cells, Pt.slots] at X' e1 e2 h1 h2 h3 st
    subst h1; subst h2; subst h3
    exact Or.inl ⟨v, (T.setVm vm₁).calling g' mk (Value.ref b :: As).toArray, t, U', L, hT, X', hL, e1, e2, hq, st⟩
  · dsimp only [Pt.U, Pt.locs, Pt.cells, Pt.slots] at X' e1 e2 h1 h2 h3 st hcl
    subst h1; subst h2; subst h3
    exact Or.inr ⟨q, (T.setVm vm₁).calling g' mk (Value.ref b :: As).toArray, t, U', L, E, ce, hT, X', hL, e1, e2, hq, hce, hcv, vx_cls hW₁ hcl, st⟩
theorem vx_runSX {hh : List (Nat × Nat × Nat × Nat)} (S : CallFix p m c cc nL s args Ts own) (hM : vx_Met l y ws rm Pc Qc XC mc ms free) (cw : vx_CSW R s args own index y bytes maxL ret hh ws rm mc ms n) (hp : PreS s H Pc As)
    (hg : g.method = m) (hn : As.length = n) (hsize : g.locals.size = nL) (hstack : g.stack = As.reverse ++ rest) (hW : 2 * g.monitorRoom + (rest.map fun v => v.category).sum ≤ 8) (hdg : decode cc g.pc = .ok (.invokestatic index, 3)) (hf : cells + mc ≤ R.cells ∧ slots + ms ≤ R.slots) :
    vx_Run p l e R s m args below meth c H locs cells slots mc ms g rest (Qc As.toArray) XC free := by
  obtain ⟨⟨hrc, hrs, hfr, hlo, hws, hcw⟩, hcode, hini, hy, hlen, hl, hstt⟩ := cw
  have hK : vx_Back l R p e below s args y 3 8 (PreOf R mc ms Pc) (PostOf Qc mc ms free) (vx_Post XC mc ms free) := vx_backW (hh := hh) (bytes := bytes) (maxL := maxL) (ret := ret) hM hp.1 hrc hrs hfr hlo hws hcw (fun a' U hW => word_at hW (Or.inl (by first | rfl | simp [Cond.onTables, Cond.keeps, Cond.steady])) hini)
  obtain ⟨hx, hb, hml, ho, -⟩ := S
  intro T hT X
  rcases vx_callSX X hx (hh := hh) (bytes := bytes) (maxL := maxL) (ret := ret) ho hl hstt hini hcode hy hK hg (hsize.trans hml.symm) (argsL := As) (rest := rest) (fun sig h => hn.trans (hlen sig h)) hstack hW (by rw [hb]; exact hdg)
    (fun vm₁ hW₁ => ⟨hf.1, hf.2, hp.2 (T.setVm vm₁) hT hW₁⟩) with ⟨v, vm₁, ⟨U', l2, c2, s2⟩, hW₁, X', ⟨g', mk, t, L, e1, e2, hq, h1, hL, h2, h3⟩, st⟩ | ⟨q, vm₁, ⟨U', l2, c2, s2⟩, hW₁, X', ⟨g', mk, t, L, E, ce, e1, e2, hq, hce, hcv, hcl, h1, hL, h2, h3⟩, st⟩
  · dsimp only [Pt.U, Pt.locs, Pt.cells, Pt.slots] at X' e1 e2 h1 h2 h3 st
    subst h1; subst h2; subst h3
    exact Or.inl ⟨v, (T.setVm vm₁).calling g' mk As.toArray, t, U', L, hT, X', hL, e1, e2, hq, st⟩
  · dsimp only [Pt.U, Pt.locs, Pt.cells, Pt.slots] at X' e1 e2 h1 h2 h3 st hcl
    subst h1; subst h2; subst h3
    exact Or.inr ⟨q, (T.setVm vm₁).calling g' mk As.toArray, t, U', L, E, ce, hT, X', hL, e1, e2, hq, hce, hcv, vx_cls hW₁ hcl, st⟩
end
end VXH
theorem vx_ofWH {l : Launch} {y : MethodName} {ws ws' : List Cond} {rm : Room} {Pc : Array Value → State → Prop} {Qc : Array Value → State → Outcome → State → Prop} {XC : String → State → State → Prop} {mc ms : Nat} {free : Addr → Prop} {cc : ByteArray} {maxL : Nat} {ret : Option FieldType} {hh : List (Nat × Nat × Nat × Nat)}
    (hy : plainName y.cls = true) (hw : ws = Cond.codeWith y cc maxL ret hh :: ws')
    (body : ∀ p e s m args below meth c s₁, BodyLoose p l y (headSpec ws rm) cc maxL ret e s m args below meth c s₁ → c.maxLocals = maxL → Pc args s →
      W p l e (headSpec ws rm).room s m args below meth c s.heap [] 0 0 (vx_MQ below Qc XC args s mc ms free) (entryFrame m args maxL)) : vx_Met l y ws rm Pc Qc XC mc ms free := by
  refine MetFree.of_bodyS (code := cc) (maxLocals := maxL) (ret := ret) hy ?_ ?_
  · intro args s m h hn
    obtain ⟨m9, meth, c, hn9, h1, h2, h3, h4, -, h5, h6, -⟩ := Cond.codeWith_spec (atoms_spec (ws := ws) h _ (by rw [hw]; exact List.mem_cons_self))
    cases hn.symm.trans hn9
    exact ⟨meth, c, h1, h2, h3, h4, h5, h6⟩
  · intro p e s m args below meth c s₁ B hml hP _
    have hh0 : s₁.heap = s.heap := by rw [B.state]; rfl
    obtain ⟨t, a1, o, b1, b2, b3⟩ := body p e s m args below meth c s₁ B hml hP s₁ hh0 (Stand.of_body B)
    exact ⟨t, o, a1, b1, b2, b3⟩
/-! ===== END ===== -/
end
section
/-- a private method of a class that the tables say can be made, by its rows of tables_1 -/
def lw_okq (q : MethodName × Nat) : Prop := (q.1.cls ≠ "java/lang/invoke/MethodHandle" ∧ q.1.cls ≠ "java/lang/invoke/VarHandle") ∧ Cond.instantiable q.1.cls q.2 ∈ tables_1 ∧ Cond.privateMethod q.1 ∈ tables_1 ∧ Cond.instanceMethod q.1 ∈ tables_1
theorem lw_p0 : lw_okq (⟨"StarlingSquare", "makeNew", "(II)V"⟩, 6) := ⟨⟨by decide +kernel, by decide +kernel⟩, List.mem_of_getElem? (i := 17) (by decide +kernel), List.mem_of_getElem? (i := 190) (by decide +kernel), List.mem_of_getElem? (i := 191) (by decide +kernel)⟩
theorem lw_p1 : lw_okq (⟨"StarlingSquare$Grid", "link", "(II)V"⟩, 4) := ⟨⟨by decide +kernel, by decide +kernel⟩, List.mem_of_getElem? (i := 25) (by decide +kernel), List.mem_of_getElem? (i := 198) (by decide +kernel), List.mem_of_getElem? (i := 199) (by decide +kernel)⟩
theorem lw_p2 : lw_okq (⟨"StarlingSquare$Jams", "isNewOne", "(LStarlingSquare$Crowd;I)Z"⟩, 5) := ⟨⟨by decide +kernel, by decide +kernel⟩, List.mem_of_getElem? (i := 166) (by decide +kernel), List.mem_of_getElem? (i := 273) (by decide +kernel), List.mem_of_getElem? (i := 274) (by decide +kernel)⟩
theorem lw_p3 : lw_okq (⟨"StarlingSquare$Jams", "gather", "(LStarlingSquare$Crowd;I)I"⟩, 5) := ⟨⟨by decide +kernel, by decide +kernel⟩, List.mem_of_getElem? (i := 166) (by decide +kernel), List.mem_of_getElem? (i := 282) (by decide +kernel), List.mem_of_getElem? (i := 283) (by decide +kernel)⟩
theorem lw_p4 : lw_okq (⟨"StarlingSquare$Jams", "gatherBeside", "(LStarlingSquare$Crowd;II)I"⟩, 5) := ⟨⟨by decide +kernel, by decide +kernel⟩, List.mem_of_getElem? (i := 166) (by decide +kernel), List.mem_of_getElem? (i := 286) (by decide +kernel), List.mem_of_getElem? (i := 287) (by decide +kernel)⟩
theorem lw_p5 : lw_okq (⟨"StarlingSquare", "crowdFigure", "(I)I"⟩, 6) := ⟨⟨by decide +kernel, by decide +kernel⟩, List.mem_of_getElem? (i := 17) (by decide +kernel), List.mem_of_getElem? (i := 303) (by decide +kernel), List.mem_of_getElem? (i := 304) (by decide +kernel)⟩
theorem lw_p6 : lw_okq (⟨"StarlingSquare", "mixWalker", "(JI)J"⟩, 6) := ⟨⟨by decide +kernel, by decide +kernel⟩, List.mem_of_getElem? (i := 17) (by decide +kernel), List.mem_of_getElem? (i := 341) (by decide +kernel), List.mem_of_getElem? (i := 342) (by decide +kernel)⟩
theorem lw_p7 : lw_okq (⟨"StarlingSquare$Crowd", "countFacing", "(II)I"⟩, 10) := ⟨⟨by decide +kernel, by decide +kernel⟩, List.mem_of_getElem? (i := 70) (by decide +kernel), List.mem_of_getElem? (i := 365) (by decide +kernel), List.mem_of_getElem? (i := 366) (by decide +kernel)⟩
theorem lw_p8 : lw_okq (⟨"StarlingSquare", "mixField", "(JI)J"⟩, 6) := ⟨⟨by decide +kernel, by decide +kernel⟩, List.mem_of_getElem? (i := 17) (by decide +kernel), List.mem_of_getElem? (i := 369) (by decide +kernel), List.mem_of_getElem? (i := 370) (by decide +kernel)⟩
theorem lw_p9 : lw_okq (⟨"StarlingSquare", "fieldFigure", "(II)I"⟩, 6) := ⟨⟨by decide +kernel, by decide +kernel⟩, List.mem_of_getElem? (i := 17) (by decide +kernel), List.mem_of_getElem? (i := 373) (by decide +kernel), List.mem_of_getElem? (i := 374) (by decide +kernel)⟩
theorem lw_p10 : lw_okq (⟨"java/lang/Throwable", "fillInStackTrace", "(I)Ljava/lang/Throwable;"⟩, 6) := ⟨⟨by decide +kernel, by decide +kernel⟩, List.mem_of_getElem? (i := 430) (by decide +kernel), List.mem_of_getElem? (i := 428) (by decide +kernel), List.mem_of_getElem? (i := 429) (by decide +kernel)⟩
theorem lw_p11 : lw_okq (⟨"StarlingSquare$Square", "spread", "(III)I"⟩, 5) := ⟨⟨by decide +kernel, by decide +kernel⟩, List.mem_of_getElem? (i := 48) (by decide +kernel), List.mem_of_getElem? (i := 528) (by decide +kernel), List.mem_of_getElem? (i := 529) (by decide +kernel)⟩
theorem lw_p12 : lw_okq (⟨"StarlingSquare$Crowd", "step", "()V"⟩, 10) := ⟨⟨by decide +kernel, by decide +kernel⟩, List.mem_of_getElem? (i := 70) (by decide +kernel), List.mem_of_getElem? (i := 631) (by decide +kernel), List.mem_of_getElem? (i := 632) (by decide +kernel)⟩
theorem lw_p13 : lw_okq (⟨"StarlingSquare$Crowd", "aim", "(LStarlingSquare$Walker;I)V"⟩, 10) := ⟨⟨by decide +kernel, by decide +kernel⟩, List.mem_of_getElem? (i := 70) (by decide +kernel), List.mem_of_getElem? (i := 645) (by decide +kernel), List.mem_of_getElem? (i := 646) (by decide +kernel)⟩
theorem lw_p14 : lw_okq (⟨"StarlingSquare$Crowd", "claim", "(I)V"⟩, 10) := ⟨⟨by decide +kernel, by decide +kernel⟩, List.mem_of_getElem? (i := 70) (by decide +kernel), List.mem_of_getElem? (i := 649) (by decide +kernel), List.mem_of_getElem? (i := 650) (by decide +kernel)⟩
theorem lw_p15 : lw_okq (⟨"StarlingSquare$Crowd", "goOrWait", "(I)V"⟩, 10) := ⟨⟨by decide +kernel, by decide +kernel⟩, List.mem_of_getElem? (i := 70) (by decide +kernel), List.mem_of_getElem? (i := 653) (by decide +kernel), List.mem_of_getElem? (i := 654) (by decide +kernel)⟩
def lw_privs_1 : List (MethodName × Nat) := [(⟨"StarlingSquare", "makeNew", "(II)V"⟩, 6), (⟨"StarlingSquare$Grid", "link", "(II)V"⟩, 4), (⟨"StarlingSquare$Jams", "isNewOne", "(LStarlingSquare$Crowd;I)Z"⟩, 5), (⟨"StarlingSquare$Jams", "gather", "(LStarlingSquare$Crowd;I)I"⟩, 5), (⟨"StarlingSquare$Jams", "gatherBeside", "(LStarlingSquare$Crowd;II)I"⟩, 5), (⟨"StarlingSquare", "crowdFigure", "(I)I"⟩, 6), (⟨"StarlingSquare", "mixWalker", "(JI)J"⟩, 6), (⟨"StarlingSquare$Crowd", "countFacing", "(II)I"⟩, 10), (⟨"StarlingSquare", "mixField", "(JI)J"⟩, 6), (⟨"StarlingSquare", "fieldFigure", "(II)I"⟩, 6), (⟨"java/lang/Throwable", "fillInStackTrace", "(I)Ljava/lang/Throwable;"⟩, 6), (⟨"StarlingSquare$Square", "spread", "(III)I"⟩, 5), (⟨"StarlingSquare$Crowd", "step", "()V"⟩, 10), (⟨"StarlingSquare$Crowd", "aim", "(LStarlingSquare$Walker;I)V"⟩, 10), (⟨"StarlingSquare$Crowd", "claim", "(I)V"⟩, 10), (⟨"StarlingSquare$Crowd", "goOrWait", "(I)V"⟩, 10)]
theorem lw_r1 : ∀ q ∈ lw_privs_1, lw_okq q := List.forall_mem_cons.mpr ⟨lw_p0, List.forall_mem_cons.mpr ⟨lw_p1, List.forall_mem_cons.mpr ⟨lw_p2, List.forall_mem_cons.mpr ⟨lw_p3, List.forall_mem_cons.mpr ⟨lw_p4, List.forall_mem_cons.mpr ⟨lw_p5, List.forall_mem_cons.mpr ⟨lw_p6, List.forall_mem_cons.mpr ⟨lw_p7, List.forall_mem_cons.mpr ⟨lw_p8, List.forall_mem_cons.mpr ⟨lw_p9, List.forall_mem_cons.mpr ⟨lw_p10, List.forall_mem_cons.mpr ⟨lw_p11, List.forall_mem_cons.mpr ⟨lw_p12, List.forall_mem_cons.mpr ⟨lw_p13, List.forall_mem_cons.mpr ⟨lw_p14, List.forall_mem_cons.mpr ⟨lw_p15, fun _ h => absurd h List.not_mem_nil⟩⟩⟩⟩⟩⟩⟩⟩⟩⟩⟩⟩⟩⟩⟩⟩
theorem lw_p16 : lw_okq (⟨"StarlingSquare$Crowd", "go", "(LStarlingSquare$Walker;I)V"⟩, 10) := ⟨⟨by decide +kernel, by decide +kernel⟩, List.mem_of_getElem? (i := 70) (by decide +kernel), List.mem_of_getElem? (i := 657) (by decide +kernel), List.mem_of_getElem? (i := 658) (by decide +kernel)⟩
theorem lw_p17 : lw_okq (⟨"StarlingSquare$Square", "nearer", "(II)I"⟩, 5) := ⟨⟨by decide +kernel, by decide +kernel⟩, List.mem_of_getElem? (i := 48) (by decide +kernel), List.mem_of_getElem? (i := 708) (by decide +kernel), List.mem_of_getElem? (i := 709) (by decide +kernel)⟩
theorem lw_p18 : lw_okq (⟨"StarlingSquare", "copyToTrial", "()V"⟩, 6) := ⟨⟨by decide +kernel, by decide +kernel⟩, List.mem_of_getElem? (i := 17) (by decide +kernel), List.mem_of_getElem? (i := 730) (by decide +kernel), List.mem_of_getElem? (i := 731) (by decide +kernel)⟩
theorem lw_p19 : lw_okq (⟨"StarlingSquare$Crowd", "hasJam", "()Z"⟩, 10) := ⟨⟨by decide +kernel, by decide +kernel⟩, List.mem_of_getElem? (i := 70) (by decide +kernel), List.mem_of_getElem? (i := 783) (by decide +kernel), List.mem_of_getElem? (i := 784) (by decide +kernel)⟩
theorem lw_p20 : lw_okq (⟨"StarlingSquare", "countOtherwiseFar", "(II)I"⟩, 6) := ⟨⟨by decide +kernel, by decide +kernel⟩, List.mem_of_getElem? (i := 17) (by decide +kernel), List.mem_of_getElem? (i := 795) (by decide +kernel), List.mem_of_getElem? (i := 796) (by decide +kernel)⟩
theorem lw_p21 : lw_okq (⟨"StarlingSquareModel", "make", "(II)V"⟩, 11) := ⟨⟨by decide +kernel, by decide +kernel⟩, List.mem_of_getElem? (i := 799) (by decide +kernel), List.mem_of_getElem? (i := 805) (by decide +kernel), List.mem_of_getElem? (i := 806) (by decide +kernel)⟩
theorem lw_p22 : lw_okq (⟨"StarlingSquareModel", "no", "(I)I"⟩, 11) := ⟨⟨by decide +kernel, by decide +kernel⟩, List.mem_of_getElem? (i := 799) (by decide +kernel), List.mem_of_getElem? (i := 855) (by decide +kernel), List.mem_of_getElem? (i := 856) (by decide +kernel)⟩
theorem lw_p23 : lw_okq (⟨"StarlingSquareModel", "isField", "(II)Z"⟩, 11) := ⟨⟨by decide +kernel, by decide +kernel⟩, List.mem_of_getElem? (i := 799) (by decide +kernel), List.mem_of_getElem? (i := 863) (by decide +kernel), List.mem_of_getElem? (i := 864) (by decide +kernel)⟩
theorem lw_p24 : lw_okq (⟨"StarlingSquareModel", "walkerOn", "(I)I"⟩, 11) := ⟨⟨by decide +kernel, by decide +kernel⟩, List.mem_of_getElem? (i := 799) (by decide +kernel), List.mem_of_getElem? (i := 869) (by decide +kernel), List.mem_of_getElem? (i := 870) (by decide +kernel)⟩
theorem lw_p25 : lw_okq (⟨"StarlingSquareModel", "fieldNow", "(II)I"⟩, 11) := ⟨⟨by decide +kernel, by decide +kernel⟩, List.mem_of_getElem? (i := 799) (by decide +kernel), List.mem_of_getElem? (i := 888) (by decide +kernel), List.mem_of_getElem? (i := 889) (by decide +kernel)⟩
theorem lw_p26 : lw_okq (⟨"StarlingSquareModel", "round", "(II)I"⟩, 11) := ⟨⟨by decide +kernel, by decide +kernel⟩, List.mem_of_getElem? (i := 799) (by decide +kernel), List.mem_of_getElem? (i := 892) (by decide +kernel), List.mem_of_getElem? (i := 893) (by decide +kernel)⟩
theorem lw_p27 : lw_okq (⟨"StarlingSquareModel", "areRound", "(II)Z"⟩, 11) := ⟨⟨by decide +kernel, by decide +kernel⟩, List.mem_of_getElem? (i := 799) (by decide +kernel), List.mem_of_getElem? (i := 896) (by decide +kernel), List.mem_of_getElem? (i := 897) (by decide +kernel)⟩
theorem lw_p28 : lw_okq (⟨"StarlingSquareModel", "far", "(I)[I"⟩, 11) := ⟨⟨by decide +kernel, by decide +kernel⟩, List.mem_of_getElem? (i := 799) (by decide +kernel), List.mem_of_getElem? (i := 907) (by decide +kernel), List.mem_of_getElem? (i := 908) (by decide +kernel)⟩
theorem lw_p29 : lw_okq (⟨"StarlingSquareModel", "beside", "(II)I"⟩, 11) := ⟨⟨by decide +kernel, by decide +kernel⟩, List.mem_of_getElem? (i := 799) (by decide +kernel), List.mem_of_getElem? (i := 911) (by decide +kernel), List.mem_of_getElem? (i := 912) (by decide +kernel)⟩
theorem lw_p30 : lw_okq (⟨"StarlingSquareModel", "isWalker", "(I)Z"⟩, 11) := ⟨⟨by decide +kernel, by decide +kernel⟩, List.mem_of_getElem? (i := 799) (by decide +kernel), List.mem_of_getElem? (i := 931) (by decide +kernel), List.mem_of_getElem? (i := 932) (by decide +kernel)⟩
theorem lw_p31 : lw_okq (⟨"StarlingSquareModel", "isOn", "(I)Z"⟩, 11) := ⟨⟨by decide +kernel, by decide +kernel⟩, List.mem_of_getElem? (i := 799) (by decide +kernel), List.mem_of_getElem? (i := 935) (by decide +kernel), List.mem_of_getElem? (i := 936) (by decide +kernel)⟩
def lw_privs_2 : List (MethodName × Nat) := [(⟨"StarlingSquare$Crowd", "go", "(LStarlingSquare$Walker;I)V"⟩, 10), (⟨"StarlingSquare$Square", "nearer", "(II)I"⟩, 5), (⟨"StarlingSquare", "copyToTrial", "()V"⟩, 6), (⟨"StarlingSquare$Crowd", "hasJam", "()Z"⟩, 10), (⟨"StarlingSquare", "countOtherwiseFar", "(II)I"⟩, 6), (⟨"StarlingSquareModel", "make", "(II)V"⟩, 11), (⟨"StarlingSquareModel", "no", "(I)I"⟩, 11), (⟨"StarlingSquareModel", "isField", "(II)Z"⟩, 11), (⟨"StarlingSquareModel", "walkerOn", "(I)I"⟩, 11), (⟨"StarlingSquareModel", "fieldNow", "(II)I"⟩, 11), (⟨"StarlingSquareModel", "round", "(II)I"⟩, 11), (⟨"StarlingSquareModel", "areRound", "(II)Z"⟩, 11), (⟨"StarlingSquareModel", "far", "(I)[I"⟩, 11), (⟨"StarlingSquareModel", "beside", "(II)I"⟩, 11), (⟨"StarlingSquareModel", "isWalker", "(I)Z"⟩, 11), (⟨"StarlingSquareModel", "isOn", "(I)Z"⟩, 11)]
theorem lw_r2 : ∀ q ∈ lw_privs_2, lw_okq q := List.forall_mem_cons.mpr ⟨lw_p16, List.forall_mem_cons.mpr ⟨lw_p17, List.forall_mem_cons.mpr ⟨lw_p18, List.forall_mem_cons.mpr ⟨lw_p19, List.forall_mem_cons.mpr ⟨lw_p20, List.forall_mem_cons.mpr ⟨lw_p21, List.forall_mem_cons.mpr ⟨lw_p22, List.forall_mem_cons.mpr ⟨lw_p23, List.forall_mem_cons.mpr ⟨lw_p24, List.forall_mem_cons.mpr ⟨lw_p25, List.forall_mem_cons.mpr ⟨lw_p26, List.forall_mem_cons.mpr ⟨lw_p27, List.forall_mem_cons.mpr ⟨lw_p28, List.forall_mem_cons.mpr ⟨lw_p29, List.forall_mem_cons.mpr ⟨lw_p30, List.forall_mem_cons.mpr ⟨lw_p31, fun _ h => absurd h List.not_mem_nil⟩⟩⟩⟩⟩⟩⟩⟩⟩⟩⟩⟩⟩⟩⟩⟩
theorem lw_p32 : lw_okq (⟨"StarlingSquareModel", "farAll", "()[[I"⟩, 11) := ⟨⟨by decide +kernel, by decide +kernel⟩, List.mem_of_getElem? (i := 799) (by decide +kernel), List.mem_of_getElem? (i := 943) (by decide +kernel), List.mem_of_getElem? (i := 944) (by decide +kernel)⟩
theorem lw_p33 : lw_okq (⟨"StarlingSquareModel", "tickNow", "([[I)I"⟩, 11) := ⟨⟨by decide +kernel, by decide +kernel⟩, List.mem_of_getElem? (i := 799) (by decide +kernel), List.mem_of_getElem? (i := 949) (by decide +kernel), List.mem_of_getElem? (i := 950) (by decide +kernel)⟩
theorem lw_p34 : lw_okq (⟨"StarlingSquareModel", "wantsNow", "(I[I)I"⟩, 11) := ⟨⟨by decide +kernel, by decide +kernel⟩, List.mem_of_getElem? (i := 799) (by decide +kernel), List.mem_of_getElem? (i := 953) (by decide +kernel), List.mem_of_getElem? (i := 954) (by decide +kernel)⟩
theorem lw_p35 : lw_okq (⟨"StarlingSquareModel", "costNow", "(II[I)I"⟩, 11) := ⟨⟨by decide +kernel, by decide +kernel⟩, List.mem_of_getElem? (i := 799) (by decide +kernel), List.mem_of_getElem? (i := 957) (by decide +kernel), List.mem_of_getElem? (i := 958) (by decide +kernel)⟩
theorem lw_p36 : lw_okq (⟨"StarlingSquareModel", "ok", "(I)I"⟩, 11) := ⟨⟨by decide +kernel, by decide +kernel⟩, List.mem_of_getElem? (i := 799) (by decide +kernel), List.mem_of_getElem? (i := 965) (by decide +kernel), List.mem_of_getElem? (i := 966) (by decide +kernel)⟩
theorem lw_p37 : lw_okq (⟨"StarlingSquareModel", "jams", "()[I"⟩, 11) := ⟨⟨by decide +kernel, by decide +kernel⟩, List.mem_of_getElem? (i := 799) (by decide +kernel), List.mem_of_getElem? (i := 973) (by decide +kernel), List.mem_of_getElem? (i := 974) (by decide +kernel)⟩
theorem lw_p38 : lw_okq (⟨"StarlingSquareModel", "manyNow", "(I[I[[I)I"⟩, 11) := ⟨⟨by decide +kernel, by decide +kernel⟩, List.mem_of_getElem? (i := 799) (by decide +kernel), List.mem_of_getElem? (i := 977) (by decide +kernel), List.mem_of_getElem? (i := 978) (by decide +kernel)⟩
theorem lw_p39 : lw_okq (⟨"StarlingSquareModel", "ofNow", "(II[[I)I"⟩, 11) := ⟨⟨by decide +kernel, by decide +kernel⟩, List.mem_of_getElem? (i := 799) (by decide +kernel), List.mem_of_getElem? (i := 988) (by decide +kernel), List.mem_of_getElem? (i := 989) (by decide +kernel)⟩
theorem lw_p40 : lw_okq (⟨"StarlingSquareModel", "farOf", "(I)[I"⟩, 11) := ⟨⟨by decide +kernel, by decide +kernel⟩, List.mem_of_getElem? (i := 799) (by decide +kernel), List.mem_of_getElem? (i := 996) (by decide +kernel), List.mem_of_getElem? (i := 997) (by decide +kernel)⟩
theorem lw_p41 : lw_okq (⟨"StarlingSquareModel", "jamNow", "(I[I)I"⟩, 11) := ⟨⟨by decide +kernel, by decide +kernel⟩, List.mem_of_getElem? (i := 799) (by decide +kernel), List.mem_of_getElem? (i := 1012) (by decide +kernel), List.mem_of_getElem? (i := 1013) (by decide +kernel)⟩
theorem lw_p42 : lw_okq (⟨"StarlingSquareModel", "putBy", "()[[I"⟩, 11) := ⟨⟨by decide +kernel, by decide +kernel⟩, List.mem_of_getElem? (i := 799) (by decide +kernel), List.mem_of_getElem? (i := 1024) (by decide +kernel), List.mem_of_getElem? (i := 1025) (by decide +kernel)⟩
theorem lw_p43 : lw_okq (⟨"StarlingSquareModel", "putBack", "([[I)V"⟩, 11) := ⟨⟨by decide +kernel, by decide +kernel⟩, List.mem_of_getElem? (i := 799) (by decide +kernel), List.mem_of_getElem? (i := 1028) (by decide +kernel), List.mem_of_getElem? (i := 1029) (by decide +kernel)⟩
theorem lw_p44 : lw_okq (⟨"StarlingSquareModel", "outBehind", "(I)I"⟩, 11) := ⟨⟨by decide +kernel, by decide +kernel⟩, List.mem_of_getElem? (i := 799) (by decide +kernel), List.mem_of_getElem? (i := 1036) (by decide +kernel), List.mem_of_getElem? (i := 1037) (by decide +kernel)⟩
def lw_privs_3 : List (MethodName × Nat) := [(⟨"StarlingSquareModel", "farAll", "()[[I"⟩, 11), (⟨"StarlingSquareModel", "tickNow", "([[I)I"⟩, 11), (⟨"StarlingSquareModel", "wantsNow", "(I[I)I"⟩, 11), (⟨"StarlingSquareModel", "costNow", "(II[I)I"⟩, 11), (⟨"StarlingSquareModel", "ok", "(I)I"⟩, 11), (⟨"StarlingSquareModel", "jams", "()[I"⟩, 11), (⟨"StarlingSquareModel", "manyNow", "(I[I[[I)I"⟩, 11), (⟨"StarlingSquareModel", "ofNow", "(II[[I)I"⟩, 11), (⟨"StarlingSquareModel", "farOf", "(I)[I"⟩, 11), (⟨"StarlingSquareModel", "jamNow", "(I[I)I"⟩, 11), (⟨"StarlingSquareModel", "putBy", "()[[I"⟩, 11), (⟨"StarlingSquareModel", "putBack", "([[I)V"⟩, 11), (⟨"StarlingSquareModel", "outBehind", "(I)I"⟩, 11)]
theorem lw_r3 : ∀ q ∈ lw_privs_3, lw_okq q := List.forall_mem_cons.mpr ⟨lw_p32, List.forall_mem_cons.mpr ⟨lw_p33, List.forall_mem_cons.mpr ⟨lw_p34, List.forall_mem_cons.mpr ⟨lw_p35, List.forall_mem_cons.mpr ⟨lw_p36, List.forall_mem_cons.mpr ⟨lw_p37, List.forall_mem_cons.mpr ⟨lw_p38, List.forall_mem_cons.mpr ⟨lw_p39, List.forall_mem_cons.mpr ⟨lw_p40, List.forall_mem_cons.mpr ⟨lw_p41, List.forall_mem_cons.mpr ⟨lw_p42, List.forall_mem_cons.mpr ⟨lw_p43, List.forall_mem_cons.mpr ⟨lw_p44, fun _ h => absurd h List.not_mem_nil⟩⟩⟩⟩⟩⟩⟩⟩⟩⟩⟩⟩⟩
def lw_privs : List (MethodName × Nat) := lw_privs_1 ++ (lw_privs_2 ++ (lw_privs_3))
def lw_tbl : List Cond := k2_sels lw_privs ++ tables_1
theorem lw_privs_ok : ∀ q ∈ lw_privs, lw_okq q := by
  show ∀ q ∈ lw_privs_1 ++ (lw_privs_2 ++ (lw_privs_3)), lw_okq q
  exact List.forall_mem_append.mpr ⟨lw_r1, List.forall_mem_append.mpr ⟨lw_r2, lw_r3⟩⟩
/-- the streams that the claim lets the run draw from -/
abbrev lw_cs : List Choice := [Jvm.Choice.named "NaN.bits"]
theorem lw_bits : nanBits ∈ lw_cs := by first | decide | exact List.mem_cons_self | simp [lw_cs, nanBits]
end
section
def RX0 : String := "StarlingSquare$Crowd"
def TX0 : u_T := fun k => match k with
  | 0 => ("StarlingSquare$Crowd", "count", "I", false)
  | 1 => ("StarlingSquare$Crowd", "time", "I", false)
  | 2 => ("StarlingSquare$Crowd", "draw", "I", false)
  | 3 => ("StarlingSquare$Crowd", "patience", "I", false)
  | 4 => ("StarlingSquare$Crowd", "grid", "LStarlingSquare$Grid;", true)
  | 5 => ("StarlingSquare$Crowd", "square", "LStarlingSquare$Square;", true)
  | 6 => ("StarlingSquare$Crowd", "walkers", "[LStarlingSquare$Walker;", true)
  | 7 => ("StarlingSquare$Crowd", "on", "[I", true)
  | 8 => ("StarlingSquare$Crowd", "heat", "[I", true)
  | _ => ("StarlingSquare$Crowd", "claims", "[I", true)
def tyX0 : Nat → FieldType := fun k => match k with
  | 0 => .int
  | 1 => .int
  | 2 => .int
  | 3 => .int
  | 4 => .object "StarlingSquare$Grid"
  | 5 => .object "StarlingSquare$Square"
  | 6 => .array (.object "StarlingSquare$Walker")
  | 7 => .array .int
  | 8 => .array .int
  | _ => .array .int
abbrev wsX00 : List Cond := u_ws RX0 TX0 10
theorem nmX0 : ∀ a, a < 10 → ∀ b, b < 10 → a ≠ b → (TX0 a).2.1 ≠ (TX0 b).2.1 := by decide +kernel
theorem tyX0_ok : ∀ k, k < 10 → parseFieldDescriptor (TX0 k).2.2.1 = some (tyX0 k) := by decide +kernel
abbrev cX0_init : ByteArray := prog_2_method_1_code
def yX0_init : MethodName := ⟨RX0, "<init>", "(LStarlingSquare$Grid;LStarlingSquare$Square;)V"⟩
abbrev cX0_clear : ByteArray := prog_2_method_2_code
def yX0_clear : MethodName := ⟨RX0, "clear", "()V"⟩
abbrev cX0_copyFrom : ByteArray := prog_2_method_3_code
def yX0_copyFrom : MethodName := ⟨RX0, "copyFrom", "(LStarlingSquare$Crowd;)V"⟩
abbrev cX0_copyWalker : ByteArray := prog_2_method_4_code
def yX0_copyWalker : MethodName := ⟨RX0, "copyWalker", "(LStarlingSquare$Walker;LStarlingSquare$Walker;)V"⟩
abbrev cX0_get : ByteArray := prog_2_method_5_code
def yX0_get : MethodName := ⟨RX0, "get", "(I)LStarlingSquare$Walker;"⟩
abbrev cX0_numberOn : ByteArray := prog_2_method_6_code
def yX0_numberOn : MethodName := ⟨RX0, "numberOn", "(I)I"⟩
abbrev cX0_isAnyoneIn : ByteArray := prog_2_method_7_code
def yX0_isAnyoneIn : MethodName := ⟨RX0, "isAnyoneIn", "(IIII)Z"⟩
abbrev cX0_add : ByteArray := prog_2_method_8_code
def yX0_add : MethodName := ⟨RX0, "add", "(IIII)I"⟩
abbrev cX0_heatOf : ByteArray := prog_2_method_9_code
def yX0_heatOf : MethodName := ⟨RX0, "heatOf", "(I)I"⟩
abbrev cX0_hottest : ByteArray := prog_2_method_10_code
def yX0_hottest : MethodName := ⟨RX0, "hottest", "()I"⟩
abbrev cX0_countOut : ByteArray := prog_2_method_11_code
def yX0_countOut : MethodName := ⟨RX0, "countOut", "()I"⟩
abbrev cX0_countLost : ByteArray := prog_2_method_12_code
def yX0_countLost : MethodName := ⟨RX0, "countLost", "()I"⟩
abbrev cX0_countSteps : ByteArray := prog_2_method_13_code
def yX0_countSteps : MethodName := ⟨RX0, "countSteps", "(Z)I"⟩
abbrev cX0_walkerFigure : ByteArray := prog_2_method_14_code
def yX0_walkerFigure : MethodName := ⟨RX0, "walkerFigure", "(LStarlingSquare$Walker;I)I"⟩
abbrev cX0_countRound : ByteArray := prog_2_method_15_code
def yX0_countRound : MethodName := ⟨RX0, "countRound", "(I)I"⟩
abbrev cX0_countFacing : ByteArray := prog_2_method_16_code
def yX0_countFacing : MethodName := ⟨RX0, "countFacing", "(II)I"⟩
abbrev cX0_costOf : ByteArray := prog_2_method_17_code
def yX0_costOf : MethodName := ⟨RX0, "costOf", "(LStarlingSquare$Walker;I)I"⟩
abbrev cX0_bestSide : ByteArray := prog_2_method_18_code
def yX0_bestSide : MethodName := ⟨RX0, "bestSide", "(LStarlingSquare$Walker;)I"⟩
abbrev cX0_outAfter : ByteArray := prog_2_method_19_code
def yX0_outAfter : MethodName := ⟨RX0, "outAfter", "(I)I"⟩
abbrev cX0_ticksTillOut : ByteArray := prog_2_method_20_code
def yX0_ticksTillOut : MethodName := ⟨RX0, "ticksTillOut", "(II)I"⟩
abbrev cX0_ticksTillJam : ByteArray := prog_2_method_21_code
def yX0_ticksTillJam : MethodName := ⟨RX0, "ticksTillJam", "(I)I"⟩
abbrev cX0_isJammed : ByteArray := prog_2_method_22_code
def yX0_isJammed : MethodName := ⟨RX0, "isJammed", "(LStarlingSquare$Walker;)Z"⟩
abbrev cX0_hasJam : ByteArray := prog_2_method_23_code
def yX0_hasJam : MethodName := ⟨RX0, "hasJam", "()Z"⟩
abbrev cX0_step : ByteArray := prog_2_method_24_code
def yX0_step : MethodName := ⟨RX0, "step", "()V"⟩
abbrev cX0_aim : ByteArray := prog_2_method_25_code
def yX0_aim : MethodName := ⟨RX0, "aim", "(LStarlingSquare$Walker;I)V"⟩
abbrev cX0_claim : ByteArray := prog_2_method_26_code
def yX0_claim : MethodName := ⟨RX0, "claim", "(I)V"⟩
abbrev cX0_goOrWait : ByteArray := prog_2_method_27_code
def yX0_goOrWait : MethodName := ⟨RX0, "goOrWait", "(I)V"⟩
abbrev cX0_go : ByteArray := prog_2_method_28_code
def yX0_go : MethodName := ⟨RX0, "go", "(LStarlingSquare$Walker;I)V"⟩
def RX1 : String := "StarlingSquare$Grid"
def TX1 : u_T := fun k => match k with
  | 0 => ("StarlingSquare$Grid", "fields", "I", false)
  | 1 => ("StarlingSquare$Grid", "width", "I", false)
  | 2 => ("StarlingSquare$Grid", "height", "I", false)
  | _ => ("StarlingSquare$Grid", "near", "[I", true)
def tyX1 : Nat → FieldType := fun k => match k with
  | 0 => .int
  | 1 => .int
  | 2 => .int
  | _ => .array .int
abbrev wsX10 : List Cond := u_ws RX1 TX1 4
theorem nmX1 : ∀ a, a < 4 → ∀ b, b < 4 → a ≠ b → (TX1 a).2.1 ≠ (TX1 b).2.1 := by decide +kernel
theorem tyX1_ok : ∀ k, k < 4 → parseFieldDescriptor (TX1 k).2.2.1 = some (tyX1 k) := by decide +kernel
abbrev cX1_init : ByteArray := prog_3_method_1_code
def yX1_init : MethodName := ⟨RX1, "<init>", "()V"⟩
abbrev cX1_shape : ByteArray := prog_3_method_2_code
def yX1_shape : MethodName := ⟨RX1, "shape", "(II)V"⟩
abbrev cX1_link : ByteArray := prog_3_method_3_code
def yX1_link : MethodName := ⟨RX1, "link", "(II)V"⟩
abbrev cX1_has : ByteArray := prog_3_method_4_code
def yX1_has : MethodName := ⟨RX1, "has", "(I)Z"⟩
abbrev cX1_number : ByteArray := prog_3_method_5_code
def yX1_number : MethodName := ⟨RX1, "number", "(II)I"⟩
abbrev cX1_next : ByteArray := prog_3_method_6_code
def yX1_next : MethodName := ⟨RX1, "next", "(II)I"⟩
def RX2 : String := "StarlingSquare$Jams"
def TX2 : u_T := fun k => match k with
  | 0 => ("StarlingSquare$Jams", "count", "I", false)
  | 1 => ("StarlingSquare$Jams", "walkersIn", "I", false)
  | 2 => ("StarlingSquare$Jams", "jamOf", "[I", true)
  | 3 => ("StarlingSquare$Jams", "sizes", "[I", true)
  | _ => ("StarlingSquare$Jams", "queue", "[I", true)
def tyX2 : Nat → FieldType := fun k => match k with
  | 0 => .int
  | 1 => .int
  | 2 => .array .int
  | 3 => .array .int
  | _ => .array .int
abbrev wsX20 : List Cond := u_ws RX2 TX2 5
theorem nmX2 : ∀ a, a < 5 → ∀ b, b < 5 → a ≠ b → (TX2 a).2.1 ≠ (TX2 b).2.1 := by decide +kernel
theorem tyX2_ok : ∀ k, k < 5 → parseFieldDescriptor (TX2 k).2.2.1 = some (tyX2 k) := by decide +kernel
abbrev cX2_init : ByteArray := prog_4_method_1_code
def yX2_init : MethodName := ⟨RX2, "<init>", "()V"⟩
abbrev cX2_find : ByteArray := prog_4_method_2_code
def yX2_find : MethodName := ⟨RX2, "find", "(LStarlingSquare$Crowd;)V"⟩
abbrev cX2_isNewOne : ByteArray := prog_4_method_3_code
def yX2_isNewOne : MethodName := ⟨RX2, "isNewOne", "(LStarlingSquare$Crowd;I)Z"⟩
abbrev cX2_gather : ByteArray := prog_4_method_4_code
def yX2_gather : MethodName := ⟨RX2, "gather", "(LStarlingSquare$Crowd;I)I"⟩
abbrev cX2_gatherBeside : ByteArray := prog_4_method_5_code
def yX2_gatherBeside : MethodName := ⟨RX2, "gatherBeside", "(LStarlingSquare$Crowd;II)I"⟩
abbrev cX2_greatest : ByteArray := prog_4_method_6_code
def yX2_greatest : MethodName := ⟨RX2, "greatest", "()I"⟩
abbrev cX2_sizeAround : ByteArray := prog_4_method_7_code
def yX2_sizeAround : MethodName := ⟨RX2, "sizeAround", "(I)I"⟩
def RX3 : String := "StarlingSquare$Square"
def TX3 : u_T := fun k => match k with
  | 0 => ("StarlingSquare$Square", "grid", "LStarlingSquare$Grid;", true)
  | 1 => ("StarlingSquare$Square", "walls", "[I", true)
  | 2 => ("StarlingSquare$Square", "marks", "[I", true)
  | 3 => ("StarlingSquare$Square", "distances", "[I", true)
  | _ => ("StarlingSquare$Square", "queue", "[I", true)
def tyX3 : Nat → FieldType := fun k => match k with
  | 0 => .object "StarlingSquare$Grid"
  | 1 => .array .int
  | 2 => .array .int
  | 3 => .array .int
  | _ => .array .int
abbrev wsX30 : List Cond := u_ws RX3 TX3 5
theorem nmX3 : ∀ a, a < 5 → ∀ b, b < 5 → a ≠ b → (TX3 a).2.1 ≠ (TX3 b).2.1 := by decide +kernel
theorem tyX3_ok : ∀ k, k < 5 → parseFieldDescriptor (TX3 k).2.2.1 = some (tyX3 k) := by decide +kernel
abbrev cX3_init : ByteArray := prog_5_method_1_code
def yX3_init : MethodName := ⟨RX3, "<init>", "(LStarlingSquare$Grid;)V"⟩
abbrev cX3_clear : ByteArray := prog_5_method_2_code
def yX3_clear : MethodName := ⟨RX3, "clear", "()V"⟩
abbrev cX3_copyFrom : ByteArray := prog_5_method_3_code
def yX3_copyFrom : MethodName := ⟨RX3, "copyFrom", "(LStarlingSquare$Square;)V"⟩
abbrev cX3_isFree : ByteArray := prog_5_method_4_code
def yX3_isFree : MethodName := ⟨RX3, "isFree", "(I)Z"⟩
abbrev cX3_isMarked : ByteArray := prog_5_method_5_code
def yX3_isMarked : MethodName := ⟨RX3, "isMarked", "(II)Z"⟩
abbrev cX3_distance : ByteArray := prog_5_method_6_code
def yX3_distance : MethodName := ⟨RX3, "distance", "(II)I"⟩
abbrev cX3_build : ByteArray := prog_5_method_7_code
def yX3_build : MethodName := ⟨RX3, "build", "(IZ)V"⟩
abbrev cX3_turnMark : ByteArray := prog_5_method_8_code
def yX3_turnMark : MethodName := ⟨RX3, "turnMark", "(II)V"⟩
abbrev cX3_countWalls : ByteArray := prog_5_method_9_code
def yX3_countWalls : MethodName := ⟨RX3, "countWalls", "()I"⟩
abbrev cX3_countMarks : ByteArray := prog_5_method_10_code
def yX3_countMarks : MethodName := ⟨RX3, "countMarks", "(I)I"⟩
abbrev cX3_greatestDistance : ByteArray := prog_5_method_11_code
def yX3_greatestDistance : MethodName := ⟨RX3, "greatestDistance", "(I)I"⟩
abbrev cX3_measureAll : ByteArray := prog_5_method_12_code
def yX3_measureAll : MethodName := ⟨RX3, "measureAll", "()V"⟩
abbrev cX3_measure : ByteArray := prog_5_method_13_code
def yX3_measure : MethodName := ⟨RX3, "measure", "(I)V"⟩
abbrev cX3_spread : ByteArray := prog_5_method_14_code
def yX3_spread : MethodName := ⟨RX3, "spread", "(III)I"⟩
abbrev cX3_fieldOnWay : ByteArray := prog_5_method_15_code
def yX3_fieldOnWay : MethodName := ⟨RX3, "fieldOnWay", "(III)I"⟩
abbrev cX3_nearer : ByteArray := prog_5_method_16_code
def yX3_nearer : MethodName := ⟨RX3, "nearer", "(II)I"⟩
def RX4 : String := "StarlingSquare$Walker"
def TX4 : u_T := fun k => match k with
  | 0 => ("StarlingSquare$Walker", "goal", "I", false)
  | 1 => ("StarlingSquare$Walker", "pace", "I", false)
  | 2 => ("StarlingSquare$Walker", "mood", "I", false)
  | 3 => ("StarlingSquare$Walker", "place", "I", false)
  | 4 => ("StarlingSquare$Walker", "facing", "I", false)
  | 5 => ("StarlingSquare$Walker", "waited", "I", false)
  | 6 => ("StarlingSquare$Walker", "steps", "I", false)
  | 7 => ("StarlingSquare$Walker", "outAt", "I", false)
  | 8 => ("StarlingSquare$Walker", "hasTurn", "Z", false)
  | 9 => ("StarlingSquare$Walker", "side", "I", false)
  | _ => ("StarlingSquare$Walker", "target", "I", false)
def tyX4 : Nat → FieldType := fun k => match k with
  | 0 => .int
  | 1 => .int
  | 2 => .int
  | 3 => .int
  | 4 => .int
  | 5 => .int
  | 6 => .int
  | 7 => .int
  | 8 => .boolean
  | 9 => .int
  | _ => .int
abbrev wsX40 : List Cond := u_ws RX4 TX4 11
theorem nmX4 : ∀ a, a < 11 → ∀ b, b < 11 → a ≠ b → (TX4 a).2.1 ≠ (TX4 b).2.1 := by decide +kernel
theorem tyX4_ok : ∀ k, k < 11 → parseFieldDescriptor (TX4 k).2.2.1 = some (tyX4 k) := by decide +kernel
abbrev cX4_init : ByteArray := prog_6_method_1_code
def yX4_init : MethodName := ⟨RX4, "<init>", "()V"⟩
abbrev cX4_come : ByteArray := prog_6_method_2_code
def yX4_come : MethodName := ⟨RX4, "come", "(IIII)V"⟩
abbrev cX4_copyFrom : ByteArray := prog_6_method_3_code
def yX4_copyFrom : MethodName := ⟨RX4, "copyFrom", "(LStarlingSquare$Walker;)V"⟩
abbrev cX4_isOut : ByteArray := prog_6_method_4_code
def yX4_isOut : MethodName := ⟨RX4, "isOut", "()Z"⟩
abbrev cX4_isTurnAt : ByteArray := prog_6_method_5_code
def yX4_isTurnAt : MethodName := ⟨RX4, "isTurnAt", "(I)Z"⟩
def RX5 : String := "StarlingSquare"
def TX5 : u_T := fun k => match k with
  | 0 => ("StarlingSquare", "grid", "LStarlingSquare$Grid;", true)
  | 1 => ("StarlingSquare", "square", "LStarlingSquare$Square;", true)
  | 2 => ("StarlingSquare", "crowd", "LStarlingSquare$Crowd;", true)
  | 3 => ("StarlingSquare", "jams", "LStarlingSquare$Jams;", true)
  | 4 => ("StarlingSquare", "trialSquare", "LStarlingSquare$Square;", true)
  | _ => ("StarlingSquare", "trialCrowd", "LStarlingSquare$Crowd;", true)
def tyX5 : Nat → FieldType := fun k => match k with
  | 0 => .object "StarlingSquare$Grid"
  | 1 => .object "StarlingSquare$Square"
  | 2 => .object "StarlingSquare$Crowd"
  | 3 => .object "StarlingSquare$Jams"
  | 4 => .object "StarlingSquare$Square"
  | _ => .object "StarlingSquare$Crowd"
abbrev wsX50 : List Cond := u_ws RX5 TX5 6
theorem nmX5 : ∀ a, a < 6 → ∀ b, b < 6 → a ≠ b → (TX5 a).2.1 ≠ (TX5 b).2.1 := by decide +kernel
theorem tyX5_ok : ∀ k, k < 6 → parseFieldDescriptor (TX5 k).2.2.1 = some (tyX5 k) := by decide +kernel
abbrev cX5_init : ByteArray := prog_1_method_1_code
def yX5_init : MethodName := ⟨RX5, "<init>", "()V"⟩
abbrev cX5_reset : ByteArray := prog_1_method_2_code
def yX5_reset : MethodName := ⟨RX5, "reset", "(II)I"⟩
abbrev cX5_wall : ByteArray := prog_1_method_3_code
def yX5_wall : MethodName := ⟨RX5, "wall", "(IIIIZ)I"⟩
abbrev cX5_mark : ByteArray := prog_1_method_4_code
def yX5_mark : MethodName := ⟨RX5, "mark", "(III)I"⟩
abbrev cX5_set : ByteArray := prog_1_method_5_code
def yX5_set : MethodName := ⟨RX5, "set", "(II)I"⟩
abbrev cX5_field : ByteArray := prog_1_method_6_code
def yX5_field : MethodName := ⟨RX5, "field", "(III)I"⟩
abbrev cX5_far : ByteArray := prog_1_method_7_code
def yX5_far : MethodName := ⟨RX5, "far", "(III)I"⟩
abbrev cX5_farthest : ByteArray := prog_1_method_8_code
def yX5_farthest : MethodName := ⟨RX5, "farthest", "(I)I"⟩
abbrev cX5_walker : ByteArray := prog_1_method_9_code
def yX5_walker : MethodName := ⟨RX5, "walker", "(IIIII)I"⟩
abbrev cX5_turnTo : ByteArray := prog_1_method_10_code
def yX5_turnTo : MethodName := ⟨RX5, "turnTo", "(III)I"⟩
abbrev cX5_tick : ByteArray := prog_1_method_11_code
def yX5_tick : MethodName := ⟨RX5, "tick", "(I)I"⟩
abbrev cX5_clock : ByteArray := prog_1_method_12_code
def yX5_clock : MethodName := ⟨RX5, "clock", "()I"⟩
abbrev cX5_many : ByteArray := prog_1_method_13_code
def yX5_many : MethodName := ⟨RX5, "many", "(I)I"⟩
abbrev cX5_ofWalker : ByteArray := prog_1_method_14_code
def yX5_ofWalker : MethodName := ⟨RX5, "ofWalker", "(II)I"⟩
abbrev cX5_cost : ByteArray := prog_1_method_15_code
def yX5_cost : MethodName := ⟨RX5, "cost", "(II)I"⟩
abbrev cX5_wants : ByteArray := prog_1_method_16_code
def yX5_wants : MethodName := ⟨RX5, "wants", "(I)I"⟩
abbrev cX5_way : ByteArray := prog_1_method_17_code
def yX5_way : MethodName := ⟨RX5, "way", "(II)I"⟩
abbrev cX5_jam : ByteArray := prog_1_method_18_code
def yX5_jam : MethodName := ⟨RX5, "jam", "(I)I"⟩
abbrev cX5_meanSteps : ByteArray := prog_1_method_19_code
def yX5_meanSteps : MethodName := ⟨RX5, "meanSteps", "()D"⟩
abbrev cX5_outIn : ByteArray := prog_1_method_20_code
def yX5_outIn : MethodName := ⟨RX5, "outIn", "(II)I"⟩
abbrev cX5_outWith : ByteArray := prog_1_method_21_code
def yX5_outWith : MethodName := ⟨RX5, "outWith", "(II)I"⟩
abbrev cX5_outBy : ByteArray := prog_1_method_22_code
def yX5_outBy : MethodName := ⟨RX5, "outBy", "(III)I"⟩
abbrev cX5_jamIn : ByteArray := prog_1_method_23_code
def yX5_jamIn : MethodName := ⟨RX5, "jamIn", "(I)I"⟩
abbrev cX5_farWith : ByteArray := prog_1_method_24_code
def yX5_farWith : MethodName := ⟨RX5, "farWith", "(III)I"⟩
abbrev cX5_digest : ByteArray := prog_1_method_25_code
def yX5_digest : MethodName := ⟨RX5, "digest", "()J"⟩
abbrev cX5_makeNew : ByteArray := prog_1_method_26_code
def yX5_makeNew : MethodName := ⟨RX5, "makeNew", "(II)V"⟩
abbrev cX5_copyToTrial : ByteArray := prog_1_method_27_code
def yX5_copyToTrial : MethodName := ⟨RX5, "copyToTrial", "()V"⟩
abbrev cX5_fieldFigure : ByteArray := prog_1_method_28_code
def yX5_fieldFigure : MethodName := ⟨RX5, "fieldFigure", "(II)I"⟩
abbrev cX5_crowdFigure : ByteArray := prog_1_method_29_code
def yX5_crowdFigure : MethodName := ⟨RX5, "crowdFigure", "(I)I"⟩
abbrev cX5_countOtherwiseFar : ByteArray := prog_1_method_30_code
def yX5_countOtherwiseFar : MethodName := ⟨RX5, "countOtherwiseFar", "(II)I"⟩
abbrev cX5_mixWalker : ByteArray := prog_1_method_31_code
def yX5_mixWalker : MethodName := ⟨RX5, "mixWalker", "(JI)J"⟩
abbrev cX5_mixField : ByteArray := prog_1_method_32_code
def yX5_mixField : MethodName := ⟨RX5, "mixField", "(JI)J"⟩
abbrev cX5_mix : ByteArray := prog_1_method_33_code
def yX5_mix : MethodName := ⟨RX5, "mix", "(JI)J"⟩
abbrev cX5_isGoal : ByteArray := prog_1_method_34_code
def yX5_isGoal : MethodName := ⟨RX5, "isGoal", "(I)Z"⟩
abbrev cX5_isMood : ByteArray := prog_1_method_35_code
def yX5_isMood : MethodName := ⟨RX5, "isMood", "(I)Z"⟩
abbrev cX5_isAhead : ByteArray := prog_1_method_36_code
def yX5_isAhead : MethodName := ⟨RX5, "isAhead", "(I)Z"⟩
def RX6 : String := "StarlingSquareModel"
def TX6 : u_T := fun k => match k with
  | 0 => ("StarlingSquareModel", "thrown", "I", false)
  | 1 => ("StarlingSquareModel", "w", "I", false)
  | 2 => ("StarlingSquareModel", "h", "I", false)
  | 3 => ("StarlingSquareModel", "clock", "I", false)
  | 4 => ("StarlingSquareModel", "draw", "I", false)
  | 5 => ("StarlingSquareModel", "jam", "I", false)
  | 6 => ("StarlingSquareModel", "isWall", "[Z", false)
  | 7 => ("StarlingSquareModel", "isMarked", "[Z", false)
  | 8 => ("StarlingSquareModel", "walkers", "I", false)
  | 9 => ("StarlingSquareModel", "its", "[I", false)
  | _ => ("StarlingSquareModel", "heat", "[I", false)
def tyX6 : Nat → FieldType := fun k => match k with
  | 0 => .int
  | 1 => .int
  | 2 => .int
  | 3 => .int
  | 4 => .int
  | 5 => .int
  | 6 => .array .boolean
  | 7 => .array .boolean
  | 8 => .int
  | 9 => .array .int
  | _ => .array .int
abbrev wsX60 : List Cond := u_ws RX6 TX6 11
theorem nmX6 : ∀ a, a < 11 → ∀ b, b < 11 → a ≠ b → (TX6 a).2.1 ≠ (TX6 b).2.1 := by decide +kernel
theorem tyX6_ok : ∀ k, k < 11 → parseFieldDescriptor (TX6 k).2.2.1 = some (tyX6 k) := by decide +kernel
abbrev cX6_init : ByteArray := prog_8_method_1_code
def yX6_init : MethodName := ⟨RX6, "<init>", "()V"⟩
abbrev cX6_make : ByteArray := prog_8_method_2_code
def yX6_make : MethodName := ⟨RX6, "make", "(II)V"⟩
abbrev cX6_thrown : ByteArray := prog_8_method_3_code
def yX6_thrown : MethodName := ⟨RX6, "thrown", "()I"⟩
abbrev cX6_no : ByteArray := prog_8_method_4_code
def yX6_no : MethodName := ⟨RX6, "no", "(I)I"⟩
abbrev cX6_ok : ByteArray := prog_8_method_5_code
def yX6_ok : MethodName := ⟨RX6, "ok", "(I)I"⟩
abbrev cX6_isIn : ByteArray := prog_8_method_6_code
def yX6_isIn : MethodName := ⟨RX6, "isIn", "(III)Z"⟩
abbrev cX6_isField : ByteArray := prog_8_method_7_code
def yX6_isField : MethodName := ⟨RX6, "isField", "(II)Z"⟩
abbrev cX6_isGoal : ByteArray := prog_8_method_8_code
def yX6_isGoal : MethodName := ⟨RX6, "isGoal", "(I)Z"⟩
abbrev cX6_isWalker : ByteArray := prog_8_method_9_code
def yX6_isWalker : MethodName := ⟨RX6, "isWalker", "(I)Z"⟩
abbrev cX6_isOn : ByteArray := prog_8_method_10_code
def yX6_isOn : MethodName := ⟨RX6, "isOn", "(I)Z"⟩
abbrev cX6_beside : ByteArray := prog_8_method_11_code
def yX6_beside : MethodName := ⟨RX6, "beside", "(II)I"⟩
abbrev cX6_areRound : ByteArray := prog_8_method_12_code
def yX6_areRound : MethodName := ⟨RX6, "areRound", "(II)Z"⟩
abbrev cX6_walkerOn : ByteArray := prog_8_method_13_code
def yX6_walkerOn : MethodName := ⟨RX6, "walkerOn", "(I)I"⟩
abbrev cX6_round : ByteArray := prog_8_method_14_code
def yX6_round : MethodName := ⟨RX6, "round", "(II)I"⟩
abbrev cX6_far : ByteArray := prog_8_method_15_code
def yX6_far : MethodName := ⟨RX6, "far", "(I)[I"⟩
abbrev cX6_farAll : ByteArray := prog_8_method_16_code
def yX6_farAll : MethodName := ⟨RX6, "farAll", "()[[I"⟩
abbrev cX6_reset : ByteArray := prog_8_method_17_code
def yX6_reset : MethodName := ⟨RX6, "reset", "(II)I"⟩
abbrev cX6_wall : ByteArray := prog_8_method_18_code
def yX6_wall : MethodName := ⟨RX6, "wall", "(IIIIZ)I"⟩
abbrev cX6_mark : ByteArray := prog_8_method_19_code
def yX6_mark : MethodName := ⟨RX6, "mark", "(III)I"⟩
abbrev cX6_set : ByteArray := prog_8_method_20_code
def yX6_set : MethodName := ⟨RX6, "set", "(II)I"⟩
abbrev cX6_fieldNow : ByteArray := prog_8_method_21_code
def yX6_fieldNow : MethodName := ⟨RX6, "fieldNow", "(II)I"⟩
abbrev cX6_field : ByteArray := prog_8_method_22_code
def yX6_field : MethodName := ⟨RX6, "field", "(III)I"⟩
abbrev cX6_far_ : ByteArray := prog_8_method_23_code
def yX6_far_ : MethodName := ⟨RX6, "far", "(III)I"⟩
abbrev cX6_most : ByteArray := prog_8_method_24_code
def yX6_most : MethodName := ⟨RX6, "most", "([I)I"⟩
abbrev cX6_farthest : ByteArray := prog_8_method_25_code
def yX6_farthest : MethodName := ⟨RX6, "farthest", "(I)I"⟩
abbrev cX6_walker : ByteArray := prog_8_method_26_code
def yX6_walker : MethodName := ⟨RX6, "walker", "(IIIII)I"⟩
abbrev cX6_turnTo : ByteArray := prog_8_method_27_code
def yX6_turnTo : MethodName := ⟨RX6, "turnTo", "(III)I"⟩
abbrev cX6_costNow : ByteArray := prog_8_method_28_code
def yX6_costNow : MethodName := ⟨RX6, "costNow", "(II[I)I"⟩
abbrev cX6_wantsNow : ByteArray := prog_8_method_29_code
def yX6_wantsNow : MethodName := ⟨RX6, "wantsNow", "(I[I)I"⟩
abbrev cX6_tickNow : ByteArray := prog_8_method_30_code
def yX6_tickNow : MethodName := ⟨RX6, "tickNow", "([[I)I"⟩
abbrev cX6_tick : ByteArray := prog_8_method_31_code
def yX6_tick : MethodName := ⟨RX6, "tick", "(I)I"⟩
abbrev cX6_clock : ByteArray := prog_8_method_32_code
def yX6_clock : MethodName := ⟨RX6, "clock", "()I"⟩
abbrev cX6_jams : ByteArray := prog_8_method_33_code
def yX6_jams : MethodName := ⟨RX6, "jams", "()[I"⟩
abbrev cX6_count : ByteArray := prog_8_method_34_code
def yX6_count : MethodName := ⟨RX6, "count", "([II)I"⟩
abbrev cX6_manyNow : ByteArray := prog_8_method_35_code
def yX6_manyNow : MethodName := ⟨RX6, "manyNow", "(I[I[[I)I"⟩
abbrev cX6_many : ByteArray := prog_8_method_36_code
def yX6_many : MethodName := ⟨RX6, "many", "(I)I"⟩
abbrev cX6_ofNow : ByteArray := prog_8_method_37_code
def yX6_ofNow : MethodName := ⟨RX6, "ofNow", "(II[[I)I"⟩
abbrev cX6_ofWalker : ByteArray := prog_8_method_38_code
def yX6_ofWalker : MethodName := ⟨RX6, "ofWalker", "(II)I"⟩
abbrev cX6_farOf : ByteArray := prog_8_method_39_code
def yX6_farOf : MethodName := ⟨RX6, "farOf", "(I)[I"⟩
abbrev cX6_cost : ByteArray := prog_8_method_40_code
def yX6_cost : MethodName := ⟨RX6, "cost", "(II)I"⟩
abbrev cX6_wants : ByteArray := prog_8_method_41_code
def yX6_wants : MethodName := ⟨RX6, "wants", "(I)I"⟩
abbrev cX6_way : ByteArray := prog_8_method_42_code
def yX6_way : MethodName := ⟨RX6, "way", "(II)I"⟩
abbrev cX6_jamNow : ByteArray := prog_8_method_43_code
def yX6_jamNow : MethodName := ⟨RX6, "jamNow", "(I[I)I"⟩
abbrev cX6_jam : ByteArray := prog_8_method_44_code
def yX6_jam : MethodName := ⟨RX6, "jam", "(I)I"⟩
abbrev cX6_meanSteps : ByteArray := prog_8_method_45_code
def yX6_meanSteps : MethodName := ⟨RX6, "meanSteps", "()D"⟩
abbrev cX6_putBy : ByteArray := prog_8_method_46_code
def yX6_putBy : MethodName := ⟨RX6, "putBy", "()[[I"⟩
abbrev cX6_putBack : ByteArray := prog_8_method_47_code
def yX6_putBack : MethodName := ⟨RX6, "putBack", "([[I)V"⟩
abbrev cX6_outIn : ByteArray := prog_8_method_48_code
def yX6_outIn : MethodName := ⟨RX6, "outIn", "(II)I"⟩
abbrev cX6_outBehind : ByteArray := prog_8_method_49_code
def yX6_outBehind : MethodName := ⟨RX6, "outBehind", "(I)I"⟩
abbrev cX6_outWith : ByteArray := prog_8_method_50_code
def yX6_outWith : MethodName := ⟨RX6, "outWith", "(II)I"⟩
abbrev cX6_outBy : ByteArray := prog_8_method_51_code
def yX6_outBy : MethodName := ⟨RX6, "outBy", "(III)I"⟩
abbrev cX6_jamIn : ByteArray := prog_8_method_52_code
def yX6_jamIn : MethodName := ⟨RX6, "jamIn", "(I)I"⟩
abbrev cX6_farWith : ByteArray := prog_8_method_53_code
def yX6_farWith : MethodName := ⟨RX6, "farWith", "(III)I"⟩
abbrev cX6_digest : ByteArray := prog_8_method_54_code
def yX6_digest : MethodName := ⟨RX6, "digest", "()J"⟩
def RJ9 : String := "java/lang/Math"
def TJ9 : u_T := fun k => match k with
  | _ => ("", "", "", false)
def tyJ9 : Nat → FieldType := fun k => match k with
  | _ => .int
abbrev wsJ90 : List Cond := u_ws RJ9 TJ9 0
theorem nmJ9 : ∀ a, a < 0 → ∀ b, b < 0 → a ≠ b → (TJ9 a).2.1 ≠ (TJ9 b).2.1 := by decide +kernel
theorem tyJ9_ok : ∀ k, k < 0 → parseFieldDescriptor (TJ9 k).2.2.1 = some (tyJ9 k) := by decide +kernel
abbrev cJ9_abs_0f7a4 : ByteArray := prog_13_method_59_code
def yJ9_abs_0f7a4 : MethodName := ⟨RJ9, "abs", "(I)I"⟩
abbrev cJ9_max_7cf53 : ByteArray := prog_13_method_65_code
def yJ9_max_7cf53 : MethodName := ⟨RJ9, "max", "(II)I"⟩
abbrev cJ9_min_7cf53 : ByteArray := prog_13_method_69_code
def yJ9_min_7cf53 : MethodName := ⟨RJ9, "min", "(II)I"⟩
def RJ0 : String := "java/lang/String"
def TJ0 : u_T := fun k => match k with
  | _ => ("", "", "", false)
def tyJ0 : Nat → FieldType := fun k => match k with
  | _ => .int
abbrev wsJ00 : List Cond := u_ws RJ0 TJ0 0
theorem nmJ0 : ∀ a, a < 0 → ∀ b, b < 0 → a ≠ b → (TJ0 a).2.1 ≠ (TJ0 b).2.1 := by decide +kernel
theorem tyJ0_ok : ∀ k, k < 0 → parseFieldDescriptor (TJ0 k).2.2.1 = some (tyJ0 k) := by decide +kernel
def RJ10 : String := "java/lang/System"
def TJ10 : u_T := fun k => match k with
  | _ => ("", "", "", false)
def tyJ10 : Nat → FieldType := fun k => match k with
  | _ => .int
abbrev wsJ100 : List Cond := u_ws RJ10 TJ10 0
theorem nmJ10 : ∀ a, a < 0 → ∀ b, b < 0 → a ≠ b → (TJ10 a).2.1 ≠ (TJ10 b).2.1 := by decide +kernel
theorem tyJ10_ok : ∀ k, k < 0 → parseFieldDescriptor (TJ10 k).2.2.1 = some (tyJ10 k) := by decide +kernel
def RL : String := "StarlingSquareLaw"
abbrev cL_reset : ByteArray := method_3_code
def yL_reset : MethodName := ⟨RL, "reset", "(LStarlingSquare;II[J)I"⟩
abbrev cL_wall : ByteArray := method_4_code
def yL_wall : MethodName := ⟨RL, "wall", "(LStarlingSquare;IIIIZ[J)I"⟩
abbrev cL_mark : ByteArray := method_5_code
def yL_mark : MethodName := ⟨RL, "mark", "(LStarlingSquare;III[J)I"⟩
abbrev cL_set : ByteArray := method_6_code
def yL_set : MethodName := ⟨RL, "set", "(LStarlingSquare;II[J)I"⟩
abbrev cL_field : ByteArray := method_7_code
def yL_field : MethodName := ⟨RL, "field", "(LStarlingSquare;III[J)I"⟩
abbrev cL_far : ByteArray := method_8_code
def yL_far : MethodName := ⟨RL, "far", "(LStarlingSquare;III[J)I"⟩
abbrev cL_farthest : ByteArray := method_9_code
def yL_farthest : MethodName := ⟨RL, "farthest", "(LStarlingSquare;I[J)I"⟩
abbrev cL_walker : ByteArray := method_10_code
def yL_walker : MethodName := ⟨RL, "walker", "(LStarlingSquare;IIIII[J)I"⟩
abbrev cL_turnTo : ByteArray := method_11_code
def yL_turnTo : MethodName := ⟨RL, "turnTo", "(LStarlingSquare;III[J)I"⟩
abbrev cL_tick : ByteArray := method_12_code
def yL_tick : MethodName := ⟨RL, "tick", "(LStarlingSquare;I[J)I"⟩
abbrev cL_many : ByteArray := method_13_code
def yL_many : MethodName := ⟨RL, "many", "(LStarlingSquare;I[J)I"⟩
abbrev cL_ofWalker : ByteArray := method_14_code
def yL_ofWalker : MethodName := ⟨RL, "ofWalker", "(LStarlingSquare;II[J)I"⟩
abbrev cL_cost : ByteArray := method_15_code
def yL_cost : MethodName := ⟨RL, "cost", "(LStarlingSquare;II[J)I"⟩
abbrev cL_wants : ByteArray := method_16_code
def yL_wants : MethodName := ⟨RL, "wants", "(LStarlingSquare;I[J)I"⟩
abbrev cL_way : ByteArray := method_17_code
def yL_way : MethodName := ⟨RL, "way", "(LStarlingSquare;II[J)I"⟩
abbrev cL_jam : ByteArray := method_18_code
def yL_jam : MethodName := ⟨RL, "jam", "(LStarlingSquare;I[J)I"⟩
abbrev cL_outIn : ByteArray := method_19_code
def yL_outIn : MethodName := ⟨RL, "outIn", "(LStarlingSquare;II[J)I"⟩
abbrev cL_outWith : ByteArray := method_20_code
def yL_outWith : MethodName := ⟨RL, "outWith", "(LStarlingSquare;II[J)I"⟩
abbrev cL_outBy : ByteArray := method_21_code
def yL_outBy : MethodName := ⟨RL, "outBy", "(LStarlingSquare;III[J)I"⟩
abbrev cL_jamIn : ByteArray := method_22_code
def yL_jamIn : MethodName := ⟨RL, "jamIn", "(LStarlingSquare;I[J)I"⟩
abbrev cL_farWith : ByteArray := method_23_code
def yL_farWith : MethodName := ⟨RL, "farWith", "(LStarlingSquare;III[J)I"⟩
abbrev cL_law : ByteArray := code
def yL_law : MethodName := ⟨RL, "law", "([I)Z"⟩
abbrev vwCl : List vw_C := [(RX0, TX0, 10), (RX1, TX1, 4), (RX2, TX2, 5), (RX3, TX3, 5), (RX4, TX4, 11), (RX5, TX5, 6), (RX6, TX6, 11)]
end
section
theorem dX0_init_0 : decode cX0_init 0 = .ok (.aload_n 0, 1) := by decide +kernel
theorem dX0_init_1 : decode cX0_init 1 = .ok (.invokespecial 3, 3) := by decide +kernel
theorem dX0_init_4 : decode cX0_init 4 = .ok (.aload_n 0, 1) := by decide +kernel
theorem dX0_init_5 : decode cX0_init 5 = .ok (.iconst 2, 1) := by decide +kernel
theorem dX0_init_6 : decode cX0_init 6 = .ok (.putfield 9, 3) := by decide +kernel
theorem dX0_init_9 : decode cX0_init 9 = .ok (.aload_n 0, 1) := by decide +kernel
theorem dX0_init_10 : decode cX0_init 10 = .ok (.iconst 3, 1) := by decide +kernel
theorem dX0_init_11 : decode cX0_init 11 = .ok (.putfield 15, 3) := by decide +kernel
theorem dX0_init_14 : decode cX0_init 14 = .ok (.aload_n 0, 1) := by decide +kernel
theorem dX0_init_15 : decode cX0_init 15 = .ok (.bipush 24, 2) := by decide +kernel
theorem dX0_init_17 : decode cX0_init 17 = .ok (.anewarray 18, 3) := by decide +kernel
theorem dX0_init_20 : decode cX0_init 20 = .ok (.putfield 20, 3) := by decide +kernel
theorem dX0_init_23 : decode cX0_init 23 = .ok (.aload_n 0, 1) := by decide +kernel
theorem dX0_init_24 : decode cX0_init 24 = .ok (.sipush 196, 3) := by decide +kernel
theorem dX0_init_27 : decode cX0_init 27 = .ok (.newarray .int, 2) := by decide +kernel
theorem dX0_init_29 : decode cX0_init 29 = .ok (.putfield 24, 3) := by decide +kernel
theorem dX0_init_32 : decode cX0_init 32 = .ok (.aload_n 0, 1) := by decide +kernel
theorem dX0_init_33 : decode cX0_init 33 = .ok (.sipush 196, 3) := by decide +kernel
theorem dX0_init_36 : decode cX0_init 36 = .ok (.newarray .int, 2) := by decide +kernel
theorem dX0_init_38 : decode cX0_init 38 = .ok (.putfield 28, 3) := by decide +kernel
theorem dX0_init_41 : decode cX0_init 41 = .ok (.aload_n 0, 1) := by decide +kernel
theorem dX0_init_42 : decode cX0_init 42 = .ok (.sipush 196, 3) := by decide +kernel
theorem dX0_init_45 : decode cX0_init 45 = .ok (.newarray .int, 2) := by decide +kernel
theorem dX0_init_47 : decode cX0_init 47 = .ok (.putfield 31, 3) := by decide +kernel
theorem dX0_init_50 : decode cX0_init 50 = .ok (.aload_n 0, 1) := by decide +kernel
theorem dX0_init_51 : decode cX0_init 51 = .ok (.aload_n 1, 1) := by decide +kernel
theorem dX0_init_52 : decode cX0_init 52 = .ok (.putfield 34, 3) := by decide +kernel
theorem dX0_init_55 : decode cX0_init 55 = .ok (.aload_n 0, 1) := by decide +kernel
theorem dX0_init_56 : decode cX0_init 56 = .ok (.aload_n 2, 1) := by decide +kernel
theorem dX0_init_57 : decode cX0_init 57 = .ok (.putfield 38, 3) := by decide +kernel
theorem dX0_init_60 : decode cX0_init 60 = .ok (.iconst 0, 1) := by decide +kernel
theorem dX0_init_61 : decode cX0_init 61 = .ok (.istore_n 3, 1) := by decide +kernel
theorem dX0_init_62 : decode cX0_init 62 = .ok (.iload_n 3, 1) := by decide +kernel
theorem dX0_init_63 : decode cX0_init 63 = .ok (.bipush 24, 2) := by decide +kernel
theorem dX0_init_65 : decode cX0_init 65 = .ok (.if_icmp .ge 22, 3) := by decide +kernel
theorem dX0_init_68 : decode cX0_init 68 = .ok (.aload_n 0, 1) := by decide +kernel
theorem dX0_init_69 : decode cX0_init 69 = .ok (.getfield 20, 3) := by decide +kernel
theorem dX0_init_72 : decode cX0_init 72 = .ok (.iload_n 3, 1) := by decide +kernel
theorem dX0_init_73 : decode cX0_init 73 = .ok (.new 18, 3) := by decide +kernel
theorem dX0_init_76 : decode cX0_init 76 = .ok (.dup, 1) := by decide +kernel
theorem dX0_init_77 : decode cX0_init 77 = .ok (.invokespecial 42, 3) := by decide +kernel
theorem dX0_init_80 : decode cX0_init 80 = .ok (.aastore, 1) := by decide +kernel
theorem dX0_init_81 : decode cX0_init 81 = .ok (.iinc 3 1, 3) := by decide +kernel
theorem dX0_init_84 : decode cX0_init 84 = .ok (.goto (-22), 3) := by decide +kernel
theorem dX0_init_87 : decode cX0_init 87 = .ok (.return_, 1) := by decide +kernel
theorem dX0_clear_0 : decode cX0_clear 0 = .ok (.aload_n 0, 1) := by decide +kernel
theorem dX0_clear_1 : decode cX0_clear 1 = .ok (.iconst 0, 1) := by decide +kernel
theorem dX0_clear_2 : decode cX0_clear 2 = .ok (.putfield 43, 3) := by decide +kernel
theorem dX0_clear_5 : decode cX0_clear 5 = .ok (.aload_n 0, 1) := by decide +kernel
theorem dX0_clear_6 : decode cX0_clear 6 = .ok (.iconst 0, 1) := by decide +kernel
theorem dX0_clear_7 : decode cX0_clear 7 = .ok (.putfield 46, 3) := by decide +kernel
theorem dX0_clear_10 : decode cX0_clear 10 = .ok (.iconst 0, 1) := by decide +kernel
theorem dX0_clear_11 : decode cX0_clear 11 = .ok (.istore_n 1, 1) := by decide +kernel
theorem dX0_clear_12 : decode cX0_clear 12 = .ok (.iload_n 1, 1) := by decide +kernel
theorem dX0_clear_13 : decode cX0_clear 13 = .ok (.sipush 196, 3) := by decide +kernel
theorem dX0_clear_16 : decode cX0_clear 16 = .ok (.if_icmp .ge 23, 3) := by decide +kernel
theorem dX0_clear_19 : decode cX0_clear 19 = .ok (.aload_n 0, 1) := by decide +kernel
theorem dX0_clear_20 : decode cX0_clear 20 = .ok (.getfield 24, 3) := by decide +kernel
theorem dX0_clear_23 : decode cX0_clear 23 = .ok (.iload_n 1, 1) := by decide +kernel
theorem dX0_clear_24 : decode cX0_clear 24 = .ok (.iconst (-1), 1) := by decide +kernel
theorem dX0_clear_25 : decode cX0_clear 25 = .ok (.iastore, 1) := by decide +kernel
theorem dX0_clear_26 : decode cX0_clear 26 = .ok (.aload_n 0, 1) := by decide +kernel
theorem dX0_clear_27 : decode cX0_clear 27 = .ok (.getfield 28, 3) := by decide +kernel
theorem dX0_clear_30 : decode cX0_clear 30 = .ok (.iload_n 1, 1) := by decide +kernel
theorem dX0_clear_31 : decode cX0_clear 31 = .ok (.iconst 0, 1) := by decide +kernel
theorem dX0_clear_32 : decode cX0_clear 32 = .ok (.iastore, 1) := by decide +kernel
theorem dX0_clear_33 : decode cX0_clear 33 = .ok (.iinc 1 1, 3) := by decide +kernel
theorem dX0_clear_36 : decode cX0_clear 36 = .ok (.goto (-24), 3) := by decide +kernel
theorem dX0_clear_39 : decode cX0_clear 39 = .ok (.return_, 1) := by decide +kernel
theorem dX0_copyFrom_0 : decode cX0_copyFrom 0 = .ok (.aload_n 0, 1) := by decide +kernel
theorem dX0_copyFrom_1 : decode cX0_copyFrom 1 = .ok (.aload_n 1, 1) := by decide +kernel
theorem dX0_copyFrom_2 : decode cX0_copyFrom 2 = .ok (.getfield 43, 3) := by decide +kernel
theorem dX0_copyFrom_5 : decode cX0_copyFrom 5 = .ok (.putfield 43, 3) := by decide +kernel
theorem dX0_copyFrom_8 : decode cX0_copyFrom 8 = .ok (.aload_n 0, 1) := by decide +kernel
theorem dX0_copyFrom_9 : decode cX0_copyFrom 9 = .ok (.aload_n 1, 1) := by decide +kernel
theorem dX0_copyFrom_10 : decode cX0_copyFrom 10 = .ok (.getfield 46, 3) := by decide +kernel
theorem dX0_copyFrom_13 : decode cX0_copyFrom 13 = .ok (.putfield 46, 3) := by decide +kernel
theorem dX0_copyFrom_16 : decode cX0_copyFrom 16 = .ok (.aload_n 0, 1) := by decide +kernel
theorem dX0_copyFrom_17 : decode cX0_copyFrom 17 = .ok (.aload_n 1, 1) := by decide +kernel
theorem dX0_copyFrom_18 : decode cX0_copyFrom 18 = .ok (.getfield 9, 3) := by decide +kernel
theorem dX0_copyFrom_21 : decode cX0_copyFrom 21 = .ok (.putfield 9, 3) := by decide +kernel
theorem dX0_copyFrom_24 : decode cX0_copyFrom 24 = .ok (.aload_n 0, 1) := by decide +kernel
theorem dX0_copyFrom_25 : decode cX0_copyFrom 25 = .ok (.aload_n 1, 1) := by decide +kernel
theorem dX0_copyFrom_26 : decode cX0_copyFrom 26 = .ok (.getfield 15, 3) := by decide +kernel
theorem dX0_copyFrom_29 : decode cX0_copyFrom 29 = .ok (.putfield 15, 3) := by decide +kernel
theorem dX0_copyFrom_32 : decode cX0_copyFrom 32 = .ok (.aload_n 1, 1) := by decide +kernel
theorem dX0_copyFrom_33 : decode cX0_copyFrom 33 = .ok (.getfield 24, 3) := by decide +kernel
theorem dX0_copyFrom_36 : decode cX0_copyFrom 36 = .ok (.iconst 0, 1) := by decide +kernel
theorem dX0_copyFrom_37 : decode cX0_copyFrom 37 = .ok (.aload_n 0, 1) := by decide +kernel
theorem dX0_copyFrom_38 : decode cX0_copyFrom 38 = .ok (.getfield 24, 3) := by decide +kernel
theorem dX0_copyFrom_41 : decode cX0_copyFrom 41 = .ok (.iconst 0, 1) := by decide +kernel
theorem dX0_copyFrom_42 : decode cX0_copyFrom 42 = .ok (.sipush 196, 3) := by decide +kernel
theorem dX0_copyFrom_45 : decode cX0_copyFrom 45 = .ok (.invokestatic 49, 3) := by decide +kernel
theorem dX0_copyFrom_48 : decode cX0_copyFrom 48 = .ok (.aload_n 1, 1) := by decide +kernel
theorem dX0_copyFrom_49 : decode cX0_copyFrom 49 = .ok (.getfield 28, 3) := by decide +kernel
theorem dX0_copyFrom_52 : decode cX0_copyFrom 52 = .ok (.iconst 0, 1) := by decide +kernel
theorem dX0_copyFrom_53 : decode cX0_copyFrom 53 = .ok (.aload_n 0, 1) := by decide +kernel
theorem dX0_copyFrom_54 : decode cX0_copyFrom 54 = .ok (.getfield 28, 3) := by decide +kernel
theorem dX0_copyFrom_57 : decode cX0_copyFrom 57 = .ok (.iconst 0, 1) := by decide +kernel
theorem dX0_copyFrom_58 : decode cX0_copyFrom 58 = .ok (.sipush 196, 3) := by decide +kernel
theorem dX0_copyFrom_61 : decode cX0_copyFrom 61 = .ok (.invokestatic 49, 3) := by decide +kernel
theorem dX0_copyFrom_64 : decode cX0_copyFrom 64 = .ok (.iconst 0, 1) := by decide +kernel
theorem dX0_copyFrom_65 : decode cX0_copyFrom 65 = .ok (.istore_n 2, 1) := by decide +kernel
theorem dX0_copyFrom_66 : decode cX0_copyFrom 66 = .ok (.iload_n 2, 1) := by decide +kernel
theorem dX0_copyFrom_67 : decode cX0_copyFrom 67 = .ok (.aload_n 0, 1) := by decide +kernel
theorem dX0_copyFrom_68 : decode cX0_copyFrom 68 = .ok (.getfield 43, 3) := by decide +kernel
theorem dX0_copyFrom_71 : decode cX0_copyFrom 71 = .ok (.if_icmp .ge 22, 3) := by decide +kernel
theorem dX0_copyFrom_74 : decode cX0_copyFrom 74 = .ok (.aload_n 0, 1) := by decide +kernel
theorem dX0_copyFrom_75 : decode cX0_copyFrom 75 = .ok (.iload_n 2, 1) := by decide +kernel
theorem dX0_copyFrom_76 : decode cX0_copyFrom 76 = .ok (.invokevirtual 55, 3) := by decide +kernel
theorem dX0_copyFrom_79 : decode cX0_copyFrom 79 = .ok (.aload_n 1, 1) := by decide +kernel
theorem dX0_copyFrom_80 : decode cX0_copyFrom 80 = .ok (.iload_n 2, 1) := by decide +kernel
theorem dX0_copyFrom_81 : decode cX0_copyFrom 81 = .ok (.invokevirtual 55, 3) := by decide +kernel
theorem dX0_copyFrom_84 : decode cX0_copyFrom 84 = .ok (.invokestatic 59, 3) := by decide +kernel
theorem dX0_copyFrom_87 : decode cX0_copyFrom 87 = .ok (.iinc 2 1, 3) := by decide +kernel
theorem dX0_copyFrom_90 : decode cX0_copyFrom 90 = .ok (.goto (-24), 3) := by decide +kernel
theorem dX0_copyFrom_93 : decode cX0_copyFrom 93 = .ok (.return_, 1) := by decide +kernel
theorem dX0_copyWalker_0 : decode cX0_copyWalker 0 = .ok (.aload_n 0, 1) := by decide +kernel
theorem dX0_copyWalker_1 : decode cX0_copyWalker 1 = .ok (.ifnull 12, 3) := by decide +kernel
theorem dX0_copyWalker_4 : decode cX0_copyWalker 4 = .ok (.aload_n 1, 1) := by decide +kernel
theorem dX0_copyWalker_5 : decode cX0_copyWalker 5 = .ok (.ifnull 8, 3) := by decide +kernel
theorem dX0_copyWalker_8 : decode cX0_copyWalker 8 = .ok (.aload_n 0, 1) := by decide +kernel
theorem dX0_copyWalker_9 : decode cX0_copyWalker 9 = .ok (.aload_n 1, 1) := by decide +kernel
theorem dX0_copyWalker_10 : decode cX0_copyWalker 10 = .ok (.invokevirtual 63, 3) := by decide +kernel
theorem dX0_copyWalker_13 : decode cX0_copyWalker 13 = .ok (.return_, 1) := by decide +kernel
theorem dX0_get_0 : decode cX0_get 0 = .ok (.iload_n 1, 1) := by decide +kernel
theorem dX0_get_1 : decode cX0_get 1 = .ok (.ifCond .lt 21, 3) := by decide +kernel
theorem dX0_get_4 : decode cX0_get 4 = .ok (.iload_n 1, 1) := by decide +kernel
theorem dX0_get_5 : decode cX0_get 5 = .ok (.aload_n 0, 1) := by decide +kernel
theorem dX0_get_6 : decode cX0_get 6 = .ok (.getfield 43, 3) := by decide +kernel
theorem dX0_get_9 : decode cX0_get 9 = .ok (.if_icmp .ge 13, 3) := by decide +kernel
theorem dX0_get_12 : decode cX0_get 12 = .ok (.iload_n 1, 1) := by decide +kernel
theorem dX0_get_13 : decode cX0_get 13 = .ok (.bipush 24, 2) := by decide +kernel
theorem dX0_get_15 : decode cX0_get 15 = .ok (.if_icmp .ge 7, 3) := by decide +kernel
theorem dX0_get_18 : decode cX0_get 18 = .ok (.iconst 1, 1) := by decide +kernel
theorem dX0_get_19 : decode cX0_get 19 = .ok (.goto 4, 3) := by decide +kernel
theorem dX0_get_22 : decode cX0_get 22 = .ok (.iconst 0, 1) := by decide +kernel
theorem dX0_get_23 : decode cX0_get 23 = .ok (.istore_n 2, 1) := by decide +kernel
theorem dX0_get_24 : decode cX0_get 24 = .ok (.iload_n 2, 1) := by decide +kernel
theorem dX0_get_25 : decode cX0_get 25 = .ok (.ifCond .eq 12, 3) := by decide +kernel
theorem dX0_get_28 : decode cX0_get 28 = .ok (.aload_n 0, 1) := by decide +kernel
theorem dX0_get_29 : decode cX0_get 29 = .ok (.getfield 20, 3) := by decide +kernel
theorem dX0_get_32 : decode cX0_get 32 = .ok (.iload_n 1, 1) := by decide +kernel
theorem dX0_get_33 : decode cX0_get 33 = .ok (.aaload, 1) := by decide +kernel
theorem dX0_get_34 : decode cX0_get 34 = .ok (.goto 4, 3) := by decide +kernel
theorem dX0_get_37 : decode cX0_get 37 = .ok (.aconst_null, 1) := by decide +kernel
theorem dX0_get_38 : decode cX0_get 38 = .ok (.areturn, 1) := by decide +kernel
theorem dX0_numberOn_0 : decode cX0_numberOn 0 = .ok (.iload_n 1, 1) := by decide +kernel
theorem dX0_numberOn_1 : decode cX0_numberOn 1 = .ok (.ifCond .lt 19, 3) := by decide +kernel
theorem dX0_numberOn_4 : decode cX0_numberOn 4 = .ok (.iload_n 1, 1) := by decide +kernel
theorem dX0_numberOn_5 : decode cX0_numberOn 5 = .ok (.sipush 196, 3) := by decide +kernel
theorem dX0_numberOn_8 : decode cX0_numberOn 8 = .ok (.if_icmp .ge 12, 3) := by decide +kernel
theorem dX0_numberOn_11 : decode cX0_numberOn 11 = .ok (.aload_n 0, 1) := by decide +kernel
theorem dX0_numberOn_12 : decode cX0_numberOn 12 = .ok (.getfield 24, 3) := by decide +kernel
theorem dX0_numberOn_15 : decode cX0_numberOn 15 = .ok (.iload_n 1, 1) := by decide +kernel
theorem dX0_numberOn_16 : decode cX0_numberOn 16 = .ok (.iaload, 1) := by decide +kernel
theorem dX0_numberOn_17 : decode cX0_numberOn 17 = .ok (.goto 4, 3) := by decide +kernel
theorem dX0_numberOn_20 : decode cX0_numberOn 20 = .ok (.iconst (-1), 1) := by decide +kernel
theorem dX0_numberOn_21 : decode cX0_numberOn 21 = .ok (.ireturn, 1) := by decide +kernel
theorem dX0_isAnyoneIn_0 : decode cX0_isAnyoneIn 0 = .ok (.iload_n 2, 1) := by decide +kernel
theorem dX0_isAnyoneIn_1 : decode cX0_isAnyoneIn 1 = .ok (.istore 5, 2) := by decide +kernel
theorem dX0_isAnyoneIn_3 : decode cX0_isAnyoneIn 3 = .ok (.iload 5, 2) := by decide +kernel
theorem dX0_isAnyoneIn_5 : decode cX0_isAnyoneIn 5 = .ok (.iload 4, 2) := by decide +kernel
theorem dX0_isAnyoneIn_7 : decode cX0_isAnyoneIn 7 = .ok (.if_icmp .gt 45, 3) := by decide +kernel
theorem dX0_isAnyoneIn_10 : decode cX0_isAnyoneIn 10 = .ok (.iload_n 1, 1) := by decide +kernel
theorem dX0_isAnyoneIn_11 : decode cX0_isAnyoneIn 11 = .ok (.istore 6, 2) := by decide +kernel
theorem dX0_isAnyoneIn_13 : decode cX0_isAnyoneIn 13 = .ok (.iload 6, 2) := by decide +kernel
theorem dX0_isAnyoneIn_15 : decode cX0_isAnyoneIn 15 = .ok (.iload_n 3, 1) := by decide +kernel
theorem dX0_isAnyoneIn_16 : decode cX0_isAnyoneIn 16 = .ok (.if_icmp .gt 30, 3) := by decide +kernel
theorem dX0_isAnyoneIn_19 : decode cX0_isAnyoneIn 19 = .ok (.aload_n 0, 1) := by decide +kernel
theorem dX0_isAnyoneIn_20 : decode cX0_isAnyoneIn 20 = .ok (.aload_n 0, 1) := by decide +kernel
theorem dX0_isAnyoneIn_21 : decode cX0_isAnyoneIn 21 = .ok (.getfield 34, 3) := by decide +kernel
theorem dX0_isAnyoneIn_24 : decode cX0_isAnyoneIn 24 = .ok (.iload 6, 2) := by decide +kernel
theorem dX0_isAnyoneIn_26 : decode cX0_isAnyoneIn 26 = .ok (.iload 5, 2) := by decide +kernel
theorem dX0_isAnyoneIn_28 : decode cX0_isAnyoneIn 28 = .ok (.invokevirtual 67, 3) := by decide +kernel
theorem dX0_isAnyoneIn_31 : decode cX0_isAnyoneIn 31 = .ok (.invokevirtual 73, 3) := by decide +kernel
theorem dX0_isAnyoneIn_34 : decode cX0_isAnyoneIn 34 = .ok (.iconst (-1), 1) := by decide +kernel
theorem dX0_isAnyoneIn_35 : decode cX0_isAnyoneIn 35 = .ok (.if_icmp .eq 5, 3) := by decide +kernel
theorem dX0_isAnyoneIn_38 : decode cX0_isAnyoneIn 38 = .ok (.iconst 1, 1) := by decide +kernel
theorem dX0_isAnyoneIn_39 : decode cX0_isAnyoneIn 39 = .ok (.ireturn, 1) := by decide +kernel
theorem dX0_isAnyoneIn_40 : decode cX0_isAnyoneIn 40 = .ok (.iinc 6 1, 3) := by decide +kernel
theorem dX0_isAnyoneIn_43 : decode cX0_isAnyoneIn 43 = .ok (.goto (-30), 3) := by decide +kernel
theorem dX0_isAnyoneIn_46 : decode cX0_isAnyoneIn 46 = .ok (.iinc 5 1, 3) := by decide +kernel
theorem dX0_isAnyoneIn_49 : decode cX0_isAnyoneIn 49 = .ok (.goto (-46), 3) := by decide +kernel
theorem dX0_isAnyoneIn_52 : decode cX0_isAnyoneIn 52 = .ok (.iconst 0, 1) := by decide +kernel
theorem dX0_isAnyoneIn_53 : decode cX0_isAnyoneIn 53 = .ok (.ireturn, 1) := by decide +kernel
theorem dX0_add_0 : decode cX0_add 0 = .ok (.aload_n 0, 1) := by decide +kernel
theorem dX0_add_1 : decode cX0_add 1 = .ok (.getfield 43, 3) := by decide +kernel
theorem dX0_add_4 : decode cX0_add 4 = .ok (.bipush 24, 2) := by decide +kernel
theorem dX0_add_6 : decode cX0_add 6 = .ok (.if_icmp .ge 15, 3) := by decide +kernel
theorem dX0_add_9 : decode cX0_add 9 = .ok (.aload_n 0, 1) := by decide +kernel
theorem dX0_add_10 : decode cX0_add 10 = .ok (.getfield 34, 3) := by decide +kernel
theorem dX0_add_13 : decode cX0_add 13 = .ok (.iload 4, 2) := by decide +kernel
theorem dX0_add_15 : decode cX0_add 15 = .ok (.invokevirtual 77, 3) := by decide +kernel
theorem dX0_add_18 : decode cX0_add 18 = .ok (.ifCond .ne 5, 3) := by decide +kernel
theorem dX0_add_21 : decode cX0_add 21 = .ok (.iconst (-1), 1) := by decide +kernel
theorem dX0_add_22 : decode cX0_add 22 = .ok (.ireturn, 1) := by decide +kernel
theorem dX0_add_23 : decode cX0_add 23 = .ok (.aload_n 0, 1) := by decide +kernel
theorem dX0_add_24 : decode cX0_add 24 = .ok (.getfield 43, 3) := by decide +kernel
theorem dX0_add_27 : decode cX0_add 27 = .ok (.istore 5, 2) := by decide +kernel
theorem dX0_add_29 : decode cX0_add 29 = .ok (.aload_n 0, 1) := by decide +kernel
theorem dX0_add_30 : decode cX0_add 30 = .ok (.dup, 1) := by decide +kernel
theorem dX0_add_31 : decode cX0_add 31 = .ok (.getfield 43, 3) := by decide +kernel
theorem dX0_add_34 : decode cX0_add 34 = .ok (.iconst 1, 1) := by decide +kernel
theorem dX0_add_35 : decode cX0_add 35 = .ok (.iadd, 1) := by decide +kernel
theorem dX0_add_36 : decode cX0_add 36 = .ok (.putfield 43, 3) := by decide +kernel
theorem dX0_add_39 : decode cX0_add 39 = .ok (.aload_n 0, 1) := by decide +kernel
theorem dX0_add_40 : decode cX0_add 40 = .ok (.iload 5, 2) := by decide +kernel
theorem dX0_add_42 : decode cX0_add 42 = .ok (.invokevirtual 55, 3) := by decide +kernel
theorem dX0_add_45 : decode cX0_add 45 = .ok (.astore 6, 2) := by decide +kernel
theorem dX0_add_47 : decode cX0_add 47 = .ok (.aload 6, 2) := by decide +kernel
theorem dX0_add_49 : decode cX0_add 49 = .ok (.ifnull 13, 3) := by decide +kernel
theorem dX0_add_52 : decode cX0_add 52 = .ok (.aload 6, 2) := by decide +kernel
theorem dX0_add_54 : decode cX0_add 54 = .ok (.iload_n 1, 1) := by decide +kernel
theorem dX0_add_55 : decode cX0_add 55 = .ok (.iload_n 2, 1) := by decide +kernel
theorem dX0_add_56 : decode cX0_add 56 = .ok (.iload_n 3, 1) := by decide +kernel
theorem dX0_add_57 : decode cX0_add 57 = .ok (.iload 4, 2) := by decide +kernel
theorem dX0_add_59 : decode cX0_add 59 = .ok (.invokevirtual 81, 3) := by decide +kernel
theorem dX0_add_62 : decode cX0_add 62 = .ok (.aload_n 0, 1) := by decide +kernel
theorem dX0_add_63 : decode cX0_add 63 = .ok (.getfield 24, 3) := by decide +kernel
theorem dX0_add_66 : decode cX0_add 66 = .ok (.iload 4, 2) := by decide +kernel
theorem dX0_add_68 : decode cX0_add 68 = .ok (.iload 5, 2) := by decide +kernel
theorem dX0_add_70 : decode cX0_add 70 = .ok (.iastore, 1) := by decide +kernel
theorem dX0_add_71 : decode cX0_add 71 = .ok (.iload 5, 2) := by decide +kernel
theorem dX0_add_73 : decode cX0_add 73 = .ok (.ireturn, 1) := by decide +kernel
theorem dX0_heatOf_0 : decode cX0_heatOf 0 = .ok (.iload_n 1, 1) := by decide +kernel
theorem dX0_heatOf_1 : decode cX0_heatOf 1 = .ok (.ifCond .lt 19, 3) := by decide +kernel
theorem dX0_heatOf_4 : decode cX0_heatOf 4 = .ok (.iload_n 1, 1) := by decide +kernel
theorem dX0_heatOf_5 : decode cX0_heatOf 5 = .ok (.sipush 196, 3) := by decide +kernel
theorem dX0_heatOf_8 : decode cX0_heatOf 8 = .ok (.if_icmp .ge 12, 3) := by decide +kernel
theorem dX0_heatOf_11 : decode cX0_heatOf 11 = .ok (.aload_n 0, 1) := by decide +kernel
theorem dX0_heatOf_12 : decode cX0_heatOf 12 = .ok (.getfield 28, 3) := by decide +kernel
theorem dX0_heatOf_15 : decode cX0_heatOf 15 = .ok (.iload_n 1, 1) := by decide +kernel
theorem dX0_heatOf_16 : decode cX0_heatOf 16 = .ok (.iaload, 1) := by decide +kernel
theorem dX0_heatOf_17 : decode cX0_heatOf 17 = .ok (.goto 4, 3) := by decide +kernel
theorem dX0_heatOf_20 : decode cX0_heatOf 20 = .ok (.iconst 0, 1) := by decide +kernel
theorem dX0_heatOf_21 : decode cX0_heatOf 21 = .ok (.ireturn, 1) := by decide +kernel
theorem dX0_hottest_0 : decode cX0_hottest 0 = .ok (.iconst 0, 1) := by decide +kernel
theorem dX0_hottest_1 : decode cX0_hottest 1 = .ok (.istore_n 1, 1) := by decide +kernel
theorem dX0_hottest_2 : decode cX0_hottest 2 = .ok (.iconst 1, 1) := by decide +kernel
theorem dX0_hottest_3 : decode cX0_hottest 3 = .ok (.istore_n 2, 1) := by decide +kernel
theorem dX0_hottest_4 : decode cX0_hottest 4 = .ok (.iload_n 2, 1) := by decide +kernel
theorem dX0_hottest_5 : decode cX0_hottest 5 = .ok (.aload_n 0, 1) := by decide +kernel
theorem dX0_hottest_6 : decode cX0_hottest 6 = .ok (.getfield 34, 3) := by decide +kernel
theorem dX0_hottest_9 : decode cX0_hottest 9 = .ok (.getfield 85, 3) := by decide +kernel
theorem dX0_hottest_12 : decode cX0_hottest 12 = .ok (.if_icmp .ge 24, 3) := by decide +kernel
theorem dX0_hottest_15 : decode cX0_hottest 15 = .ok (.aload_n 0, 1) := by decide +kernel
theorem dX0_hottest_16 : decode cX0_hottest 16 = .ok (.iload_n 2, 1) := by decide +kernel
theorem dX0_hottest_17 : decode cX0_hottest 17 = .ok (.invokevirtual 88, 3) := by decide +kernel
theorem dX0_hottest_20 : decode cX0_hottest 20 = .ok (.aload_n 0, 1) := by decide +kernel
theorem dX0_hottest_21 : decode cX0_hottest 21 = .ok (.iload_n 1, 1) := by decide +kernel
theorem dX0_hottest_22 : decode cX0_hottest 22 = .ok (.invokevirtual 88, 3) := by decide +kernel
theorem dX0_hottest_25 : decode cX0_hottest 25 = .ok (.if_icmp .le 5, 3) := by decide +kernel
theorem dX0_hottest_28 : decode cX0_hottest 28 = .ok (.iload_n 2, 1) := by decide +kernel
theorem dX0_hottest_29 : decode cX0_hottest 29 = .ok (.istore_n 1, 1) := by decide +kernel
theorem dX0_hottest_30 : decode cX0_hottest 30 = .ok (.iinc 2 1, 3) := by decide +kernel
theorem dX0_hottest_33 : decode cX0_hottest 33 = .ok (.goto (-29), 3) := by decide +kernel
theorem dX0_hottest_36 : decode cX0_hottest 36 = .ok (.iload_n 1, 1) := by decide +kernel
theorem dX0_hottest_37 : decode cX0_hottest 37 = .ok (.ireturn, 1) := by decide +kernel
theorem dX0_countOut_0 : decode cX0_countOut 0 = .ok (.iconst 0, 1) := by decide +kernel
theorem dX0_countOut_1 : decode cX0_countOut 1 = .ok (.istore_n 1, 1) := by decide +kernel
theorem dX0_countOut_2 : decode cX0_countOut 2 = .ok (.iconst 0, 1) := by decide +kernel
theorem dX0_countOut_3 : decode cX0_countOut 3 = .ok (.istore_n 2, 1) := by decide +kernel
theorem dX0_countOut_4 : decode cX0_countOut 4 = .ok (.iload_n 2, 1) := by decide +kernel
theorem dX0_countOut_5 : decode cX0_countOut 5 = .ok (.aload_n 0, 1) := by decide +kernel
theorem dX0_countOut_6 : decode cX0_countOut 6 = .ok (.getfield 43, 3) := by decide +kernel
theorem dX0_countOut_9 : decode cX0_countOut 9 = .ok (.if_icmp .ge 29, 3) := by decide +kernel
theorem dX0_countOut_12 : decode cX0_countOut 12 = .ok (.aload_n 0, 1) := by decide +kernel
theorem dX0_countOut_13 : decode cX0_countOut 13 = .ok (.iload_n 2, 1) := by decide +kernel
theorem dX0_countOut_14 : decode cX0_countOut 14 = .ok (.invokevirtual 55, 3) := by decide +kernel
theorem dX0_countOut_17 : decode cX0_countOut 17 = .ok (.astore_n 3, 1) := by decide +kernel
theorem dX0_countOut_18 : decode cX0_countOut 18 = .ok (.aload_n 3, 1) := by decide +kernel
theorem dX0_countOut_19 : decode cX0_countOut 19 = .ok (.ifnull 13, 3) := by decide +kernel
theorem dX0_countOut_22 : decode cX0_countOut 22 = .ok (.aload_n 3, 1) := by decide +kernel
theorem dX0_countOut_23 : decode cX0_countOut 23 = .ok (.invokevirtual 91, 3) := by decide +kernel
theorem dX0_countOut_26 : decode cX0_countOut 26 = .ok (.ifCond .eq 6, 3) := by decide +kernel
theorem dX0_countOut_29 : decode cX0_countOut 29 = .ok (.iinc 1 1, 3) := by decide +kernel
theorem dX0_countOut_32 : decode cX0_countOut 32 = .ok (.iinc 2 1, 3) := by decide +kernel
theorem dX0_countOut_35 : decode cX0_countOut 35 = .ok (.goto (-31), 3) := by decide +kernel
theorem dX0_countOut_38 : decode cX0_countOut 38 = .ok (.iload_n 1, 1) := by decide +kernel
theorem dX0_countOut_39 : decode cX0_countOut 39 = .ok (.ireturn, 1) := by decide +kernel
theorem dX0_countLost_0 : decode cX0_countLost 0 = .ok (.iconst 0, 1) := by decide +kernel
theorem dX0_countLost_1 : decode cX0_countLost 1 = .ok (.istore_n 1, 1) := by decide +kernel
theorem dX0_countLost_2 : decode cX0_countLost 2 = .ok (.iconst 0, 1) := by decide +kernel
theorem dX0_countLost_3 : decode cX0_countLost 3 = .ok (.istore_n 2, 1) := by decide +kernel
theorem dX0_countLost_4 : decode cX0_countLost 4 = .ok (.iload_n 2, 1) := by decide +kernel
theorem dX0_countLost_5 : decode cX0_countLost 5 = .ok (.aload_n 0, 1) := by decide +kernel
theorem dX0_countLost_6 : decode cX0_countLost 6 = .ok (.getfield 43, 3) := by decide +kernel
theorem dX0_countLost_9 : decode cX0_countLost 9 = .ok (.if_icmp .ge 48, 3) := by decide +kernel
theorem dX0_countLost_12 : decode cX0_countLost 12 = .ok (.aload_n 0, 1) := by decide +kernel
theorem dX0_countLost_13 : decode cX0_countLost 13 = .ok (.iload_n 2, 1) := by decide +kernel
theorem dX0_countLost_14 : decode cX0_countLost 14 = .ok (.invokevirtual 55, 3) := by decide +kernel
theorem dX0_countLost_17 : decode cX0_countLost 17 = .ok (.astore_n 3, 1) := by decide +kernel
theorem dX0_countLost_18 : decode cX0_countLost 18 = .ok (.aload_n 3, 1) := by decide +kernel
theorem dX0_countLost_19 : decode cX0_countLost 19 = .ok (.ifnull 32, 3) := by decide +kernel
theorem dX0_countLost_22 : decode cX0_countLost 22 = .ok (.aload_n 3, 1) := by decide +kernel
theorem dX0_countLost_23 : decode cX0_countLost 23 = .ok (.invokevirtual 91, 3) := by decide +kernel
theorem dX0_countLost_26 : decode cX0_countLost 26 = .ok (.ifCond .ne 25, 3) := by decide +kernel
theorem dX0_countLost_29 : decode cX0_countLost 29 = .ok (.aload_n 0, 1) := by decide +kernel
theorem dX0_countLost_30 : decode cX0_countLost 30 = .ok (.getfield 38, 3) := by decide +kernel
theorem dX0_countLost_33 : decode cX0_countLost 33 = .ok (.aload_n 3, 1) := by decide +kernel
theorem dX0_countLost_34 : decode cX0_countLost 34 = .ok (.getfield 95, 3) := by decide +kernel
theorem dX0_countLost_37 : decode cX0_countLost 37 = .ok (.aload_n 3, 1) := by decide +kernel
theorem dX0_countLost_38 : decode cX0_countLost 38 = .ok (.getfield 98, 3) := by decide +kernel
theorem dX0_countLost_41 : decode cX0_countLost 41 = .ok (.invokevirtual 101, 3) := by decide +kernel
theorem dX0_countLost_44 : decode cX0_countLost 44 = .ok (.iconst (-1), 1) := by decide +kernel
theorem dX0_countLost_45 : decode cX0_countLost 45 = .ok (.if_icmp .ne 6, 3) := by decide +kernel
theorem dX0_countLost_48 : decode cX0_countLost 48 = .ok (.iinc 1 1, 3) := by decide +kernel
theorem dX0_countLost_51 : decode cX0_countLost 51 = .ok (.iinc 2 1, 3) := by decide +kernel
theorem dX0_countLost_54 : decode cX0_countLost 54 = .ok (.goto (-50), 3) := by decide +kernel
theorem dX0_countLost_57 : decode cX0_countLost 57 = .ok (.iload_n 1, 1) := by decide +kernel
theorem dX0_countLost_58 : decode cX0_countLost 58 = .ok (.ireturn, 1) := by decide +kernel
theorem dX0_countSteps_0 : decode cX0_countSteps 0 = .ok (.iconst 0, 1) := by decide +kernel
theorem dX0_countSteps_1 : decode cX0_countSteps 1 = .ok (.istore_n 2, 1) := by decide +kernel
theorem dX0_countSteps_2 : decode cX0_countSteps 2 = .ok (.iconst 0, 1) := by decide +kernel
theorem dX0_countSteps_3 : decode cX0_countSteps 3 = .ok (.istore_n 3, 1) := by decide +kernel
theorem dX0_countSteps_4 : decode cX0_countSteps 4 = .ok (.iload_n 3, 1) := by decide +kernel
theorem dX0_countSteps_5 : decode cX0_countSteps 5 = .ok (.aload_n 0, 1) := by decide +kernel
theorem dX0_countSteps_6 : decode cX0_countSteps 6 = .ok (.getfield 43, 3) := by decide +kernel
theorem dX0_countSteps_9 : decode cX0_countSteps 9 = .ok (.if_icmp .ge 41, 3) := by decide +kernel
theorem dX0_countSteps_12 : decode cX0_countSteps 12 = .ok (.aload_n 0, 1) := by decide +kernel
theorem dX0_countSteps_13 : decode cX0_countSteps 13 = .ok (.iload_n 3, 1) := by decide +kernel
theorem dX0_countSteps_14 : decode cX0_countSteps 14 = .ok (.invokevirtual 55, 3) := by decide +kernel
theorem dX0_countSteps_17 : decode cX0_countSteps 17 = .ok (.astore 4, 2) := by decide +kernel
theorem dX0_countSteps_19 : decode cX0_countSteps 19 = .ok (.aload 4, 2) := by decide +kernel
theorem dX0_countSteps_21 : decode cX0_countSteps 21 = .ok (.ifnull 23, 3) := by decide +kernel
theorem dX0_countSteps_24 : decode cX0_countSteps 24 = .ok (.iload_n 1, 1) := by decide +kernel
theorem dX0_countSteps_25 : decode cX0_countSteps 25 = .ok (.ifCond .eq 11, 3) := by decide +kernel
theorem dX0_countSteps_28 : decode cX0_countSteps 28 = .ok (.aload 4, 2) := by decide +kernel
theorem dX0_countSteps_30 : decode cX0_countSteps 30 = .ok (.invokevirtual 91, 3) := by decide +kernel
theorem dX0_countSteps_33 : decode cX0_countSteps 33 = .ok (.ifCond .eq 11, 3) := by decide +kernel
theorem dX0_countSteps_36 : decode cX0_countSteps 36 = .ok (.iload_n 2, 1) := by decide +kernel
theorem dX0_countSteps_37 : decode cX0_countSteps 37 = .ok (.aload 4, 2) := by decide +kernel
theorem dX0_countSteps_39 : decode cX0_countSteps 39 = .ok (.getfield 106, 3) := by decide +kernel
theorem dX0_countSteps_42 : decode cX0_countSteps 42 = .ok (.iadd, 1) := by decide +kernel
theorem dX0_countSteps_43 : decode cX0_countSteps 43 = .ok (.istore_n 2, 1) := by decide +kernel
theorem dX0_countSteps_44 : decode cX0_countSteps 44 = .ok (.iinc 3 1, 3) := by decide +kernel
theorem dX0_countSteps_47 : decode cX0_countSteps 47 = .ok (.goto (-43), 3) := by decide +kernel
theorem dX0_countSteps_50 : decode cX0_countSteps 50 = .ok (.iload_n 2, 1) := by decide +kernel
theorem dX0_countSteps_51 : decode cX0_countSteps 51 = .ok (.ireturn, 1) := by decide +kernel
theorem dX0_walkerFigure_0 : decode cX0_walkerFigure 0 = .ok (.iload_n 2, 1) := by decide +kernel
theorem dX0_walkerFigure_1 : decode cX0_walkerFigure 1 = .ok (.tableswitch 109 0 7 #[47, 52, 57, 62, 67, 72, 77, 82], 47) := by decide +kernel
theorem dX0_walkerFigure_48 : decode cX0_walkerFigure 48 = .ok (.aload_n 1, 1) := by decide +kernel
theorem dX0_walkerFigure_49 : decode cX0_walkerFigure 49 = .ok (.getfield 95, 3) := by decide +kernel
theorem dX0_walkerFigure_52 : decode cX0_walkerFigure 52 = .ok (.ireturn, 1) := by decide +kernel
theorem dX0_walkerFigure_53 : decode cX0_walkerFigure 53 = .ok (.aload_n 1, 1) := by decide +kernel
theorem dX0_walkerFigure_54 : decode cX0_walkerFigure 54 = .ok (.getfield 109, 3) := by decide +kernel
theorem dX0_walkerFigure_57 : decode cX0_walkerFigure 57 = .ok (.ireturn, 1) := by decide +kernel
theorem dX0_walkerFigure_58 : decode cX0_walkerFigure 58 = .ok (.aload_n 1, 1) := by decide +kernel
theorem dX0_walkerFigure_59 : decode cX0_walkerFigure 59 = .ok (.getfield 112, 3) := by decide +kernel
theorem dX0_walkerFigure_62 : decode cX0_walkerFigure 62 = .ok (.ireturn, 1) := by decide +kernel
theorem dX0_walkerFigure_63 : decode cX0_walkerFigure 63 = .ok (.aload_n 1, 1) := by decide +kernel
theorem dX0_walkerFigure_64 : decode cX0_walkerFigure 64 = .ok (.getfield 98, 3) := by decide +kernel
theorem dX0_walkerFigure_67 : decode cX0_walkerFigure 67 = .ok (.ireturn, 1) := by decide +kernel
theorem dX0_walkerFigure_68 : decode cX0_walkerFigure 68 = .ok (.aload_n 1, 1) := by decide +kernel
theorem dX0_walkerFigure_69 : decode cX0_walkerFigure 69 = .ok (.getfield 115, 3) := by decide +kernel
theorem dX0_walkerFigure_72 : decode cX0_walkerFigure 72 = .ok (.ireturn, 1) := by decide +kernel
theorem dX0_walkerFigure_73 : decode cX0_walkerFigure 73 = .ok (.aload_n 1, 1) := by decide +kernel
theorem dX0_walkerFigure_74 : decode cX0_walkerFigure 74 = .ok (.getfield 118, 3) := by decide +kernel
theorem dX0_walkerFigure_77 : decode cX0_walkerFigure 77 = .ok (.ireturn, 1) := by decide +kernel
theorem dX0_walkerFigure_78 : decode cX0_walkerFigure 78 = .ok (.aload_n 1, 1) := by decide +kernel
theorem dX0_walkerFigure_79 : decode cX0_walkerFigure 79 = .ok (.getfield 106, 3) := by decide +kernel
theorem dX0_walkerFigure_82 : decode cX0_walkerFigure 82 = .ok (.ireturn, 1) := by decide +kernel
theorem dX0_walkerFigure_83 : decode cX0_walkerFigure 83 = .ok (.aload_n 1, 1) := by decide +kernel
theorem dX0_walkerFigure_84 : decode cX0_walkerFigure 84 = .ok (.invokevirtual 91, 3) := by decide +kernel
theorem dX0_walkerFigure_87 : decode cX0_walkerFigure 87 = .ok (.ifCond .eq 7, 3) := by decide +kernel
theorem dX0_walkerFigure_90 : decode cX0_walkerFigure 90 = .ok (.iconst 0, 1) := by decide +kernel
theorem dX0_walkerFigure_91 : decode cX0_walkerFigure 91 = .ok (.goto 18, 3) := by decide +kernel
theorem dX0_walkerFigure_94 : decode cX0_walkerFigure 94 = .ok (.aload_n 0, 1) := by decide +kernel
theorem dX0_walkerFigure_95 : decode cX0_walkerFigure 95 = .ok (.getfield 38, 3) := by decide +kernel
theorem dX0_walkerFigure_98 : decode cX0_walkerFigure 98 = .ok (.aload_n 1, 1) := by decide +kernel
theorem dX0_walkerFigure_99 : decode cX0_walkerFigure 99 = .ok (.getfield 95, 3) := by decide +kernel
theorem dX0_walkerFigure_102 : decode cX0_walkerFigure 102 = .ok (.aload_n 1, 1) := by decide +kernel
theorem dX0_walkerFigure_103 : decode cX0_walkerFigure 103 = .ok (.getfield 98, 3) := by decide +kernel
theorem dX0_walkerFigure_106 : decode cX0_walkerFigure 106 = .ok (.invokevirtual 101, 3) := by decide +kernel
theorem dX0_walkerFigure_109 : decode cX0_walkerFigure 109 = .ok (.ireturn, 1) := by decide +kernel
theorem dX0_walkerFigure_110 : decode cX0_walkerFigure 110 = .ok (.aload_n 1, 1) := by decide +kernel
theorem dX0_walkerFigure_111 : decode cX0_walkerFigure 111 = .ok (.getfield 121, 3) := by decide +kernel
theorem dX0_walkerFigure_114 : decode cX0_walkerFigure 114 = .ok (.ireturn, 1) := by decide +kernel
theorem dX0_countRound_0 : decode cX0_countRound 0 = .ok (.iconst 0, 1) := by decide +kernel
theorem dX0_countRound_1 : decode cX0_countRound 1 = .ok (.istore_n 2, 1) := by decide +kernel
theorem dX0_countRound_2 : decode cX0_countRound 2 = .ok (.iconst 0, 1) := by decide +kernel
theorem dX0_countRound_3 : decode cX0_countRound 3 = .ok (.istore_n 3, 1) := by decide +kernel
theorem dX0_countRound_4 : decode cX0_countRound 4 = .ok (.iload_n 3, 1) := by decide +kernel
theorem dX0_countRound_5 : decode cX0_countRound 5 = .ok (.bipush 8, 2) := by decide +kernel
theorem dX0_countRound_7 : decode cX0_countRound 7 = .ok (.if_icmp .ge 29, 3) := by decide +kernel
theorem dX0_countRound_10 : decode cX0_countRound 10 = .ok (.aload_n 0, 1) := by decide +kernel
theorem dX0_countRound_11 : decode cX0_countRound 11 = .ok (.aload_n 0, 1) := by decide +kernel
theorem dX0_countRound_12 : decode cX0_countRound 12 = .ok (.getfield 34, 3) := by decide +kernel
theorem dX0_countRound_15 : decode cX0_countRound 15 = .ok (.iload_n 1, 1) := by decide +kernel
theorem dX0_countRound_16 : decode cX0_countRound 16 = .ok (.iload_n 3, 1) := by decide +kernel
theorem dX0_countRound_17 : decode cX0_countRound 17 = .ok (.invokevirtual 124, 3) := by decide +kernel
theorem dX0_countRound_20 : decode cX0_countRound 20 = .ok (.invokevirtual 73, 3) := by decide +kernel
theorem dX0_countRound_23 : decode cX0_countRound 23 = .ok (.iconst (-1), 1) := by decide +kernel
theorem dX0_countRound_24 : decode cX0_countRound 24 = .ok (.if_icmp .eq 6, 3) := by decide +kernel
theorem dX0_countRound_27 : decode cX0_countRound 27 = .ok (.iinc 2 1, 3) := by decide +kernel
theorem dX0_countRound_30 : decode cX0_countRound 30 = .ok (.iinc 3 1, 3) := by decide +kernel
theorem dX0_countRound_33 : decode cX0_countRound 33 = .ok (.goto (-29), 3) := by decide +kernel
theorem dX0_countRound_36 : decode cX0_countRound 36 = .ok (.iload_n 2, 1) := by decide +kernel
theorem dX0_countRound_37 : decode cX0_countRound 37 = .ok (.ireturn, 1) := by decide +kernel
theorem dX0_countFacing_0 : decode cX0_countFacing 0 = .ok (.iconst 0, 1) := by decide +kernel
theorem dX0_countFacing_1 : decode cX0_countFacing 1 = .ok (.istore_n 3, 1) := by decide +kernel
theorem dX0_countFacing_2 : decode cX0_countFacing 2 = .ok (.iconst 0, 1) := by decide +kernel
theorem dX0_countFacing_3 : decode cX0_countFacing 3 = .ok (.istore 4, 2) := by decide +kernel
theorem dX0_countFacing_5 : decode cX0_countFacing 5 = .ok (.iload 4, 2) := by decide +kernel
theorem dX0_countFacing_7 : decode cX0_countFacing 7 = .ok (.bipush 8, 2) := by decide +kernel
theorem dX0_countFacing_9 : decode cX0_countFacing 9 = .ok (.if_icmp .ge 46, 3) := by decide +kernel
theorem dX0_countFacing_12 : decode cX0_countFacing 12 = .ok (.aload_n 0, 1) := by decide +kernel
theorem dX0_countFacing_13 : decode cX0_countFacing 13 = .ok (.aload_n 0, 1) := by decide +kernel
theorem dX0_countFacing_14 : decode cX0_countFacing 14 = .ok (.aload_n 0, 1) := by decide +kernel
theorem dX0_countFacing_15 : decode cX0_countFacing 15 = .ok (.getfield 34, 3) := by decide +kernel
theorem dX0_countFacing_18 : decode cX0_countFacing 18 = .ok (.iload_n 1, 1) := by decide +kernel
theorem dX0_countFacing_19 : decode cX0_countFacing 19 = .ok (.iload 4, 2) := by decide +kernel
theorem dX0_countFacing_21 : decode cX0_countFacing 21 = .ok (.invokevirtual 124, 3) := by decide +kernel
theorem dX0_countFacing_24 : decode cX0_countFacing 24 = .ok (.invokevirtual 73, 3) := by decide +kernel
theorem dX0_countFacing_27 : decode cX0_countFacing 27 = .ok (.invokevirtual 55, 3) := by decide +kernel
theorem dX0_countFacing_30 : decode cX0_countFacing 30 = .ok (.astore 5, 2) := by decide +kernel
theorem dX0_countFacing_32 : decode cX0_countFacing 32 = .ok (.aload 5, 2) := by decide +kernel
theorem dX0_countFacing_34 : decode cX0_countFacing 34 = .ok (.ifnull 15, 3) := by decide +kernel
theorem dX0_countFacing_37 : decode cX0_countFacing 37 = .ok (.aload 5, 2) := by decide +kernel
theorem dX0_countFacing_39 : decode cX0_countFacing 39 = .ok (.getfield 115, 3) := by decide +kernel
theorem dX0_countFacing_42 : decode cX0_countFacing 42 = .ok (.iload_n 2, 1) := by decide +kernel
theorem dX0_countFacing_43 : decode cX0_countFacing 43 = .ok (.if_icmp .ne 6, 3) := by decide +kernel
theorem dX0_countFacing_46 : decode cX0_countFacing 46 = .ok (.iinc 3 1, 3) := by decide +kernel
theorem dX0_countFacing_49 : decode cX0_countFacing 49 = .ok (.iinc 4 1, 3) := by decide +kernel
theorem dX0_countFacing_52 : decode cX0_countFacing 52 = .ok (.goto (-47), 3) := by decide +kernel
theorem dX0_countFacing_55 : decode cX0_countFacing 55 = .ok (.iload_n 3, 1) := by decide +kernel
theorem dX0_countFacing_56 : decode cX0_countFacing 56 = .ok (.ireturn, 1) := by decide +kernel
theorem dX0_costOf_0 : decode cX0_costOf 0 = .ok (.iload_n 2, 1) := by decide +kernel
theorem dX0_costOf_1 : decode cX0_costOf 1 = .ok (.iconst 4, 1) := by decide +kernel
theorem dX0_costOf_2 : decode cX0_costOf 2 = .ok (.if_icmp .ne 49, 3) := by decide +kernel
theorem dX0_costOf_5 : decode cX0_costOf 5 = .ok (.aload_n 0, 1) := by decide +kernel
theorem dX0_costOf_6 : decode cX0_costOf 6 = .ok (.getfield 38, 3) := by decide +kernel
theorem dX0_costOf_9 : decode cX0_costOf 9 = .ok (.aload_n 1, 1) := by decide +kernel
theorem dX0_costOf_10 : decode cX0_costOf 10 = .ok (.getfield 95, 3) := by decide +kernel
theorem dX0_costOf_13 : decode cX0_costOf 13 = .ok (.aload_n 1, 1) := by decide +kernel
theorem dX0_costOf_14 : decode cX0_costOf 14 = .ok (.getfield 98, 3) := by decide +kernel
theorem dX0_costOf_17 : decode cX0_costOf 17 = .ok (.invokevirtual 101, 3) := by decide +kernel
theorem dX0_costOf_20 : decode cX0_costOf 20 = .ok (.istore_n 3, 1) := by decide +kernel
theorem dX0_costOf_21 : decode cX0_costOf 21 = .ok (.iload_n 3, 1) := by decide +kernel
theorem dX0_costOf_22 : decode cX0_costOf 22 = .ok (.iconst (-1), 1) := by decide +kernel
theorem dX0_costOf_23 : decode cX0_costOf 23 = .ok (.if_icmp .ne 9, 3) := by decide +kernel
theorem dX0_costOf_26 : decode cX0_costOf 26 = .ok (.sipush 10000, 3) := by decide +kernel
theorem dX0_costOf_29 : decode cX0_costOf 29 = .ok (.goto 21, 3) := by decide +kernel
theorem dX0_costOf_32 : decode cX0_costOf 32 = .ok (.bipush 10, 2) := by decide +kernel
theorem dX0_costOf_34 : decode cX0_costOf 34 = .ok (.iload_n 3, 1) := by decide +kernel
theorem dX0_costOf_35 : decode cX0_costOf 35 = .ok (.imul, 1) := by decide +kernel
theorem dX0_costOf_36 : decode cX0_costOf 36 = .ok (.aload_n 1, 1) := by decide +kernel
theorem dX0_costOf_37 : decode cX0_costOf 37 = .ok (.getfield 112, 3) := by decide +kernel
theorem dX0_costOf_40 : decode cX0_costOf 40 = .ok (.aload_n 0, 1) := by decide +kernel
theorem dX0_costOf_41 : decode cX0_costOf 41 = .ok (.aload_n 1, 1) := by decide +kernel
theorem dX0_costOf_42 : decode cX0_costOf 42 = .ok (.getfield 98, 3) := by decide +kernel
theorem dX0_costOf_45 : decode cX0_costOf 45 = .ok (.invokevirtual 127, 3) := by decide +kernel
theorem dX0_costOf_48 : decode cX0_costOf 48 = .ok (.imul, 1) := by decide +kernel
theorem dX0_costOf_49 : decode cX0_costOf 49 = .ok (.iadd, 1) := by decide +kernel
theorem dX0_costOf_50 : decode cX0_costOf 50 = .ok (.ireturn, 1) := by decide +kernel
theorem dX0_costOf_51 : decode cX0_costOf 51 = .ok (.aload_n 0, 1) := by decide +kernel
theorem dX0_costOf_52 : decode cX0_costOf 52 = .ok (.getfield 34, 3) := by decide +kernel
theorem dX0_costOf_55 : decode cX0_costOf 55 = .ok (.aload_n 1, 1) := by decide +kernel
theorem dX0_costOf_56 : decode cX0_costOf 56 = .ok (.getfield 98, 3) := by decide +kernel
theorem dX0_costOf_59 : decode cX0_costOf 59 = .ok (.iload_n 2, 1) := by decide +kernel
theorem dX0_costOf_60 : decode cX0_costOf 60 = .ok (.invokevirtual 124, 3) := by decide +kernel
theorem dX0_costOf_63 : decode cX0_costOf 63 = .ok (.istore_n 3, 1) := by decide +kernel
theorem dX0_costOf_64 : decode cX0_costOf 64 = .ok (.aload_n 0, 1) := by decide +kernel
theorem dX0_costOf_65 : decode cX0_costOf 65 = .ok (.getfield 38, 3) := by decide +kernel
theorem dX0_costOf_68 : decode cX0_costOf 68 = .ok (.aload_n 1, 1) := by decide +kernel
theorem dX0_costOf_69 : decode cX0_costOf 69 = .ok (.getfield 95, 3) := by decide +kernel
theorem dX0_costOf_72 : decode cX0_costOf 72 = .ok (.iload_n 3, 1) := by decide +kernel
theorem dX0_costOf_73 : decode cX0_costOf 73 = .ok (.invokevirtual 101, 3) := by decide +kernel
theorem dX0_costOf_76 : decode cX0_costOf 76 = .ok (.istore 4, 2) := by decide +kernel
theorem dX0_costOf_78 : decode cX0_costOf 78 = .ok (.iload 4, 2) := by decide +kernel
theorem dX0_costOf_80 : decode cX0_costOf 80 = .ok (.iconst (-1), 1) := by decide +kernel
theorem dX0_costOf_81 : decode cX0_costOf 81 = .ok (.if_icmp .eq 12, 3) := by decide +kernel
theorem dX0_costOf_84 : decode cX0_costOf 84 = .ok (.aload_n 0, 1) := by decide +kernel
theorem dX0_costOf_85 : decode cX0_costOf 85 = .ok (.iload_n 3, 1) := by decide +kernel
theorem dX0_costOf_86 : decode cX0_costOf 86 = .ok (.invokevirtual 73, 3) := by decide +kernel
theorem dX0_costOf_89 : decode cX0_costOf 89 = .ok (.iconst (-1), 1) := by decide +kernel
theorem dX0_costOf_90 : decode cX0_costOf 90 = .ok (.if_icmp .eq 7, 3) := by decide +kernel
theorem dX0_costOf_93 : decode cX0_costOf 93 = .ok (.sipush 10000, 3) := by decide +kernel
theorem dX0_costOf_96 : decode cX0_costOf 96 = .ok (.ireturn, 1) := by decide +kernel
theorem dX0_costOf_97 : decode cX0_costOf 97 = .ok (.aload_n 0, 1) := by decide +kernel
theorem dX0_costOf_98 : decode cX0_costOf 98 = .ok (.iload_n 3, 1) := by decide +kernel
theorem dX0_costOf_99 : decode cX0_costOf 99 = .ok (.invokevirtual 127, 3) := by decide +kernel
theorem dX0_costOf_102 : decode cX0_costOf 102 = .ok (.iconst 1, 1) := by decide +kernel
theorem dX0_costOf_103 : decode cX0_costOf 103 = .ok (.isub, 1) := by decide +kernel
theorem dX0_costOf_104 : decode cX0_costOf 104 = .ok (.istore 5, 2) := by decide +kernel
theorem dX0_costOf_106 : decode cX0_costOf 106 = .ok (.bipush 10, 2) := by decide +kernel
theorem dX0_costOf_108 : decode cX0_costOf 108 = .ok (.iload 4, 2) := by decide +kernel
theorem dX0_costOf_110 : decode cX0_costOf 110 = .ok (.imul, 1) := by decide +kernel
theorem dX0_costOf_111 : decode cX0_costOf 111 = .ok (.aload_n 1, 1) := by decide +kernel
theorem dX0_costOf_112 : decode cX0_costOf 112 = .ok (.getfield 112, 3) := by decide +kernel
theorem dX0_costOf_115 : decode cX0_costOf 115 = .ok (.iload 5, 2) := by decide +kernel
theorem dX0_costOf_117 : decode cX0_costOf 117 = .ok (.imul, 1) := by decide +kernel
theorem dX0_costOf_118 : decode cX0_costOf 118 = .ok (.iadd, 1) := by decide +kernel
theorem dX0_costOf_119 : decode cX0_costOf 119 = .ok (.aload_n 0, 1) := by decide +kernel
theorem dX0_costOf_120 : decode cX0_costOf 120 = .ok (.getfield 9, 3) := by decide +kernel
theorem dX0_costOf_123 : decode cX0_costOf 123 = .ok (.aload_n 0, 1) := by decide +kernel
theorem dX0_costOf_124 : decode cX0_costOf 124 = .ok (.aload_n 1, 1) := by decide +kernel
theorem dX0_costOf_125 : decode cX0_costOf 125 = .ok (.getfield 98, 3) := by decide +kernel
theorem dX0_costOf_128 : decode cX0_costOf 128 = .ok (.iload_n 2, 1) := by decide +kernel
theorem dX0_costOf_129 : decode cX0_costOf 129 = .ok (.invokevirtual 130, 3) := by decide +kernel
theorem dX0_costOf_132 : decode cX0_costOf 132 = .ok (.imul, 1) := by decide +kernel
theorem dX0_costOf_133 : decode cX0_costOf 133 = .ok (.isub, 1) := by decide +kernel
theorem dX0_costOf_134 : decode cX0_costOf 134 = .ok (.ireturn, 1) := by decide +kernel
theorem dX0_bestSide_0 : decode cX0_bestSide 0 = .ok (.iconst 4, 1) := by decide +kernel
theorem dX0_bestSide_1 : decode cX0_bestSide 1 = .ok (.istore_n 2, 1) := by decide +kernel
theorem dX0_bestSide_2 : decode cX0_bestSide 2 = .ok (.sipush 10000, 3) := by decide +kernel
theorem dX0_bestSide_5 : decode cX0_bestSide 5 = .ok (.istore_n 3, 1) := by decide +kernel
theorem dX0_bestSide_6 : decode cX0_bestSide 6 = .ok (.iconst 0, 1) := by decide +kernel
theorem dX0_bestSide_7 : decode cX0_bestSide 7 = .ok (.istore 4, 2) := by decide +kernel
theorem dX0_bestSide_9 : decode cX0_bestSide 9 = .ok (.iload 4, 2) := by decide +kernel
theorem dX0_bestSide_11 : decode cX0_bestSide 11 = .ok (.iconst 4, 1) := by decide +kernel
theorem dX0_bestSide_12 : decode cX0_bestSide 12 = .ok (.if_icmp .gt 30, 3) := by decide +kernel
theorem dX0_bestSide_15 : decode cX0_bestSide 15 = .ok (.aload_n 0, 1) := by decide +kernel
theorem dX0_bestSide_16 : decode cX0_bestSide 16 = .ok (.aload_n 1, 1) := by decide +kernel
theorem dX0_bestSide_17 : decode cX0_bestSide 17 = .ok (.iload 4, 2) := by decide +kernel
theorem dX0_bestSide_19 : decode cX0_bestSide 19 = .ok (.invokevirtual 133, 3) := by decide +kernel
theorem dX0_bestSide_22 : decode cX0_bestSide 22 = .ok (.istore 5, 2) := by decide +kernel
theorem dX0_bestSide_24 : decode cX0_bestSide 24 = .ok (.iload 5, 2) := by decide +kernel
theorem dX0_bestSide_26 : decode cX0_bestSide 26 = .ok (.iload_n 3, 1) := by decide +kernel
theorem dX0_bestSide_27 : decode cX0_bestSide 27 = .ok (.if_icmp .ge 9, 3) := by decide +kernel
theorem dX0_bestSide_30 : decode cX0_bestSide 30 = .ok (.iload 5, 2) := by decide +kernel
theorem dX0_bestSide_32 : decode cX0_bestSide 32 = .ok (.istore_n 3, 1) := by decide +kernel
theorem dX0_bestSide_33 : decode cX0_bestSide 33 = .ok (.iload 4, 2) := by decide +kernel
theorem dX0_bestSide_35 : decode cX0_bestSide 35 = .ok (.istore_n 2, 1) := by decide +kernel
theorem dX0_bestSide_36 : decode cX0_bestSide 36 = .ok (.iinc 4 1, 3) := by decide +kernel
theorem dX0_bestSide_39 : decode cX0_bestSide 39 = .ok (.goto (-30), 3) := by decide +kernel
theorem dX0_bestSide_42 : decode cX0_bestSide 42 = .ok (.iload_n 2, 1) := by decide +kernel
theorem dX0_bestSide_43 : decode cX0_bestSide 43 = .ok (.ireturn, 1) := by decide +kernel
theorem dX0_outAfter_0 : decode cX0_outAfter 0 = .ok (.iconst 0, 1) := by decide +kernel
theorem dX0_outAfter_1 : decode cX0_outAfter 1 = .ok (.istore_n 2, 1) := by decide +kernel
theorem dX0_outAfter_2 : decode cX0_outAfter 2 = .ok (.iload_n 2, 1) := by decide +kernel
theorem dX0_outAfter_3 : decode cX0_outAfter 3 = .ok (.iload_n 1, 1) := by decide +kernel
theorem dX0_outAfter_4 : decode cX0_outAfter 4 = .ok (.if_icmp .ge 13, 3) := by decide +kernel
theorem dX0_outAfter_7 : decode cX0_outAfter 7 = .ok (.aload_n 0, 1) := by decide +kernel
theorem dX0_outAfter_8 : decode cX0_outAfter 8 = .ok (.invokevirtual 137, 3) := by decide +kernel
theorem dX0_outAfter_11 : decode cX0_outAfter 11 = .ok (.iinc 2 1, 3) := by decide +kernel
theorem dX0_outAfter_14 : decode cX0_outAfter 14 = .ok (.goto (-12), 3) := by decide +kernel
theorem dX0_outAfter_17 : decode cX0_outAfter 17 = .ok (.aload_n 0, 1) := by decide +kernel
theorem dX0_outAfter_18 : decode cX0_outAfter 18 = .ok (.invokevirtual 140, 3) := by decide +kernel
theorem dX0_outAfter_21 : decode cX0_outAfter 21 = .ok (.ireturn, 1) := by decide +kernel
theorem dX0_ticksTillOut_0 : decode cX0_ticksTillOut 0 = .ok (.aload_n 0, 1) := by decide +kernel
theorem dX0_ticksTillOut_1 : decode cX0_ticksTillOut 1 = .ok (.iload_n 1, 1) := by decide +kernel
theorem dX0_ticksTillOut_2 : decode cX0_ticksTillOut 2 = .ok (.invokevirtual 55, 3) := by decide +kernel
theorem dX0_ticksTillOut_5 : decode cX0_ticksTillOut 5 = .ok (.astore_n 3, 1) := by decide +kernel
theorem dX0_ticksTillOut_6 : decode cX0_ticksTillOut 6 = .ok (.aload_n 3, 1) := by decide +kernel
theorem dX0_ticksTillOut_7 : decode cX0_ticksTillOut 7 = .ok (.ifnonnull 5, 3) := by decide +kernel
theorem dX0_ticksTillOut_10 : decode cX0_ticksTillOut 10 = .ok (.iconst (-1), 1) := by decide +kernel
theorem dX0_ticksTillOut_11 : decode cX0_ticksTillOut 11 = .ok (.ireturn, 1) := by decide +kernel
theorem dX0_ticksTillOut_12 : decode cX0_ticksTillOut 12 = .ok (.iconst 0, 1) := by decide +kernel
theorem dX0_ticksTillOut_13 : decode cX0_ticksTillOut 13 = .ok (.istore 4, 2) := by decide +kernel
theorem dX0_ticksTillOut_15 : decode cX0_ticksTillOut 15 = .ok (.iload 4, 2) := by decide +kernel
theorem dX0_ticksTillOut_17 : decode cX0_ticksTillOut 17 = .ok (.iload_n 2, 1) := by decide +kernel
theorem dX0_ticksTillOut_18 : decode cX0_ticksTillOut 18 = .ok (.if_icmp .gt 28, 3) := by decide +kernel
theorem dX0_ticksTillOut_21 : decode cX0_ticksTillOut 21 = .ok (.iload 4, 2) := by decide +kernel
theorem dX0_ticksTillOut_23 : decode cX0_ticksTillOut 23 = .ok (.ifCond .le 7, 3) := by decide +kernel
theorem dX0_ticksTillOut_26 : decode cX0_ticksTillOut 26 = .ok (.aload_n 0, 1) := by decide +kernel
theorem dX0_ticksTillOut_27 : decode cX0_ticksTillOut 27 = .ok (.invokevirtual 137, 3) := by decide +kernel
theorem dX0_ticksTillOut_30 : decode cX0_ticksTillOut 30 = .ok (.aload_n 3, 1) := by decide +kernel
theorem dX0_ticksTillOut_31 : decode cX0_ticksTillOut 31 = .ok (.invokevirtual 91, 3) := by decide +kernel
theorem dX0_ticksTillOut_34 : decode cX0_ticksTillOut 34 = .ok (.ifCond .eq 6, 3) := by decide +kernel
theorem dX0_ticksTillOut_37 : decode cX0_ticksTillOut 37 = .ok (.iload 4, 2) := by decide +kernel
theorem dX0_ticksTillOut_39 : decode cX0_ticksTillOut 39 = .ok (.ireturn, 1) := by decide +kernel
theorem dX0_ticksTillOut_40 : decode cX0_ticksTillOut 40 = .ok (.iinc 4 1, 3) := by decide +kernel
theorem dX0_ticksTillOut_43 : decode cX0_ticksTillOut 43 = .ok (.goto (-28), 3) := by decide +kernel
theorem dX0_ticksTillOut_46 : decode cX0_ticksTillOut 46 = .ok (.iconst (-1), 1) := by decide +kernel
theorem dX0_ticksTillOut_47 : decode cX0_ticksTillOut 47 = .ok (.ireturn, 1) := by decide +kernel
theorem dX0_ticksTillJam_0 : decode cX0_ticksTillJam 0 = .ok (.iconst 0, 1) := by decide +kernel
theorem dX0_ticksTillJam_1 : decode cX0_ticksTillJam 1 = .ok (.istore_n 2, 1) := by decide +kernel
theorem dX0_ticksTillJam_2 : decode cX0_ticksTillJam 2 = .ok (.iload_n 2, 1) := by decide +kernel
theorem dX0_ticksTillJam_3 : decode cX0_ticksTillJam 3 = .ok (.iload_n 1, 1) := by decide +kernel
theorem dX0_ticksTillJam_4 : decode cX0_ticksTillJam 4 = .ok (.if_icmp .gt 26, 3) := by decide +kernel
theorem dX0_ticksTillJam_7 : decode cX0_ticksTillJam 7 = .ok (.iload_n 2, 1) := by decide +kernel
theorem dX0_ticksTillJam_8 : decode cX0_ticksTillJam 8 = .ok (.ifCond .le 7, 3) := by decide +kernel
theorem dX0_ticksTillJam_11 : decode cX0_ticksTillJam 11 = .ok (.aload_n 0, 1) := by decide +kernel
theorem dX0_ticksTillJam_12 : decode cX0_ticksTillJam 12 = .ok (.invokevirtual 137, 3) := by decide +kernel
theorem dX0_ticksTillJam_15 : decode cX0_ticksTillJam 15 = .ok (.aload_n 0, 1) := by decide +kernel
theorem dX0_ticksTillJam_16 : decode cX0_ticksTillJam 16 = .ok (.invokevirtual 144, 3) := by decide +kernel
theorem dX0_ticksTillJam_19 : decode cX0_ticksTillJam 19 = .ok (.ifCond .eq 5, 3) := by decide +kernel
theorem dX0_ticksTillJam_22 : decode cX0_ticksTillJam 22 = .ok (.iload_n 2, 1) := by decide +kernel
theorem dX0_ticksTillJam_23 : decode cX0_ticksTillJam 23 = .ok (.ireturn, 1) := by decide +kernel
theorem dX0_ticksTillJam_24 : decode cX0_ticksTillJam 24 = .ok (.iinc 2 1, 3) := by decide +kernel
theorem dX0_ticksTillJam_27 : decode cX0_ticksTillJam 27 = .ok (.goto (-25), 3) := by decide +kernel
theorem dX0_ticksTillJam_30 : decode cX0_ticksTillJam 30 = .ok (.iconst (-1), 1) := by decide +kernel
theorem dX0_ticksTillJam_31 : decode cX0_ticksTillJam 31 = .ok (.ireturn, 1) := by decide +kernel
theorem dX0_isJammed_0 : decode cX0_isJammed 0 = .ok (.aload_n 1, 1) := by decide +kernel
theorem dX0_isJammed_1 : decode cX0_isJammed 1 = .ok (.ifnull 25, 3) := by decide +kernel
theorem dX0_isJammed_4 : decode cX0_isJammed 4 = .ok (.aload_n 1, 1) := by decide +kernel
theorem dX0_isJammed_5 : decode cX0_isJammed 5 = .ok (.invokevirtual 91, 3) := by decide +kernel
theorem dX0_isJammed_8 : decode cX0_isJammed 8 = .ok (.ifCond .ne 18, 3) := by decide +kernel
theorem dX0_isJammed_11 : decode cX0_isJammed 11 = .ok (.aload_n 1, 1) := by decide +kernel
theorem dX0_isJammed_12 : decode cX0_isJammed 12 = .ok (.getfield 118, 3) := by decide +kernel
theorem dX0_isJammed_15 : decode cX0_isJammed 15 = .ok (.aload_n 0, 1) := by decide +kernel
theorem dX0_isJammed_16 : decode cX0_isJammed 16 = .ok (.getfield 15, 3) := by decide +kernel
theorem dX0_isJammed_19 : decode cX0_isJammed 19 = .ok (.if_icmp .lt 7, 3) := by decide +kernel
theorem dX0_isJammed_22 : decode cX0_isJammed 22 = .ok (.iconst 1, 1) := by decide +kernel
theorem dX0_isJammed_23 : decode cX0_isJammed 23 = .ok (.goto 4, 3) := by decide +kernel
theorem dX0_isJammed_26 : decode cX0_isJammed 26 = .ok (.iconst 0, 1) := by decide +kernel
theorem dX0_isJammed_27 : decode cX0_isJammed 27 = .ok (.ireturn, 1) := by decide +kernel
theorem dX0_hasJam_0 : decode cX0_hasJam 0 = .ok (.iconst 0, 1) := by decide +kernel
theorem dX0_hasJam_1 : decode cX0_hasJam 1 = .ok (.istore_n 1, 1) := by decide +kernel
theorem dX0_hasJam_2 : decode cX0_hasJam 2 = .ok (.iload_n 1, 1) := by decide +kernel
theorem dX0_hasJam_3 : decode cX0_hasJam 3 = .ok (.aload_n 0, 1) := by decide +kernel
theorem dX0_hasJam_4 : decode cX0_hasJam 4 = .ok (.getfield 43, 3) := by decide +kernel
theorem dX0_hasJam_7 : decode cX0_hasJam 7 = .ok (.if_icmp .ge 23, 3) := by decide +kernel
theorem dX0_hasJam_10 : decode cX0_hasJam 10 = .ok (.aload_n 0, 1) := by decide +kernel
theorem dX0_hasJam_11 : decode cX0_hasJam 11 = .ok (.aload_n 0, 1) := by decide +kernel
theorem dX0_hasJam_12 : decode cX0_hasJam 12 = .ok (.iload_n 1, 1) := by decide +kernel
theorem dX0_hasJam_13 : decode cX0_hasJam 13 = .ok (.invokevirtual 55, 3) := by decide +kernel
theorem dX0_hasJam_16 : decode cX0_hasJam 16 = .ok (.invokevirtual 147, 3) := by decide +kernel
theorem dX0_hasJam_19 : decode cX0_hasJam 19 = .ok (.ifCond .eq 5, 3) := by decide +kernel
theorem dX0_hasJam_22 : decode cX0_hasJam 22 = .ok (.iconst 1, 1) := by decide +kernel
theorem dX0_hasJam_23 : decode cX0_hasJam 23 = .ok (.ireturn, 1) := by decide +kernel
theorem dX0_hasJam_24 : decode cX0_hasJam 24 = .ok (.iinc 1 1, 3) := by decide +kernel
theorem dX0_hasJam_27 : decode cX0_hasJam 27 = .ok (.goto (-25), 3) := by decide +kernel
theorem dX0_hasJam_30 : decode cX0_hasJam 30 = .ok (.iconst 0, 1) := by decide +kernel
theorem dX0_hasJam_31 : decode cX0_hasJam 31 = .ok (.ireturn, 1) := by decide +kernel
theorem dX0_step_0 : decode cX0_step 0 = .ok (.aload_n 0, 1) := by decide +kernel
theorem dX0_step_1 : decode cX0_step 1 = .ok (.dup, 1) := by decide +kernel
theorem dX0_step_2 : decode cX0_step 2 = .ok (.getfield 46, 3) := by decide +kernel
theorem dX0_step_5 : decode cX0_step 5 = .ok (.iconst 1, 1) := by decide +kernel
theorem dX0_step_6 : decode cX0_step 6 = .ok (.iadd, 1) := by decide +kernel
theorem dX0_step_7 : decode cX0_step 7 = .ok (.putfield 46, 3) := by decide +kernel
theorem dX0_step_10 : decode cX0_step 10 = .ok (.iconst 0, 1) := by decide +kernel
theorem dX0_step_11 : decode cX0_step 11 = .ok (.istore_n 1, 1) := by decide +kernel
theorem dX0_step_12 : decode cX0_step 12 = .ok (.iload_n 1, 1) := by decide +kernel
theorem dX0_step_13 : decode cX0_step 13 = .ok (.aload_n 0, 1) := by decide +kernel
theorem dX0_step_14 : decode cX0_step 14 = .ok (.getfield 43, 3) := by decide +kernel
theorem dX0_step_17 : decode cX0_step 17 = .ok (.if_icmp .ge 52, 3) := by decide +kernel
theorem dX0_step_20 : decode cX0_step 20 = .ok (.aload_n 0, 1) := by decide +kernel
theorem dX0_step_21 : decode cX0_step 21 = .ok (.iload_n 1, 1) := by decide +kernel
theorem dX0_step_22 : decode cX0_step 22 = .ok (.invokevirtual 55, 3) := by decide +kernel
theorem dX0_step_25 : decode cX0_step 25 = .ok (.astore_n 2, 1) := by decide +kernel
theorem dX0_step_26 : decode cX0_step 26 = .ok (.aload_n 2, 1) := by decide +kernel
theorem dX0_step_27 : decode cX0_step 27 = .ok (.ifnull 36, 3) := by decide +kernel
theorem dX0_step_30 : decode cX0_step 30 = .ok (.aload_n 2, 1) := by decide +kernel
theorem dX0_step_31 : decode cX0_step 31 = .ok (.aload_n 2, 1) := by decide +kernel
theorem dX0_step_32 : decode cX0_step 32 = .ok (.aload_n 0, 1) := by decide +kernel
theorem dX0_step_33 : decode cX0_step 33 = .ok (.getfield 46, 3) := by decide +kernel
theorem dX0_step_36 : decode cX0_step 36 = .ok (.invokevirtual 151, 3) := by decide +kernel
theorem dX0_step_39 : decode cX0_step 39 = .ok (.putfield 154, 3) := by decide +kernel
theorem dX0_step_42 : decode cX0_step 42 = .ok (.aload_n 0, 1) := by decide +kernel
theorem dX0_step_43 : decode cX0_step 43 = .ok (.aload_n 2, 1) := by decide +kernel
theorem dX0_step_44 : decode cX0_step 44 = .ok (.aload_n 2, 1) := by decide +kernel
theorem dX0_step_45 : decode cX0_step 45 = .ok (.getfield 154, 3) := by decide +kernel
theorem dX0_step_48 : decode cX0_step 48 = .ok (.ifCond .eq 11, 3) := by decide +kernel
theorem dX0_step_51 : decode cX0_step 51 = .ok (.aload_n 0, 1) := by decide +kernel
theorem dX0_step_52 : decode cX0_step 52 = .ok (.aload_n 2, 1) := by decide +kernel
theorem dX0_step_53 : decode cX0_step 53 = .ok (.invokevirtual 158, 3) := by decide +kernel
theorem dX0_step_56 : decode cX0_step 56 = .ok (.goto 4, 3) := by decide +kernel
theorem dX0_step_59 : decode cX0_step 59 = .ok (.iconst 4, 1) := by decide +kernel
theorem dX0_step_60 : decode cX0_step 60 = .ok (.invokevirtual 162, 3) := by decide +kernel
theorem dX0_step_63 : decode cX0_step 63 = .ok (.iinc 1 1, 3) := by decide +kernel
theorem dX0_step_66 : decode cX0_step 66 = .ok (.goto (-54), 3) := by decide +kernel
theorem dX0_step_69 : decode cX0_step 69 = .ok (.iconst 0, 1) := by decide +kernel
theorem dX0_step_70 : decode cX0_step 70 = .ok (.istore_n 1, 1) := by decide +kernel
theorem dX0_step_71 : decode cX0_step 71 = .ok (.iload_n 1, 1) := by decide +kernel
theorem dX0_step_72 : decode cX0_step 72 = .ok (.aload_n 0, 1) := by decide +kernel
theorem dX0_step_73 : decode cX0_step 73 = .ok (.getfield 43, 3) := by decide +kernel
theorem dX0_step_76 : decode cX0_step 76 = .ok (.if_icmp .ge 14, 3) := by decide +kernel
theorem dX0_step_79 : decode cX0_step 79 = .ok (.aload_n 0, 1) := by decide +kernel
theorem dX0_step_80 : decode cX0_step 80 = .ok (.iload_n 1, 1) := by decide +kernel
theorem dX0_step_81 : decode cX0_step 81 = .ok (.invokevirtual 166, 3) := by decide +kernel
theorem dX0_step_84 : decode cX0_step 84 = .ok (.iinc 1 1, 3) := by decide +kernel
theorem dX0_step_87 : decode cX0_step 87 = .ok (.goto (-16), 3) := by decide +kernel
theorem dX0_step_90 : decode cX0_step 90 = .ok (.iconst 0, 1) := by decide +kernel
theorem dX0_step_91 : decode cX0_step 91 = .ok (.istore_n 1, 1) := by decide +kernel
theorem dX0_step_92 : decode cX0_step 92 = .ok (.iload_n 1, 1) := by decide +kernel
theorem dX0_step_93 : decode cX0_step 93 = .ok (.aload_n 0, 1) := by decide +kernel
theorem dX0_step_94 : decode cX0_step 94 = .ok (.getfield 43, 3) := by decide +kernel
theorem dX0_step_97 : decode cX0_step 97 = .ok (.if_icmp .ge 14, 3) := by decide +kernel
theorem dX0_step_100 : decode cX0_step 100 = .ok (.aload_n 0, 1) := by decide +kernel
theorem dX0_step_101 : decode cX0_step 101 = .ok (.iload_n 1, 1) := by decide +kernel
theorem dX0_step_102 : decode cX0_step 102 = .ok (.invokevirtual 170, 3) := by decide +kernel
theorem dX0_step_105 : decode cX0_step 105 = .ok (.iinc 1 1, 3) := by decide +kernel
theorem dX0_step_108 : decode cX0_step 108 = .ok (.goto (-16), 3) := by decide +kernel
theorem dX0_step_111 : decode cX0_step 111 = .ok (.return_, 1) := by decide +kernel
theorem dX0_aim_0 : decode cX0_aim 0 = .ok (.aload_n 1, 1) := by decide +kernel
theorem dX0_aim_1 : decode cX0_aim 1 = .ok (.iload_n 2, 1) := by decide +kernel
theorem dX0_aim_2 : decode cX0_aim 2 = .ok (.putfield 173, 3) := by decide +kernel
theorem dX0_aim_5 : decode cX0_aim 5 = .ok (.aload_n 1, 1) := by decide +kernel
theorem dX0_aim_6 : decode cX0_aim 6 = .ok (.iload_n 2, 1) := by decide +kernel
theorem dX0_aim_7 : decode cX0_aim 7 = .ok (.iconst 4, 1) := by decide +kernel
theorem dX0_aim_8 : decode cX0_aim 8 = .ok (.if_icmp .ne 7, 3) := by decide +kernel
theorem dX0_aim_11 : decode cX0_aim 11 = .ok (.iconst (-1), 1) := by decide +kernel
theorem dX0_aim_12 : decode cX0_aim 12 = .ok (.goto 15, 3) := by decide +kernel
theorem dX0_aim_15 : decode cX0_aim 15 = .ok (.aload_n 0, 1) := by decide +kernel
theorem dX0_aim_16 : decode cX0_aim 16 = .ok (.getfield 34, 3) := by decide +kernel
theorem dX0_aim_19 : decode cX0_aim 19 = .ok (.aload_n 1, 1) := by decide +kernel
theorem dX0_aim_20 : decode cX0_aim 20 = .ok (.getfield 98, 3) := by decide +kernel
theorem dX0_aim_23 : decode cX0_aim 23 = .ok (.iload_n 2, 1) := by decide +kernel
theorem dX0_aim_24 : decode cX0_aim 24 = .ok (.invokevirtual 124, 3) := by decide +kernel
theorem dX0_aim_27 : decode cX0_aim 27 = .ok (.putfield 176, 3) := by decide +kernel
theorem dX0_aim_30 : decode cX0_aim 30 = .ok (.aload_n 0, 1) := by decide +kernel
theorem dX0_aim_31 : decode cX0_aim 31 = .ok (.getfield 34, 3) := by decide +kernel
theorem dX0_aim_34 : decode cX0_aim 34 = .ok (.aload_n 1, 1) := by decide +kernel
theorem dX0_aim_35 : decode cX0_aim 35 = .ok (.getfield 176, 3) := by decide +kernel
theorem dX0_aim_38 : decode cX0_aim 38 = .ok (.invokevirtual 77, 3) := by decide +kernel
theorem dX0_aim_41 : decode cX0_aim 41 = .ok (.ifCond .eq 13, 3) := by decide +kernel
theorem dX0_aim_44 : decode cX0_aim 44 = .ok (.aload_n 0, 1) := by decide +kernel
theorem dX0_aim_45 : decode cX0_aim 45 = .ok (.getfield 31, 3) := by decide +kernel
theorem dX0_aim_48 : decode cX0_aim 48 = .ok (.aload_n 1, 1) := by decide +kernel
theorem dX0_aim_49 : decode cX0_aim 49 = .ok (.getfield 176, 3) := by decide +kernel
theorem dX0_aim_52 : decode cX0_aim 52 = .ok (.iconst (-1), 1) := by decide +kernel
theorem dX0_aim_53 : decode cX0_aim 53 = .ok (.iastore, 1) := by decide +kernel
theorem dX0_aim_54 : decode cX0_aim 54 = .ok (.return_, 1) := by decide +kernel
theorem dX0_claim_0 : decode cX0_claim 0 = .ok (.aload_n 0, 1) := by decide +kernel
theorem dX0_claim_1 : decode cX0_claim 1 = .ok (.iload_n 1, 1) := by decide +kernel
theorem dX0_claim_2 : decode cX0_claim 2 = .ok (.invokevirtual 55, 3) := by decide +kernel
theorem dX0_claim_5 : decode cX0_claim 5 = .ok (.astore_n 2, 1) := by decide +kernel
theorem dX0_claim_6 : decode cX0_claim 6 = .ok (.aload_n 2, 1) := by decide +kernel
theorem dX0_claim_7 : decode cX0_claim 7 = .ok (.ifnull 17, 3) := by decide +kernel
theorem dX0_claim_10 : decode cX0_claim 10 = .ok (.aload_n 0, 1) := by decide +kernel
theorem dX0_claim_11 : decode cX0_claim 11 = .ok (.getfield 34, 3) := by decide +kernel
theorem dX0_claim_14 : decode cX0_claim 14 = .ok (.aload_n 2, 1) := by decide +kernel
theorem dX0_claim_15 : decode cX0_claim 15 = .ok (.getfield 176, 3) := by decide +kernel
theorem dX0_claim_18 : decode cX0_claim 18 = .ok (.invokevirtual 77, 3) := by decide +kernel
theorem dX0_claim_21 : decode cX0_claim 21 = .ok (.ifCond .ne 4, 3) := by decide +kernel
theorem dX0_claim_24 : decode cX0_claim 24 = .ok (.return_, 1) := by decide +kernel
theorem dX0_claim_25 : decode cX0_claim 25 = .ok (.aload_n 0, 1) := by decide +kernel
theorem dX0_claim_26 : decode cX0_claim 26 = .ok (.aload_n 0, 1) := by decide +kernel
theorem dX0_claim_27 : decode cX0_claim 27 = .ok (.getfield 31, 3) := by decide +kernel
theorem dX0_claim_30 : decode cX0_claim 30 = .ok (.aload_n 2, 1) := by decide +kernel
theorem dX0_claim_31 : decode cX0_claim 31 = .ok (.getfield 176, 3) := by decide +kernel
theorem dX0_claim_34 : decode cX0_claim 34 = .ok (.iaload, 1) := by decide +kernel
theorem dX0_claim_35 : decode cX0_claim 35 = .ok (.invokevirtual 55, 3) := by decide +kernel
theorem dX0_claim_38 : decode cX0_claim 38 = .ok (.astore_n 3, 1) := by decide +kernel
theorem dX0_claim_39 : decode cX0_claim 39 = .ok (.aload_n 3, 1) := by decide +kernel
theorem dX0_claim_40 : decode cX0_claim 40 = .ok (.ifnull 14, 3) := by decide +kernel
theorem dX0_claim_43 : decode cX0_claim 43 = .ok (.aload_n 2, 1) := by decide +kernel
theorem dX0_claim_44 : decode cX0_claim 44 = .ok (.getfield 118, 3) := by decide +kernel
theorem dX0_claim_47 : decode cX0_claim 47 = .ok (.aload_n 3, 1) := by decide +kernel
theorem dX0_claim_48 : decode cX0_claim 48 = .ok (.getfield 118, 3) := by decide +kernel
theorem dX0_claim_51 : decode cX0_claim 51 = .ok (.if_icmp .le 13, 3) := by decide +kernel
theorem dX0_claim_54 : decode cX0_claim 54 = .ok (.aload_n 0, 1) := by decide +kernel
theorem dX0_claim_55 : decode cX0_claim 55 = .ok (.getfield 31, 3) := by decide +kernel
theorem dX0_claim_58 : decode cX0_claim 58 = .ok (.aload_n 2, 1) := by decide +kernel
theorem dX0_claim_59 : decode cX0_claim 59 = .ok (.getfield 176, 3) := by decide +kernel
theorem dX0_claim_62 : decode cX0_claim 62 = .ok (.iload_n 1, 1) := by decide +kernel
theorem dX0_claim_63 : decode cX0_claim 63 = .ok (.iastore, 1) := by decide +kernel
theorem dX0_claim_64 : decode cX0_claim 64 = .ok (.return_, 1) := by decide +kernel
theorem dX0_goOrWait_0 : decode cX0_goOrWait 0 = .ok (.aload_n 0, 1) := by decide +kernel
theorem dX0_goOrWait_1 : decode cX0_goOrWait 1 = .ok (.iload_n 1, 1) := by decide +kernel
theorem dX0_goOrWait_2 : decode cX0_goOrWait 2 = .ok (.invokevirtual 55, 3) := by decide +kernel
theorem dX0_goOrWait_5 : decode cX0_goOrWait 5 = .ok (.astore_n 2, 1) := by decide +kernel
theorem dX0_goOrWait_6 : decode cX0_goOrWait 6 = .ok (.aload_n 2, 1) := by decide +kernel
theorem dX0_goOrWait_7 : decode cX0_goOrWait 7 = .ok (.ifnull 10, 3) := by decide +kernel
theorem dX0_goOrWait_10 : decode cX0_goOrWait 10 = .ok (.aload_n 2, 1) := by decide +kernel
theorem dX0_goOrWait_11 : decode cX0_goOrWait 11 = .ok (.getfield 154, 3) := by decide +kernel
theorem dX0_goOrWait_14 : decode cX0_goOrWait 14 = .ok (.ifCond .ne 4, 3) := by decide +kernel
theorem dX0_goOrWait_17 : decode cX0_goOrWait 17 = .ok (.return_, 1) := by decide +kernel
theorem dX0_goOrWait_18 : decode cX0_goOrWait 18 = .ok (.aload_n 0, 1) := by decide +kernel
theorem dX0_goOrWait_19 : decode cX0_goOrWait 19 = .ok (.getfield 34, 3) := by decide +kernel
theorem dX0_goOrWait_22 : decode cX0_goOrWait 22 = .ok (.aload_n 2, 1) := by decide +kernel
theorem dX0_goOrWait_23 : decode cX0_goOrWait 23 = .ok (.getfield 176, 3) := by decide +kernel
theorem dX0_goOrWait_26 : decode cX0_goOrWait 26 = .ok (.invokevirtual 77, 3) := by decide +kernel
theorem dX0_goOrWait_29 : decode cX0_goOrWait 29 = .ok (.ifCond .eq 25, 3) := by decide +kernel
theorem dX0_goOrWait_32 : decode cX0_goOrWait 32 = .ok (.aload_n 0, 1) := by decide +kernel
theorem dX0_goOrWait_33 : decode cX0_goOrWait 33 = .ok (.getfield 31, 3) := by decide +kernel
theorem dX0_goOrWait_36 : decode cX0_goOrWait 36 = .ok (.aload_n 2, 1) := by decide +kernel
theorem dX0_goOrWait_37 : decode cX0_goOrWait 37 = .ok (.getfield 176, 3) := by decide +kernel
theorem dX0_goOrWait_40 : decode cX0_goOrWait 40 = .ok (.iaload, 1) := by decide +kernel
theorem dX0_goOrWait_41 : decode cX0_goOrWait 41 = .ok (.iload_n 1, 1) := by decide +kernel
theorem dX0_goOrWait_42 : decode cX0_goOrWait 42 = .ok (.if_icmp .ne 12, 3) := by decide +kernel
theorem dX0_goOrWait_45 : decode cX0_goOrWait 45 = .ok (.aload_n 0, 1) := by decide +kernel
theorem dX0_goOrWait_46 : decode cX0_goOrWait 46 = .ok (.aload_n 2, 1) := by decide +kernel
theorem dX0_goOrWait_47 : decode cX0_goOrWait 47 = .ok (.iload_n 1, 1) := by decide +kernel
theorem dX0_goOrWait_48 : decode cX0_goOrWait 48 = .ok (.invokevirtual 179, 3) := by decide +kernel
theorem dX0_goOrWait_51 : decode cX0_goOrWait 51 = .ok (.goto 13, 3) := by decide +kernel
theorem dX0_goOrWait_54 : decode cX0_goOrWait 54 = .ok (.aload_n 2, 1) := by decide +kernel
theorem dX0_goOrWait_55 : decode cX0_goOrWait 55 = .ok (.dup, 1) := by decide +kernel
theorem dX0_goOrWait_56 : decode cX0_goOrWait 56 = .ok (.getfield 118, 3) := by decide +kernel
theorem dX0_goOrWait_59 : decode cX0_goOrWait 59 = .ok (.iconst 1, 1) := by decide +kernel
theorem dX0_goOrWait_60 : decode cX0_goOrWait 60 = .ok (.iadd, 1) := by decide +kernel
theorem dX0_goOrWait_61 : decode cX0_goOrWait 61 = .ok (.putfield 118, 3) := by decide +kernel
theorem dX0_goOrWait_64 : decode cX0_goOrWait 64 = .ok (.return_, 1) := by decide +kernel
theorem dX0_go_0 : decode cX0_go 0 = .ok (.aload_n 0, 1) := by decide +kernel
theorem dX0_go_1 : decode cX0_go 1 = .ok (.getfield 34, 3) := by decide +kernel
theorem dX0_go_4 : decode cX0_go 4 = .ok (.aload_n 1, 1) := by decide +kernel
theorem dX0_go_5 : decode cX0_go 5 = .ok (.getfield 98, 3) := by decide +kernel
theorem dX0_go_8 : decode cX0_go 8 = .ok (.invokevirtual 77, 3) := by decide +kernel
theorem dX0_go_11 : decode cX0_go 11 = .ok (.ifCond .eq 17, 3) := by decide +kernel
theorem dX0_go_14 : decode cX0_go 14 = .ok (.aload_n 0, 1) := by decide +kernel
theorem dX0_go_15 : decode cX0_go 15 = .ok (.getfield 34, 3) := by decide +kernel
theorem dX0_go_18 : decode cX0_go 18 = .ok (.aload_n 1, 1) := by decide +kernel
theorem dX0_go_19 : decode cX0_go 19 = .ok (.getfield 176, 3) := by decide +kernel
theorem dX0_go_22 : decode cX0_go 22 = .ok (.invokevirtual 77, 3) := by decide +kernel
theorem dX0_go_25 : decode cX0_go 25 = .ok (.ifCond .ne 4, 3) := by decide +kernel
theorem dX0_go_28 : decode cX0_go 28 = .ok (.return_, 1) := by decide +kernel
theorem dX0_go_29 : decode cX0_go 29 = .ok (.aload_n 0, 1) := by decide +kernel
theorem dX0_go_30 : decode cX0_go 30 = .ok (.getfield 24, 3) := by decide +kernel
theorem dX0_go_33 : decode cX0_go 33 = .ok (.aload_n 1, 1) := by decide +kernel
theorem dX0_go_34 : decode cX0_go 34 = .ok (.getfield 98, 3) := by decide +kernel
theorem dX0_go_37 : decode cX0_go 37 = .ok (.iconst (-1), 1) := by decide +kernel
theorem dX0_go_38 : decode cX0_go 38 = .ok (.iastore, 1) := by decide +kernel
theorem dX0_go_39 : decode cX0_go 39 = .ok (.aload_n 1, 1) := by decide +kernel
theorem dX0_go_40 : decode cX0_go 40 = .ok (.aload_n 1, 1) := by decide +kernel
theorem dX0_go_41 : decode cX0_go 41 = .ok (.getfield 173, 3) := by decide +kernel
theorem dX0_go_44 : decode cX0_go 44 = .ok (.putfield 115, 3) := by decide +kernel
theorem dX0_go_47 : decode cX0_go 47 = .ok (.aload_n 1, 1) := by decide +kernel
theorem dX0_go_48 : decode cX0_go 48 = .ok (.iconst 0, 1) := by decide +kernel
theorem dX0_go_49 : decode cX0_go 49 = .ok (.putfield 118, 3) := by decide +kernel
theorem dX0_go_52 : decode cX0_go 52 = .ok (.aload_n 1, 1) := by decide +kernel
theorem dX0_go_53 : decode cX0_go 53 = .ok (.dup, 1) := by decide +kernel
theorem dX0_go_54 : decode cX0_go 54 = .ok (.getfield 106, 3) := by decide +kernel
theorem dX0_go_57 : decode cX0_go 57 = .ok (.iconst 1, 1) := by decide +kernel
theorem dX0_go_58 : decode cX0_go 58 = .ok (.iadd, 1) := by decide +kernel
theorem dX0_go_59 : decode cX0_go 59 = .ok (.putfield 106, 3) := by decide +kernel
theorem dX0_go_62 : decode cX0_go 62 = .ok (.aload_n 0, 1) := by decide +kernel
theorem dX0_go_63 : decode cX0_go 63 = .ok (.getfield 28, 3) := by decide +kernel
theorem dX0_go_66 : decode cX0_go 66 = .ok (.aload_n 1, 1) := by decide +kernel
theorem dX0_go_67 : decode cX0_go 67 = .ok (.getfield 176, 3) := by decide +kernel
theorem dX0_go_70 : decode cX0_go 70 = .ok (.dup2, 1) := by decide +kernel
theorem dX0_go_71 : decode cX0_go 71 = .ok (.iaload, 1) := by decide +kernel
theorem dX0_go_72 : decode cX0_go 72 = .ok (.iconst 1, 1) := by decide +kernel
theorem dX0_go_73 : decode cX0_go 73 = .ok (.iadd, 1) := by decide +kernel
theorem dX0_go_74 : decode cX0_go 74 = .ok (.iastore, 1) := by decide +kernel
theorem dX0_go_75 : decode cX0_go 75 = .ok (.aload_n 0, 1) := by decide +kernel
theorem dX0_go_76 : decode cX0_go 76 = .ok (.getfield 38, 3) := by decide +kernel
theorem dX0_go_79 : decode cX0_go 79 = .ok (.aload_n 1, 1) := by decide +kernel
theorem dX0_go_80 : decode cX0_go 80 = .ok (.getfield 95, 3) := by decide +kernel
theorem dX0_go_83 : decode cX0_go 83 = .ok (.aload_n 1, 1) := by decide +kernel
theorem dX0_go_84 : decode cX0_go 84 = .ok (.getfield 176, 3) := by decide +kernel
theorem dX0_go_87 : decode cX0_go 87 = .ok (.invokevirtual 182, 3) := by decide +kernel
theorem dX0_go_90 : decode cX0_go 90 = .ok (.ifCond .eq 19, 3) := by decide +kernel
theorem dX0_go_93 : decode cX0_go 93 = .ok (.aload_n 1, 1) := by decide +kernel
theorem dX0_go_94 : decode cX0_go 94 = .ok (.iconst (-1), 1) := by decide +kernel
theorem dX0_go_95 : decode cX0_go 95 = .ok (.putfield 98, 3) := by decide +kernel
theorem dX0_go_98 : decode cX0_go 98 = .ok (.aload_n 1, 1) := by decide +kernel
theorem dX0_go_99 : decode cX0_go 99 = .ok (.aload_n 0, 1) := by decide +kernel
theorem dX0_go_100 : decode cX0_go 100 = .ok (.getfield 46, 3) := by decide +kernel
theorem dX0_go_103 : decode cX0_go 103 = .ok (.putfield 121, 3) := by decide +kernel
theorem dX0_go_106 : decode cX0_go 106 = .ok (.goto 21, 3) := by decide +kernel
theorem dX0_go_109 : decode cX0_go 109 = .ok (.aload_n 1, 1) := by decide +kernel
theorem dX0_go_110 : decode cX0_go 110 = .ok (.aload_n 1, 1) := by decide +kernel
theorem dX0_go_111 : decode cX0_go 111 = .ok (.getfield 176, 3) := by decide +kernel
theorem dX0_go_114 : decode cX0_go 114 = .ok (.putfield 98, 3) := by decide +kernel
theorem dX0_go_117 : decode cX0_go 117 = .ok (.aload_n 0, 1) := by decide +kernel
theorem dX0_go_118 : decode cX0_go 118 = .ok (.getfield 24, 3) := by decide +kernel
theorem dX0_go_121 : decode cX0_go 121 = .ok (.aload_n 1, 1) := by decide +kernel
theorem dX0_go_122 : decode cX0_go 122 = .ok (.getfield 176, 3) := by decide +kernel
theorem dX0_go_125 : decode cX0_go 125 = .ok (.iload_n 2, 1) := by decide +kernel
theorem dX0_go_126 : decode cX0_go 126 = .ok (.iastore, 1) := by decide +kernel
theorem dX0_go_127 : decode cX0_go 127 = .ok (.return_, 1) := by decide +kernel
theorem dX1_init_0 : decode cX1_init 0 = .ok (.aload_n 0, 1) := by decide +kernel
theorem dX1_init_1 : decode cX1_init 1 = .ok (.invokespecial 3, 3) := by decide +kernel
theorem dX1_init_4 : decode cX1_init 4 = .ok (.aload_n 0, 1) := by decide +kernel
theorem dX1_init_5 : decode cX1_init 5 = .ok (.sipush 1568, 3) := by decide +kernel
theorem dX1_init_8 : decode cX1_init 8 = .ok (.newarray .int, 2) := by decide +kernel
theorem dX1_init_10 : decode cX1_init 10 = .ok (.putfield 9, 3) := by decide +kernel
theorem dX1_init_13 : decode cX1_init 13 = .ok (.return_, 1) := by decide +kernel
theorem dX1_shape_0 : decode cX1_shape 0 = .ok (.aload_n 0, 1) := by decide +kernel
theorem dX1_shape_1 : decode cX1_shape 1 = .ok (.iload_n 1, 1) := by decide +kernel
theorem dX1_shape_2 : decode cX1_shape 2 = .ok (.putfield 15, 3) := by decide +kernel
theorem dX1_shape_5 : decode cX1_shape 5 = .ok (.aload_n 0, 1) := by decide +kernel
theorem dX1_shape_6 : decode cX1_shape 6 = .ok (.iload_n 2, 1) := by decide +kernel
theorem dX1_shape_7 : decode cX1_shape 7 = .ok (.putfield 19, 3) := by decide +kernel
theorem dX1_shape_10 : decode cX1_shape 10 = .ok (.aload_n 0, 1) := by decide +kernel
theorem dX1_shape_11 : decode cX1_shape 11 = .ok (.iload_n 1, 1) := by decide +kernel
theorem dX1_shape_12 : decode cX1_shape 12 = .ok (.iload_n 2, 1) := by decide +kernel
theorem dX1_shape_13 : decode cX1_shape 13 = .ok (.imul, 1) := by decide +kernel
theorem dX1_shape_14 : decode cX1_shape 14 = .ok (.putfield 22, 3) := by decide +kernel
theorem dX1_shape_17 : decode cX1_shape 17 = .ok (.iconst 0, 1) := by decide +kernel
theorem dX1_shape_18 : decode cX1_shape 18 = .ok (.istore_n 3, 1) := by decide +kernel
theorem dX1_shape_19 : decode cX1_shape 19 = .ok (.iload_n 3, 1) := by decide +kernel
theorem dX1_shape_20 : decode cX1_shape 20 = .ok (.iload_n 2, 1) := by decide +kernel
theorem dX1_shape_21 : decode cX1_shape 21 = .ok (.if_icmp .ge 31, 3) := by decide +kernel
theorem dX1_shape_24 : decode cX1_shape 24 = .ok (.iconst 0, 1) := by decide +kernel
theorem dX1_shape_25 : decode cX1_shape 25 = .ok (.istore 4, 2) := by decide +kernel
theorem dX1_shape_27 : decode cX1_shape 27 = .ok (.iload 4, 2) := by decide +kernel
theorem dX1_shape_29 : decode cX1_shape 29 = .ok (.iload_n 1, 1) := by decide +kernel
theorem dX1_shape_30 : decode cX1_shape 30 = .ok (.if_icmp .ge 16, 3) := by decide +kernel
theorem dX1_shape_33 : decode cX1_shape 33 = .ok (.aload_n 0, 1) := by decide +kernel
theorem dX1_shape_34 : decode cX1_shape 34 = .ok (.iload 4, 2) := by decide +kernel
theorem dX1_shape_36 : decode cX1_shape 36 = .ok (.iload_n 3, 1) := by decide +kernel
theorem dX1_shape_37 : decode cX1_shape 37 = .ok (.invokevirtual 25, 3) := by decide +kernel
theorem dX1_shape_40 : decode cX1_shape 40 = .ok (.iinc 4 1, 3) := by decide +kernel
theorem dX1_shape_43 : decode cX1_shape 43 = .ok (.goto (-16), 3) := by decide +kernel
theorem dX1_shape_46 : decode cX1_shape 46 = .ok (.iinc 3 1, 3) := by decide +kernel
theorem dX1_shape_49 : decode cX1_shape 49 = .ok (.goto (-30), 3) := by decide +kernel
theorem dX1_shape_52 : decode cX1_shape 52 = .ok (.return_, 1) := by decide +kernel
theorem dX1_link_0 : decode cX1_link 0 = .ok (.aload_n 0, 1) := by decide +kernel
theorem dX1_link_1 : decode cX1_link 1 = .ok (.iload_n 1, 1) := by decide +kernel
theorem dX1_link_2 : decode cX1_link 2 = .ok (.iload_n 2, 1) := by decide +kernel
theorem dX1_link_3 : decode cX1_link 3 = .ok (.invokevirtual 29, 3) := by decide +kernel
theorem dX1_link_6 : decode cX1_link 6 = .ok (.istore_n 3, 1) := by decide +kernel
theorem dX1_link_7 : decode cX1_link 7 = .ok (.aload_n 0, 1) := by decide +kernel
theorem dX1_link_8 : decode cX1_link 8 = .ok (.iload_n 3, 1) := by decide +kernel
theorem dX1_link_9 : decode cX1_link 9 = .ok (.invokevirtual 33, 3) := by decide +kernel
theorem dX1_link_12 : decode cX1_link 12 = .ok (.ifCond .ne 4, 3) := by decide +kernel
theorem dX1_link_15 : decode cX1_link 15 = .ok (.return_, 1) := by decide +kernel
theorem dX1_link_16 : decode cX1_link 16 = .ok (.iconst 0, 1) := by decide +kernel
theorem dX1_link_17 : decode cX1_link 17 = .ok (.istore 4, 2) := by decide +kernel
theorem dX1_link_19 : decode cX1_link 19 = .ok (.iload 4, 2) := by decide +kernel
theorem dX1_link_21 : decode cX1_link 21 = .ok (.bipush 8, 2) := by decide +kernel
theorem dX1_link_23 : decode cX1_link 23 = .ok (.if_icmp .ge 41, 3) := by decide +kernel
theorem dX1_link_26 : decode cX1_link 26 = .ok (.aload_n 0, 1) := by decide +kernel
theorem dX1_link_27 : decode cX1_link 27 = .ok (.getfield 9, 3) := by decide +kernel
theorem dX1_link_30 : decode cX1_link 30 = .ok (.iload_n 3, 1) := by decide +kernel
theorem dX1_link_31 : decode cX1_link 31 = .ok (.bipush 8, 2) := by decide +kernel
theorem dX1_link_33 : decode cX1_link 33 = .ok (.imul, 1) := by decide +kernel
theorem dX1_link_34 : decode cX1_link 34 = .ok (.iload 4, 2) := by decide +kernel
theorem dX1_link_36 : decode cX1_link 36 = .ok (.iadd, 1) := by decide +kernel
theorem dX1_link_37 : decode cX1_link 37 = .ok (.aload_n 0, 1) := by decide +kernel
theorem dX1_link_38 : decode cX1_link 38 = .ok (.iload_n 1, 1) := by decide +kernel
theorem dX1_link_39 : decode cX1_link 39 = .ok (.getstatic 37, 3) := by decide +kernel
theorem dX1_link_42 : decode cX1_link 42 = .ok (.iload 4, 2) := by decide +kernel
theorem dX1_link_44 : decode cX1_link 44 = .ok (.iaload, 1) := by decide +kernel
theorem dX1_link_45 : decode cX1_link 45 = .ok (.iadd, 1) := by decide +kernel
theorem dX1_link_46 : decode cX1_link 46 = .ok (.iload_n 2, 1) := by decide +kernel
theorem dX1_link_47 : decode cX1_link 47 = .ok (.getstatic 40, 3) := by decide +kernel
theorem dX1_link_50 : decode cX1_link 50 = .ok (.iload 4, 2) := by decide +kernel
theorem dX1_link_52 : decode cX1_link 52 = .ok (.iaload, 1) := by decide +kernel
theorem dX1_link_53 : decode cX1_link 53 = .ok (.iadd, 1) := by decide +kernel
theorem dX1_link_54 : decode cX1_link 54 = .ok (.invokevirtual 29, 3) := by decide +kernel
theorem dX1_link_57 : decode cX1_link 57 = .ok (.iastore, 1) := by decide +kernel
theorem dX1_link_58 : decode cX1_link 58 = .ok (.iinc 4 1, 3) := by decide +kernel
theorem dX1_link_61 : decode cX1_link 61 = .ok (.goto (-42), 3) := by decide +kernel
theorem dX1_link_64 : decode cX1_link 64 = .ok (.return_, 1) := by decide +kernel
theorem dX1_has_0 : decode cX1_has 0 = .ok (.iload_n 1, 1) := by decide +kernel
theorem dX1_has_1 : decode cX1_has 1 = .ok (.ifCond .lt 22, 3) := by decide +kernel
theorem dX1_has_4 : decode cX1_has 4 = .ok (.iload_n 1, 1) := by decide +kernel
theorem dX1_has_5 : decode cX1_has 5 = .ok (.aload_n 0, 1) := by decide +kernel
theorem dX1_has_6 : decode cX1_has 6 = .ok (.getfield 22, 3) := by decide +kernel
theorem dX1_has_9 : decode cX1_has 9 = .ok (.if_icmp .ge 14, 3) := by decide +kernel
theorem dX1_has_12 : decode cX1_has 12 = .ok (.iload_n 1, 1) := by decide +kernel
theorem dX1_has_13 : decode cX1_has 13 = .ok (.sipush 196, 3) := by decide +kernel
theorem dX1_has_16 : decode cX1_has 16 = .ok (.if_icmp .ge 7, 3) := by decide +kernel
theorem dX1_has_19 : decode cX1_has 19 = .ok (.iconst 1, 1) := by decide +kernel
theorem dX1_has_20 : decode cX1_has 20 = .ok (.goto 4, 3) := by decide +kernel
theorem dX1_has_23 : decode cX1_has 23 = .ok (.iconst 0, 1) := by decide +kernel
theorem dX1_has_24 : decode cX1_has 24 = .ok (.ireturn, 1) := by decide +kernel
theorem dX1_number_0 : decode cX1_number 0 = .ok (.iload_n 1, 1) := by decide +kernel
theorem dX1_number_1 : decode cX1_number 1 = .ok (.ifCond .lt 27, 3) := by decide +kernel
theorem dX1_number_4 : decode cX1_number 4 = .ok (.iload_n 1, 1) := by decide +kernel
theorem dX1_number_5 : decode cX1_number 5 = .ok (.aload_n 0, 1) := by decide +kernel
theorem dX1_number_6 : decode cX1_number 6 = .ok (.getfield 15, 3) := by decide +kernel
theorem dX1_number_9 : decode cX1_number 9 = .ok (.if_icmp .ge 19, 3) := by decide +kernel
theorem dX1_number_12 : decode cX1_number 12 = .ok (.iload_n 2, 1) := by decide +kernel
theorem dX1_number_13 : decode cX1_number 13 = .ok (.ifCond .lt 15, 3) := by decide +kernel
theorem dX1_number_16 : decode cX1_number 16 = .ok (.iload_n 2, 1) := by decide +kernel
theorem dX1_number_17 : decode cX1_number 17 = .ok (.aload_n 0, 1) := by decide +kernel
theorem dX1_number_18 : decode cX1_number 18 = .ok (.getfield 19, 3) := by decide +kernel
theorem dX1_number_21 : decode cX1_number 21 = .ok (.if_icmp .ge 7, 3) := by decide +kernel
theorem dX1_number_24 : decode cX1_number 24 = .ok (.iconst 1, 1) := by decide +kernel
theorem dX1_number_25 : decode cX1_number 25 = .ok (.goto 4, 3) := by decide +kernel
theorem dX1_number_28 : decode cX1_number 28 = .ok (.iconst 0, 1) := by decide +kernel
theorem dX1_number_29 : decode cX1_number 29 = .ok (.istore_n 3, 1) := by decide +kernel
theorem dX1_number_30 : decode cX1_number 30 = .ok (.iload_n 3, 1) := by decide +kernel
theorem dX1_number_31 : decode cX1_number 31 = .ok (.ifCond .eq 14, 3) := by decide +kernel
theorem dX1_number_34 : decode cX1_number 34 = .ok (.iload_n 2, 1) := by decide +kernel
theorem dX1_number_35 : decode cX1_number 35 = .ok (.aload_n 0, 1) := by decide +kernel
theorem dX1_number_36 : decode cX1_number 36 = .ok (.getfield 15, 3) := by decide +kernel
theorem dX1_number_39 : decode cX1_number 39 = .ok (.imul, 1) := by decide +kernel
theorem dX1_number_40 : decode cX1_number 40 = .ok (.iload_n 1, 1) := by decide +kernel
theorem dX1_number_41 : decode cX1_number 41 = .ok (.iadd, 1) := by decide +kernel
theorem dX1_number_42 : decode cX1_number 42 = .ok (.goto 4, 3) := by decide +kernel
theorem dX1_number_45 : decode cX1_number 45 = .ok (.iconst (-1), 1) := by decide +kernel
theorem dX1_number_46 : decode cX1_number 46 = .ok (.ireturn, 1) := by decide +kernel
theorem dX1_next_0 : decode cX1_next 0 = .ok (.iload_n 1, 1) := by decide +kernel
theorem dX1_next_1 : decode cX1_next 1 = .ok (.ifCond .lt 24, 3) := by decide +kernel
theorem dX1_next_4 : decode cX1_next 4 = .ok (.iload_n 1, 1) := by decide +kernel
theorem dX1_next_5 : decode cX1_next 5 = .ok (.sipush 196, 3) := by decide +kernel
theorem dX1_next_8 : decode cX1_next 8 = .ok (.if_icmp .ge 17, 3) := by decide +kernel
theorem dX1_next_11 : decode cX1_next 11 = .ok (.iload_n 2, 1) := by decide +kernel
theorem dX1_next_12 : decode cX1_next 12 = .ok (.ifCond .lt 13, 3) := by decide +kernel
theorem dX1_next_15 : decode cX1_next 15 = .ok (.iload_n 2, 1) := by decide +kernel
theorem dX1_next_16 : decode cX1_next 16 = .ok (.bipush 8, 2) := by decide +kernel
theorem dX1_next_18 : decode cX1_next 18 = .ok (.if_icmp .ge 7, 3) := by decide +kernel
theorem dX1_next_21 : decode cX1_next 21 = .ok (.iconst 1, 1) := by decide +kernel
theorem dX1_next_22 : decode cX1_next 22 = .ok (.goto 4, 3) := by decide +kernel
theorem dX1_next_25 : decode cX1_next 25 = .ok (.iconst 0, 1) := by decide +kernel
theorem dX1_next_26 : decode cX1_next 26 = .ok (.istore_n 3, 1) := by decide +kernel
theorem dX1_next_27 : decode cX1_next 27 = .ok (.iload_n 3, 1) := by decide +kernel
theorem dX1_next_28 : decode cX1_next 28 = .ok (.ifCond .eq 17, 3) := by decide +kernel
theorem dX1_next_31 : decode cX1_next 31 = .ok (.aload_n 0, 1) := by decide +kernel
theorem dX1_next_32 : decode cX1_next 32 = .ok (.getfield 9, 3) := by decide +kernel
theorem dX1_next_35 : decode cX1_next 35 = .ok (.iload_n 1, 1) := by decide +kernel
theorem dX1_next_36 : decode cX1_next 36 = .ok (.bipush 8, 2) := by decide +kernel
theorem dX1_next_38 : decode cX1_next 38 = .ok (.imul, 1) := by decide +kernel
theorem dX1_next_39 : decode cX1_next 39 = .ok (.iload_n 2, 1) := by decide +kernel
theorem dX1_next_40 : decode cX1_next 40 = .ok (.iadd, 1) := by decide +kernel
theorem dX1_next_41 : decode cX1_next 41 = .ok (.iaload, 1) := by decide +kernel
theorem dX1_next_42 : decode cX1_next 42 = .ok (.goto 4, 3) := by decide +kernel
theorem dX1_next_45 : decode cX1_next 45 = .ok (.iconst (-1), 1) := by decide +kernel
theorem dX1_next_46 : decode cX1_next 46 = .ok (.ireturn, 1) := by decide +kernel
theorem dX2_init_0 : decode cX2_init 0 = .ok (.aload_n 0, 1) := by decide +kernel
theorem dX2_init_1 : decode cX2_init 1 = .ok (.invokespecial 3, 3) := by decide +kernel
theorem dX2_init_4 : decode cX2_init 4 = .ok (.aload_n 0, 1) := by decide +kernel
theorem dX2_init_5 : decode cX2_init 5 = .ok (.bipush 24, 2) := by decide +kernel
theorem dX2_init_7 : decode cX2_init 7 = .ok (.newarray .int, 2) := by decide +kernel
theorem dX2_init_9 : decode cX2_init 9 = .ok (.putfield 9, 3) := by decide +kernel
theorem dX2_init_12 : decode cX2_init 12 = .ok (.aload_n 0, 1) := by decide +kernel
theorem dX2_init_13 : decode cX2_init 13 = .ok (.bipush 24, 2) := by decide +kernel
theorem dX2_init_15 : decode cX2_init 15 = .ok (.newarray .int, 2) := by decide +kernel
theorem dX2_init_17 : decode cX2_init 17 = .ok (.putfield 15, 3) := by decide +kernel
theorem dX2_init_20 : decode cX2_init 20 = .ok (.aload_n 0, 1) := by decide +kernel
theorem dX2_init_21 : decode cX2_init 21 = .ok (.bipush 24, 2) := by decide +kernel
theorem dX2_init_23 : decode cX2_init 23 = .ok (.newarray .int, 2) := by decide +kernel
theorem dX2_init_25 : decode cX2_init 25 = .ok (.putfield 18, 3) := by decide +kernel
theorem dX2_init_28 : decode cX2_init 28 = .ok (.return_, 1) := by decide +kernel
theorem dX2_find_0 : decode cX2_find 0 = .ok (.aload_n 0, 1) := by decide +kernel
theorem dX2_find_1 : decode cX2_find 1 = .ok (.iconst 0, 1) := by decide +kernel
theorem dX2_find_2 : decode cX2_find 2 = .ok (.putfield 21, 3) := by decide +kernel
theorem dX2_find_5 : decode cX2_find 5 = .ok (.aload_n 0, 1) := by decide +kernel
theorem dX2_find_6 : decode cX2_find 6 = .ok (.iconst 0, 1) := by decide +kernel
theorem dX2_find_7 : decode cX2_find 7 = .ok (.putfield 25, 3) := by decide +kernel
theorem dX2_find_10 : decode cX2_find 10 = .ok (.iconst 0, 1) := by decide +kernel
theorem dX2_find_11 : decode cX2_find 11 = .ok (.istore_n 2, 1) := by decide +kernel
theorem dX2_find_12 : decode cX2_find 12 = .ok (.iload_n 2, 1) := by decide +kernel
theorem dX2_find_13 : decode cX2_find 13 = .ok (.bipush 24, 2) := by decide +kernel
theorem dX2_find_15 : decode cX2_find 15 = .ok (.if_icmp .ge 23, 3) := by decide +kernel
theorem dX2_find_18 : decode cX2_find 18 = .ok (.aload_n 0, 1) := by decide +kernel
theorem dX2_find_19 : decode cX2_find 19 = .ok (.getfield 9, 3) := by decide +kernel
theorem dX2_find_22 : decode cX2_find 22 = .ok (.iload_n 2, 1) := by decide +kernel
theorem dX2_find_23 : decode cX2_find 23 = .ok (.iconst (-1), 1) := by decide +kernel
theorem dX2_find_24 : decode cX2_find 24 = .ok (.iastore, 1) := by decide +kernel
theorem dX2_find_25 : decode cX2_find 25 = .ok (.aload_n 0, 1) := by decide +kernel
theorem dX2_find_26 : decode cX2_find 26 = .ok (.getfield 15, 3) := by decide +kernel
theorem dX2_find_29 : decode cX2_find 29 = .ok (.iload_n 2, 1) := by decide +kernel
theorem dX2_find_30 : decode cX2_find 30 = .ok (.iconst 0, 1) := by decide +kernel
theorem dX2_find_31 : decode cX2_find 31 = .ok (.iastore, 1) := by decide +kernel
theorem dX2_find_32 : decode cX2_find 32 = .ok (.iinc 2 1, 3) := by decide +kernel
theorem dX2_find_35 : decode cX2_find 35 = .ok (.goto (-23), 3) := by decide +kernel
theorem dX2_find_38 : decode cX2_find 38 = .ok (.iconst 0, 1) := by decide +kernel
theorem dX2_find_39 : decode cX2_find 39 = .ok (.istore_n 2, 1) := by decide +kernel
theorem dX2_find_40 : decode cX2_find 40 = .ok (.iload_n 2, 1) := by decide +kernel
theorem dX2_find_41 : decode cX2_find 41 = .ok (.aload_n 1, 1) := by decide +kernel
theorem dX2_find_42 : decode cX2_find 42 = .ok (.getfield 28, 3) := by decide +kernel
theorem dX2_find_45 : decode cX2_find 45 = .ok (.if_icmp .ge 70, 3) := by decide +kernel
theorem dX2_find_48 : decode cX2_find 48 = .ok (.aload_n 0, 1) := by decide +kernel
theorem dX2_find_49 : decode cX2_find 49 = .ok (.aload_n 1, 1) := by decide +kernel
theorem dX2_find_50 : decode cX2_find 50 = .ok (.iload_n 2, 1) := by decide +kernel
theorem dX2_find_51 : decode cX2_find 51 = .ok (.invokevirtual 31, 3) := by decide +kernel
theorem dX2_find_54 : decode cX2_find 54 = .ok (.ifCond .eq 55, 3) := by decide +kernel
theorem dX2_find_57 : decode cX2_find 57 = .ok (.aload_n 0, 1) := by decide +kernel
theorem dX2_find_58 : decode cX2_find 58 = .ok (.getfield 21, 3) := by decide +kernel
theorem dX2_find_61 : decode cX2_find 61 = .ok (.bipush 24, 2) := by decide +kernel
theorem dX2_find_63 : decode cX2_find 63 = .ok (.if_icmp .ge 46, 3) := by decide +kernel
theorem dX2_find_66 : decode cX2_find 66 = .ok (.aload_n 0, 1) := by decide +kernel
theorem dX2_find_67 : decode cX2_find 67 = .ok (.getfield 15, 3) := by decide +kernel
theorem dX2_find_70 : decode cX2_find 70 = .ok (.aload_n 0, 1) := by decide +kernel
theorem dX2_find_71 : decode cX2_find 71 = .ok (.getfield 21, 3) := by decide +kernel
theorem dX2_find_74 : decode cX2_find 74 = .ok (.aload_n 0, 1) := by decide +kernel
theorem dX2_find_75 : decode cX2_find 75 = .ok (.aload_n 1, 1) := by decide +kernel
theorem dX2_find_76 : decode cX2_find 76 = .ok (.iload_n 2, 1) := by decide +kernel
theorem dX2_find_77 : decode cX2_find 77 = .ok (.invokevirtual 35, 3) := by decide +kernel
theorem dX2_find_80 : decode cX2_find 80 = .ok (.iastore, 1) := by decide +kernel
theorem dX2_find_81 : decode cX2_find 81 = .ok (.aload_n 0, 1) := by decide +kernel
theorem dX2_find_82 : decode cX2_find 82 = .ok (.dup, 1) := by decide +kernel
theorem dX2_find_83 : decode cX2_find 83 = .ok (.getfield 25, 3) := by decide +kernel
theorem dX2_find_86 : decode cX2_find 86 = .ok (.aload_n 0, 1) := by decide +kernel
theorem dX2_find_87 : decode cX2_find 87 = .ok (.getfield 15, 3) := by decide +kernel
theorem dX2_find_90 : decode cX2_find 90 = .ok (.aload_n 0, 1) := by decide +kernel
theorem dX2_find_91 : decode cX2_find 91 = .ok (.getfield 21, 3) := by decide +kernel
theorem dX2_find_94 : decode cX2_find 94 = .ok (.iaload, 1) := by decide +kernel
theorem dX2_find_95 : decode cX2_find 95 = .ok (.iadd, 1) := by decide +kernel
theorem dX2_find_96 : decode cX2_find 96 = .ok (.putfield 25, 3) := by decide +kernel
theorem dX2_find_99 : decode cX2_find 99 = .ok (.aload_n 0, 1) := by decide +kernel
theorem dX2_find_100 : decode cX2_find 100 = .ok (.dup, 1) := by decide +kernel
theorem dX2_find_101 : decode cX2_find 101 = .ok (.getfield 21, 3) := by decide +kernel
theorem dX2_find_104 : decode cX2_find 104 = .ok (.iconst 1, 1) := by decide +kernel
theorem dX2_find_105 : decode cX2_find 105 = .ok (.iadd, 1) := by decide +kernel
theorem dX2_find_106 : decode cX2_find 106 = .ok (.putfield 21, 3) := by decide +kernel
theorem dX2_find_109 : decode cX2_find 109 = .ok (.iinc 2 1, 3) := by decide +kernel
theorem dX2_find_112 : decode cX2_find 112 = .ok (.goto (-72), 3) := by decide +kernel
theorem dX2_find_115 : decode cX2_find 115 = .ok (.return_, 1) := by decide +kernel
theorem dX2_isNewOne_0 : decode cX2_isNewOne 0 = .ok (.iload_n 2, 1) := by decide +kernel
theorem dX2_isNewOne_1 : decode cX2_isNewOne 1 = .ok (.ifCond .lt 35, 3) := by decide +kernel
theorem dX2_isNewOne_4 : decode cX2_isNewOne 4 = .ok (.iload_n 2, 1) := by decide +kernel
theorem dX2_isNewOne_5 : decode cX2_isNewOne 5 = .ok (.bipush 24, 2) := by decide +kernel
theorem dX2_isNewOne_7 : decode cX2_isNewOne 7 = .ok (.if_icmp .ge 29, 3) := by decide +kernel
theorem dX2_isNewOne_10 : decode cX2_isNewOne 10 = .ok (.aload_n 0, 1) := by decide +kernel
theorem dX2_isNewOne_11 : decode cX2_isNewOne 11 = .ok (.getfield 9, 3) := by decide +kernel
theorem dX2_isNewOne_14 : decode cX2_isNewOne 14 = .ok (.iload_n 2, 1) := by decide +kernel
theorem dX2_isNewOne_15 : decode cX2_isNewOne 15 = .ok (.iaload, 1) := by decide +kernel
theorem dX2_isNewOne_16 : decode cX2_isNewOne 16 = .ok (.iconst (-1), 1) := by decide +kernel
theorem dX2_isNewOne_17 : decode cX2_isNewOne 17 = .ok (.if_icmp .ne 19, 3) := by decide +kernel
theorem dX2_isNewOne_20 : decode cX2_isNewOne 20 = .ok (.aload_n 1, 1) := by decide +kernel
theorem dX2_isNewOne_21 : decode cX2_isNewOne 21 = .ok (.aload_n 1, 1) := by decide +kernel
theorem dX2_isNewOne_22 : decode cX2_isNewOne 22 = .ok (.iload_n 2, 1) := by decide +kernel
theorem dX2_isNewOne_23 : decode cX2_isNewOne 23 = .ok (.invokevirtual 39, 3) := by decide +kernel
theorem dX2_isNewOne_26 : decode cX2_isNewOne 26 = .ok (.invokevirtual 43, 3) := by decide +kernel
theorem dX2_isNewOne_29 : decode cX2_isNewOne 29 = .ok (.ifCond .eq 7, 3) := by decide +kernel
theorem dX2_isNewOne_32 : decode cX2_isNewOne 32 = .ok (.iconst 1, 1) := by decide +kernel
theorem dX2_isNewOne_33 : decode cX2_isNewOne 33 = .ok (.goto 4, 3) := by decide +kernel
theorem dX2_isNewOne_36 : decode cX2_isNewOne 36 = .ok (.iconst 0, 1) := by decide +kernel
theorem dX2_isNewOne_37 : decode cX2_isNewOne 37 = .ok (.ireturn, 1) := by decide +kernel
theorem dX2_gather_0 : decode cX2_gather 0 = .ok (.iload_n 2, 1) := by decide +kernel
theorem dX2_gather_1 : decode cX2_gather 1 = .ok (.ifCond .lt 9, 3) := by decide +kernel
theorem dX2_gather_4 : decode cX2_gather 4 = .ok (.iload_n 2, 1) := by decide +kernel
theorem dX2_gather_5 : decode cX2_gather 5 = .ok (.bipush 24, 2) := by decide +kernel
theorem dX2_gather_7 : decode cX2_gather 7 = .ok (.if_icmp .lt 5, 3) := by decide +kernel
theorem dX2_gather_10 : decode cX2_gather 10 = .ok (.iconst 0, 1) := by decide +kernel
theorem dX2_gather_11 : decode cX2_gather 11 = .ok (.ireturn, 1) := by decide +kernel
theorem dX2_gather_12 : decode cX2_gather 12 = .ok (.aload_n 0, 1) := by decide +kernel
theorem dX2_gather_13 : decode cX2_gather 13 = .ok (.getfield 9, 3) := by decide +kernel
theorem dX2_gather_16 : decode cX2_gather 16 = .ok (.iload_n 2, 1) := by decide +kernel
theorem dX2_gather_17 : decode cX2_gather 17 = .ok (.aload_n 0, 1) := by decide +kernel
theorem dX2_gather_18 : decode cX2_gather 18 = .ok (.getfield 21, 3) := by decide +kernel
theorem dX2_gather_21 : decode cX2_gather 21 = .ok (.iastore, 1) := by decide +kernel
theorem dX2_gather_22 : decode cX2_gather 22 = .ok (.aload_n 0, 1) := by decide +kernel
theorem dX2_gather_23 : decode cX2_gather 23 = .ok (.getfield 18, 3) := by decide +kernel
theorem dX2_gather_26 : decode cX2_gather 26 = .ok (.iconst 0, 1) := by decide +kernel
theorem dX2_gather_27 : decode cX2_gather 27 = .ok (.iload_n 2, 1) := by decide +kernel
theorem dX2_gather_28 : decode cX2_gather 28 = .ok (.iastore, 1) := by decide +kernel
theorem dX2_gather_29 : decode cX2_gather 29 = .ok (.iconst 1, 1) := by decide +kernel
theorem dX2_gather_30 : decode cX2_gather 30 = .ok (.istore_n 3, 1) := by decide +kernel
theorem dX2_gather_31 : decode cX2_gather 31 = .ok (.iconst 0, 1) := by decide +kernel
theorem dX2_gather_32 : decode cX2_gather 32 = .ok (.istore 4, 2) := by decide +kernel
theorem dX2_gather_34 : decode cX2_gather 34 = .ok (.iload 4, 2) := by decide +kernel
theorem dX2_gather_36 : decode cX2_gather 36 = .ok (.iload_n 3, 1) := by decide +kernel
theorem dX2_gather_37 : decode cX2_gather 37 = .ok (.if_icmp .ge 30, 3) := by decide +kernel
theorem dX2_gather_40 : decode cX2_gather 40 = .ok (.iload 4, 2) := by decide +kernel
theorem dX2_gather_42 : decode cX2_gather 42 = .ok (.bipush 24, 2) := by decide +kernel
theorem dX2_gather_44 : decode cX2_gather 44 = .ok (.if_icmp .ge 23, 3) := by decide +kernel
theorem dX2_gather_47 : decode cX2_gather 47 = .ok (.aload_n 0, 1) := by decide +kernel
theorem dX2_gather_48 : decode cX2_gather 48 = .ok (.aload_n 1, 1) := by decide +kernel
theorem dX2_gather_49 : decode cX2_gather 49 = .ok (.aload_n 0, 1) := by decide +kernel
theorem dX2_gather_50 : decode cX2_gather 50 = .ok (.getfield 18, 3) := by decide +kernel
theorem dX2_gather_53 : decode cX2_gather 53 = .ok (.iload 4, 2) := by decide +kernel
theorem dX2_gather_55 : decode cX2_gather 55 = .ok (.iaload, 1) := by decide +kernel
theorem dX2_gather_56 : decode cX2_gather 56 = .ok (.iload_n 3, 1) := by decide +kernel
theorem dX2_gather_57 : decode cX2_gather 57 = .ok (.invokevirtual 47, 3) := by decide +kernel
theorem dX2_gather_60 : decode cX2_gather 60 = .ok (.istore_n 3, 1) := by decide +kernel
theorem dX2_gather_61 : decode cX2_gather 61 = .ok (.iinc 4 1, 3) := by decide +kernel
theorem dX2_gather_64 : decode cX2_gather 64 = .ok (.goto (-30), 3) := by decide +kernel
theorem dX2_gather_67 : decode cX2_gather 67 = .ok (.iload_n 3, 1) := by decide +kernel
theorem dX2_gather_68 : decode cX2_gather 68 = .ok (.ireturn, 1) := by decide +kernel
theorem dX2_gatherBeside_0 : decode cX2_gatherBeside 0 = .ok (.aload_n 1, 1) := by decide +kernel
theorem dX2_gatherBeside_1 : decode cX2_gatherBeside 1 = .ok (.iload_n 2, 1) := by decide +kernel
theorem dX2_gatherBeside_2 : decode cX2_gatherBeside 2 = .ok (.invokevirtual 39, 3) := by decide +kernel
theorem dX2_gatherBeside_5 : decode cX2_gatherBeside 5 = .ok (.astore 4, 2) := by decide +kernel
theorem dX2_gatherBeside_7 : decode cX2_gatherBeside 7 = .ok (.aload 4, 2) := by decide +kernel
theorem dX2_gatherBeside_9 : decode cX2_gatherBeside 9 = .ok (.ifnonnull 5, 3) := by decide +kernel
theorem dX2_gatherBeside_12 : decode cX2_gatherBeside 12 = .ok (.iload_n 3, 1) := by decide +kernel
theorem dX2_gatherBeside_13 : decode cX2_gatherBeside 13 = .ok (.ireturn, 1) := by decide +kernel
theorem dX2_gatherBeside_14 : decode cX2_gatherBeside 14 = .ok (.iload_n 3, 1) := by decide +kernel
theorem dX2_gatherBeside_15 : decode cX2_gatherBeside 15 = .ok (.istore 5, 2) := by decide +kernel
theorem dX2_gatherBeside_17 : decode cX2_gatherBeside 17 = .ok (.iconst 0, 1) := by decide +kernel
theorem dX2_gatherBeside_18 : decode cX2_gatherBeside 18 = .ok (.istore 6, 2) := by decide +kernel
theorem dX2_gatherBeside_20 : decode cX2_gatherBeside 20 = .ok (.iload 6, 2) := by decide +kernel
theorem dX2_gatherBeside_22 : decode cX2_gatherBeside 22 = .ok (.iconst 4, 1) := by decide +kernel
theorem dX2_gatherBeside_23 : decode cX2_gatherBeside 23 = .ok (.if_icmp .ge 69, 3) := by decide +kernel
theorem dX2_gatherBeside_26 : decode cX2_gatherBeside 26 = .ok (.aload_n 1, 1) := by decide +kernel
theorem dX2_gatherBeside_27 : decode cX2_gatherBeside 27 = .ok (.aload_n 1, 1) := by decide +kernel
theorem dX2_gatherBeside_28 : decode cX2_gatherBeside 28 = .ok (.getfield 51, 3) := by decide +kernel
theorem dX2_gatherBeside_31 : decode cX2_gatherBeside 31 = .ok (.aload 4, 2) := by decide +kernel
theorem dX2_gatherBeside_33 : decode cX2_gatherBeside 33 = .ok (.getfield 55, 3) := by decide +kernel
theorem dX2_gatherBeside_36 : decode cX2_gatherBeside 36 = .ok (.iload 6, 2) := by decide +kernel
theorem dX2_gatherBeside_38 : decode cX2_gatherBeside 38 = .ok (.invokevirtual 60, 3) := by decide +kernel
theorem dX2_gatherBeside_41 : decode cX2_gatherBeside 41 = .ok (.invokevirtual 66, 3) := by decide +kernel
theorem dX2_gatherBeside_44 : decode cX2_gatherBeside 44 = .ok (.istore 7, 2) := by decide +kernel
theorem dX2_gatherBeside_46 : decode cX2_gatherBeside 46 = .ok (.aload_n 0, 1) := by decide +kernel
theorem dX2_gatherBeside_47 : decode cX2_gatherBeside 47 = .ok (.aload_n 1, 1) := by decide +kernel
theorem dX2_gatherBeside_48 : decode cX2_gatherBeside 48 = .ok (.iload 7, 2) := by decide +kernel
theorem dX2_gatherBeside_50 : decode cX2_gatherBeside 50 = .ok (.invokevirtual 31, 3) := by decide +kernel
theorem dX2_gatherBeside_53 : decode cX2_gatherBeside 53 = .ok (.ifCond .eq 33, 3) := by decide +kernel
theorem dX2_gatherBeside_56 : decode cX2_gatherBeside 56 = .ok (.iload 5, 2) := by decide +kernel
theorem dX2_gatherBeside_58 : decode cX2_gatherBeside 58 = .ok (.bipush 24, 2) := by decide +kernel
theorem dX2_gatherBeside_60 : decode cX2_gatherBeside 60 = .ok (.if_icmp .ge 26, 3) := by decide +kernel
theorem dX2_gatherBeside_63 : decode cX2_gatherBeside 63 = .ok (.aload_n 0, 1) := by decide +kernel
theorem dX2_gatherBeside_64 : decode cX2_gatherBeside 64 = .ok (.getfield 9, 3) := by decide +kernel
theorem dX2_gatherBeside_67 : decode cX2_gatherBeside 67 = .ok (.iload 7, 2) := by decide +kernel
theorem dX2_gatherBeside_69 : decode cX2_gatherBeside 69 = .ok (.aload_n 0, 1) := by decide +kernel
theorem dX2_gatherBeside_70 : decode cX2_gatherBeside 70 = .ok (.getfield 21, 3) := by decide +kernel
theorem dX2_gatherBeside_73 : decode cX2_gatherBeside 73 = .ok (.iastore, 1) := by decide +kernel
theorem dX2_gatherBeside_74 : decode cX2_gatherBeside 74 = .ok (.aload_n 0, 1) := by decide +kernel
theorem dX2_gatherBeside_75 : decode cX2_gatherBeside 75 = .ok (.getfield 18, 3) := by decide +kernel
theorem dX2_gatherBeside_78 : decode cX2_gatherBeside 78 = .ok (.iload 5, 2) := by decide +kernel
theorem dX2_gatherBeside_80 : decode cX2_gatherBeside 80 = .ok (.iload 7, 2) := by decide +kernel
theorem dX2_gatherBeside_82 : decode cX2_gatherBeside 82 = .ok (.iastore, 1) := by decide +kernel
theorem dX2_gatherBeside_83 : decode cX2_gatherBeside 83 = .ok (.iinc 5 1, 3) := by decide +kernel
theorem dX2_gatherBeside_86 : decode cX2_gatherBeside 86 = .ok (.iinc 6 1, 3) := by decide +kernel
theorem dX2_gatherBeside_89 : decode cX2_gatherBeside 89 = .ok (.goto (-69), 3) := by decide +kernel
theorem dX2_gatherBeside_92 : decode cX2_gatherBeside 92 = .ok (.iload 5, 2) := by decide +kernel
theorem dX2_gatherBeside_94 : decode cX2_gatherBeside 94 = .ok (.ireturn, 1) := by decide +kernel
theorem dX2_greatest_0 : decode cX2_greatest 0 = .ok (.iconst 0, 1) := by decide +kernel
theorem dX2_greatest_1 : decode cX2_greatest 1 = .ok (.istore_n 1, 1) := by decide +kernel
theorem dX2_greatest_2 : decode cX2_greatest 2 = .ok (.iconst 0, 1) := by decide +kernel
theorem dX2_greatest_3 : decode cX2_greatest 3 = .ok (.istore_n 2, 1) := by decide +kernel
theorem dX2_greatest_4 : decode cX2_greatest 4 = .ok (.iload_n 2, 1) := by decide +kernel
theorem dX2_greatest_5 : decode cX2_greatest 5 = .ok (.aload_n 0, 1) := by decide +kernel
theorem dX2_greatest_6 : decode cX2_greatest 6 = .ok (.getfield 21, 3) := by decide +kernel
theorem dX2_greatest_9 : decode cX2_greatest 9 = .ok (.if_icmp .ge 26, 3) := by decide +kernel
theorem dX2_greatest_12 : decode cX2_greatest 12 = .ok (.iload_n 2, 1) := by decide +kernel
theorem dX2_greatest_13 : decode cX2_greatest 13 = .ok (.bipush 24, 2) := by decide +kernel
theorem dX2_greatest_15 : decode cX2_greatest 15 = .ok (.if_icmp .ge 20, 3) := by decide +kernel
theorem dX2_greatest_18 : decode cX2_greatest 18 = .ok (.iload_n 1, 1) := by decide +kernel
theorem dX2_greatest_19 : decode cX2_greatest 19 = .ok (.aload_n 0, 1) := by decide +kernel
theorem dX2_greatest_20 : decode cX2_greatest 20 = .ok (.getfield 15, 3) := by decide +kernel
theorem dX2_greatest_23 : decode cX2_greatest 23 = .ok (.iload_n 2, 1) := by decide +kernel
theorem dX2_greatest_24 : decode cX2_greatest 24 = .ok (.iaload, 1) := by decide +kernel
theorem dX2_greatest_25 : decode cX2_greatest 25 = .ok (.invokestatic 70, 3) := by decide +kernel
theorem dX2_greatest_28 : decode cX2_greatest 28 = .ok (.istore_n 1, 1) := by decide +kernel
theorem dX2_greatest_29 : decode cX2_greatest 29 = .ok (.iinc 2 1, 3) := by decide +kernel
theorem dX2_greatest_32 : decode cX2_greatest 32 = .ok (.goto (-28), 3) := by decide +kernel
theorem dX2_greatest_35 : decode cX2_greatest 35 = .ok (.iload_n 1, 1) := by decide +kernel
theorem dX2_greatest_36 : decode cX2_greatest 36 = .ok (.ireturn, 1) := by decide +kernel
theorem dX2_sizeAround_0 : decode cX2_sizeAround 0 = .ok (.iload_n 1, 1) := by decide +kernel
theorem dX2_sizeAround_1 : decode cX2_sizeAround 1 = .ok (.ifCond .lt 9, 3) := by decide +kernel
theorem dX2_sizeAround_4 : decode cX2_sizeAround 4 = .ok (.iload_n 1, 1) := by decide +kernel
theorem dX2_sizeAround_5 : decode cX2_sizeAround 5 = .ok (.bipush 24, 2) := by decide +kernel
theorem dX2_sizeAround_7 : decode cX2_sizeAround 7 = .ok (.if_icmp .lt 5, 3) := by decide +kernel
theorem dX2_sizeAround_10 : decode cX2_sizeAround 10 = .ok (.iconst 0, 1) := by decide +kernel
theorem dX2_sizeAround_11 : decode cX2_sizeAround 11 = .ok (.ireturn, 1) := by decide +kernel
theorem dX2_sizeAround_12 : decode cX2_sizeAround 12 = .ok (.aload_n 0, 1) := by decide +kernel
theorem dX2_sizeAround_13 : decode cX2_sizeAround 13 = .ok (.getfield 9, 3) := by decide +kernel
theorem dX2_sizeAround_16 : decode cX2_sizeAround 16 = .ok (.iload_n 1, 1) := by decide +kernel
theorem dX2_sizeAround_17 : decode cX2_sizeAround 17 = .ok (.iaload, 1) := by decide +kernel
theorem dX2_sizeAround_18 : decode cX2_sizeAround 18 = .ok (.istore_n 2, 1) := by decide +kernel
theorem dX2_sizeAround_19 : decode cX2_sizeAround 19 = .ok (.iload_n 2, 1) := by decide +kernel
theorem dX2_sizeAround_20 : decode cX2_sizeAround 20 = .ok (.ifCond .lt 18, 3) := by decide +kernel
theorem dX2_sizeAround_23 : decode cX2_sizeAround 23 = .ok (.iload_n 2, 1) := by decide +kernel
theorem dX2_sizeAround_24 : decode cX2_sizeAround 24 = .ok (.bipush 24, 2) := by decide +kernel
theorem dX2_sizeAround_26 : decode cX2_sizeAround 26 = .ok (.if_icmp .ge 12, 3) := by decide +kernel
theorem dX2_sizeAround_29 : decode cX2_sizeAround 29 = .ok (.aload_n 0, 1) := by decide +kernel
theorem dX2_sizeAround_30 : decode cX2_sizeAround 30 = .ok (.getfield 15, 3) := by decide +kernel
theorem dX2_sizeAround_33 : decode cX2_sizeAround 33 = .ok (.iload_n 2, 1) := by decide +kernel
theorem dX2_sizeAround_34 : decode cX2_sizeAround 34 = .ok (.iaload, 1) := by decide +kernel
theorem dX2_sizeAround_35 : decode cX2_sizeAround 35 = .ok (.goto 4, 3) := by decide +kernel
theorem dX2_sizeAround_38 : decode cX2_sizeAround 38 = .ok (.iconst 0, 1) := by decide +kernel
theorem dX2_sizeAround_39 : decode cX2_sizeAround 39 = .ok (.ireturn, 1) := by decide +kernel
theorem dX3_init_0 : decode cX3_init 0 = .ok (.aload_n 0, 1) := by decide +kernel
theorem dX3_init_1 : decode cX3_init 1 = .ok (.invokespecial 3, 3) := by decide +kernel
theorem dX3_init_4 : decode cX3_init 4 = .ok (.aload_n 0, 1) := by decide +kernel
theorem dX3_init_5 : decode cX3_init 5 = .ok (.sipush 196, 3) := by decide +kernel
theorem dX3_init_8 : decode cX3_init 8 = .ok (.newarray .int, 2) := by decide +kernel
theorem dX3_init_10 : decode cX3_init 10 = .ok (.putfield 9, 3) := by decide +kernel
theorem dX3_init_13 : decode cX3_init 13 = .ok (.aload_n 0, 1) := by decide +kernel
theorem dX3_init_14 : decode cX3_init 14 = .ok (.sipush 196, 3) := by decide +kernel
theorem dX3_init_17 : decode cX3_init 17 = .ok (.newarray .int, 2) := by decide +kernel
theorem dX3_init_19 : decode cX3_init 19 = .ok (.putfield 15, 3) := by decide +kernel
theorem dX3_init_22 : decode cX3_init 22 = .ok (.aload_n 0, 1) := by decide +kernel
theorem dX3_init_23 : decode cX3_init 23 = .ok (.sipush 784, 3) := by decide +kernel
theorem dX3_init_26 : decode cX3_init 26 = .ok (.newarray .int, 2) := by decide +kernel
theorem dX3_init_28 : decode cX3_init 28 = .ok (.putfield 18, 3) := by decide +kernel
theorem dX3_init_31 : decode cX3_init 31 = .ok (.aload_n 0, 1) := by decide +kernel
theorem dX3_init_32 : decode cX3_init 32 = .ok (.sipush 196, 3) := by decide +kernel
theorem dX3_init_35 : decode cX3_init 35 = .ok (.newarray .int, 2) := by decide +kernel
theorem dX3_init_37 : decode cX3_init 37 = .ok (.putfield 21, 3) := by decide +kernel
theorem dX3_init_40 : decode cX3_init 40 = .ok (.aload_n 0, 1) := by decide +kernel
theorem dX3_init_41 : decode cX3_init 41 = .ok (.aload_n 1, 1) := by decide +kernel
theorem dX3_init_42 : decode cX3_init 42 = .ok (.putfield 24, 3) := by decide +kernel
theorem dX3_init_45 : decode cX3_init 45 = .ok (.return_, 1) := by decide +kernel
theorem dX3_clear_0 : decode cX3_clear 0 = .ok (.iconst 0, 1) := by decide +kernel
theorem dX3_clear_1 : decode cX3_clear 1 = .ok (.istore_n 1, 1) := by decide +kernel
theorem dX3_clear_2 : decode cX3_clear 2 = .ok (.iload_n 1, 1) := by decide +kernel
theorem dX3_clear_3 : decode cX3_clear 3 = .ok (.sipush 196, 3) := by decide +kernel
theorem dX3_clear_6 : decode cX3_clear 6 = .ok (.if_icmp .ge 23, 3) := by decide +kernel
theorem dX3_clear_9 : decode cX3_clear 9 = .ok (.aload_n 0, 1) := by decide +kernel
theorem dX3_clear_10 : decode cX3_clear 10 = .ok (.getfield 9, 3) := by decide +kernel
theorem dX3_clear_13 : decode cX3_clear 13 = .ok (.iload_n 1, 1) := by decide +kernel
theorem dX3_clear_14 : decode cX3_clear 14 = .ok (.iconst 0, 1) := by decide +kernel
theorem dX3_clear_15 : decode cX3_clear 15 = .ok (.iastore, 1) := by decide +kernel
theorem dX3_clear_16 : decode cX3_clear 16 = .ok (.aload_n 0, 1) := by decide +kernel
theorem dX3_clear_17 : decode cX3_clear 17 = .ok (.getfield 15, 3) := by decide +kernel
theorem dX3_clear_20 : decode cX3_clear 20 = .ok (.iload_n 1, 1) := by decide +kernel
theorem dX3_clear_21 : decode cX3_clear 21 = .ok (.iconst 0, 1) := by decide +kernel
theorem dX3_clear_22 : decode cX3_clear 22 = .ok (.iastore, 1) := by decide +kernel
theorem dX3_clear_23 : decode cX3_clear 23 = .ok (.iinc 1 1, 3) := by decide +kernel
theorem dX3_clear_26 : decode cX3_clear 26 = .ok (.goto (-24), 3) := by decide +kernel
theorem dX3_clear_29 : decode cX3_clear 29 = .ok (.iconst 0, 1) := by decide +kernel
theorem dX3_clear_30 : decode cX3_clear 30 = .ok (.istore_n 1, 1) := by decide +kernel
theorem dX3_clear_31 : decode cX3_clear 31 = .ok (.iload_n 1, 1) := by decide +kernel
theorem dX3_clear_32 : decode cX3_clear 32 = .ok (.sipush 784, 3) := by decide +kernel
theorem dX3_clear_35 : decode cX3_clear 35 = .ok (.if_icmp .ge 16, 3) := by decide +kernel
theorem dX3_clear_38 : decode cX3_clear 38 = .ok (.aload_n 0, 1) := by decide +kernel
theorem dX3_clear_39 : decode cX3_clear 39 = .ok (.getfield 18, 3) := by decide +kernel
theorem dX3_clear_42 : decode cX3_clear 42 = .ok (.iload_n 1, 1) := by decide +kernel
theorem dX3_clear_43 : decode cX3_clear 43 = .ok (.iconst (-1), 1) := by decide +kernel
theorem dX3_clear_44 : decode cX3_clear 44 = .ok (.iastore, 1) := by decide +kernel
theorem dX3_clear_45 : decode cX3_clear 45 = .ok (.iinc 1 1, 3) := by decide +kernel
theorem dX3_clear_48 : decode cX3_clear 48 = .ok (.goto (-17), 3) := by decide +kernel
theorem dX3_clear_51 : decode cX3_clear 51 = .ok (.return_, 1) := by decide +kernel
theorem dX3_copyFrom_0 : decode cX3_copyFrom 0 = .ok (.aload_n 1, 1) := by decide +kernel
theorem dX3_copyFrom_1 : decode cX3_copyFrom 1 = .ok (.getfield 9, 3) := by decide +kernel
theorem dX3_copyFrom_4 : decode cX3_copyFrom 4 = .ok (.iconst 0, 1) := by decide +kernel
theorem dX3_copyFrom_5 : decode cX3_copyFrom 5 = .ok (.aload_n 0, 1) := by decide +kernel
theorem dX3_copyFrom_6 : decode cX3_copyFrom 6 = .ok (.getfield 9, 3) := by decide +kernel
theorem dX3_copyFrom_9 : decode cX3_copyFrom 9 = .ok (.iconst 0, 1) := by decide +kernel
theorem dX3_copyFrom_10 : decode cX3_copyFrom 10 = .ok (.sipush 196, 3) := by decide +kernel
theorem dX3_copyFrom_13 : decode cX3_copyFrom 13 = .ok (.invokestatic 28, 3) := by decide +kernel
theorem dX3_copyFrom_16 : decode cX3_copyFrom 16 = .ok (.aload_n 1, 1) := by decide +kernel
theorem dX3_copyFrom_17 : decode cX3_copyFrom 17 = .ok (.getfield 15, 3) := by decide +kernel
theorem dX3_copyFrom_20 : decode cX3_copyFrom 20 = .ok (.iconst 0, 1) := by decide +kernel
theorem dX3_copyFrom_21 : decode cX3_copyFrom 21 = .ok (.aload_n 0, 1) := by decide +kernel
theorem dX3_copyFrom_22 : decode cX3_copyFrom 22 = .ok (.getfield 15, 3) := by decide +kernel
theorem dX3_copyFrom_25 : decode cX3_copyFrom 25 = .ok (.iconst 0, 1) := by decide +kernel
theorem dX3_copyFrom_26 : decode cX3_copyFrom 26 = .ok (.sipush 196, 3) := by decide +kernel
theorem dX3_copyFrom_29 : decode cX3_copyFrom 29 = .ok (.invokestatic 28, 3) := by decide +kernel
theorem dX3_copyFrom_32 : decode cX3_copyFrom 32 = .ok (.aload_n 1, 1) := by decide +kernel
theorem dX3_copyFrom_33 : decode cX3_copyFrom 33 = .ok (.getfield 18, 3) := by decide +kernel
theorem dX3_copyFrom_36 : decode cX3_copyFrom 36 = .ok (.iconst 0, 1) := by decide +kernel
theorem dX3_copyFrom_37 : decode cX3_copyFrom 37 = .ok (.aload_n 0, 1) := by decide +kernel
theorem dX3_copyFrom_38 : decode cX3_copyFrom 38 = .ok (.getfield 18, 3) := by decide +kernel
theorem dX3_copyFrom_41 : decode cX3_copyFrom 41 = .ok (.iconst 0, 1) := by decide +kernel
theorem dX3_copyFrom_42 : decode cX3_copyFrom 42 = .ok (.sipush 784, 3) := by decide +kernel
theorem dX3_copyFrom_45 : decode cX3_copyFrom 45 = .ok (.invokestatic 28, 3) := by decide +kernel
theorem dX3_copyFrom_48 : decode cX3_copyFrom 48 = .ok (.return_, 1) := by decide +kernel
theorem dX3_isFree_0 : decode cX3_isFree 0 = .ok (.aload_n 0, 1) := by decide +kernel
theorem dX3_isFree_1 : decode cX3_isFree 1 = .ok (.getfield 24, 3) := by decide +kernel
theorem dX3_isFree_4 : decode cX3_isFree 4 = .ok (.iload_n 1, 1) := by decide +kernel
theorem dX3_isFree_5 : decode cX3_isFree 5 = .ok (.invokevirtual 34, 3) := by decide +kernel
theorem dX3_isFree_8 : decode cX3_isFree 8 = .ok (.ifCond .eq 16, 3) := by decide +kernel
theorem dX3_isFree_11 : decode cX3_isFree 11 = .ok (.aload_n 0, 1) := by decide +kernel
theorem dX3_isFree_12 : decode cX3_isFree 12 = .ok (.getfield 9, 3) := by decide +kernel
theorem dX3_isFree_15 : decode cX3_isFree 15 = .ok (.iload_n 1, 1) := by decide +kernel
theorem dX3_isFree_16 : decode cX3_isFree 16 = .ok (.iaload, 1) := by decide +kernel
theorem dX3_isFree_17 : decode cX3_isFree 17 = .ok (.ifCond .ne 7, 3) := by decide +kernel
theorem dX3_isFree_20 : decode cX3_isFree 20 = .ok (.iconst 1, 1) := by decide +kernel
theorem dX3_isFree_21 : decode cX3_isFree 21 = .ok (.goto 4, 3) := by decide +kernel
theorem dX3_isFree_24 : decode cX3_isFree 24 = .ok (.iconst 0, 1) := by decide +kernel
theorem dX3_isFree_25 : decode cX3_isFree 25 = .ok (.ireturn, 1) := by decide +kernel
theorem dX3_isMarked_0 : decode cX3_isMarked 0 = .ok (.iload_n 1, 1) := by decide +kernel
theorem dX3_isMarked_1 : decode cX3_isMarked 1 = .ok (.invokestatic 40, 3) := by decide +kernel
theorem dX3_isMarked_4 : decode cX3_isMarked 4 = .ok (.ifCond .eq 31, 3) := by decide +kernel
theorem dX3_isMarked_7 : decode cX3_isMarked 7 = .ok (.aload_n 0, 1) := by decide +kernel
theorem dX3_isMarked_8 : decode cX3_isMarked 8 = .ok (.getfield 24, 3) := by decide +kernel
theorem dX3_isMarked_11 : decode cX3_isMarked 11 = .ok (.iload_n 2, 1) := by decide +kernel
theorem dX3_isMarked_12 : decode cX3_isMarked 12 = .ok (.invokevirtual 34, 3) := by decide +kernel
theorem dX3_isMarked_15 : decode cX3_isMarked 15 = .ok (.ifCond .eq 20, 3) := by decide +kernel
theorem dX3_isMarked_18 : decode cX3_isMarked 18 = .ok (.aload_n 0, 1) := by decide +kernel
theorem dX3_isMarked_19 : decode cX3_isMarked 19 = .ok (.getfield 15, 3) := by decide +kernel
theorem dX3_isMarked_22 : decode cX3_isMarked 22 = .ok (.iload_n 2, 1) := by decide +kernel
theorem dX3_isMarked_23 : decode cX3_isMarked 23 = .ok (.iaload, 1) := by decide +kernel
theorem dX3_isMarked_24 : decode cX3_isMarked 24 = .ok (.iconst 1, 1) := by decide +kernel
theorem dX3_isMarked_25 : decode cX3_isMarked 25 = .ok (.iload_n 1, 1) := by decide +kernel
theorem dX3_isMarked_26 : decode cX3_isMarked 26 = .ok (.ishl, 1) := by decide +kernel
theorem dX3_isMarked_27 : decode cX3_isMarked 27 = .ok (.iand, 1) := by decide +kernel
theorem dX3_isMarked_28 : decode cX3_isMarked 28 = .ok (.ifCond .eq 7, 3) := by decide +kernel
theorem dX3_isMarked_31 : decode cX3_isMarked 31 = .ok (.iconst 1, 1) := by decide +kernel
theorem dX3_isMarked_32 : decode cX3_isMarked 32 = .ok (.goto 4, 3) := by decide +kernel
theorem dX3_isMarked_35 : decode cX3_isMarked 35 = .ok (.iconst 0, 1) := by decide +kernel
theorem dX3_isMarked_36 : decode cX3_isMarked 36 = .ok (.ireturn, 1) := by decide +kernel
theorem dX3_distance_0 : decode cX3_distance 0 = .ok (.iload_n 1, 1) := by decide +kernel
theorem dX3_distance_1 : decode cX3_distance 1 = .ok (.invokestatic 40, 3) := by decide +kernel
theorem dX3_distance_4 : decode cX3_distance 4 = .ok (.ifCond .eq 29, 3) := by decide +kernel
theorem dX3_distance_7 : decode cX3_distance 7 = .ok (.aload_n 0, 1) := by decide +kernel
theorem dX3_distance_8 : decode cX3_distance 8 = .ok (.getfield 24, 3) := by decide +kernel
theorem dX3_distance_11 : decode cX3_distance 11 = .ok (.iload_n 2, 1) := by decide +kernel
theorem dX3_distance_12 : decode cX3_distance 12 = .ok (.invokevirtual 34, 3) := by decide +kernel
theorem dX3_distance_15 : decode cX3_distance 15 = .ok (.ifCond .eq 18, 3) := by decide +kernel
theorem dX3_distance_18 : decode cX3_distance 18 = .ok (.aload_n 0, 1) := by decide +kernel
theorem dX3_distance_19 : decode cX3_distance 19 = .ok (.getfield 18, 3) := by decide +kernel
theorem dX3_distance_22 : decode cX3_distance 22 = .ok (.iload_n 1, 1) := by decide +kernel
theorem dX3_distance_23 : decode cX3_distance 23 = .ok (.sipush 196, 3) := by decide +kernel
theorem dX3_distance_26 : decode cX3_distance 26 = .ok (.imul, 1) := by decide +kernel
theorem dX3_distance_27 : decode cX3_distance 27 = .ok (.iload_n 2, 1) := by decide +kernel
theorem dX3_distance_28 : decode cX3_distance 28 = .ok (.iadd, 1) := by decide +kernel
theorem dX3_distance_29 : decode cX3_distance 29 = .ok (.iaload, 1) := by decide +kernel
theorem dX3_distance_30 : decode cX3_distance 30 = .ok (.goto 4, 3) := by decide +kernel
theorem dX3_distance_33 : decode cX3_distance 33 = .ok (.iconst (-1), 1) := by decide +kernel
theorem dX3_distance_34 : decode cX3_distance 34 = .ok (.ireturn, 1) := by decide +kernel
theorem dX3_build_0 : decode cX3_build 0 = .ok (.aload_n 0, 1) := by decide +kernel
theorem dX3_build_1 : decode cX3_build 1 = .ok (.getfield 24, 3) := by decide +kernel
theorem dX3_build_4 : decode cX3_build 4 = .ok (.iload_n 1, 1) := by decide +kernel
theorem dX3_build_5 : decode cX3_build 5 = .ok (.invokevirtual 34, 3) := by decide +kernel
theorem dX3_build_8 : decode cX3_build 8 = .ok (.ifCond .eq 18, 3) := by decide +kernel
theorem dX3_build_11 : decode cX3_build 11 = .ok (.aload_n 0, 1) := by decide +kernel
theorem dX3_build_12 : decode cX3_build 12 = .ok (.getfield 9, 3) := by decide +kernel
theorem dX3_build_15 : decode cX3_build 15 = .ok (.iload_n 1, 1) := by decide +kernel
theorem dX3_build_16 : decode cX3_build 16 = .ok (.iload_n 2, 1) := by decide +kernel
theorem dX3_build_17 : decode cX3_build 17 = .ok (.ifCond .eq 7, 3) := by decide +kernel
theorem dX3_build_20 : decode cX3_build 20 = .ok (.iconst 1, 1) := by decide +kernel
theorem dX3_build_21 : decode cX3_build 21 = .ok (.goto 4, 3) := by decide +kernel
theorem dX3_build_24 : decode cX3_build 24 = .ok (.iconst 0, 1) := by decide +kernel
theorem dX3_build_25 : decode cX3_build 25 = .ok (.iastore, 1) := by decide +kernel
theorem dX3_build_26 : decode cX3_build 26 = .ok (.return_, 1) := by decide +kernel
theorem dX3_turnMark_0 : decode cX3_turnMark 0 = .ok (.iload_n 1, 1) := by decide +kernel
theorem dX3_turnMark_1 : decode cX3_turnMark 1 = .ok (.invokestatic 40, 3) := by decide +kernel
theorem dX3_turnMark_4 : decode cX3_turnMark 4 = .ok (.ifCond .eq 26, 3) := by decide +kernel
theorem dX3_turnMark_7 : decode cX3_turnMark 7 = .ok (.aload_n 0, 1) := by decide +kernel
theorem dX3_turnMark_8 : decode cX3_turnMark 8 = .ok (.getfield 24, 3) := by decide +kernel
theorem dX3_turnMark_11 : decode cX3_turnMark 11 = .ok (.iload_n 2, 1) := by decide +kernel
theorem dX3_turnMark_12 : decode cX3_turnMark 12 = .ok (.invokevirtual 34, 3) := by decide +kernel
theorem dX3_turnMark_15 : decode cX3_turnMark 15 = .ok (.ifCond .eq 15, 3) := by decide +kernel
theorem dX3_turnMark_18 : decode cX3_turnMark 18 = .ok (.aload_n 0, 1) := by decide +kernel
theorem dX3_turnMark_19 : decode cX3_turnMark 19 = .ok (.getfield 15, 3) := by decide +kernel
theorem dX3_turnMark_22 : decode cX3_turnMark 22 = .ok (.iload_n 2, 1) := by decide +kernel
theorem dX3_turnMark_23 : decode cX3_turnMark 23 = .ok (.dup2, 1) := by decide +kernel
theorem dX3_turnMark_24 : decode cX3_turnMark 24 = .ok (.iaload, 1) := by decide +kernel
theorem dX3_turnMark_25 : decode cX3_turnMark 25 = .ok (.iconst 1, 1) := by decide +kernel
theorem dX3_turnMark_26 : decode cX3_turnMark 26 = .ok (.iload_n 1, 1) := by decide +kernel
theorem dX3_turnMark_27 : decode cX3_turnMark 27 = .ok (.ishl, 1) := by decide +kernel
theorem dX3_turnMark_28 : decode cX3_turnMark 28 = .ok (.ixor, 1) := by decide +kernel
theorem dX3_turnMark_29 : decode cX3_turnMark 29 = .ok (.iastore, 1) := by decide +kernel
theorem dX3_turnMark_30 : decode cX3_turnMark 30 = .ok (.return_, 1) := by decide +kernel
theorem dX3_countWalls_0 : decode cX3_countWalls 0 = .ok (.iconst 0, 1) := by decide +kernel
theorem dX3_countWalls_1 : decode cX3_countWalls 1 = .ok (.istore_n 1, 1) := by decide +kernel
theorem dX3_countWalls_2 : decode cX3_countWalls 2 = .ok (.iconst 0, 1) := by decide +kernel
theorem dX3_countWalls_3 : decode cX3_countWalls 3 = .ok (.istore_n 2, 1) := by decide +kernel
theorem dX3_countWalls_4 : decode cX3_countWalls 4 = .ok (.iload_n 2, 1) := by decide +kernel
theorem dX3_countWalls_5 : decode cX3_countWalls 5 = .ok (.aload_n 0, 1) := by decide +kernel
theorem dX3_countWalls_6 : decode cX3_countWalls 6 = .ok (.getfield 24, 3) := by decide +kernel
theorem dX3_countWalls_9 : decode cX3_countWalls 9 = .ok (.getfield 43, 3) := by decide +kernel
theorem dX3_countWalls_12 : decode cX3_countWalls 12 = .ok (.if_icmp .ge 20, 3) := by decide +kernel
theorem dX3_countWalls_15 : decode cX3_countWalls 15 = .ok (.aload_n 0, 1) := by decide +kernel
theorem dX3_countWalls_16 : decode cX3_countWalls 16 = .ok (.iload_n 2, 1) := by decide +kernel
theorem dX3_countWalls_17 : decode cX3_countWalls 17 = .ok (.invokevirtual 47, 3) := by decide +kernel
theorem dX3_countWalls_20 : decode cX3_countWalls 20 = .ok (.ifCond .ne 6, 3) := by decide +kernel
theorem dX3_countWalls_23 : decode cX3_countWalls 23 = .ok (.iinc 1 1, 3) := by decide +kernel
theorem dX3_countWalls_26 : decode cX3_countWalls 26 = .ok (.iinc 2 1, 3) := by decide +kernel
theorem dX3_countWalls_29 : decode cX3_countWalls 29 = .ok (.goto (-25), 3) := by decide +kernel
theorem dX3_countWalls_32 : decode cX3_countWalls 32 = .ok (.iload_n 1, 1) := by decide +kernel
theorem dX3_countWalls_33 : decode cX3_countWalls 33 = .ok (.ireturn, 1) := by decide +kernel
theorem dX3_countMarks_0 : decode cX3_countMarks 0 = .ok (.iconst 0, 1) := by decide +kernel
theorem dX3_countMarks_1 : decode cX3_countMarks 1 = .ok (.istore_n 2, 1) := by decide +kernel
theorem dX3_countMarks_2 : decode cX3_countMarks 2 = .ok (.iconst 0, 1) := by decide +kernel
theorem dX3_countMarks_3 : decode cX3_countMarks 3 = .ok (.istore_n 3, 1) := by decide +kernel
theorem dX3_countMarks_4 : decode cX3_countMarks 4 = .ok (.iload_n 3, 1) := by decide +kernel
theorem dX3_countMarks_5 : decode cX3_countMarks 5 = .ok (.aload_n 0, 1) := by decide +kernel
theorem dX3_countMarks_6 : decode cX3_countMarks 6 = .ok (.getfield 24, 3) := by decide +kernel
theorem dX3_countMarks_9 : decode cX3_countMarks 9 = .ok (.getfield 43, 3) := by decide +kernel
theorem dX3_countMarks_12 : decode cX3_countMarks 12 = .ok (.if_icmp .ge 21, 3) := by decide +kernel
theorem dX3_countMarks_15 : decode cX3_countMarks 15 = .ok (.aload_n 0, 1) := by decide +kernel
theorem dX3_countMarks_16 : decode cX3_countMarks 16 = .ok (.iload_n 1, 1) := by decide +kernel
theorem dX3_countMarks_17 : decode cX3_countMarks 17 = .ok (.iload_n 3, 1) := by decide +kernel
theorem dX3_countMarks_18 : decode cX3_countMarks 18 = .ok (.invokevirtual 50, 3) := by decide +kernel
theorem dX3_countMarks_21 : decode cX3_countMarks 21 = .ok (.ifCond .eq 6, 3) := by decide +kernel
theorem dX3_countMarks_24 : decode cX3_countMarks 24 = .ok (.iinc 2 1, 3) := by decide +kernel
theorem dX3_countMarks_27 : decode cX3_countMarks 27 = .ok (.iinc 3 1, 3) := by decide +kernel
theorem dX3_countMarks_30 : decode cX3_countMarks 30 = .ok (.goto (-26), 3) := by decide +kernel
theorem dX3_countMarks_33 : decode cX3_countMarks 33 = .ok (.iload_n 2, 1) := by decide +kernel
theorem dX3_countMarks_34 : decode cX3_countMarks 34 = .ok (.ireturn, 1) := by decide +kernel
theorem dX3_greatestDistance_0 : decode cX3_greatestDistance 0 = .ok (.iconst (-1), 1) := by decide +kernel
theorem dX3_greatestDistance_1 : decode cX3_greatestDistance 1 = .ok (.istore_n 2, 1) := by decide +kernel
theorem dX3_greatestDistance_2 : decode cX3_greatestDistance 2 = .ok (.iconst 0, 1) := by decide +kernel
theorem dX3_greatestDistance_3 : decode cX3_greatestDistance 3 = .ok (.istore_n 3, 1) := by decide +kernel
theorem dX3_greatestDistance_4 : decode cX3_greatestDistance 4 = .ok (.iload_n 3, 1) := by decide +kernel
theorem dX3_greatestDistance_5 : decode cX3_greatestDistance 5 = .ok (.aload_n 0, 1) := by decide +kernel
theorem dX3_greatestDistance_6 : decode cX3_greatestDistance 6 = .ok (.getfield 24, 3) := by decide +kernel
theorem dX3_greatestDistance_9 : decode cX3_greatestDistance 9 = .ok (.getfield 43, 3) := by decide +kernel
theorem dX3_greatestDistance_12 : decode cX3_greatestDistance 12 = .ok (.if_icmp .ge 20, 3) := by decide +kernel
theorem dX3_greatestDistance_15 : decode cX3_greatestDistance 15 = .ok (.iload_n 2, 1) := by decide +kernel
theorem dX3_greatestDistance_16 : decode cX3_greatestDistance 16 = .ok (.aload_n 0, 1) := by decide +kernel
theorem dX3_greatestDistance_17 : decode cX3_greatestDistance 17 = .ok (.iload_n 1, 1) := by decide +kernel
theorem dX3_greatestDistance_18 : decode cX3_greatestDistance 18 = .ok (.iload_n 3, 1) := by decide +kernel
theorem dX3_greatestDistance_19 : decode cX3_greatestDistance 19 = .ok (.invokevirtual 54, 3) := by decide +kernel
theorem dX3_greatestDistance_22 : decode cX3_greatestDistance 22 = .ok (.invokestatic 58, 3) := by decide +kernel
theorem dX3_greatestDistance_25 : decode cX3_greatestDistance 25 = .ok (.istore_n 2, 1) := by decide +kernel
theorem dX3_greatestDistance_26 : decode cX3_greatestDistance 26 = .ok (.iinc 3 1, 3) := by decide +kernel
theorem dX3_greatestDistance_29 : decode cX3_greatestDistance 29 = .ok (.goto (-25), 3) := by decide +kernel
theorem dX3_greatestDistance_32 : decode cX3_greatestDistance 32 = .ok (.iload_n 2, 1) := by decide +kernel
theorem dX3_greatestDistance_33 : decode cX3_greatestDistance 33 = .ok (.ireturn, 1) := by decide +kernel
theorem dX3_measureAll_0 : decode cX3_measureAll 0 = .ok (.iconst 0, 1) := by decide +kernel
theorem dX3_measureAll_1 : decode cX3_measureAll 1 = .ok (.istore_n 1, 1) := by decide +kernel
theorem dX3_measureAll_2 : decode cX3_measureAll 2 = .ok (.iload_n 1, 1) := by decide +kernel
theorem dX3_measureAll_3 : decode cX3_measureAll 3 = .ok (.iconst 4, 1) := by decide +kernel
theorem dX3_measureAll_4 : decode cX3_measureAll 4 = .ok (.if_icmp .ge 14, 3) := by decide +kernel
theorem dX3_measureAll_7 : decode cX3_measureAll 7 = .ok (.aload_n 0, 1) := by decide +kernel
theorem dX3_measureAll_8 : decode cX3_measureAll 8 = .ok (.iload_n 1, 1) := by decide +kernel
theorem dX3_measureAll_9 : decode cX3_measureAll 9 = .ok (.invokevirtual 63, 3) := by decide +kernel
theorem dX3_measureAll_12 : decode cX3_measureAll 12 = .ok (.iinc 1 1, 3) := by decide +kernel
theorem dX3_measureAll_15 : decode cX3_measureAll 15 = .ok (.goto (-13), 3) := by decide +kernel
theorem dX3_measureAll_18 : decode cX3_measureAll 18 = .ok (.return_, 1) := by decide +kernel
theorem dX3_measure_0 : decode cX3_measure 0 = .ok (.iload_n 1, 1) := by decide +kernel
theorem dX3_measure_1 : decode cX3_measure 1 = .ok (.invokestatic 40, 3) := by decide +kernel
theorem dX3_measure_4 : decode cX3_measure 4 = .ok (.ifCond .ne 4, 3) := by decide +kernel
theorem dX3_measure_7 : decode cX3_measure 7 = .ok (.return_, 1) := by decide +kernel
theorem dX3_measure_8 : decode cX3_measure 8 = .ok (.iload_n 1, 1) := by decide +kernel
theorem dX3_measure_9 : decode cX3_measure 9 = .ok (.sipush 196, 3) := by decide +kernel
theorem dX3_measure_12 : decode cX3_measure 12 = .ok (.imul, 1) := by decide +kernel
theorem dX3_measure_13 : decode cX3_measure 13 = .ok (.istore_n 2, 1) := by decide +kernel
theorem dX3_measure_14 : decode cX3_measure 14 = .ok (.iconst 0, 1) := by decide +kernel
theorem dX3_measure_15 : decode cX3_measure 15 = .ok (.istore_n 3, 1) := by decide +kernel
theorem dX3_measure_16 : decode cX3_measure 16 = .ok (.iconst 0, 1) := by decide +kernel
theorem dX3_measure_17 : decode cX3_measure 17 = .ok (.istore 4, 2) := by decide +kernel
theorem dX3_measure_19 : decode cX3_measure 19 = .ok (.iload 4, 2) := by decide +kernel
theorem dX3_measure_21 : decode cX3_measure 21 = .ok (.sipush 196, 3) := by decide +kernel
theorem dX3_measure_24 : decode cX3_measure 24 = .ok (.if_icmp .ge 70, 3) := by decide +kernel
theorem dX3_measure_27 : decode cX3_measure 27 = .ok (.aload_n 0, 1) := by decide +kernel
theorem dX3_measure_28 : decode cX3_measure 28 = .ok (.iload 4, 2) := by decide +kernel
theorem dX3_measure_30 : decode cX3_measure 30 = .ok (.invokevirtual 47, 3) := by decide +kernel
theorem dX3_measure_33 : decode cX3_measure 33 = .ok (.ifCond .eq 17, 3) := by decide +kernel
theorem dX3_measure_36 : decode cX3_measure 36 = .ok (.aload_n 0, 1) := by decide +kernel
theorem dX3_measure_37 : decode cX3_measure 37 = .ok (.iload_n 1, 1) := by decide +kernel
theorem dX3_measure_38 : decode cX3_measure 38 = .ok (.iload 4, 2) := by decide +kernel
theorem dX3_measure_40 : decode cX3_measure 40 = .ok (.invokevirtual 50, 3) := by decide +kernel
theorem dX3_measure_43 : decode cX3_measure 43 = .ok (.ifCond .eq 7, 3) := by decide +kernel
theorem dX3_measure_46 : decode cX3_measure 46 = .ok (.iconst 1, 1) := by decide +kernel
theorem dX3_measure_47 : decode cX3_measure 47 = .ok (.goto 4, 3) := by decide +kernel
theorem dX3_measure_50 : decode cX3_measure 50 = .ok (.iconst 0, 1) := by decide +kernel
theorem dX3_measure_51 : decode cX3_measure 51 = .ok (.istore 5, 2) := by decide +kernel
theorem dX3_measure_53 : decode cX3_measure 53 = .ok (.aload_n 0, 1) := by decide +kernel
theorem dX3_measure_54 : decode cX3_measure 54 = .ok (.getfield 18, 3) := by decide +kernel
theorem dX3_measure_57 : decode cX3_measure 57 = .ok (.iload_n 2, 1) := by decide +kernel
theorem dX3_measure_58 : decode cX3_measure 58 = .ok (.iload 4, 2) := by decide +kernel
theorem dX3_measure_60 : decode cX3_measure 60 = .ok (.iadd, 1) := by decide +kernel
theorem dX3_measure_61 : decode cX3_measure 61 = .ok (.iload 5, 2) := by decide +kernel
theorem dX3_measure_63 : decode cX3_measure 63 = .ok (.ifCond .eq 7, 3) := by decide +kernel
theorem dX3_measure_66 : decode cX3_measure 66 = .ok (.iconst 0, 1) := by decide +kernel
theorem dX3_measure_67 : decode cX3_measure 67 = .ok (.goto 4, 3) := by decide +kernel
theorem dX3_measure_70 : decode cX3_measure 70 = .ok (.iconst (-1), 1) := by decide +kernel
theorem dX3_measure_71 : decode cX3_measure 71 = .ok (.iastore, 1) := by decide +kernel
theorem dX3_measure_72 : decode cX3_measure 72 = .ok (.iload 5, 2) := by decide +kernel
theorem dX3_measure_74 : decode cX3_measure 74 = .ok (.ifCond .eq 14, 3) := by decide +kernel
theorem dX3_measure_77 : decode cX3_measure 77 = .ok (.aload_n 0, 1) := by decide +kernel
theorem dX3_measure_78 : decode cX3_measure 78 = .ok (.getfield 21, 3) := by decide +kernel
theorem dX3_measure_81 : decode cX3_measure 81 = .ok (.iload_n 3, 1) := by decide +kernel
theorem dX3_measure_82 : decode cX3_measure 82 = .ok (.iload 4, 2) := by decide +kernel
theorem dX3_measure_84 : decode cX3_measure 84 = .ok (.iastore, 1) := by decide +kernel
theorem dX3_measure_85 : decode cX3_measure 85 = .ok (.iinc 3 1, 3) := by decide +kernel
theorem dX3_measure_88 : decode cX3_measure 88 = .ok (.iinc 4 1, 3) := by decide +kernel
theorem dX3_measure_91 : decode cX3_measure 91 = .ok (.goto (-72), 3) := by decide +kernel
theorem dX3_measure_94 : decode cX3_measure 94 = .ok (.iconst 0, 1) := by decide +kernel
theorem dX3_measure_95 : decode cX3_measure 95 = .ok (.istore 4, 2) := by decide +kernel
theorem dX3_measure_97 : decode cX3_measure 97 = .ok (.iload 4, 2) := by decide +kernel
theorem dX3_measure_99 : decode cX3_measure 99 = .ok (.iload_n 3, 1) := by decide +kernel
theorem dX3_measure_100 : decode cX3_measure 100 = .ok (.if_icmp .ge 31, 3) := by decide +kernel
theorem dX3_measure_103 : decode cX3_measure 103 = .ok (.iload 4, 2) := by decide +kernel
theorem dX3_measure_105 : decode cX3_measure 105 = .ok (.sipush 196, 3) := by decide +kernel
theorem dX3_measure_108 : decode cX3_measure 108 = .ok (.if_icmp .ge 23, 3) := by decide +kernel
theorem dX3_measure_111 : decode cX3_measure 111 = .ok (.aload_n 0, 1) := by decide +kernel
theorem dX3_measure_112 : decode cX3_measure 112 = .ok (.iload_n 2, 1) := by decide +kernel
theorem dX3_measure_113 : decode cX3_measure 113 = .ok (.aload_n 0, 1) := by decide +kernel
theorem dX3_measure_114 : decode cX3_measure 114 = .ok (.getfield 21, 3) := by decide +kernel
theorem dX3_measure_117 : decode cX3_measure 117 = .ok (.iload 4, 2) := by decide +kernel
theorem dX3_measure_119 : decode cX3_measure 119 = .ok (.iaload, 1) := by decide +kernel
theorem dX3_measure_120 : decode cX3_measure 120 = .ok (.iload_n 3, 1) := by decide +kernel
theorem dX3_measure_121 : decode cX3_measure 121 = .ok (.invokevirtual 67, 3) := by decide +kernel
theorem dX3_measure_124 : decode cX3_measure 124 = .ok (.istore_n 3, 1) := by decide +kernel
theorem dX3_measure_125 : decode cX3_measure 125 = .ok (.iinc 4 1, 3) := by decide +kernel
theorem dX3_measure_128 : decode cX3_measure 128 = .ok (.goto (-31), 3) := by decide +kernel
theorem dX3_measure_131 : decode cX3_measure 131 = .ok (.return_, 1) := by decide +kernel
theorem dX3_spread_0 : decode cX3_spread 0 = .ok (.iload_n 3, 1) := by decide +kernel
theorem dX3_spread_1 : decode cX3_spread 1 = .ok (.istore 4, 2) := by decide +kernel
theorem dX3_spread_3 : decode cX3_spread 3 = .ok (.iconst 0, 1) := by decide +kernel
theorem dX3_spread_4 : decode cX3_spread 4 = .ok (.istore 5, 2) := by decide +kernel
theorem dX3_spread_6 : decode cX3_spread 6 = .ok (.iload 5, 2) := by decide +kernel
theorem dX3_spread_8 : decode cX3_spread 8 = .ok (.iconst 4, 1) := by decide +kernel
theorem dX3_spread_9 : decode cX3_spread 9 = .ok (.if_icmp .ge 82, 3) := by decide +kernel
theorem dX3_spread_12 : decode cX3_spread 12 = .ok (.aload_n 0, 1) := by decide +kernel
theorem dX3_spread_13 : decode cX3_spread 13 = .ok (.getfield 24, 3) := by decide +kernel
theorem dX3_spread_16 : decode cX3_spread 16 = .ok (.iload_n 2, 1) := by decide +kernel
theorem dX3_spread_17 : decode cX3_spread 17 = .ok (.iload 5, 2) := by decide +kernel
theorem dX3_spread_19 : decode cX3_spread 19 = .ok (.invokevirtual 71, 3) := by decide +kernel
theorem dX3_spread_22 : decode cX3_spread 22 = .ok (.istore 6, 2) := by decide +kernel
theorem dX3_spread_24 : decode cX3_spread 24 = .ok (.aload_n 0, 1) := by decide +kernel
theorem dX3_spread_25 : decode cX3_spread 25 = .ok (.iload 6, 2) := by decide +kernel
theorem dX3_spread_27 : decode cX3_spread 27 = .ok (.invokevirtual 47, 3) := by decide +kernel
theorem dX3_spread_30 : decode cX3_spread 30 = .ok (.ifCond .eq 55, 3) := by decide +kernel
theorem dX3_spread_33 : decode cX3_spread 33 = .ok (.aload_n 0, 1) := by decide +kernel
theorem dX3_spread_34 : decode cX3_spread 34 = .ok (.getfield 18, 3) := by decide +kernel
theorem dX3_spread_37 : decode cX3_spread 37 = .ok (.iload_n 1, 1) := by decide +kernel
theorem dX3_spread_38 : decode cX3_spread 38 = .ok (.iload 6, 2) := by decide +kernel
theorem dX3_spread_40 : decode cX3_spread 40 = .ok (.iadd, 1) := by decide +kernel
theorem dX3_spread_41 : decode cX3_spread 41 = .ok (.iaload, 1) := by decide +kernel
theorem dX3_spread_42 : decode cX3_spread 42 = .ok (.iconst (-1), 1) := by decide +kernel
theorem dX3_spread_43 : decode cX3_spread 43 = .ok (.if_icmp .ne 42, 3) := by decide +kernel
theorem dX3_spread_46 : decode cX3_spread 46 = .ok (.iload 4, 2) := by decide +kernel
theorem dX3_spread_48 : decode cX3_spread 48 = .ok (.sipush 196, 3) := by decide +kernel
theorem dX3_spread_51 : decode cX3_spread 51 = .ok (.if_icmp .ge 34, 3) := by decide +kernel
theorem dX3_spread_54 : decode cX3_spread 54 = .ok (.aload_n 0, 1) := by decide +kernel
theorem dX3_spread_55 : decode cX3_spread 55 = .ok (.getfield 18, 3) := by decide +kernel
theorem dX3_spread_58 : decode cX3_spread 58 = .ok (.iload_n 1, 1) := by decide +kernel
theorem dX3_spread_59 : decode cX3_spread 59 = .ok (.iload 6, 2) := by decide +kernel
theorem dX3_spread_61 : decode cX3_spread 61 = .ok (.iadd, 1) := by decide +kernel
theorem dX3_spread_62 : decode cX3_spread 62 = .ok (.aload_n 0, 1) := by decide +kernel
theorem dX3_spread_63 : decode cX3_spread 63 = .ok (.getfield 18, 3) := by decide +kernel
theorem dX3_spread_66 : decode cX3_spread 66 = .ok (.iload_n 1, 1) := by decide +kernel
theorem dX3_spread_67 : decode cX3_spread 67 = .ok (.iload_n 2, 1) := by decide +kernel
theorem dX3_spread_68 : decode cX3_spread 68 = .ok (.iadd, 1) := by decide +kernel
theorem dX3_spread_69 : decode cX3_spread 69 = .ok (.iaload, 1) := by decide +kernel
theorem dX3_spread_70 : decode cX3_spread 70 = .ok (.iconst 1, 1) := by decide +kernel
theorem dX3_spread_71 : decode cX3_spread 71 = .ok (.iadd, 1) := by decide +kernel
theorem dX3_spread_72 : decode cX3_spread 72 = .ok (.iastore, 1) := by decide +kernel
theorem dX3_spread_73 : decode cX3_spread 73 = .ok (.aload_n 0, 1) := by decide +kernel
theorem dX3_spread_74 : decode cX3_spread 74 = .ok (.getfield 21, 3) := by decide +kernel
theorem dX3_spread_77 : decode cX3_spread 77 = .ok (.iload 4, 2) := by decide +kernel
theorem dX3_spread_79 : decode cX3_spread 79 = .ok (.iload 6, 2) := by decide +kernel
theorem dX3_spread_81 : decode cX3_spread 81 = .ok (.iastore, 1) := by decide +kernel
theorem dX3_spread_82 : decode cX3_spread 82 = .ok (.iinc 4 1, 3) := by decide +kernel
theorem dX3_spread_85 : decode cX3_spread 85 = .ok (.iinc 5 1, 3) := by decide +kernel
theorem dX3_spread_88 : decode cX3_spread 88 = .ok (.goto (-82), 3) := by decide +kernel
theorem dX3_spread_91 : decode cX3_spread 91 = .ok (.iload 4, 2) := by decide +kernel
theorem dX3_spread_93 : decode cX3_spread 93 = .ok (.ireturn, 1) := by decide +kernel
theorem dX3_fieldOnWay_0 : decode cX3_fieldOnWay 0 = .ok (.aload_n 0, 1) := by decide +kernel
theorem dX3_fieldOnWay_1 : decode cX3_fieldOnWay 1 = .ok (.iload_n 1, 1) := by decide +kernel
theorem dX3_fieldOnWay_2 : decode cX3_fieldOnWay 2 = .ok (.iload_n 2, 1) := by decide +kernel
theorem dX3_fieldOnWay_3 : decode cX3_fieldOnWay 3 = .ok (.invokevirtual 54, 3) := by decide +kernel
theorem dX3_fieldOnWay_6 : decode cX3_fieldOnWay 6 = .ok (.istore 4, 2) := by decide +kernel
theorem dX3_fieldOnWay_8 : decode cX3_fieldOnWay 8 = .ok (.iload_n 3, 1) := by decide +kernel
theorem dX3_fieldOnWay_9 : decode cX3_fieldOnWay 9 = .ok (.iload 4, 2) := by decide +kernel
theorem dX3_fieldOnWay_11 : decode cX3_fieldOnWay 11 = .ok (.if_icmp .le 5, 3) := by decide +kernel
theorem dX3_fieldOnWay_14 : decode cX3_fieldOnWay 14 = .ok (.iconst (-1), 1) := by decide +kernel
theorem dX3_fieldOnWay_15 : decode cX3_fieldOnWay 15 = .ok (.ireturn, 1) := by decide +kernel
theorem dX3_fieldOnWay_16 : decode cX3_fieldOnWay 16 = .ok (.iload_n 2, 1) := by decide +kernel
theorem dX3_fieldOnWay_17 : decode cX3_fieldOnWay 17 = .ok (.istore 5, 2) := by decide +kernel
theorem dX3_fieldOnWay_19 : decode cX3_fieldOnWay 19 = .ok (.iconst 0, 1) := by decide +kernel
theorem dX3_fieldOnWay_20 : decode cX3_fieldOnWay 20 = .ok (.istore 6, 2) := by decide +kernel
theorem dX3_fieldOnWay_22 : decode cX3_fieldOnWay 22 = .ok (.iload 6, 2) := by decide +kernel
theorem dX3_fieldOnWay_24 : decode cX3_fieldOnWay 24 = .ok (.iload_n 3, 1) := by decide +kernel
theorem dX3_fieldOnWay_25 : decode cX3_fieldOnWay 25 = .ok (.if_icmp .ge 18, 3) := by decide +kernel
theorem dX3_fieldOnWay_28 : decode cX3_fieldOnWay 28 = .ok (.aload_n 0, 1) := by decide +kernel
theorem dX3_fieldOnWay_29 : decode cX3_fieldOnWay 29 = .ok (.iload_n 1, 1) := by decide +kernel
theorem dX3_fieldOnWay_30 : decode cX3_fieldOnWay 30 = .ok (.iload 5, 2) := by decide +kernel
theorem dX3_fieldOnWay_32 : decode cX3_fieldOnWay 32 = .ok (.invokevirtual 74, 3) := by decide +kernel
theorem dX3_fieldOnWay_35 : decode cX3_fieldOnWay 35 = .ok (.istore 5, 2) := by decide +kernel
theorem dX3_fieldOnWay_37 : decode cX3_fieldOnWay 37 = .ok (.iinc 6 1, 3) := by decide +kernel
theorem dX3_fieldOnWay_40 : decode cX3_fieldOnWay 40 = .ok (.goto (-18), 3) := by decide +kernel
theorem dX3_fieldOnWay_43 : decode cX3_fieldOnWay 43 = .ok (.iload 5, 2) := by decide +kernel
theorem dX3_fieldOnWay_45 : decode cX3_fieldOnWay 45 = .ok (.ireturn, 1) := by decide +kernel
theorem dX3_nearer_0 : decode cX3_nearer 0 = .ok (.aload_n 0, 1) := by decide +kernel
theorem dX3_nearer_1 : decode cX3_nearer 1 = .ok (.iload_n 1, 1) := by decide +kernel
theorem dX3_nearer_2 : decode cX3_nearer 2 = .ok (.iload_n 2, 1) := by decide +kernel
theorem dX3_nearer_3 : decode cX3_nearer 3 = .ok (.invokevirtual 54, 3) := by decide +kernel
theorem dX3_nearer_6 : decode cX3_nearer 6 = .ok (.iconst 1, 1) := by decide +kernel
theorem dX3_nearer_7 : decode cX3_nearer 7 = .ok (.isub, 1) := by decide +kernel
theorem dX3_nearer_8 : decode cX3_nearer 8 = .ok (.istore_n 3, 1) := by decide +kernel
theorem dX3_nearer_9 : decode cX3_nearer 9 = .ok (.iconst 0, 1) := by decide +kernel
theorem dX3_nearer_10 : decode cX3_nearer 10 = .ok (.istore 4, 2) := by decide +kernel
theorem dX3_nearer_12 : decode cX3_nearer 12 = .ok (.iload 4, 2) := by decide +kernel
theorem dX3_nearer_14 : decode cX3_nearer 14 = .ok (.iconst 4, 1) := by decide +kernel
theorem dX3_nearer_15 : decode cX3_nearer 15 = .ok (.if_icmp .ge 41, 3) := by decide +kernel
theorem dX3_nearer_18 : decode cX3_nearer 18 = .ok (.aload_n 0, 1) := by decide +kernel
theorem dX3_nearer_19 : decode cX3_nearer 19 = .ok (.getfield 24, 3) := by decide +kernel
theorem dX3_nearer_22 : decode cX3_nearer 22 = .ok (.iload_n 2, 1) := by decide +kernel
theorem dX3_nearer_23 : decode cX3_nearer 23 = .ok (.iload 4, 2) := by decide +kernel
theorem dX3_nearer_25 : decode cX3_nearer 25 = .ok (.invokevirtual 71, 3) := by decide +kernel
theorem dX3_nearer_28 : decode cX3_nearer 28 = .ok (.istore 5, 2) := by decide +kernel
theorem dX3_nearer_30 : decode cX3_nearer 30 = .ok (.iload 5, 2) := by decide +kernel
theorem dX3_nearer_32 : decode cX3_nearer 32 = .ok (.iconst (-1), 1) := by decide +kernel
theorem dX3_nearer_33 : decode cX3_nearer 33 = .ok (.if_icmp .eq 17, 3) := by decide +kernel
theorem dX3_nearer_36 : decode cX3_nearer 36 = .ok (.aload_n 0, 1) := by decide +kernel
theorem dX3_nearer_37 : decode cX3_nearer 37 = .ok (.iload_n 1, 1) := by decide +kernel
theorem dX3_nearer_38 : decode cX3_nearer 38 = .ok (.iload 5, 2) := by decide +kernel
theorem dX3_nearer_40 : decode cX3_nearer 40 = .ok (.invokevirtual 54, 3) := by decide +kernel
theorem dX3_nearer_43 : decode cX3_nearer 43 = .ok (.iload_n 3, 1) := by decide +kernel
theorem dX3_nearer_44 : decode cX3_nearer 44 = .ok (.if_icmp .ne 6, 3) := by decide +kernel
theorem dX3_nearer_47 : decode cX3_nearer 47 = .ok (.iload 5, 2) := by decide +kernel
theorem dX3_nearer_49 : decode cX3_nearer 49 = .ok (.ireturn, 1) := by decide +kernel
theorem dX3_nearer_50 : decode cX3_nearer 50 = .ok (.iinc 4 1, 3) := by decide +kernel
theorem dX3_nearer_53 : decode cX3_nearer 53 = .ok (.goto (-41), 3) := by decide +kernel
theorem dX3_nearer_56 : decode cX3_nearer 56 = .ok (.iconst (-1), 1) := by decide +kernel
theorem dX3_nearer_57 : decode cX3_nearer 57 = .ok (.ireturn, 1) := by decide +kernel
theorem dX4_init_0 : decode cX4_init 0 = .ok (.aload_n 0, 1) := by decide +kernel
theorem dX4_init_1 : decode cX4_init 1 = .ok (.invokespecial 3, 3) := by decide +kernel
theorem dX4_init_4 : decode cX4_init 4 = .ok (.return_, 1) := by decide +kernel
theorem dX4_come_0 : decode cX4_come 0 = .ok (.aload_n 0, 1) := by decide +kernel
theorem dX4_come_1 : decode cX4_come 1 = .ok (.iload_n 1, 1) := by decide +kernel
theorem dX4_come_2 : decode cX4_come 2 = .ok (.putfield 9, 3) := by decide +kernel
theorem dX4_come_5 : decode cX4_come 5 = .ok (.aload_n 0, 1) := by decide +kernel
theorem dX4_come_6 : decode cX4_come 6 = .ok (.iload_n 2, 1) := by decide +kernel
theorem dX4_come_7 : decode cX4_come 7 = .ok (.putfield 15, 3) := by decide +kernel
theorem dX4_come_10 : decode cX4_come 10 = .ok (.aload_n 0, 1) := by decide +kernel
theorem dX4_come_11 : decode cX4_come 11 = .ok (.iload_n 3, 1) := by decide +kernel
theorem dX4_come_12 : decode cX4_come 12 = .ok (.putfield 18, 3) := by decide +kernel
theorem dX4_come_15 : decode cX4_come 15 = .ok (.aload_n 0, 1) := by decide +kernel
theorem dX4_come_16 : decode cX4_come 16 = .ok (.iload 4, 2) := by decide +kernel
theorem dX4_come_18 : decode cX4_come 18 = .ok (.putfield 21, 3) := by decide +kernel
theorem dX4_come_21 : decode cX4_come 21 = .ok (.aload_n 0, 1) := by decide +kernel
theorem dX4_come_22 : decode cX4_come 22 = .ok (.iconst 4, 1) := by decide +kernel
theorem dX4_come_23 : decode cX4_come 23 = .ok (.putfield 24, 3) := by decide +kernel
theorem dX4_come_26 : decode cX4_come 26 = .ok (.aload_n 0, 1) := by decide +kernel
theorem dX4_come_27 : decode cX4_come 27 = .ok (.iconst 0, 1) := by decide +kernel
theorem dX4_come_28 : decode cX4_come 28 = .ok (.putfield 27, 3) := by decide +kernel
theorem dX4_come_31 : decode cX4_come 31 = .ok (.aload_n 0, 1) := by decide +kernel
theorem dX4_come_32 : decode cX4_come 32 = .ok (.iconst 0, 1) := by decide +kernel
theorem dX4_come_33 : decode cX4_come 33 = .ok (.putfield 30, 3) := by decide +kernel
theorem dX4_come_36 : decode cX4_come 36 = .ok (.aload_n 0, 1) := by decide +kernel
theorem dX4_come_37 : decode cX4_come 37 = .ok (.iconst (-1), 1) := by decide +kernel
theorem dX4_come_38 : decode cX4_come 38 = .ok (.putfield 33, 3) := by decide +kernel
theorem dX4_come_41 : decode cX4_come 41 = .ok (.return_, 1) := by decide +kernel
theorem dX4_copyFrom_0 : decode cX4_copyFrom 0 = .ok (.aload_n 0, 1) := by decide +kernel
theorem dX4_copyFrom_1 : decode cX4_copyFrom 1 = .ok (.aload_n 1, 1) := by decide +kernel
theorem dX4_copyFrom_2 : decode cX4_copyFrom 2 = .ok (.getfield 9, 3) := by decide +kernel
theorem dX4_copyFrom_5 : decode cX4_copyFrom 5 = .ok (.putfield 9, 3) := by decide +kernel
theorem dX4_copyFrom_8 : decode cX4_copyFrom 8 = .ok (.aload_n 0, 1) := by decide +kernel
theorem dX4_copyFrom_9 : decode cX4_copyFrom 9 = .ok (.aload_n 1, 1) := by decide +kernel
theorem dX4_copyFrom_10 : decode cX4_copyFrom 10 = .ok (.getfield 15, 3) := by decide +kernel
theorem dX4_copyFrom_13 : decode cX4_copyFrom 13 = .ok (.putfield 15, 3) := by decide +kernel
theorem dX4_copyFrom_16 : decode cX4_copyFrom 16 = .ok (.aload_n 0, 1) := by decide +kernel
theorem dX4_copyFrom_17 : decode cX4_copyFrom 17 = .ok (.aload_n 1, 1) := by decide +kernel
theorem dX4_copyFrom_18 : decode cX4_copyFrom 18 = .ok (.getfield 18, 3) := by decide +kernel
theorem dX4_copyFrom_21 : decode cX4_copyFrom 21 = .ok (.putfield 18, 3) := by decide +kernel
theorem dX4_copyFrom_24 : decode cX4_copyFrom 24 = .ok (.aload_n 0, 1) := by decide +kernel
theorem dX4_copyFrom_25 : decode cX4_copyFrom 25 = .ok (.aload_n 1, 1) := by decide +kernel
theorem dX4_copyFrom_26 : decode cX4_copyFrom 26 = .ok (.getfield 21, 3) := by decide +kernel
theorem dX4_copyFrom_29 : decode cX4_copyFrom 29 = .ok (.putfield 21, 3) := by decide +kernel
theorem dX4_copyFrom_32 : decode cX4_copyFrom 32 = .ok (.aload_n 0, 1) := by decide +kernel
theorem dX4_copyFrom_33 : decode cX4_copyFrom 33 = .ok (.aload_n 1, 1) := by decide +kernel
theorem dX4_copyFrom_34 : decode cX4_copyFrom 34 = .ok (.getfield 24, 3) := by decide +kernel
theorem dX4_copyFrom_37 : decode cX4_copyFrom 37 = .ok (.putfield 24, 3) := by decide +kernel
theorem dX4_copyFrom_40 : decode cX4_copyFrom 40 = .ok (.aload_n 0, 1) := by decide +kernel
theorem dX4_copyFrom_41 : decode cX4_copyFrom 41 = .ok (.aload_n 1, 1) := by decide +kernel
theorem dX4_copyFrom_42 : decode cX4_copyFrom 42 = .ok (.getfield 27, 3) := by decide +kernel
theorem dX4_copyFrom_45 : decode cX4_copyFrom 45 = .ok (.putfield 27, 3) := by decide +kernel
theorem dX4_copyFrom_48 : decode cX4_copyFrom 48 = .ok (.aload_n 0, 1) := by decide +kernel
theorem dX4_copyFrom_49 : decode cX4_copyFrom 49 = .ok (.aload_n 1, 1) := by decide +kernel
theorem dX4_copyFrom_50 : decode cX4_copyFrom 50 = .ok (.getfield 30, 3) := by decide +kernel
theorem dX4_copyFrom_53 : decode cX4_copyFrom 53 = .ok (.putfield 30, 3) := by decide +kernel
theorem dX4_copyFrom_56 : decode cX4_copyFrom 56 = .ok (.aload_n 0, 1) := by decide +kernel
theorem dX4_copyFrom_57 : decode cX4_copyFrom 57 = .ok (.aload_n 1, 1) := by decide +kernel
theorem dX4_copyFrom_58 : decode cX4_copyFrom 58 = .ok (.getfield 33, 3) := by decide +kernel
theorem dX4_copyFrom_61 : decode cX4_copyFrom 61 = .ok (.putfield 33, 3) := by decide +kernel
theorem dX4_copyFrom_64 : decode cX4_copyFrom 64 = .ok (.return_, 1) := by decide +kernel
theorem dX4_isOut_0 : decode cX4_isOut 0 = .ok (.aload_n 0, 1) := by decide +kernel
theorem dX4_isOut_1 : decode cX4_isOut 1 = .ok (.getfield 21, 3) := by decide +kernel
theorem dX4_isOut_4 : decode cX4_isOut 4 = .ok (.iconst (-1), 1) := by decide +kernel
theorem dX4_isOut_5 : decode cX4_isOut 5 = .ok (.if_icmp .ne 7, 3) := by decide +kernel
theorem dX4_isOut_8 : decode cX4_isOut 8 = .ok (.iconst 1, 1) := by decide +kernel
theorem dX4_isOut_9 : decode cX4_isOut 9 = .ok (.goto 4, 3) := by decide +kernel
theorem dX4_isOut_12 : decode cX4_isOut 12 = .ok (.iconst 0, 1) := by decide +kernel
theorem dX4_isOut_13 : decode cX4_isOut 13 = .ok (.ireturn, 1) := by decide +kernel
theorem dX4_isTurnAt_0 : decode cX4_isTurnAt 0 = .ok (.aload_n 0, 1) := by decide +kernel
theorem dX4_isTurnAt_1 : decode cX4_isTurnAt 1 = .ok (.invokevirtual 36, 3) := by decide +kernel
theorem dX4_isTurnAt_4 : decode cX4_isTurnAt 4 = .ok (.ifCond .ne 23, 3) := by decide +kernel
theorem dX4_isTurnAt_7 : decode cX4_isTurnAt 7 = .ok (.aload_n 0, 1) := by decide +kernel
theorem dX4_isTurnAt_8 : decode cX4_isTurnAt 8 = .ok (.getfield 15, 3) := by decide +kernel
theorem dX4_isTurnAt_11 : decode cX4_isTurnAt 11 = .ok (.ifCond .le 16, 3) := by decide +kernel
theorem dX4_isTurnAt_14 : decode cX4_isTurnAt 14 = .ok (.iload_n 1, 1) := by decide +kernel
theorem dX4_isTurnAt_15 : decode cX4_isTurnAt 15 = .ok (.aload_n 0, 1) := by decide +kernel
theorem dX4_isTurnAt_16 : decode cX4_isTurnAt 16 = .ok (.getfield 15, 3) := by decide +kernel
theorem dX4_isTurnAt_19 : decode cX4_isTurnAt 19 = .ok (.irem, 1) := by decide +kernel
theorem dX4_isTurnAt_20 : decode cX4_isTurnAt 20 = .ok (.ifCond .ne 7, 3) := by decide +kernel
theorem dX4_isTurnAt_23 : decode cX4_isTurnAt 23 = .ok (.iconst 1, 1) := by decide +kernel
theorem dX4_isTurnAt_24 : decode cX4_isTurnAt 24 = .ok (.goto 4, 3) := by decide +kernel
theorem dX4_isTurnAt_27 : decode cX4_isTurnAt 27 = .ok (.iconst 0, 1) := by decide +kernel
theorem dX4_isTurnAt_28 : decode cX4_isTurnAt 28 = .ok (.ireturn, 1) := by decide +kernel
theorem dX5_init_0 : decode cX5_init 0 = .ok (.aload_n 0, 1) := by decide +kernel
theorem dX5_init_1 : decode cX5_init 1 = .ok (.invokespecial 1, 3) := by decide +kernel
theorem dX5_init_4 : decode cX5_init 4 = .ok (.aload_n 0, 1) := by decide +kernel
theorem dX5_init_5 : decode cX5_init 5 = .ok (.new 7, 3) := by decide +kernel
theorem dX5_init_8 : decode cX5_init 8 = .ok (.dup, 1) := by decide +kernel
theorem dX5_init_9 : decode cX5_init 9 = .ok (.invokespecial 9, 3) := by decide +kernel
theorem dX5_init_12 : decode cX5_init 12 = .ok (.putfield 10, 3) := by decide +kernel
theorem dX5_init_15 : decode cX5_init 15 = .ok (.aload_n 0, 1) := by decide +kernel
theorem dX5_init_16 : decode cX5_init 16 = .ok (.new 16, 3) := by decide +kernel
theorem dX5_init_19 : decode cX5_init 19 = .ok (.dup, 1) := by decide +kernel
theorem dX5_init_20 : decode cX5_init 20 = .ok (.aload_n 0, 1) := by decide +kernel
theorem dX5_init_21 : decode cX5_init 21 = .ok (.getfield 10, 3) := by decide +kernel
theorem dX5_init_24 : decode cX5_init 24 = .ok (.invokespecial 18, 3) := by decide +kernel
theorem dX5_init_27 : decode cX5_init 27 = .ok (.putfield 21, 3) := by decide +kernel
theorem dX5_init_30 : decode cX5_init 30 = .ok (.aload_n 0, 1) := by decide +kernel
theorem dX5_init_31 : decode cX5_init 31 = .ok (.new 25, 3) := by decide +kernel
theorem dX5_init_34 : decode cX5_init 34 = .ok (.dup, 1) := by decide +kernel
theorem dX5_init_35 : decode cX5_init 35 = .ok (.aload_n 0, 1) := by decide +kernel
theorem dX5_init_36 : decode cX5_init 36 = .ok (.getfield 10, 3) := by decide +kernel
theorem dX5_init_39 : decode cX5_init 39 = .ok (.aload_n 0, 1) := by decide +kernel
theorem dX5_init_40 : decode cX5_init 40 = .ok (.getfield 21, 3) := by decide +kernel
theorem dX5_init_43 : decode cX5_init 43 = .ok (.invokespecial 27, 3) := by decide +kernel
theorem dX5_init_46 : decode cX5_init 46 = .ok (.putfield 30, 3) := by decide +kernel
theorem dX5_init_49 : decode cX5_init 49 = .ok (.aload_n 0, 1) := by decide +kernel
theorem dX5_init_50 : decode cX5_init 50 = .ok (.new 34, 3) := by decide +kernel
theorem dX5_init_53 : decode cX5_init 53 = .ok (.dup, 1) := by decide +kernel
theorem dX5_init_54 : decode cX5_init 54 = .ok (.invokespecial 36, 3) := by decide +kernel
theorem dX5_init_57 : decode cX5_init 57 = .ok (.putfield 37, 3) := by decide +kernel
theorem dX5_init_60 : decode cX5_init 60 = .ok (.aload_n 0, 1) := by decide +kernel
theorem dX5_init_61 : decode cX5_init 61 = .ok (.new 16, 3) := by decide +kernel
theorem dX5_init_64 : decode cX5_init 64 = .ok (.dup, 1) := by decide +kernel
theorem dX5_init_65 : decode cX5_init 65 = .ok (.aload_n 0, 1) := by decide +kernel
theorem dX5_init_66 : decode cX5_init 66 = .ok (.getfield 10, 3) := by decide +kernel
theorem dX5_init_69 : decode cX5_init 69 = .ok (.invokespecial 18, 3) := by decide +kernel
theorem dX5_init_72 : decode cX5_init 72 = .ok (.putfield 41, 3) := by decide +kernel
theorem dX5_init_75 : decode cX5_init 75 = .ok (.aload_n 0, 1) := by decide +kernel
theorem dX5_init_76 : decode cX5_init 76 = .ok (.new 25, 3) := by decide +kernel
theorem dX5_init_79 : decode cX5_init 79 = .ok (.dup, 1) := by decide +kernel
theorem dX5_init_80 : decode cX5_init 80 = .ok (.aload_n 0, 1) := by decide +kernel
theorem dX5_init_81 : decode cX5_init 81 = .ok (.getfield 10, 3) := by decide +kernel
theorem dX5_init_84 : decode cX5_init 84 = .ok (.aload_n 0, 1) := by decide +kernel
theorem dX5_init_85 : decode cX5_init 85 = .ok (.getfield 41, 3) := by decide +kernel
theorem dX5_init_88 : decode cX5_init 88 = .ok (.invokespecial 27, 3) := by decide +kernel
theorem dX5_init_91 : decode cX5_init 91 = .ok (.putfield 44, 3) := by decide +kernel
theorem dX5_init_94 : decode cX5_init 94 = .ok (.aload_n 0, 1) := by decide +kernel
theorem dX5_init_95 : decode cX5_init 95 = .ok (.bipush 10, 2) := by decide +kernel
theorem dX5_init_97 : decode cX5_init 97 = .ok (.bipush 8, 2) := by decide +kernel
theorem dX5_init_99 : decode cX5_init 99 = .ok (.invokevirtual 47, 3) := by decide +kernel
theorem dX5_init_102 : decode cX5_init 102 = .ok (.return_, 1) := by decide +kernel
theorem dX5_reset_0 : decode cX5_reset 0 = .ok (.iload_n 1, 1) := by decide +kernel
theorem dX5_reset_1 : decode cX5_reset 1 = .ok (.iconst 2, 1) := by decide +kernel
theorem dX5_reset_2 : decode cX5_reset 2 = .ok (.if_icmp .lt 20, 3) := by decide +kernel
theorem dX5_reset_5 : decode cX5_reset 5 = .ok (.iload_n 1, 1) := by decide +kernel
theorem dX5_reset_6 : decode cX5_reset 6 = .ok (.bipush 14, 2) := by decide +kernel
theorem dX5_reset_8 : decode cX5_reset 8 = .ok (.if_icmp .gt 14, 3) := by decide +kernel
theorem dX5_reset_11 : decode cX5_reset 11 = .ok (.iload_n 2, 1) := by decide +kernel
theorem dX5_reset_12 : decode cX5_reset 12 = .ok (.iconst 2, 1) := by decide +kernel
theorem dX5_reset_13 : decode cX5_reset 13 = .ok (.if_icmp .lt 9, 3) := by decide +kernel
theorem dX5_reset_16 : decode cX5_reset 16 = .ok (.iload_n 2, 1) := by decide +kernel
theorem dX5_reset_17 : decode cX5_reset 17 = .ok (.bipush 14, 2) := by decide +kernel
theorem dX5_reset_19 : decode cX5_reset 19 = .ok (.if_icmp .le 13, 3) := by decide +kernel
theorem dX5_reset_22 : decode cX5_reset 22 = .ok (.new 51, 3) := by decide +kernel
theorem dX5_reset_25 : decode cX5_reset 25 = .ok (.dup, 1) := by decide +kernel
theorem dX5_reset_26 : decode cX5_reset 26 = .ok (.ldc 53, 2) := by decide +kernel
theorem dX5_reset_28 : decode cX5_reset 28 = .ok (.invokespecial 55, 3) := by decide +kernel
theorem dX5_reset_31 : decode cX5_reset 31 = .ok (.athrow, 1) := by decide +kernel
theorem dX5_reset_32 : decode cX5_reset 32 = .ok (.aload_n 0, 1) := by decide +kernel
theorem dX5_reset_33 : decode cX5_reset 33 = .ok (.iload_n 1, 1) := by decide +kernel
theorem dX5_reset_34 : decode cX5_reset 34 = .ok (.iload_n 2, 1) := by decide +kernel
theorem dX5_reset_35 : decode cX5_reset 35 = .ok (.invokevirtual 47, 3) := by decide +kernel
theorem dX5_reset_38 : decode cX5_reset 38 = .ok (.aload_n 0, 1) := by decide +kernel
theorem dX5_reset_39 : decode cX5_reset 39 = .ok (.getfield 10, 3) := by decide +kernel
theorem dX5_reset_42 : decode cX5_reset 42 = .ok (.getfield 58, 3) := by decide +kernel
theorem dX5_reset_45 : decode cX5_reset 45 = .ok (.ireturn, 1) := by decide +kernel
theorem dX5_wall_0 : decode cX5_wall 0 = .ok (.aload_n 0, 1) := by decide +kernel
theorem dX5_wall_1 : decode cX5_wall 1 = .ok (.getfield 10, 3) := by decide +kernel
theorem dX5_wall_4 : decode cX5_wall 4 = .ok (.iload_n 1, 1) := by decide +kernel
theorem dX5_wall_5 : decode cX5_wall 5 = .ok (.iload_n 2, 1) := by decide +kernel
theorem dX5_wall_6 : decode cX5_wall 6 = .ok (.invokevirtual 62, 3) := by decide +kernel
theorem dX5_wall_9 : decode cX5_wall 9 = .ok (.iconst (-1), 1) := by decide +kernel
theorem dX5_wall_10 : decode cX5_wall 10 = .ok (.if_icmp .eq 17, 3) := by decide +kernel
theorem dX5_wall_13 : decode cX5_wall 13 = .ok (.aload_n 0, 1) := by decide +kernel
theorem dX5_wall_14 : decode cX5_wall 14 = .ok (.getfield 10, 3) := by decide +kernel
theorem dX5_wall_17 : decode cX5_wall 17 = .ok (.iload_n 3, 1) := by decide +kernel
theorem dX5_wall_18 : decode cX5_wall 18 = .ok (.iload 4, 2) := by decide +kernel
theorem dX5_wall_20 : decode cX5_wall 20 = .ok (.invokevirtual 62, 3) := by decide +kernel
theorem dX5_wall_23 : decode cX5_wall 23 = .ok (.iconst (-1), 1) := by decide +kernel
theorem dX5_wall_24 : decode cX5_wall 24 = .ok (.if_icmp .ne 13, 3) := by decide +kernel
theorem dX5_wall_27 : decode cX5_wall 27 = .ok (.new 66, 3) := by decide +kernel
theorem dX5_wall_30 : decode cX5_wall 30 = .ok (.dup, 1) := by decide +kernel
theorem dX5_wall_31 : decode cX5_wall 31 = .ok (.ldc 68, 2) := by decide +kernel
theorem dX5_wall_33 : decode cX5_wall 33 = .ok (.invokespecial 70, 3) := by decide +kernel
theorem dX5_wall_36 : decode cX5_wall 36 = .ok (.athrow, 1) := by decide +kernel
theorem dX5_wall_37 : decode cX5_wall 37 = .ok (.iload_n 1, 1) := by decide +kernel
theorem dX5_wall_38 : decode cX5_wall 38 = .ok (.iload_n 3, 1) := by decide +kernel
theorem dX5_wall_39 : decode cX5_wall 39 = .ok (.invokestatic 71, 3) := by decide +kernel
theorem dX5_wall_42 : decode cX5_wall 42 = .ok (.istore 6, 2) := by decide +kernel
theorem dX5_wall_44 : decode cX5_wall 44 = .ok (.iload_n 1, 1) := by decide +kernel
theorem dX5_wall_45 : decode cX5_wall 45 = .ok (.iload_n 3, 1) := by decide +kernel
theorem dX5_wall_46 : decode cX5_wall 46 = .ok (.invokestatic 76, 3) := by decide +kernel
theorem dX5_wall_49 : decode cX5_wall 49 = .ok (.istore 7, 2) := by decide +kernel
theorem dX5_wall_51 : decode cX5_wall 51 = .ok (.iload_n 2, 1) := by decide +kernel
theorem dX5_wall_52 : decode cX5_wall 52 = .ok (.iload 4, 2) := by decide +kernel
theorem dX5_wall_54 : decode cX5_wall 54 = .ok (.invokestatic 71, 3) := by decide +kernel
theorem dX5_wall_57 : decode cX5_wall 57 = .ok (.istore 8, 2) := by decide +kernel
theorem dX5_wall_59 : decode cX5_wall 59 = .ok (.iload_n 2, 1) := by decide +kernel
theorem dX5_wall_60 : decode cX5_wall 60 = .ok (.iload 4, 2) := by decide +kernel
theorem dX5_wall_62 : decode cX5_wall 62 = .ok (.invokestatic 76, 3) := by decide +kernel
theorem dX5_wall_65 : decode cX5_wall 65 = .ok (.istore 9, 2) := by decide +kernel
theorem dX5_wall_67 : decode cX5_wall 67 = .ok (.iload 5, 2) := by decide +kernel
theorem dX5_wall_69 : decode cX5_wall 69 = .ok (.ifCond .eq 31, 3) := by decide +kernel
theorem dX5_wall_72 : decode cX5_wall 72 = .ok (.aload_n 0, 1) := by decide +kernel
theorem dX5_wall_73 : decode cX5_wall 73 = .ok (.getfield 30, 3) := by decide +kernel
theorem dX5_wall_76 : decode cX5_wall 76 = .ok (.iload 6, 2) := by decide +kernel
theorem dX5_wall_78 : decode cX5_wall 78 = .ok (.iload 8, 2) := by decide +kernel
theorem dX5_wall_80 : decode cX5_wall 80 = .ok (.iload 7, 2) := by decide +kernel
theorem dX5_wall_82 : decode cX5_wall 82 = .ok (.iload 9, 2) := by decide +kernel
theorem dX5_wall_84 : decode cX5_wall 84 = .ok (.invokevirtual 79, 3) := by decide +kernel
theorem dX5_wall_87 : decode cX5_wall 87 = .ok (.ifCond .eq 13, 3) := by decide +kernel
theorem dX5_wall_90 : decode cX5_wall 90 = .ok (.new 83, 3) := by decide +kernel
theorem dX5_wall_93 : decode cX5_wall 93 = .ok (.dup, 1) := by decide +kernel
theorem dX5_wall_94 : decode cX5_wall 94 = .ok (.ldc 85, 2) := by decide +kernel
theorem dX5_wall_96 : decode cX5_wall 96 = .ok (.invokespecial 87, 3) := by decide +kernel
theorem dX5_wall_99 : decode cX5_wall 99 = .ok (.athrow, 1) := by decide +kernel
theorem dX5_wall_100 : decode cX5_wall 100 = .ok (.iload 8, 2) := by decide +kernel
theorem dX5_wall_102 : decode cX5_wall 102 = .ok (.istore 10, 2) := by decide +kernel
theorem dX5_wall_104 : decode cX5_wall 104 = .ok (.iload 10, 2) := by decide +kernel
theorem dX5_wall_106 : decode cX5_wall 106 = .ok (.iload 9, 2) := by decide +kernel
theorem dX5_wall_108 : decode cX5_wall 108 = .ok (.if_icmp .gt 46, 3) := by decide +kernel
theorem dX5_wall_111 : decode cX5_wall 111 = .ok (.iload 6, 2) := by decide +kernel
theorem dX5_wall_113 : decode cX5_wall 113 = .ok (.istore 11, 2) := by decide +kernel
theorem dX5_wall_115 : decode cX5_wall 115 = .ok (.iload 11, 2) := by decide +kernel
theorem dX5_wall_117 : decode cX5_wall 117 = .ok (.iload 7, 2) := by decide +kernel
theorem dX5_wall_119 : decode cX5_wall 119 = .ok (.if_icmp .gt 29, 3) := by decide +kernel
theorem dX5_wall_122 : decode cX5_wall 122 = .ok (.aload_n 0, 1) := by decide +kernel
theorem dX5_wall_123 : decode cX5_wall 123 = .ok (.getfield 21, 3) := by decide +kernel
theorem dX5_wall_126 : decode cX5_wall 126 = .ok (.aload_n 0, 1) := by decide +kernel
theorem dX5_wall_127 : decode cX5_wall 127 = .ok (.getfield 10, 3) := by decide +kernel
theorem dX5_wall_130 : decode cX5_wall 130 = .ok (.iload 11, 2) := by decide +kernel
theorem dX5_wall_132 : decode cX5_wall 132 = .ok (.iload 10, 2) := by decide +kernel
theorem dX5_wall_134 : decode cX5_wall 134 = .ok (.invokevirtual 62, 3) := by decide +kernel
theorem dX5_wall_137 : decode cX5_wall 137 = .ok (.iload 5, 2) := by decide +kernel
theorem dX5_wall_139 : decode cX5_wall 139 = .ok (.invokevirtual 88, 3) := by decide +kernel
theorem dX5_wall_142 : decode cX5_wall 142 = .ok (.iinc 11 1, 3) := by decide +kernel
theorem dX5_wall_145 : decode cX5_wall 145 = .ok (.goto (-30), 3) := by decide +kernel
theorem dX5_wall_148 : decode cX5_wall 148 = .ok (.iinc 10 1, 3) := by decide +kernel
theorem dX5_wall_151 : decode cX5_wall 151 = .ok (.goto (-47), 3) := by decide +kernel
theorem dX5_wall_154 : decode cX5_wall 154 = .ok (.aload_n 0, 1) := by decide +kernel
theorem dX5_wall_155 : decode cX5_wall 155 = .ok (.getfield 21, 3) := by decide +kernel
theorem dX5_wall_158 : decode cX5_wall 158 = .ok (.invokevirtual 92, 3) := by decide +kernel
theorem dX5_wall_161 : decode cX5_wall 161 = .ok (.aload_n 0, 1) := by decide +kernel
theorem dX5_wall_162 : decode cX5_wall 162 = .ok (.getfield 21, 3) := by decide +kernel
theorem dX5_wall_165 : decode cX5_wall 165 = .ok (.invokevirtual 95, 3) := by decide +kernel
theorem dX5_wall_168 : decode cX5_wall 168 = .ok (.ireturn, 1) := by decide +kernel
theorem dX5_mark_0 : decode cX5_mark 0 = .ok (.aload_n 0, 1) := by decide +kernel
theorem dX5_mark_1 : decode cX5_mark 1 = .ok (.getfield 10, 3) := by decide +kernel
theorem dX5_mark_4 : decode cX5_mark 4 = .ok (.iload_n 2, 1) := by decide +kernel
theorem dX5_mark_5 : decode cX5_mark 5 = .ok (.iload_n 3, 1) := by decide +kernel
theorem dX5_mark_6 : decode cX5_mark 6 = .ok (.invokevirtual 62, 3) := by decide +kernel
theorem dX5_mark_9 : decode cX5_mark 9 = .ok (.istore 4, 2) := by decide +kernel
theorem dX5_mark_11 : decode cX5_mark 11 = .ok (.iload_n 1, 1) := by decide +kernel
theorem dX5_mark_12 : decode cX5_mark 12 = .ok (.invokestatic 99, 3) := by decide +kernel
theorem dX5_mark_15 : decode cX5_mark 15 = .ok (.ifCond .eq 9, 3) := by decide +kernel
theorem dX5_mark_18 : decode cX5_mark 18 = .ok (.iload 4, 2) := by decide +kernel
theorem dX5_mark_20 : decode cX5_mark 20 = .ok (.iconst (-1), 1) := by decide +kernel
theorem dX5_mark_21 : decode cX5_mark 21 = .ok (.if_icmp .ne 13, 3) := by decide +kernel
theorem dX5_mark_24 : decode cX5_mark 24 = .ok (.new 66, 3) := by decide +kernel
theorem dX5_mark_27 : decode cX5_mark 27 = .ok (.dup, 1) := by decide +kernel
theorem dX5_mark_28 : decode cX5_mark 28 = .ok (.ldc 103, 2) := by decide +kernel
theorem dX5_mark_30 : decode cX5_mark 30 = .ok (.invokespecial 70, 3) := by decide +kernel
theorem dX5_mark_33 : decode cX5_mark 33 = .ok (.athrow, 1) := by decide +kernel
theorem dX5_mark_34 : decode cX5_mark 34 = .ok (.aload_n 0, 1) := by decide +kernel
theorem dX5_mark_35 : decode cX5_mark 35 = .ok (.getfield 30, 3) := by decide +kernel
theorem dX5_mark_38 : decode cX5_mark 38 = .ok (.aload_n 0, 1) := by decide +kernel
theorem dX5_mark_39 : decode cX5_mark 39 = .ok (.getfield 30, 3) := by decide +kernel
theorem dX5_mark_42 : decode cX5_mark 42 = .ok (.iload 4, 2) := by decide +kernel
theorem dX5_mark_44 : decode cX5_mark 44 = .ok (.invokevirtual 105, 3) := by decide +kernel
theorem dX5_mark_47 : decode cX5_mark 47 = .ok (.invokevirtual 109, 3) := by decide +kernel
theorem dX5_mark_50 : decode cX5_mark 50 = .ok (.astore 5, 2) := by decide +kernel
theorem dX5_mark_52 : decode cX5_mark 52 = .ok (.aload 5, 2) := by decide +kernel
theorem dX5_mark_54 : decode cX5_mark 54 = .ok (.ifnull 22, 3) := by decide +kernel
theorem dX5_mark_57 : decode cX5_mark 57 = .ok (.aload 5, 2) := by decide +kernel
theorem dX5_mark_59 : decode cX5_mark 59 = .ok (.getfield 113, 3) := by decide +kernel
theorem dX5_mark_62 : decode cX5_mark 62 = .ok (.iload_n 1, 1) := by decide +kernel
theorem dX5_mark_63 : decode cX5_mark 63 = .ok (.if_icmp .ne 13, 3) := by decide +kernel
theorem dX5_mark_66 : decode cX5_mark 66 = .ok (.new 83, 3) := by decide +kernel
theorem dX5_mark_69 : decode cX5_mark 69 = .ok (.dup, 1) := by decide +kernel
theorem dX5_mark_70 : decode cX5_mark 70 = .ok (.ldc 118, 2) := by decide +kernel
theorem dX5_mark_72 : decode cX5_mark 72 = .ok (.invokespecial 87, 3) := by decide +kernel
theorem dX5_mark_75 : decode cX5_mark 75 = .ok (.athrow, 1) := by decide +kernel
theorem dX5_mark_76 : decode cX5_mark 76 = .ok (.aload_n 0, 1) := by decide +kernel
theorem dX5_mark_77 : decode cX5_mark 77 = .ok (.getfield 21, 3) := by decide +kernel
theorem dX5_mark_80 : decode cX5_mark 80 = .ok (.iload_n 1, 1) := by decide +kernel
theorem dX5_mark_81 : decode cX5_mark 81 = .ok (.iload 4, 2) := by decide +kernel
theorem dX5_mark_83 : decode cX5_mark 83 = .ok (.invokevirtual 120, 3) := by decide +kernel
theorem dX5_mark_86 : decode cX5_mark 86 = .ok (.aload_n 0, 1) := by decide +kernel
theorem dX5_mark_87 : decode cX5_mark 87 = .ok (.getfield 21, 3) := by decide +kernel
theorem dX5_mark_90 : decode cX5_mark 90 = .ok (.iload_n 1, 1) := by decide +kernel
theorem dX5_mark_91 : decode cX5_mark 91 = .ok (.invokevirtual 123, 3) := by decide +kernel
theorem dX5_mark_94 : decode cX5_mark 94 = .ok (.aload_n 0, 1) := by decide +kernel
theorem dX5_mark_95 : decode cX5_mark 95 = .ok (.getfield 21, 3) := by decide +kernel
theorem dX5_mark_98 : decode cX5_mark 98 = .ok (.iload_n 1, 1) := by decide +kernel
theorem dX5_mark_99 : decode cX5_mark 99 = .ok (.invokevirtual 127, 3) := by decide +kernel
theorem dX5_mark_102 : decode cX5_mark 102 = .ok (.ireturn, 1) := by decide +kernel
theorem dX5_set_0 : decode cX5_set 0 = .ok (.iload_n 1, 1) := by decide +kernel
theorem dX5_set_1 : decode cX5_set 1 = .ok (.ifCond .lt 20, 3) := by decide +kernel
theorem dX5_set_4 : decode cX5_set 4 = .ok (.iload_n 1, 1) := by decide +kernel
theorem dX5_set_5 : decode cX5_set 5 = .ok (.bipush 9, 2) := by decide +kernel
theorem dX5_set_7 : decode cX5_set 7 = .ok (.if_icmp .gt 14, 3) := by decide +kernel
theorem dX5_set_10 : decode cX5_set 10 = .ok (.iload_n 2, 1) := by decide +kernel
theorem dX5_set_11 : decode cX5_set 11 = .ok (.iconst 1, 1) := by decide +kernel
theorem dX5_set_12 : decode cX5_set 12 = .ok (.if_icmp .lt 9, 3) := by decide +kernel
theorem dX5_set_15 : decode cX5_set 15 = .ok (.iload_n 2, 1) := by decide +kernel
theorem dX5_set_16 : decode cX5_set 16 = .ok (.bipush 20, 2) := by decide +kernel
theorem dX5_set_18 : decode cX5_set 18 = .ok (.if_icmp .le 13, 3) := by decide +kernel
theorem dX5_set_21 : decode cX5_set 21 = .ok (.new 51, 3) := by decide +kernel
theorem dX5_set_24 : decode cX5_set 24 = .ok (.dup, 1) := by decide +kernel
theorem dX5_set_25 : decode cX5_set 25 = .ok (.ldc 130, 2) := by decide +kernel
theorem dX5_set_27 : decode cX5_set 27 = .ok (.invokespecial 55, 3) := by decide +kernel
theorem dX5_set_30 : decode cX5_set 30 = .ok (.athrow, 1) := by decide +kernel
theorem dX5_set_31 : decode cX5_set 31 = .ok (.aload_n 0, 1) := by decide +kernel
theorem dX5_set_32 : decode cX5_set 32 = .ok (.getfield 30, 3) := by decide +kernel
theorem dX5_set_35 : decode cX5_set 35 = .ok (.getfield 132, 3) := by decide +kernel
theorem dX5_set_38 : decode cX5_set 38 = .ok (.istore_n 3, 1) := by decide +kernel
theorem dX5_set_39 : decode cX5_set 39 = .ok (.aload_n 0, 1) := by decide +kernel
theorem dX5_set_40 : decode cX5_set 40 = .ok (.getfield 30, 3) := by decide +kernel
theorem dX5_set_43 : decode cX5_set 43 = .ok (.iload_n 1, 1) := by decide +kernel
theorem dX5_set_44 : decode cX5_set 44 = .ok (.putfield 132, 3) := by decide +kernel
theorem dX5_set_47 : decode cX5_set 47 = .ok (.aload_n 0, 1) := by decide +kernel
theorem dX5_set_48 : decode cX5_set 48 = .ok (.getfield 30, 3) := by decide +kernel
theorem dX5_set_51 : decode cX5_set 51 = .ok (.iload_n 2, 1) := by decide +kernel
theorem dX5_set_52 : decode cX5_set 52 = .ok (.putfield 135, 3) := by decide +kernel
theorem dX5_set_55 : decode cX5_set 55 = .ok (.iload_n 3, 1) := by decide +kernel
theorem dX5_set_56 : decode cX5_set 56 = .ok (.ireturn, 1) := by decide +kernel
theorem dX5_field_0 : decode cX5_field 0 = .ok (.aload_n 0, 1) := by decide +kernel
theorem dX5_field_1 : decode cX5_field 1 = .ok (.getfield 10, 3) := by decide +kernel
theorem dX5_field_4 : decode cX5_field 4 = .ok (.iload_n 1, 1) := by decide +kernel
theorem dX5_field_5 : decode cX5_field 5 = .ok (.iload_n 2, 1) := by decide +kernel
theorem dX5_field_6 : decode cX5_field 6 = .ok (.invokevirtual 62, 3) := by decide +kernel
theorem dX5_field_9 : decode cX5_field 9 = .ok (.istore 4, 2) := by decide +kernel
theorem dX5_field_11 : decode cX5_field 11 = .ok (.iload 4, 2) := by decide +kernel
theorem dX5_field_13 : decode cX5_field 13 = .ok (.iconst (-1), 1) := by decide +kernel
theorem dX5_field_14 : decode cX5_field 14 = .ok (.if_icmp .ne 13, 3) := by decide +kernel
theorem dX5_field_17 : decode cX5_field 17 = .ok (.new 66, 3) := by decide +kernel
theorem dX5_field_20 : decode cX5_field 20 = .ok (.dup, 1) := by decide +kernel
theorem dX5_field_21 : decode cX5_field 21 = .ok (.ldc 68, 2) := by decide +kernel
theorem dX5_field_23 : decode cX5_field 23 = .ok (.invokespecial 70, 3) := by decide +kernel
theorem dX5_field_26 : decode cX5_field 26 = .ok (.athrow, 1) := by decide +kernel
theorem dX5_field_27 : decode cX5_field 27 = .ok (.iload_n 3, 1) := by decide +kernel
theorem dX5_field_28 : decode cX5_field 28 = .ok (.ifCond .lt 8, 3) := by decide +kernel
theorem dX5_field_31 : decode cX5_field 31 = .ok (.iload_n 3, 1) := by decide +kernel
theorem dX5_field_32 : decode cX5_field 32 = .ok (.iconst 3, 1) := by decide +kernel
theorem dX5_field_33 : decode cX5_field 33 = .ok (.if_icmp .le 13, 3) := by decide +kernel
theorem dX5_field_36 : decode cX5_field 36 = .ok (.new 51, 3) := by decide +kernel
theorem dX5_field_39 : decode cX5_field 39 = .ok (.dup, 1) := by decide +kernel
theorem dX5_field_40 : decode cX5_field 40 = .ok (.ldc 138, 2) := by decide +kernel
theorem dX5_field_42 : decode cX5_field 42 = .ok (.invokespecial 55, 3) := by decide +kernel
theorem dX5_field_45 : decode cX5_field 45 = .ok (.athrow, 1) := by decide +kernel
theorem dX5_field_46 : decode cX5_field 46 = .ok (.aload_n 0, 1) := by decide +kernel
theorem dX5_field_47 : decode cX5_field 47 = .ok (.iload 4, 2) := by decide +kernel
theorem dX5_field_49 : decode cX5_field 49 = .ok (.iload_n 3, 1) := by decide +kernel
theorem dX5_field_50 : decode cX5_field 50 = .ok (.invokevirtual 140, 3) := by decide +kernel
theorem dX5_field_53 : decode cX5_field 53 = .ok (.ireturn, 1) := by decide +kernel
theorem dX5_far_0 : decode cX5_far 0 = .ok (.aload_n 0, 1) := by decide +kernel
theorem dX5_far_1 : decode cX5_far 1 = .ok (.getfield 10, 3) := by decide +kernel
theorem dX5_far_4 : decode cX5_far 4 = .ok (.iload_n 2, 1) := by decide +kernel
theorem dX5_far_5 : decode cX5_far 5 = .ok (.iload_n 3, 1) := by decide +kernel
theorem dX5_far_6 : decode cX5_far 6 = .ok (.invokevirtual 62, 3) := by decide +kernel
theorem dX5_far_9 : decode cX5_far 9 = .ok (.istore 4, 2) := by decide +kernel
theorem dX5_far_11 : decode cX5_far 11 = .ok (.iload_n 1, 1) := by decide +kernel
theorem dX5_far_12 : decode cX5_far 12 = .ok (.invokestatic 99, 3) := by decide +kernel
theorem dX5_far_15 : decode cX5_far 15 = .ok (.ifCond .eq 9, 3) := by decide +kernel
theorem dX5_far_18 : decode cX5_far 18 = .ok (.iload 4, 2) := by decide +kernel
theorem dX5_far_20 : decode cX5_far 20 = .ok (.iconst (-1), 1) := by decide +kernel
theorem dX5_far_21 : decode cX5_far 21 = .ok (.if_icmp .ne 13, 3) := by decide +kernel
theorem dX5_far_24 : decode cX5_far 24 = .ok (.new 66, 3) := by decide +kernel
theorem dX5_far_27 : decode cX5_far 27 = .ok (.dup, 1) := by decide +kernel
theorem dX5_far_28 : decode cX5_far 28 = .ok (.ldc 103, 2) := by decide +kernel
theorem dX5_far_30 : decode cX5_far 30 = .ok (.invokespecial 70, 3) := by decide +kernel
theorem dX5_far_33 : decode cX5_far 33 = .ok (.athrow, 1) := by decide +kernel
theorem dX5_far_34 : decode cX5_far 34 = .ok (.aload_n 0, 1) := by decide +kernel
theorem dX5_far_35 : decode cX5_far 35 = .ok (.getfield 21, 3) := by decide +kernel
theorem dX5_far_38 : decode cX5_far 38 = .ok (.iload_n 1, 1) := by decide +kernel
theorem dX5_far_39 : decode cX5_far 39 = .ok (.iload 4, 2) := by decide +kernel
theorem dX5_far_41 : decode cX5_far 41 = .ok (.invokevirtual 143, 3) := by decide +kernel
theorem dX5_far_44 : decode cX5_far 44 = .ok (.ireturn, 1) := by decide +kernel
theorem dX5_farthest_0 : decode cX5_farthest 0 = .ok (.iload_n 1, 1) := by decide +kernel
theorem dX5_farthest_1 : decode cX5_farthest 1 = .ok (.invokestatic 99, 3) := by decide +kernel
theorem dX5_farthest_4 : decode cX5_farthest 4 = .ok (.ifCond .ne 13, 3) := by decide +kernel
theorem dX5_farthest_7 : decode cX5_farthest 7 = .ok (.new 66, 3) := by decide +kernel
theorem dX5_farthest_10 : decode cX5_farthest 10 = .ok (.dup, 1) := by decide +kernel
theorem dX5_farthest_11 : decode cX5_farthest 11 = .ok (.ldc 146, 2) := by decide +kernel
theorem dX5_farthest_13 : decode cX5_farthest 13 = .ok (.invokespecial 70, 3) := by decide +kernel
theorem dX5_farthest_16 : decode cX5_farthest 16 = .ok (.athrow, 1) := by decide +kernel
theorem dX5_farthest_17 : decode cX5_farthest 17 = .ok (.aload_n 0, 1) := by decide +kernel
theorem dX5_farthest_18 : decode cX5_farthest 18 = .ok (.getfield 21, 3) := by decide +kernel
theorem dX5_farthest_21 : decode cX5_farthest 21 = .ok (.iload_n 1, 1) := by decide +kernel
theorem dX5_farthest_22 : decode cX5_farthest 22 = .ok (.invokevirtual 148, 3) := by decide +kernel
theorem dX5_farthest_25 : decode cX5_farthest 25 = .ok (.ireturn, 1) := by decide +kernel
theorem dX5_walker_0 : decode cX5_walker 0 = .ok (.aload_n 0, 1) := by decide +kernel
theorem dX5_walker_1 : decode cX5_walker 1 = .ok (.getfield 10, 3) := by decide +kernel
theorem dX5_walker_4 : decode cX5_walker 4 = .ok (.iload 4, 2) := by decide +kernel
theorem dX5_walker_6 : decode cX5_walker 6 = .ok (.iload 5, 2) := by decide +kernel
theorem dX5_walker_8 : decode cX5_walker 8 = .ok (.invokevirtual 62, 3) := by decide +kernel
theorem dX5_walker_11 : decode cX5_walker 11 = .ok (.istore 6, 2) := by decide +kernel
theorem dX5_walker_13 : decode cX5_walker 13 = .ok (.iload_n 1, 1) := by decide +kernel
theorem dX5_walker_14 : decode cX5_walker 14 = .ok (.invokestatic 99, 3) := by decide +kernel
theorem dX5_walker_17 : decode cX5_walker 17 = .ok (.ifCond .eq 9, 3) := by decide +kernel
theorem dX5_walker_20 : decode cX5_walker 20 = .ok (.iload 6, 2) := by decide +kernel
theorem dX5_walker_22 : decode cX5_walker 22 = .ok (.iconst (-1), 1) := by decide +kernel
theorem dX5_walker_23 : decode cX5_walker 23 = .ok (.if_icmp .ne 13, 3) := by decide +kernel
theorem dX5_walker_26 : decode cX5_walker 26 = .ok (.new 66, 3) := by decide +kernel
theorem dX5_walker_29 : decode cX5_walker 29 = .ok (.dup, 1) := by decide +kernel
theorem dX5_walker_30 : decode cX5_walker 30 = .ok (.ldc 103, 2) := by decide +kernel
theorem dX5_walker_32 : decode cX5_walker 32 = .ok (.invokespecial 70, 3) := by decide +kernel
theorem dX5_walker_35 : decode cX5_walker 35 = .ok (.athrow, 1) := by decide +kernel
theorem dX5_walker_36 : decode cX5_walker 36 = .ok (.iload_n 2, 1) := by decide +kernel
theorem dX5_walker_37 : decode cX5_walker 37 = .ok (.iconst 1, 1) := by decide +kernel
theorem dX5_walker_38 : decode cX5_walker 38 = .ok (.if_icmp .lt 15, 3) := by decide +kernel
theorem dX5_walker_41 : decode cX5_walker 41 = .ok (.iload_n 2, 1) := by decide +kernel
theorem dX5_walker_42 : decode cX5_walker 42 = .ok (.iconst 3, 1) := by decide +kernel
theorem dX5_walker_43 : decode cX5_walker 43 = .ok (.if_icmp .gt 10, 3) := by decide +kernel
theorem dX5_walker_46 : decode cX5_walker 46 = .ok (.iload_n 3, 1) := by decide +kernel
theorem dX5_walker_47 : decode cX5_walker 47 = .ok (.invokestatic 151, 3) := by decide +kernel
theorem dX5_walker_50 : decode cX5_walker 50 = .ok (.ifCond .ne 13, 3) := by decide +kernel
theorem dX5_walker_53 : decode cX5_walker 53 = .ok (.new 51, 3) := by decide +kernel
theorem dX5_walker_56 : decode cX5_walker 56 = .ok (.dup, 1) := by decide +kernel
theorem dX5_walker_57 : decode cX5_walker 57 = .ok (.ldc 154, 2) := by decide +kernel
theorem dX5_walker_59 : decode cX5_walker 59 = .ok (.invokespecial 55, 3) := by decide +kernel
theorem dX5_walker_62 : decode cX5_walker 62 = .ok (.athrow, 1) := by decide +kernel
theorem dX5_walker_63 : decode cX5_walker 63 = .ok (.aload_n 0, 1) := by decide +kernel
theorem dX5_walker_64 : decode cX5_walker 64 = .ok (.getfield 21, 3) := by decide +kernel
theorem dX5_walker_67 : decode cX5_walker 67 = .ok (.iload 6, 2) := by decide +kernel
theorem dX5_walker_69 : decode cX5_walker 69 = .ok (.invokevirtual 156, 3) := by decide +kernel
theorem dX5_walker_72 : decode cX5_walker 72 = .ok (.ifCond .eq 33, 3) := by decide +kernel
theorem dX5_walker_75 : decode cX5_walker 75 = .ok (.aload_n 0, 1) := by decide +kernel
theorem dX5_walker_76 : decode cX5_walker 76 = .ok (.getfield 21, 3) := by decide +kernel
theorem dX5_walker_79 : decode cX5_walker 79 = .ok (.iload_n 1, 1) := by decide +kernel
theorem dX5_walker_80 : decode cX5_walker 80 = .ok (.iload 6, 2) := by decide +kernel
theorem dX5_walker_82 : decode cX5_walker 82 = .ok (.invokevirtual 159, 3) := by decide +kernel
theorem dX5_walker_85 : decode cX5_walker 85 = .ok (.ifCond .ne 20, 3) := by decide +kernel
theorem dX5_walker_88 : decode cX5_walker 88 = .ok (.aload_n 0, 1) := by decide +kernel
theorem dX5_walker_89 : decode cX5_walker 89 = .ok (.getfield 30, 3) := by decide +kernel
theorem dX5_walker_92 : decode cX5_walker 92 = .ok (.iload 6, 2) := by decide +kernel
theorem dX5_walker_94 : decode cX5_walker 94 = .ok (.invokevirtual 105, 3) := by decide +kernel
theorem dX5_walker_97 : decode cX5_walker 97 = .ok (.iconst (-1), 1) := by decide +kernel
theorem dX5_walker_98 : decode cX5_walker 98 = .ok (.if_icmp .ne 7, 3) := by decide +kernel
theorem dX5_walker_101 : decode cX5_walker 101 = .ok (.iconst 1, 1) := by decide +kernel
theorem dX5_walker_102 : decode cX5_walker 102 = .ok (.goto 4, 3) := by decide +kernel
theorem dX5_walker_105 : decode cX5_walker 105 = .ok (.iconst 0, 1) := by decide +kernel
theorem dX5_walker_106 : decode cX5_walker 106 = .ok (.istore 7, 2) := by decide +kernel
theorem dX5_walker_108 : decode cX5_walker 108 = .ok (.aload_n 0, 1) := by decide +kernel
theorem dX5_walker_109 : decode cX5_walker 109 = .ok (.getfield 30, 3) := by decide +kernel
theorem dX5_walker_112 : decode cX5_walker 112 = .ok (.getfield 163, 3) := by decide +kernel
theorem dX5_walker_115 : decode cX5_walker 115 = .ok (.bipush 24, 2) := by decide +kernel
theorem dX5_walker_117 : decode cX5_walker 117 = .ok (.if_icmp .ge 8, 3) := by decide +kernel
theorem dX5_walker_120 : decode cX5_walker 120 = .ok (.iload 7, 2) := by decide +kernel
theorem dX5_walker_122 : decode cX5_walker 122 = .ok (.ifCond .ne 13, 3) := by decide +kernel
theorem dX5_walker_125 : decode cX5_walker 125 = .ok (.new 83, 3) := by decide +kernel
theorem dX5_walker_128 : decode cX5_walker 128 = .ok (.dup, 1) := by decide +kernel
theorem dX5_walker_129 : decode cX5_walker 129 = .ok (.ldc 166, 2) := by decide +kernel
theorem dX5_walker_131 : decode cX5_walker 131 = .ok (.invokespecial 87, 3) := by decide +kernel
theorem dX5_walker_134 : decode cX5_walker 134 = .ok (.athrow, 1) := by decide +kernel
theorem dX5_walker_135 : decode cX5_walker 135 = .ok (.aload_n 0, 1) := by decide +kernel
theorem dX5_walker_136 : decode cX5_walker 136 = .ok (.getfield 30, 3) := by decide +kernel
theorem dX5_walker_139 : decode cX5_walker 139 = .ok (.iload_n 1, 1) := by decide +kernel
theorem dX5_walker_140 : decode cX5_walker 140 = .ok (.iload_n 2, 1) := by decide +kernel
theorem dX5_walker_141 : decode cX5_walker 141 = .ok (.iload_n 3, 1) := by decide +kernel
theorem dX5_walker_142 : decode cX5_walker 142 = .ok (.iload 6, 2) := by decide +kernel
theorem dX5_walker_144 : decode cX5_walker 144 = .ok (.invokevirtual 168, 3) := by decide +kernel
theorem dX5_walker_147 : decode cX5_walker 147 = .ok (.ireturn, 1) := by decide +kernel
theorem dX5_turnTo_0 : decode cX5_turnTo 0 = .ok (.aload_n 0, 1) := by decide +kernel
theorem dX5_turnTo_1 : decode cX5_turnTo 1 = .ok (.getfield 30, 3) := by decide +kernel
theorem dX5_turnTo_4 : decode cX5_turnTo 4 = .ok (.iload_n 1, 1) := by decide +kernel
theorem dX5_turnTo_5 : decode cX5_turnTo 5 = .ok (.invokevirtual 109, 3) := by decide +kernel
theorem dX5_turnTo_8 : decode cX5_turnTo 8 = .ok (.astore 4, 2) := by decide +kernel
theorem dX5_turnTo_10 : decode cX5_turnTo 10 = .ok (.aload 4, 2) := by decide +kernel
theorem dX5_turnTo_12 : decode cX5_turnTo 12 = .ok (.ifnull 10, 3) := by decide +kernel
theorem dX5_turnTo_15 : decode cX5_turnTo 15 = .ok (.iload_n 2, 1) := by decide +kernel
theorem dX5_turnTo_16 : decode cX5_turnTo 16 = .ok (.invokestatic 99, 3) := by decide +kernel
theorem dX5_turnTo_19 : decode cX5_turnTo 19 = .ok (.ifCond .ne 13, 3) := by decide +kernel
theorem dX5_turnTo_22 : decode cX5_turnTo 22 = .ok (.new 66, 3) := by decide +kernel
theorem dX5_turnTo_25 : decode cX5_turnTo 25 = .ok (.dup, 1) := by decide +kernel
theorem dX5_turnTo_26 : decode cX5_turnTo 26 = .ok (.ldc 172, 2) := by decide +kernel
theorem dX5_turnTo_28 : decode cX5_turnTo 28 = .ok (.invokespecial 70, 3) := by decide +kernel
theorem dX5_turnTo_31 : decode cX5_turnTo 31 = .ok (.athrow, 1) := by decide +kernel
theorem dX5_turnTo_32 : decode cX5_turnTo 32 = .ok (.iload_n 3, 1) := by decide +kernel
theorem dX5_turnTo_33 : decode cX5_turnTo 33 = .ok (.invokestatic 151, 3) := by decide +kernel
theorem dX5_turnTo_36 : decode cX5_turnTo 36 = .ok (.ifCond .ne 13, 3) := by decide +kernel
theorem dX5_turnTo_39 : decode cX5_turnTo 39 = .ok (.new 51, 3) := by decide +kernel
theorem dX5_turnTo_42 : decode cX5_turnTo 42 = .ok (.dup, 1) := by decide +kernel
theorem dX5_turnTo_43 : decode cX5_turnTo 43 = .ok (.ldc 174, 2) := by decide +kernel
theorem dX5_turnTo_45 : decode cX5_turnTo 45 = .ok (.invokespecial 55, 3) := by decide +kernel
theorem dX5_turnTo_48 : decode cX5_turnTo 48 = .ok (.athrow, 1) := by decide +kernel
theorem dX5_turnTo_49 : decode cX5_turnTo 49 = .ok (.aload 4, 2) := by decide +kernel
theorem dX5_turnTo_51 : decode cX5_turnTo 51 = .ok (.invokevirtual 176, 3) := by decide +kernel
theorem dX5_turnTo_54 : decode cX5_turnTo 54 = .ok (.ifCond .ne 19, 3) := by decide +kernel
theorem dX5_turnTo_57 : decode cX5_turnTo 57 = .ok (.aload_n 0, 1) := by decide +kernel
theorem dX5_turnTo_58 : decode cX5_turnTo 58 = .ok (.getfield 21, 3) := by decide +kernel
theorem dX5_turnTo_61 : decode cX5_turnTo 61 = .ok (.iload_n 2, 1) := by decide +kernel
theorem dX5_turnTo_62 : decode cX5_turnTo 62 = .ok (.aload 4, 2) := by decide +kernel
theorem dX5_turnTo_64 : decode cX5_turnTo 64 = .ok (.getfield 180, 3) := by decide +kernel
theorem dX5_turnTo_67 : decode cX5_turnTo 67 = .ok (.invokevirtual 159, 3) := by decide +kernel
theorem dX5_turnTo_70 : decode cX5_turnTo 70 = .ok (.ifCond .eq 13, 3) := by decide +kernel
theorem dX5_turnTo_73 : decode cX5_turnTo 73 = .ok (.new 83, 3) := by decide +kernel
theorem dX5_turnTo_76 : decode cX5_turnTo 76 = .ok (.dup, 1) := by decide +kernel
theorem dX5_turnTo_77 : decode cX5_turnTo 77 = .ok (.ldc 183, 2) := by decide +kernel
theorem dX5_turnTo_79 : decode cX5_turnTo 79 = .ok (.invokespecial 87, 3) := by decide +kernel
theorem dX5_turnTo_82 : decode cX5_turnTo 82 = .ok (.athrow, 1) := by decide +kernel
theorem dX5_turnTo_83 : decode cX5_turnTo 83 = .ok (.aload 4, 2) := by decide +kernel
theorem dX5_turnTo_85 : decode cX5_turnTo 85 = .ok (.getfield 113, 3) := by decide +kernel
theorem dX5_turnTo_88 : decode cX5_turnTo 88 = .ok (.istore 5, 2) := by decide +kernel
theorem dX5_turnTo_90 : decode cX5_turnTo 90 = .ok (.aload 4, 2) := by decide +kernel
theorem dX5_turnTo_92 : decode cX5_turnTo 92 = .ok (.iload_n 2, 1) := by decide +kernel
theorem dX5_turnTo_93 : decode cX5_turnTo 93 = .ok (.putfield 113, 3) := by decide +kernel
theorem dX5_turnTo_96 : decode cX5_turnTo 96 = .ok (.aload 4, 2) := by decide +kernel
theorem dX5_turnTo_98 : decode cX5_turnTo 98 = .ok (.iload_n 3, 1) := by decide +kernel
theorem dX5_turnTo_99 : decode cX5_turnTo 99 = .ok (.putfield 185, 3) := by decide +kernel
theorem dX5_turnTo_102 : decode cX5_turnTo 102 = .ok (.iload 5, 2) := by decide +kernel
theorem dX5_turnTo_104 : decode cX5_turnTo 104 = .ok (.ireturn, 1) := by decide +kernel
theorem dX5_tick_0 : decode cX5_tick 0 = .ok (.iload_n 1, 1) := by decide +kernel
theorem dX5_tick_1 : decode cX5_tick 1 = .ok (.iconst 1, 1) := by decide +kernel
theorem dX5_tick_2 : decode cX5_tick 2 = .ok (.if_icmp .lt 9, 3) := by decide +kernel
theorem dX5_tick_5 : decode cX5_tick 5 = .ok (.iload_n 1, 1) := by decide +kernel
theorem dX5_tick_6 : decode cX5_tick 6 = .ok (.bipush 20, 2) := by decide +kernel
theorem dX5_tick_8 : decode cX5_tick 8 = .ok (.if_icmp .le 13, 3) := by decide +kernel
theorem dX5_tick_11 : decode cX5_tick 11 = .ok (.new 51, 3) := by decide +kernel
theorem dX5_tick_14 : decode cX5_tick 14 = .ok (.dup, 1) := by decide +kernel
theorem dX5_tick_15 : decode cX5_tick 15 = .ok (.ldc 188, 2) := by decide +kernel
theorem dX5_tick_17 : decode cX5_tick 17 = .ok (.invokespecial 55, 3) := by decide +kernel
theorem dX5_tick_20 : decode cX5_tick 20 = .ok (.athrow, 1) := by decide +kernel
theorem dX5_tick_21 : decode cX5_tick 21 = .ok (.aload_n 0, 1) := by decide +kernel
theorem dX5_tick_22 : decode cX5_tick 22 = .ok (.getfield 30, 3) := by decide +kernel
theorem dX5_tick_25 : decode cX5_tick 25 = .ok (.invokevirtual 190, 3) := by decide +kernel
theorem dX5_tick_28 : decode cX5_tick 28 = .ok (.istore_n 2, 1) := by decide +kernel
theorem dX5_tick_29 : decode cX5_tick 29 = .ok (.aload_n 0, 1) := by decide +kernel
theorem dX5_tick_30 : decode cX5_tick 30 = .ok (.getfield 30, 3) := by decide +kernel
theorem dX5_tick_33 : decode cX5_tick 33 = .ok (.iload_n 1, 1) := by decide +kernel
theorem dX5_tick_34 : decode cX5_tick 34 = .ok (.invokevirtual 193, 3) := by decide +kernel
theorem dX5_tick_37 : decode cX5_tick 37 = .ok (.iload_n 2, 1) := by decide +kernel
theorem dX5_tick_38 : decode cX5_tick 38 = .ok (.isub, 1) := by decide +kernel
theorem dX5_tick_39 : decode cX5_tick 39 = .ok (.ireturn, 1) := by decide +kernel
theorem dX5_clock_0 : decode cX5_clock 0 = .ok (.aload_n 0, 1) := by decide +kernel
theorem dX5_clock_1 : decode cX5_clock 1 = .ok (.getfield 30, 3) := by decide +kernel
theorem dX5_clock_4 : decode cX5_clock 4 = .ok (.getfield 196, 3) := by decide +kernel
theorem dX5_clock_7 : decode cX5_clock 7 = .ok (.ireturn, 1) := by decide +kernel
theorem dX5_many_0 : decode cX5_many 0 = .ok (.iload_n 1, 1) := by decide +kernel
theorem dX5_many_1 : decode cX5_many 1 = .ok (.ifCond .lt 9, 3) := by decide +kernel
theorem dX5_many_4 : decode cX5_many 4 = .ok (.iload_n 1, 1) := by decide +kernel
theorem dX5_many_5 : decode cX5_many 5 = .ok (.bipush 8, 2) := by decide +kernel
theorem dX5_many_7 : decode cX5_many 7 = .ok (.if_icmp .le 13, 3) := by decide +kernel
theorem dX5_many_10 : decode cX5_many 10 = .ok (.new 51, 3) := by decide +kernel
theorem dX5_many_13 : decode cX5_many 13 = .ok (.dup, 1) := by decide +kernel
theorem dX5_many_14 : decode cX5_many 14 = .ok (.ldc 199, 2) := by decide +kernel
theorem dX5_many_16 : decode cX5_many 16 = .ok (.invokespecial 55, 3) := by decide +kernel
theorem dX5_many_19 : decode cX5_many 19 = .ok (.athrow, 1) := by decide +kernel
theorem dX5_many_20 : decode cX5_many 20 = .ok (.aload_n 0, 1) := by decide +kernel
theorem dX5_many_21 : decode cX5_many 21 = .ok (.getfield 37, 3) := by decide +kernel
theorem dX5_many_24 : decode cX5_many 24 = .ok (.aload_n 0, 1) := by decide +kernel
theorem dX5_many_25 : decode cX5_many 25 = .ok (.getfield 30, 3) := by decide +kernel
theorem dX5_many_28 : decode cX5_many 28 = .ok (.invokevirtual 201, 3) := by decide +kernel
theorem dX5_many_31 : decode cX5_many 31 = .ok (.aload_n 0, 1) := by decide +kernel
theorem dX5_many_32 : decode cX5_many 32 = .ok (.iload_n 1, 1) := by decide +kernel
theorem dX5_many_33 : decode cX5_many 33 = .ok (.invokevirtual 205, 3) := by decide +kernel
theorem dX5_many_36 : decode cX5_many 36 = .ok (.ireturn, 1) := by decide +kernel
theorem dX5_ofWalker_0 : decode cX5_ofWalker 0 = .ok (.aload_n 0, 1) := by decide +kernel
theorem dX5_ofWalker_1 : decode cX5_ofWalker 1 = .ok (.getfield 30, 3) := by decide +kernel
theorem dX5_ofWalker_4 : decode cX5_ofWalker 4 = .ok (.iload_n 1, 1) := by decide +kernel
theorem dX5_ofWalker_5 : decode cX5_ofWalker 5 = .ok (.invokevirtual 109, 3) := by decide +kernel
theorem dX5_ofWalker_8 : decode cX5_ofWalker 8 = .ok (.astore_n 3, 1) := by decide +kernel
theorem dX5_ofWalker_9 : decode cX5_ofWalker 9 = .ok (.aload_n 3, 1) := by decide +kernel
theorem dX5_ofWalker_10 : decode cX5_ofWalker 10 = .ok (.ifnonnull 13, 3) := by decide +kernel
theorem dX5_ofWalker_13 : decode cX5_ofWalker 13 = .ok (.new 66, 3) := by decide +kernel
theorem dX5_ofWalker_16 : decode cX5_ofWalker 16 = .ok (.dup, 1) := by decide +kernel
theorem dX5_ofWalker_17 : decode cX5_ofWalker 17 = .ok (.ldc 208, 2) := by decide +kernel
theorem dX5_ofWalker_19 : decode cX5_ofWalker 19 = .ok (.invokespecial 70, 3) := by decide +kernel
theorem dX5_ofWalker_22 : decode cX5_ofWalker 22 = .ok (.athrow, 1) := by decide +kernel
theorem dX5_ofWalker_23 : decode cX5_ofWalker 23 = .ok (.iload_n 2, 1) := by decide +kernel
theorem dX5_ofWalker_24 : decode cX5_ofWalker 24 = .ok (.ifCond .lt 9, 3) := by decide +kernel
theorem dX5_ofWalker_27 : decode cX5_ofWalker 27 = .ok (.iload_n 2, 1) := by decide +kernel
theorem dX5_ofWalker_28 : decode cX5_ofWalker 28 = .ok (.bipush 8, 2) := by decide +kernel
theorem dX5_ofWalker_30 : decode cX5_ofWalker 30 = .ok (.if_icmp .le 13, 3) := by decide +kernel
theorem dX5_ofWalker_33 : decode cX5_ofWalker 33 = .ok (.new 51, 3) := by decide +kernel
theorem dX5_ofWalker_36 : decode cX5_ofWalker 36 = .ok (.dup, 1) := by decide +kernel
theorem dX5_ofWalker_37 : decode cX5_ofWalker 37 = .ok (.ldc 199, 2) := by decide +kernel
theorem dX5_ofWalker_39 : decode cX5_ofWalker 39 = .ok (.invokespecial 55, 3) := by decide +kernel
theorem dX5_ofWalker_42 : decode cX5_ofWalker 42 = .ok (.athrow, 1) := by decide +kernel
theorem dX5_ofWalker_43 : decode cX5_ofWalker 43 = .ok (.aload_n 0, 1) := by decide +kernel
theorem dX5_ofWalker_44 : decode cX5_ofWalker 44 = .ok (.getfield 30, 3) := by decide +kernel
theorem dX5_ofWalker_47 : decode cX5_ofWalker 47 = .ok (.aload_n 3, 1) := by decide +kernel
theorem dX5_ofWalker_48 : decode cX5_ofWalker 48 = .ok (.iload_n 2, 1) := by decide +kernel
theorem dX5_ofWalker_49 : decode cX5_ofWalker 49 = .ok (.invokevirtual 210, 3) := by decide +kernel
theorem dX5_ofWalker_52 : decode cX5_ofWalker 52 = .ok (.ireturn, 1) := by decide +kernel
theorem dX5_cost_0 : decode cX5_cost 0 = .ok (.aload_n 0, 1) := by decide +kernel
theorem dX5_cost_1 : decode cX5_cost 1 = .ok (.getfield 30, 3) := by decide +kernel
theorem dX5_cost_4 : decode cX5_cost 4 = .ok (.iload_n 1, 1) := by decide +kernel
theorem dX5_cost_5 : decode cX5_cost 5 = .ok (.invokevirtual 109, 3) := by decide +kernel
theorem dX5_cost_8 : decode cX5_cost 8 = .ok (.astore_n 3, 1) := by decide +kernel
theorem dX5_cost_9 : decode cX5_cost 9 = .ok (.aload_n 3, 1) := by decide +kernel
theorem dX5_cost_10 : decode cX5_cost 10 = .ok (.ifnull 10, 3) := by decide +kernel
theorem dX5_cost_13 : decode cX5_cost 13 = .ok (.aload_n 3, 1) := by decide +kernel
theorem dX5_cost_14 : decode cX5_cost 14 = .ok (.invokevirtual 176, 3) := by decide +kernel
theorem dX5_cost_17 : decode cX5_cost 17 = .ok (.ifCond .eq 13, 3) := by decide +kernel
theorem dX5_cost_20 : decode cX5_cost 20 = .ok (.new 66, 3) := by decide +kernel
theorem dX5_cost_23 : decode cX5_cost 23 = .ok (.dup, 1) := by decide +kernel
theorem dX5_cost_24 : decode cX5_cost 24 = .ok (.ldc 214, 2) := by decide +kernel
theorem dX5_cost_26 : decode cX5_cost 26 = .ok (.invokespecial 70, 3) := by decide +kernel
theorem dX5_cost_29 : decode cX5_cost 29 = .ok (.athrow, 1) := by decide +kernel
theorem dX5_cost_30 : decode cX5_cost 30 = .ok (.iload_n 2, 1) := by decide +kernel
theorem dX5_cost_31 : decode cX5_cost 31 = .ok (.ifCond .lt 8, 3) := by decide +kernel
theorem dX5_cost_34 : decode cX5_cost 34 = .ok (.iload_n 2, 1) := by decide +kernel
theorem dX5_cost_35 : decode cX5_cost 35 = .ok (.iconst 4, 1) := by decide +kernel
theorem dX5_cost_36 : decode cX5_cost 36 = .ok (.if_icmp .le 13, 3) := by decide +kernel
theorem dX5_cost_39 : decode cX5_cost 39 = .ok (.new 51, 3) := by decide +kernel
theorem dX5_cost_42 : decode cX5_cost 42 = .ok (.dup, 1) := by decide +kernel
theorem dX5_cost_43 : decode cX5_cost 43 = .ok (.ldc 216, 2) := by decide +kernel
theorem dX5_cost_45 : decode cX5_cost 45 = .ok (.invokespecial 55, 3) := by decide +kernel
theorem dX5_cost_48 : decode cX5_cost 48 = .ok (.athrow, 1) := by decide +kernel
theorem dX5_cost_49 : decode cX5_cost 49 = .ok (.aload_n 0, 1) := by decide +kernel
theorem dX5_cost_50 : decode cX5_cost 50 = .ok (.getfield 30, 3) := by decide +kernel
theorem dX5_cost_53 : decode cX5_cost 53 = .ok (.aload_n 3, 1) := by decide +kernel
theorem dX5_cost_54 : decode cX5_cost 54 = .ok (.iload_n 2, 1) := by decide +kernel
theorem dX5_cost_55 : decode cX5_cost 55 = .ok (.invokevirtual 218, 3) := by decide +kernel
theorem dX5_cost_58 : decode cX5_cost 58 = .ok (.ireturn, 1) := by decide +kernel
theorem dX5_wants_0 : decode cX5_wants 0 = .ok (.aload_n 0, 1) := by decide +kernel
theorem dX5_wants_1 : decode cX5_wants 1 = .ok (.getfield 30, 3) := by decide +kernel
theorem dX5_wants_4 : decode cX5_wants 4 = .ok (.iload_n 1, 1) := by decide +kernel
theorem dX5_wants_5 : decode cX5_wants 5 = .ok (.invokevirtual 109, 3) := by decide +kernel
theorem dX5_wants_8 : decode cX5_wants 8 = .ok (.astore_n 2, 1) := by decide +kernel
theorem dX5_wants_9 : decode cX5_wants 9 = .ok (.aload_n 2, 1) := by decide +kernel
theorem dX5_wants_10 : decode cX5_wants 10 = .ok (.ifnull 10, 3) := by decide +kernel
theorem dX5_wants_13 : decode cX5_wants 13 = .ok (.aload_n 2, 1) := by decide +kernel
theorem dX5_wants_14 : decode cX5_wants 14 = .ok (.invokevirtual 176, 3) := by decide +kernel
theorem dX5_wants_17 : decode cX5_wants 17 = .ok (.ifCond .eq 13, 3) := by decide +kernel
theorem dX5_wants_20 : decode cX5_wants 20 = .ok (.new 66, 3) := by decide +kernel
theorem dX5_wants_23 : decode cX5_wants 23 = .ok (.dup, 1) := by decide +kernel
theorem dX5_wants_24 : decode cX5_wants 24 = .ok (.ldc 214, 2) := by decide +kernel
theorem dX5_wants_26 : decode cX5_wants 26 = .ok (.invokespecial 70, 3) := by decide +kernel
theorem dX5_wants_29 : decode cX5_wants 29 = .ok (.athrow, 1) := by decide +kernel
theorem dX5_wants_30 : decode cX5_wants 30 = .ok (.aload_n 0, 1) := by decide +kernel
theorem dX5_wants_31 : decode cX5_wants 31 = .ok (.getfield 30, 3) := by decide +kernel
theorem dX5_wants_34 : decode cX5_wants 34 = .ok (.aload_n 2, 1) := by decide +kernel
theorem dX5_wants_35 : decode cX5_wants 35 = .ok (.invokevirtual 221, 3) := by decide +kernel
theorem dX5_wants_38 : decode cX5_wants 38 = .ok (.ireturn, 1) := by decide +kernel
theorem dX5_way_0 : decode cX5_way 0 = .ok (.aload_n 0, 1) := by decide +kernel
theorem dX5_way_1 : decode cX5_way 1 = .ok (.getfield 30, 3) := by decide +kernel
theorem dX5_way_4 : decode cX5_way 4 = .ok (.iload_n 1, 1) := by decide +kernel
theorem dX5_way_5 : decode cX5_way 5 = .ok (.invokevirtual 109, 3) := by decide +kernel
theorem dX5_way_8 : decode cX5_way 8 = .ok (.astore_n 3, 1) := by decide +kernel
theorem dX5_way_9 : decode cX5_way 9 = .ok (.aload_n 3, 1) := by decide +kernel
theorem dX5_way_10 : decode cX5_way 10 = .ok (.ifnull 10, 3) := by decide +kernel
theorem dX5_way_13 : decode cX5_way 13 = .ok (.aload_n 3, 1) := by decide +kernel
theorem dX5_way_14 : decode cX5_way 14 = .ok (.invokevirtual 176, 3) := by decide +kernel
theorem dX5_way_17 : decode cX5_way 17 = .ok (.ifCond .eq 13, 3) := by decide +kernel
theorem dX5_way_20 : decode cX5_way 20 = .ok (.new 66, 3) := by decide +kernel
theorem dX5_way_23 : decode cX5_way 23 = .ok (.dup, 1) := by decide +kernel
theorem dX5_way_24 : decode cX5_way 24 = .ok (.ldc 214, 2) := by decide +kernel
theorem dX5_way_26 : decode cX5_way 26 = .ok (.invokespecial 70, 3) := by decide +kernel
theorem dX5_way_29 : decode cX5_way 29 = .ok (.athrow, 1) := by decide +kernel
theorem dX5_way_30 : decode cX5_way 30 = .ok (.iload_n 2, 1) := by decide +kernel
theorem dX5_way_31 : decode cX5_way 31 = .ok (.ifCond .ge 13, 3) := by decide +kernel
theorem dX5_way_34 : decode cX5_way 34 = .ok (.new 51, 3) := by decide +kernel
theorem dX5_way_37 : decode cX5_way 37 = .ok (.dup, 1) := by decide +kernel
theorem dX5_way_38 : decode cX5_way 38 = .ok (.ldc 225, 2) := by decide +kernel
theorem dX5_way_40 : decode cX5_way 40 = .ok (.invokespecial 55, 3) := by decide +kernel
theorem dX5_way_43 : decode cX5_way 43 = .ok (.athrow, 1) := by decide +kernel
theorem dX5_way_44 : decode cX5_way 44 = .ok (.aload_n 0, 1) := by decide +kernel
theorem dX5_way_45 : decode cX5_way 45 = .ok (.getfield 21, 3) := by decide +kernel
theorem dX5_way_48 : decode cX5_way 48 = .ok (.aload_n 3, 1) := by decide +kernel
theorem dX5_way_49 : decode cX5_way 49 = .ok (.getfield 113, 3) := by decide +kernel
theorem dX5_way_52 : decode cX5_way 52 = .ok (.aload_n 3, 1) := by decide +kernel
theorem dX5_way_53 : decode cX5_way 53 = .ok (.getfield 180, 3) := by decide +kernel
theorem dX5_way_56 : decode cX5_way 56 = .ok (.iload_n 2, 1) := by decide +kernel
theorem dX5_way_57 : decode cX5_way 57 = .ok (.invokevirtual 227, 3) := by decide +kernel
theorem dX5_way_60 : decode cX5_way 60 = .ok (.ireturn, 1) := by decide +kernel
theorem dX5_jam_0 : decode cX5_jam 0 = .ok (.aload_n 0, 1) := by decide +kernel
theorem dX5_jam_1 : decode cX5_jam 1 = .ok (.getfield 30, 3) := by decide +kernel
theorem dX5_jam_4 : decode cX5_jam 4 = .ok (.iload_n 1, 1) := by decide +kernel
theorem dX5_jam_5 : decode cX5_jam 5 = .ok (.invokevirtual 109, 3) := by decide +kernel
theorem dX5_jam_8 : decode cX5_jam 8 = .ok (.ifnonnull 13, 3) := by decide +kernel
theorem dX5_jam_11 : decode cX5_jam 11 = .ok (.new 66, 3) := by decide +kernel
theorem dX5_jam_14 : decode cX5_jam 14 = .ok (.dup, 1) := by decide +kernel
theorem dX5_jam_15 : decode cX5_jam 15 = .ok (.ldc 208, 2) := by decide +kernel
theorem dX5_jam_17 : decode cX5_jam 17 = .ok (.invokespecial 70, 3) := by decide +kernel
theorem dX5_jam_20 : decode cX5_jam 20 = .ok (.athrow, 1) := by decide +kernel
theorem dX5_jam_21 : decode cX5_jam 21 = .ok (.aload_n 0, 1) := by decide +kernel
theorem dX5_jam_22 : decode cX5_jam 22 = .ok (.getfield 37, 3) := by decide +kernel
theorem dX5_jam_25 : decode cX5_jam 25 = .ok (.aload_n 0, 1) := by decide +kernel
theorem dX5_jam_26 : decode cX5_jam 26 = .ok (.getfield 30, 3) := by decide +kernel
theorem dX5_jam_29 : decode cX5_jam 29 = .ok (.invokevirtual 201, 3) := by decide +kernel
theorem dX5_jam_32 : decode cX5_jam 32 = .ok (.aload_n 0, 1) := by decide +kernel
theorem dX5_jam_33 : decode cX5_jam 33 = .ok (.getfield 37, 3) := by decide +kernel
theorem dX5_jam_36 : decode cX5_jam 36 = .ok (.iload_n 1, 1) := by decide +kernel
theorem dX5_jam_37 : decode cX5_jam 37 = .ok (.invokevirtual 231, 3) := by decide +kernel
theorem dX5_jam_40 : decode cX5_jam 40 = .ok (.ireturn, 1) := by decide +kernel
theorem dX5_meanSteps_0 : decode cX5_meanSteps 0 = .ok (.aload_n 0, 1) := by decide +kernel
theorem dX5_meanSteps_1 : decode cX5_meanSteps 1 = .ok (.getfield 30, 3) := by decide +kernel
theorem dX5_meanSteps_4 : decode cX5_meanSteps 4 = .ok (.invokevirtual 190, 3) := by decide +kernel
theorem dX5_meanSteps_7 : decode cX5_meanSteps 7 = .ok (.istore_n 1, 1) := by decide +kernel
theorem dX5_meanSteps_8 : decode cX5_meanSteps 8 = .ok (.iload_n 1, 1) := by decide +kernel
theorem dX5_meanSteps_9 : decode cX5_meanSteps 9 = .ok (.ifCond .ne 5, 3) := by decide +kernel
theorem dX5_meanSteps_12 : decode cX5_meanSteps 12 = .ok (.dconst 0, 1) := by decide +kernel
theorem dX5_meanSteps_13 : decode cX5_meanSteps 13 = .ok (.dreturn, 1) := by decide +kernel
theorem dX5_meanSteps_14 : decode cX5_meanSteps 14 = .ok (.aload_n 0, 1) := by decide +kernel
theorem dX5_meanSteps_15 : decode cX5_meanSteps 15 = .ok (.getfield 30, 3) := by decide +kernel
theorem dX5_meanSteps_18 : decode cX5_meanSteps 18 = .ok (.iconst 1, 1) := by decide +kernel
theorem dX5_meanSteps_19 : decode cX5_meanSteps 19 = .ok (.invokevirtual 234, 3) := by decide +kernel
theorem dX5_meanSteps_22 : decode cX5_meanSteps 22 = .ok (.i2d, 1) := by decide +kernel
theorem dX5_meanSteps_23 : decode cX5_meanSteps 23 = .ok (.iload_n 1, 1) := by decide +kernel
theorem dX5_meanSteps_24 : decode cX5_meanSteps 24 = .ok (.i2d, 1) := by decide +kernel
theorem dX5_meanSteps_25 : decode cX5_meanSteps 25 = .ok (.ddiv, 1) := by decide +kernel
theorem dX5_meanSteps_26 : decode cX5_meanSteps 26 = .ok (.dreturn, 1) := by decide +kernel
theorem dX5_outIn_0 : decode cX5_outIn 0 = .ok (.aload_n 0, 1) := by decide +kernel
theorem dX5_outIn_1 : decode cX5_outIn 1 = .ok (.getfield 30, 3) := by decide +kernel
theorem dX5_outIn_4 : decode cX5_outIn 4 = .ok (.iload_n 1, 1) := by decide +kernel
theorem dX5_outIn_5 : decode cX5_outIn 5 = .ok (.invokevirtual 109, 3) := by decide +kernel
theorem dX5_outIn_8 : decode cX5_outIn 8 = .ok (.ifnonnull 13, 3) := by decide +kernel
theorem dX5_outIn_11 : decode cX5_outIn 11 = .ok (.new 66, 3) := by decide +kernel
theorem dX5_outIn_14 : decode cX5_outIn 14 = .ok (.dup, 1) := by decide +kernel
theorem dX5_outIn_15 : decode cX5_outIn 15 = .ok (.ldc 208, 2) := by decide +kernel
theorem dX5_outIn_17 : decode cX5_outIn 17 = .ok (.invokespecial 70, 3) := by decide +kernel
theorem dX5_outIn_20 : decode cX5_outIn 20 = .ok (.athrow, 1) := by decide +kernel
theorem dX5_outIn_21 : decode cX5_outIn 21 = .ok (.iload_n 2, 1) := by decide +kernel
theorem dX5_outIn_22 : decode cX5_outIn 22 = .ok (.invokestatic 238, 3) := by decide +kernel
theorem dX5_outIn_25 : decode cX5_outIn 25 = .ok (.ifCond .ne 13, 3) := by decide +kernel
theorem dX5_outIn_28 : decode cX5_outIn 28 = .ok (.new 51, 3) := by decide +kernel
theorem dX5_outIn_31 : decode cX5_outIn 31 = .ok (.dup, 1) := by decide +kernel
theorem dX5_outIn_32 : decode cX5_outIn 32 = .ok (.ldc 241, 2) := by decide +kernel
theorem dX5_outIn_34 : decode cX5_outIn 34 = .ok (.invokespecial 55, 3) := by decide +kernel
theorem dX5_outIn_37 : decode cX5_outIn 37 = .ok (.athrow, 1) := by decide +kernel
theorem dX5_outIn_38 : decode cX5_outIn 38 = .ok (.aload_n 0, 1) := by decide +kernel
theorem dX5_outIn_39 : decode cX5_outIn 39 = .ok (.invokevirtual 243, 3) := by decide +kernel
theorem dX5_outIn_42 : decode cX5_outIn 42 = .ok (.aload_n 0, 1) := by decide +kernel
theorem dX5_outIn_43 : decode cX5_outIn 43 = .ok (.getfield 44, 3) := by decide +kernel
theorem dX5_outIn_46 : decode cX5_outIn 46 = .ok (.iload_n 1, 1) := by decide +kernel
theorem dX5_outIn_47 : decode cX5_outIn 47 = .ok (.iload_n 2, 1) := by decide +kernel
theorem dX5_outIn_48 : decode cX5_outIn 48 = .ok (.invokevirtual 246, 3) := by decide +kernel
theorem dX5_outIn_51 : decode cX5_outIn 51 = .ok (.ireturn, 1) := by decide +kernel
theorem dX5_outWith_0 : decode cX5_outWith 0 = .ok (.iload_n 1, 1) := by decide +kernel
theorem dX5_outWith_1 : decode cX5_outWith 1 = .ok (.invokestatic 238, 3) := by decide +kernel
theorem dX5_outWith_4 : decode cX5_outWith 4 = .ok (.ifCond .eq 13, 3) := by decide +kernel
theorem dX5_outWith_7 : decode cX5_outWith 7 = .ok (.iload_n 2, 1) := by decide +kernel
theorem dX5_outWith_8 : decode cX5_outWith 8 = .ok (.ifCond .lt 9, 3) := by decide +kernel
theorem dX5_outWith_11 : decode cX5_outWith 11 = .ok (.iload_n 2, 1) := by decide +kernel
theorem dX5_outWith_12 : decode cX5_outWith 12 = .ok (.bipush 9, 2) := by decide +kernel
theorem dX5_outWith_14 : decode cX5_outWith 14 = .ok (.if_icmp .le 13, 3) := by decide +kernel
theorem dX5_outWith_17 : decode cX5_outWith 17 = .ok (.new 51, 3) := by decide +kernel
theorem dX5_outWith_20 : decode cX5_outWith 20 = .ok (.dup, 1) := by decide +kernel
theorem dX5_outWith_21 : decode cX5_outWith 21 = .ok (.ldc 249, 2) := by decide +kernel
theorem dX5_outWith_23 : decode cX5_outWith 23 = .ok (.invokespecial 55, 3) := by decide +kernel
theorem dX5_outWith_26 : decode cX5_outWith 26 = .ok (.athrow, 1) := by decide +kernel
theorem dX5_outWith_27 : decode cX5_outWith 27 = .ok (.aload_n 0, 1) := by decide +kernel
theorem dX5_outWith_28 : decode cX5_outWith 28 = .ok (.invokevirtual 243, 3) := by decide +kernel
theorem dX5_outWith_31 : decode cX5_outWith 31 = .ok (.aload_n 0, 1) := by decide +kernel
theorem dX5_outWith_32 : decode cX5_outWith 32 = .ok (.getfield 44, 3) := by decide +kernel
theorem dX5_outWith_35 : decode cX5_outWith 35 = .ok (.iload_n 2, 1) := by decide +kernel
theorem dX5_outWith_36 : decode cX5_outWith 36 = .ok (.putfield 132, 3) := by decide +kernel
theorem dX5_outWith_39 : decode cX5_outWith 39 = .ok (.aload_n 0, 1) := by decide +kernel
theorem dX5_outWith_40 : decode cX5_outWith 40 = .ok (.getfield 44, 3) := by decide +kernel
theorem dX5_outWith_43 : decode cX5_outWith 43 = .ok (.iload_n 1, 1) := by decide +kernel
theorem dX5_outWith_44 : decode cX5_outWith 44 = .ok (.invokevirtual 193, 3) := by decide +kernel
theorem dX5_outWith_47 : decode cX5_outWith 47 = .ok (.ireturn, 1) := by decide +kernel
theorem dX5_outBy_0 : decode cX5_outBy 0 = .ok (.aload_n 0, 1) := by decide +kernel
theorem dX5_outBy_1 : decode cX5_outBy 1 = .ok (.getfield 10, 3) := by decide +kernel
theorem dX5_outBy_4 : decode cX5_outBy 4 = .ok (.iload_n 1, 1) := by decide +kernel
theorem dX5_outBy_5 : decode cX5_outBy 5 = .ok (.iload_n 2, 1) := by decide +kernel
theorem dX5_outBy_6 : decode cX5_outBy 6 = .ok (.invokevirtual 62, 3) := by decide +kernel
theorem dX5_outBy_9 : decode cX5_outBy 9 = .ok (.istore 4, 2) := by decide +kernel
theorem dX5_outBy_11 : decode cX5_outBy 11 = .ok (.iload 4, 2) := by decide +kernel
theorem dX5_outBy_13 : decode cX5_outBy 13 = .ok (.iconst (-1), 1) := by decide +kernel
theorem dX5_outBy_14 : decode cX5_outBy 14 = .ok (.if_icmp .ne 13, 3) := by decide +kernel
theorem dX5_outBy_17 : decode cX5_outBy 17 = .ok (.new 66, 3) := by decide +kernel
theorem dX5_outBy_20 : decode cX5_outBy 20 = .ok (.dup, 1) := by decide +kernel
theorem dX5_outBy_21 : decode cX5_outBy 21 = .ok (.ldc 68, 2) := by decide +kernel
theorem dX5_outBy_23 : decode cX5_outBy 23 = .ok (.invokespecial 70, 3) := by decide +kernel
theorem dX5_outBy_26 : decode cX5_outBy 26 = .ok (.athrow, 1) := by decide +kernel
theorem dX5_outBy_27 : decode cX5_outBy 27 = .ok (.iload_n 3, 1) := by decide +kernel
theorem dX5_outBy_28 : decode cX5_outBy 28 = .ok (.invokestatic 238, 3) := by decide +kernel
theorem dX5_outBy_31 : decode cX5_outBy 31 = .ok (.ifCond .ne 13, 3) := by decide +kernel
theorem dX5_outBy_34 : decode cX5_outBy 34 = .ok (.new 51, 3) := by decide +kernel
theorem dX5_outBy_37 : decode cX5_outBy 37 = .ok (.dup, 1) := by decide +kernel
theorem dX5_outBy_38 : decode cX5_outBy 38 = .ok (.ldc 241, 2) := by decide +kernel
theorem dX5_outBy_40 : decode cX5_outBy 40 = .ok (.invokespecial 55, 3) := by decide +kernel
theorem dX5_outBy_43 : decode cX5_outBy 43 = .ok (.athrow, 1) := by decide +kernel
theorem dX5_outBy_44 : decode cX5_outBy 44 = .ok (.aload_n 0, 1) := by decide +kernel
theorem dX5_outBy_45 : decode cX5_outBy 45 = .ok (.getfield 30, 3) := by decide +kernel
theorem dX5_outBy_48 : decode cX5_outBy 48 = .ok (.iload 4, 2) := by decide +kernel
theorem dX5_outBy_50 : decode cX5_outBy 50 = .ok (.invokevirtual 105, 3) := by decide +kernel
theorem dX5_outBy_53 : decode cX5_outBy 53 = .ok (.iconst (-1), 1) := by decide +kernel
theorem dX5_outBy_54 : decode cX5_outBy 54 = .ok (.if_icmp .eq 13, 3) := by decide +kernel
theorem dX5_outBy_57 : decode cX5_outBy 57 = .ok (.new 83, 3) := by decide +kernel
theorem dX5_outBy_60 : decode cX5_outBy 60 = .ok (.dup, 1) := by decide +kernel
theorem dX5_outBy_61 : decode cX5_outBy 61 = .ok (.ldc 85, 2) := by decide +kernel
theorem dX5_outBy_63 : decode cX5_outBy 63 = .ok (.invokespecial 87, 3) := by decide +kernel
theorem dX5_outBy_66 : decode cX5_outBy 66 = .ok (.athrow, 1) := by decide +kernel
theorem dX5_outBy_67 : decode cX5_outBy 67 = .ok (.aload_n 0, 1) := by decide +kernel
theorem dX5_outBy_68 : decode cX5_outBy 68 = .ok (.invokevirtual 243, 3) := by decide +kernel
theorem dX5_outBy_71 : decode cX5_outBy 71 = .ok (.aload_n 0, 1) := by decide +kernel
theorem dX5_outBy_72 : decode cX5_outBy 72 = .ok (.getfield 44, 3) := by decide +kernel
theorem dX5_outBy_75 : decode cX5_outBy 75 = .ok (.iload_n 3, 1) := by decide +kernel
theorem dX5_outBy_76 : decode cX5_outBy 76 = .ok (.invokevirtual 193, 3) := by decide +kernel
theorem dX5_outBy_79 : decode cX5_outBy 79 = .ok (.istore 5, 2) := by decide +kernel
theorem dX5_outBy_81 : decode cX5_outBy 81 = .ok (.aload_n 0, 1) := by decide +kernel
theorem dX5_outBy_82 : decode cX5_outBy 82 = .ok (.invokevirtual 243, 3) := by decide +kernel
theorem dX5_outBy_85 : decode cX5_outBy 85 = .ok (.aload_n 0, 1) := by decide +kernel
theorem dX5_outBy_86 : decode cX5_outBy 86 = .ok (.getfield 41, 3) := by decide +kernel
theorem dX5_outBy_89 : decode cX5_outBy 89 = .ok (.iload 4, 2) := by decide +kernel
theorem dX5_outBy_91 : decode cX5_outBy 91 = .ok (.aload_n 0, 1) := by decide +kernel
theorem dX5_outBy_92 : decode cX5_outBy 92 = .ok (.getfield 21, 3) := by decide +kernel
theorem dX5_outBy_95 : decode cX5_outBy 95 = .ok (.iload 4, 2) := by decide +kernel
theorem dX5_outBy_97 : decode cX5_outBy 97 = .ok (.invokevirtual 156, 3) := by decide +kernel
theorem dX5_outBy_100 : decode cX5_outBy 100 = .ok (.invokevirtual 88, 3) := by decide +kernel
theorem dX5_outBy_103 : decode cX5_outBy 103 = .ok (.aload_n 0, 1) := by decide +kernel
theorem dX5_outBy_104 : decode cX5_outBy 104 = .ok (.getfield 41, 3) := by decide +kernel
theorem dX5_outBy_107 : decode cX5_outBy 107 = .ok (.invokevirtual 92, 3) := by decide +kernel
theorem dX5_outBy_110 : decode cX5_outBy 110 = .ok (.aload_n 0, 1) := by decide +kernel
theorem dX5_outBy_111 : decode cX5_outBy 111 = .ok (.getfield 44, 3) := by decide +kernel
theorem dX5_outBy_114 : decode cX5_outBy 114 = .ok (.iload_n 3, 1) := by decide +kernel
theorem dX5_outBy_115 : decode cX5_outBy 115 = .ok (.invokevirtual 193, 3) := by decide +kernel
theorem dX5_outBy_118 : decode cX5_outBy 118 = .ok (.iload 5, 2) := by decide +kernel
theorem dX5_outBy_120 : decode cX5_outBy 120 = .ok (.isub, 1) := by decide +kernel
theorem dX5_outBy_121 : decode cX5_outBy 121 = .ok (.ireturn, 1) := by decide +kernel
theorem dX5_jamIn_0 : decode cX5_jamIn 0 = .ok (.iload_n 1, 1) := by decide +kernel
theorem dX5_jamIn_1 : decode cX5_jamIn 1 = .ok (.invokestatic 238, 3) := by decide +kernel
theorem dX5_jamIn_4 : decode cX5_jamIn 4 = .ok (.ifCond .ne 13, 3) := by decide +kernel
theorem dX5_jamIn_7 : decode cX5_jamIn 7 = .ok (.new 51, 3) := by decide +kernel
theorem dX5_jamIn_10 : decode cX5_jamIn 10 = .ok (.dup, 1) := by decide +kernel
theorem dX5_jamIn_11 : decode cX5_jamIn 11 = .ok (.ldc 241, 2) := by decide +kernel
theorem dX5_jamIn_13 : decode cX5_jamIn 13 = .ok (.invokespecial 55, 3) := by decide +kernel
theorem dX5_jamIn_16 : decode cX5_jamIn 16 = .ok (.athrow, 1) := by decide +kernel
theorem dX5_jamIn_17 : decode cX5_jamIn 17 = .ok (.aload_n 0, 1) := by decide +kernel
theorem dX5_jamIn_18 : decode cX5_jamIn 18 = .ok (.invokevirtual 243, 3) := by decide +kernel
theorem dX5_jamIn_21 : decode cX5_jamIn 21 = .ok (.aload_n 0, 1) := by decide +kernel
theorem dX5_jamIn_22 : decode cX5_jamIn 22 = .ok (.getfield 44, 3) := by decide +kernel
theorem dX5_jamIn_25 : decode cX5_jamIn 25 = .ok (.iload_n 1, 1) := by decide +kernel
theorem dX5_jamIn_26 : decode cX5_jamIn 26 = .ok (.invokevirtual 251, 3) := by decide +kernel
theorem dX5_jamIn_29 : decode cX5_jamIn 29 = .ok (.ireturn, 1) := by decide +kernel
theorem dX5_farWith_0 : decode cX5_farWith 0 = .ok (.aload_n 0, 1) := by decide +kernel
theorem dX5_farWith_1 : decode cX5_farWith 1 = .ok (.getfield 10, 3) := by decide +kernel
theorem dX5_farWith_4 : decode cX5_farWith 4 = .ok (.iload_n 2, 1) := by decide +kernel
theorem dX5_farWith_5 : decode cX5_farWith 5 = .ok (.iload_n 3, 1) := by decide +kernel
theorem dX5_farWith_6 : decode cX5_farWith 6 = .ok (.invokevirtual 62, 3) := by decide +kernel
theorem dX5_farWith_9 : decode cX5_farWith 9 = .ok (.istore 4, 2) := by decide +kernel
theorem dX5_farWith_11 : decode cX5_farWith 11 = .ok (.iload_n 1, 1) := by decide +kernel
theorem dX5_farWith_12 : decode cX5_farWith 12 = .ok (.invokestatic 99, 3) := by decide +kernel
theorem dX5_farWith_15 : decode cX5_farWith 15 = .ok (.ifCond .eq 9, 3) := by decide +kernel
theorem dX5_farWith_18 : decode cX5_farWith 18 = .ok (.iload 4, 2) := by decide +kernel
theorem dX5_farWith_20 : decode cX5_farWith 20 = .ok (.iconst (-1), 1) := by decide +kernel
theorem dX5_farWith_21 : decode cX5_farWith 21 = .ok (.if_icmp .ne 13, 3) := by decide +kernel
theorem dX5_farWith_24 : decode cX5_farWith 24 = .ok (.new 66, 3) := by decide +kernel
theorem dX5_farWith_27 : decode cX5_farWith 27 = .ok (.dup, 1) := by decide +kernel
theorem dX5_farWith_28 : decode cX5_farWith 28 = .ok (.ldc 103, 2) := by decide +kernel
theorem dX5_farWith_30 : decode cX5_farWith 30 = .ok (.invokespecial 70, 3) := by decide +kernel
theorem dX5_farWith_33 : decode cX5_farWith 33 = .ok (.athrow, 1) := by decide +kernel
theorem dX5_farWith_34 : decode cX5_farWith 34 = .ok (.aload_n 0, 1) := by decide +kernel
theorem dX5_farWith_35 : decode cX5_farWith 35 = .ok (.getfield 41, 3) := by decide +kernel
theorem dX5_farWith_38 : decode cX5_farWith 38 = .ok (.aload_n 0, 1) := by decide +kernel
theorem dX5_farWith_39 : decode cX5_farWith 39 = .ok (.getfield 21, 3) := by decide +kernel
theorem dX5_farWith_42 : decode cX5_farWith 42 = .ok (.invokevirtual 254, 3) := by decide +kernel
theorem dX5_farWith_45 : decode cX5_farWith 45 = .ok (.aload_n 0, 1) := by decide +kernel
theorem dX5_farWith_46 : decode cX5_farWith 46 = .ok (.getfield 41, 3) := by decide +kernel
theorem dX5_farWith_49 : decode cX5_farWith 49 = .ok (.iload 4, 2) := by decide +kernel
theorem dX5_farWith_51 : decode cX5_farWith 51 = .ok (.aload_n 0, 1) := by decide +kernel
theorem dX5_farWith_52 : decode cX5_farWith 52 = .ok (.getfield 21, 3) := by decide +kernel
theorem dX5_farWith_55 : decode cX5_farWith 55 = .ok (.iload 4, 2) := by decide +kernel
theorem dX5_farWith_57 : decode cX5_farWith 57 = .ok (.invokevirtual 156, 3) := by decide +kernel
theorem dX5_farWith_60 : decode cX5_farWith 60 = .ok (.invokevirtual 88, 3) := by decide +kernel
theorem dX5_farWith_63 : decode cX5_farWith 63 = .ok (.aload_n 0, 1) := by decide +kernel
theorem dX5_farWith_64 : decode cX5_farWith 64 = .ok (.getfield 41, 3) := by decide +kernel
theorem dX5_farWith_67 : decode cX5_farWith 67 = .ok (.iload_n 1, 1) := by decide +kernel
theorem dX5_farWith_68 : decode cX5_farWith 68 = .ok (.invokevirtual 123, 3) := by decide +kernel
theorem dX5_farWith_71 : decode cX5_farWith 71 = .ok (.aload_n 0, 1) := by decide +kernel
theorem dX5_farWith_72 : decode cX5_farWith 72 = .ok (.iload_n 1, 1) := by decide +kernel
theorem dX5_farWith_73 : decode cX5_farWith 73 = .ok (.iload 4, 2) := by decide +kernel
theorem dX5_farWith_75 : decode cX5_farWith 75 = .ok (.invokevirtual 258, 3) := by decide +kernel
theorem dX5_farWith_78 : decode cX5_farWith 78 = .ok (.ireturn, 1) := by decide +kernel
theorem dX5_digest_0 : decode cX5_digest 0 = .ok (.aload_n 0, 1) := by decide +kernel
theorem dX5_digest_1 : decode cX5_digest 1 = .ok (.getfield 37, 3) := by decide +kernel
theorem dX5_digest_4 : decode cX5_digest 4 = .ok (.aload_n 0, 1) := by decide +kernel
theorem dX5_digest_5 : decode cX5_digest 5 = .ok (.getfield 30, 3) := by decide +kernel
theorem dX5_digest_8 : decode cX5_digest 8 = .ok (.invokevirtual 201, 3) := by decide +kernel
theorem dX5_digest_11 : decode cX5_digest 11 = .ok (.ldc2_w 261, 3) := by decide +kernel
theorem dX5_digest_14 : decode cX5_digest 14 = .ok (.aload_n 0, 1) := by decide +kernel
theorem dX5_digest_15 : decode cX5_digest 15 = .ok (.getfield 30, 3) := by decide +kernel
theorem dX5_digest_18 : decode cX5_digest 18 = .ok (.getfield 196, 3) := by decide +kernel
theorem dX5_digest_21 : decode cX5_digest 21 = .ok (.invokestatic 263, 3) := by decide +kernel
theorem dX5_digest_24 : decode cX5_digest 24 = .ok (.lstore_n 1, 1) := by decide +kernel
theorem dX5_digest_25 : decode cX5_digest 25 = .ok (.iconst 0, 1) := by decide +kernel
theorem dX5_digest_26 : decode cX5_digest 26 = .ok (.istore_n 3, 1) := by decide +kernel
theorem dX5_digest_27 : decode cX5_digest 27 = .ok (.iload_n 3, 1) := by decide +kernel
theorem dX5_digest_28 : decode cX5_digest 28 = .ok (.bipush 8, 2) := by decide +kernel
theorem dX5_digest_30 : decode cX5_digest 30 = .ok (.if_icmp .gt 19, 3) := by decide +kernel
theorem dX5_digest_33 : decode cX5_digest 33 = .ok (.lload_n 1, 1) := by decide +kernel
theorem dX5_digest_34 : decode cX5_digest 34 = .ok (.aload_n 0, 1) := by decide +kernel
theorem dX5_digest_35 : decode cX5_digest 35 = .ok (.iload_n 3, 1) := by decide +kernel
theorem dX5_digest_36 : decode cX5_digest 36 = .ok (.invokevirtual 205, 3) := by decide +kernel
theorem dX5_digest_39 : decode cX5_digest 39 = .ok (.invokestatic 263, 3) := by decide +kernel
theorem dX5_digest_42 : decode cX5_digest 42 = .ok (.lstore_n 1, 1) := by decide +kernel
theorem dX5_digest_43 : decode cX5_digest 43 = .ok (.iinc 3 1, 3) := by decide +kernel
theorem dX5_digest_46 : decode cX5_digest 46 = .ok (.goto (-19), 3) := by decide +kernel
theorem dX5_digest_49 : decode cX5_digest 49 = .ok (.iconst 0, 1) := by decide +kernel
theorem dX5_digest_50 : decode cX5_digest 50 = .ok (.istore_n 3, 1) := by decide +kernel
theorem dX5_digest_51 : decode cX5_digest 51 = .ok (.iload_n 3, 1) := by decide +kernel
theorem dX5_digest_52 : decode cX5_digest 52 = .ok (.iconst 4, 1) := by decide +kernel
theorem dX5_digest_53 : decode cX5_digest 53 = .ok (.if_icmp .ge 22, 3) := by decide +kernel
theorem dX5_digest_56 : decode cX5_digest 56 = .ok (.lload_n 1, 1) := by decide +kernel
theorem dX5_digest_57 : decode cX5_digest 57 = .ok (.aload_n 0, 1) := by decide +kernel
theorem dX5_digest_58 : decode cX5_digest 58 = .ok (.getfield 21, 3) := by decide +kernel
theorem dX5_digest_61 : decode cX5_digest 61 = .ok (.iload_n 3, 1) := by decide +kernel
theorem dX5_digest_62 : decode cX5_digest 62 = .ok (.invokevirtual 148, 3) := by decide +kernel
theorem dX5_digest_65 : decode cX5_digest 65 = .ok (.invokestatic 263, 3) := by decide +kernel
theorem dX5_digest_68 : decode cX5_digest 68 = .ok (.lstore_n 1, 1) := by decide +kernel
theorem dX5_digest_69 : decode cX5_digest 69 = .ok (.iinc 3 1, 3) := by decide +kernel
theorem dX5_digest_72 : decode cX5_digest 72 = .ok (.goto (-21), 3) := by decide +kernel
theorem dX5_digest_75 : decode cX5_digest 75 = .ok (.iconst 0, 1) := by decide +kernel
theorem dX5_digest_76 : decode cX5_digest 76 = .ok (.istore_n 3, 1) := by decide +kernel
theorem dX5_digest_77 : decode cX5_digest 77 = .ok (.iload_n 3, 1) := by decide +kernel
theorem dX5_digest_78 : decode cX5_digest 78 = .ok (.aload_n 0, 1) := by decide +kernel
theorem dX5_digest_79 : decode cX5_digest 79 = .ok (.getfield 30, 3) := by decide +kernel
theorem dX5_digest_82 : decode cX5_digest 82 = .ok (.getfield 163, 3) := by decide +kernel
theorem dX5_digest_85 : decode cX5_digest 85 = .ok (.if_icmp .ge 16, 3) := by decide +kernel
theorem dX5_digest_88 : decode cX5_digest 88 = .ok (.aload_n 0, 1) := by decide +kernel
theorem dX5_digest_89 : decode cX5_digest 89 = .ok (.lload_n 1, 1) := by decide +kernel
theorem dX5_digest_90 : decode cX5_digest 90 = .ok (.iload_n 3, 1) := by decide +kernel
theorem dX5_digest_91 : decode cX5_digest 91 = .ok (.invokevirtual 267, 3) := by decide +kernel
theorem dX5_digest_94 : decode cX5_digest 94 = .ok (.lstore_n 1, 1) := by decide +kernel
theorem dX5_digest_95 : decode cX5_digest 95 = .ok (.iinc 3 1, 3) := by decide +kernel
theorem dX5_digest_98 : decode cX5_digest 98 = .ok (.goto (-21), 3) := by decide +kernel
theorem dX5_digest_101 : decode cX5_digest 101 = .ok (.iconst 0, 1) := by decide +kernel
theorem dX5_digest_102 : decode cX5_digest 102 = .ok (.istore_n 3, 1) := by decide +kernel
theorem dX5_digest_103 : decode cX5_digest 103 = .ok (.iload_n 3, 1) := by decide +kernel
theorem dX5_digest_104 : decode cX5_digest 104 = .ok (.aload_n 0, 1) := by decide +kernel
theorem dX5_digest_105 : decode cX5_digest 105 = .ok (.getfield 10, 3) := by decide +kernel
theorem dX5_digest_108 : decode cX5_digest 108 = .ok (.getfield 58, 3) := by decide +kernel
theorem dX5_digest_111 : decode cX5_digest 111 = .ok (.if_icmp .ge 16, 3) := by decide +kernel
theorem dX5_digest_114 : decode cX5_digest 114 = .ok (.aload_n 0, 1) := by decide +kernel
theorem dX5_digest_115 : decode cX5_digest 115 = .ok (.lload_n 1, 1) := by decide +kernel
theorem dX5_digest_116 : decode cX5_digest 116 = .ok (.iload_n 3, 1) := by decide +kernel
theorem dX5_digest_117 : decode cX5_digest 117 = .ok (.invokevirtual 270, 3) := by decide +kernel
theorem dX5_digest_120 : decode cX5_digest 120 = .ok (.lstore_n 1, 1) := by decide +kernel
theorem dX5_digest_121 : decode cX5_digest 121 = .ok (.iinc 3 1, 3) := by decide +kernel
theorem dX5_digest_124 : decode cX5_digest 124 = .ok (.goto (-21), 3) := by decide +kernel
theorem dX5_digest_127 : decode cX5_digest 127 = .ok (.lload_n 1, 1) := by decide +kernel
theorem dX5_digest_128 : decode cX5_digest 128 = .ok (.lreturn, 1) := by decide +kernel
theorem dX5_makeNew_0 : decode cX5_makeNew 0 = .ok (.aload_n 0, 1) := by decide +kernel
theorem dX5_makeNew_1 : decode cX5_makeNew 1 = .ok (.getfield 10, 3) := by decide +kernel
theorem dX5_makeNew_4 : decode cX5_makeNew 4 = .ok (.iload_n 1, 1) := by decide +kernel
theorem dX5_makeNew_5 : decode cX5_makeNew 5 = .ok (.iload_n 2, 1) := by decide +kernel
theorem dX5_makeNew_6 : decode cX5_makeNew 6 = .ok (.invokevirtual 273, 3) := by decide +kernel
theorem dX5_makeNew_9 : decode cX5_makeNew 9 = .ok (.aload_n 0, 1) := by decide +kernel
theorem dX5_makeNew_10 : decode cX5_makeNew 10 = .ok (.getfield 21, 3) := by decide +kernel
theorem dX5_makeNew_13 : decode cX5_makeNew 13 = .ok (.invokevirtual 276, 3) := by decide +kernel
theorem dX5_makeNew_16 : decode cX5_makeNew 16 = .ok (.aload_n 0, 1) := by decide +kernel
theorem dX5_makeNew_17 : decode cX5_makeNew 17 = .ok (.getfield 30, 3) := by decide +kernel
theorem dX5_makeNew_20 : decode cX5_makeNew 20 = .ok (.invokevirtual 279, 3) := by decide +kernel
theorem dX5_makeNew_23 : decode cX5_makeNew 23 = .ok (.return_, 1) := by decide +kernel
theorem dX5_copyToTrial_0 : decode cX5_copyToTrial 0 = .ok (.aload_n 0, 1) := by decide +kernel
theorem dX5_copyToTrial_1 : decode cX5_copyToTrial 1 = .ok (.getfield 41, 3) := by decide +kernel
theorem dX5_copyToTrial_4 : decode cX5_copyToTrial 4 = .ok (.aload_n 0, 1) := by decide +kernel
theorem dX5_copyToTrial_5 : decode cX5_copyToTrial 5 = .ok (.getfield 21, 3) := by decide +kernel
theorem dX5_copyToTrial_8 : decode cX5_copyToTrial 8 = .ok (.invokevirtual 254, 3) := by decide +kernel
theorem dX5_copyToTrial_11 : decode cX5_copyToTrial 11 = .ok (.aload_n 0, 1) := by decide +kernel
theorem dX5_copyToTrial_12 : decode cX5_copyToTrial 12 = .ok (.getfield 44, 3) := by decide +kernel
theorem dX5_copyToTrial_15 : decode cX5_copyToTrial 15 = .ok (.aload_n 0, 1) := by decide +kernel
theorem dX5_copyToTrial_16 : decode cX5_copyToTrial 16 = .ok (.getfield 30, 3) := by decide +kernel
theorem dX5_copyToTrial_19 : decode cX5_copyToTrial 19 = .ok (.invokevirtual 280, 3) := by decide +kernel
theorem dX5_copyToTrial_22 : decode cX5_copyToTrial 22 = .ok (.return_, 1) := by decide +kernel
theorem dX5_fieldFigure_0 : decode cX5_fieldFigure 0 = .ok (.iload_n 2, 1) := by decide +kernel
theorem dX5_fieldFigure_1 : decode cX5_fieldFigure 1 = .ok (.tableswitch 62 0 2 #[27, 44, 53], 27) := by decide +kernel
theorem dX5_fieldFigure_28 : decode cX5_fieldFigure 28 = .ok (.aload_n 0, 1) := by decide +kernel
theorem dX5_fieldFigure_29 : decode cX5_fieldFigure 29 = .ok (.getfield 21, 3) := by decide +kernel
theorem dX5_fieldFigure_32 : decode cX5_fieldFigure 32 = .ok (.iload_n 1, 1) := by decide +kernel
theorem dX5_fieldFigure_33 : decode cX5_fieldFigure 33 = .ok (.invokevirtual 156, 3) := by decide +kernel
theorem dX5_fieldFigure_36 : decode cX5_fieldFigure 36 = .ok (.ifCond .eq 7, 3) := by decide +kernel
theorem dX5_fieldFigure_39 : decode cX5_fieldFigure 39 = .ok (.iconst 0, 1) := by decide +kernel
theorem dX5_fieldFigure_40 : decode cX5_fieldFigure 40 = .ok (.goto 4, 3) := by decide +kernel
theorem dX5_fieldFigure_43 : decode cX5_fieldFigure 43 = .ok (.iconst 1, 1) := by decide +kernel
theorem dX5_fieldFigure_44 : decode cX5_fieldFigure 44 = .ok (.ireturn, 1) := by decide +kernel
theorem dX5_fieldFigure_45 : decode cX5_fieldFigure 45 = .ok (.aload_n 0, 1) := by decide +kernel
theorem dX5_fieldFigure_46 : decode cX5_fieldFigure 46 = .ok (.getfield 30, 3) := by decide +kernel
theorem dX5_fieldFigure_49 : decode cX5_fieldFigure 49 = .ok (.iload_n 1, 1) := by decide +kernel
theorem dX5_fieldFigure_50 : decode cX5_fieldFigure 50 = .ok (.invokevirtual 105, 3) := by decide +kernel
theorem dX5_fieldFigure_53 : decode cX5_fieldFigure 53 = .ok (.ireturn, 1) := by decide +kernel
theorem dX5_fieldFigure_54 : decode cX5_fieldFigure 54 = .ok (.aload_n 0, 1) := by decide +kernel
theorem dX5_fieldFigure_55 : decode cX5_fieldFigure 55 = .ok (.getfield 30, 3) := by decide +kernel
theorem dX5_fieldFigure_58 : decode cX5_fieldFigure 58 = .ok (.iload_n 1, 1) := by decide +kernel
theorem dX5_fieldFigure_59 : decode cX5_fieldFigure 59 = .ok (.invokevirtual 282, 3) := by decide +kernel
theorem dX5_fieldFigure_62 : decode cX5_fieldFigure 62 = .ok (.ireturn, 1) := by decide +kernel
theorem dX5_fieldFigure_63 : decode cX5_fieldFigure 63 = .ok (.aload_n 0, 1) := by decide +kernel
theorem dX5_fieldFigure_64 : decode cX5_fieldFigure 64 = .ok (.getfield 30, 3) := by decide +kernel
theorem dX5_fieldFigure_67 : decode cX5_fieldFigure 67 = .ok (.iload_n 1, 1) := by decide +kernel
theorem dX5_fieldFigure_68 : decode cX5_fieldFigure 68 = .ok (.invokevirtual 285, 3) := by decide +kernel
theorem dX5_fieldFigure_71 : decode cX5_fieldFigure 71 = .ok (.ireturn, 1) := by decide +kernel
theorem dX5_crowdFigure_0 : decode cX5_crowdFigure 0 = .ok (.iload_n 1, 1) := by decide +kernel
theorem dX5_crowdFigure_1 : decode cX5_crowdFigure 1 = .ok (.tableswitch 119 0 7 #[47, 55, 63, 71, 79, 87, 95, 104], 47) := by decide +kernel
theorem dX5_crowdFigure_48 : decode cX5_crowdFigure 48 = .ok (.aload_n 0, 1) := by decide +kernel
theorem dX5_crowdFigure_49 : decode cX5_crowdFigure 49 = .ok (.getfield 30, 3) := by decide +kernel
theorem dX5_crowdFigure_52 : decode cX5_crowdFigure 52 = .ok (.getfield 163, 3) := by decide +kernel
theorem dX5_crowdFigure_55 : decode cX5_crowdFigure 55 = .ok (.ireturn, 1) := by decide +kernel
theorem dX5_crowdFigure_56 : decode cX5_crowdFigure 56 = .ok (.aload_n 0, 1) := by decide +kernel
theorem dX5_crowdFigure_57 : decode cX5_crowdFigure 57 = .ok (.getfield 30, 3) := by decide +kernel
theorem dX5_crowdFigure_60 : decode cX5_crowdFigure 60 = .ok (.invokevirtual 190, 3) := by decide +kernel
theorem dX5_crowdFigure_63 : decode cX5_crowdFigure 63 = .ok (.ireturn, 1) := by decide +kernel
theorem dX5_crowdFigure_64 : decode cX5_crowdFigure 64 = .ok (.aload_n 0, 1) := by decide +kernel
theorem dX5_crowdFigure_65 : decode cX5_crowdFigure 65 = .ok (.getfield 30, 3) := by decide +kernel
theorem dX5_crowdFigure_68 : decode cX5_crowdFigure 68 = .ok (.invokevirtual 288, 3) := by decide +kernel
theorem dX5_crowdFigure_71 : decode cX5_crowdFigure 71 = .ok (.ireturn, 1) := by decide +kernel
theorem dX5_crowdFigure_72 : decode cX5_crowdFigure 72 = .ok (.aload_n 0, 1) := by decide +kernel
theorem dX5_crowdFigure_73 : decode cX5_crowdFigure 73 = .ok (.getfield 37, 3) := by decide +kernel
theorem dX5_crowdFigure_76 : decode cX5_crowdFigure 76 = .ok (.getfield 291, 3) := by decide +kernel
theorem dX5_crowdFigure_79 : decode cX5_crowdFigure 79 = .ok (.ireturn, 1) := by decide +kernel
theorem dX5_crowdFigure_80 : decode cX5_crowdFigure 80 = .ok (.aload_n 0, 1) := by decide +kernel
theorem dX5_crowdFigure_81 : decode cX5_crowdFigure 81 = .ok (.getfield 37, 3) := by decide +kernel
theorem dX5_crowdFigure_84 : decode cX5_crowdFigure 84 = .ok (.getfield 294, 3) := by decide +kernel
theorem dX5_crowdFigure_87 : decode cX5_crowdFigure 87 = .ok (.ireturn, 1) := by decide +kernel
theorem dX5_crowdFigure_88 : decode cX5_crowdFigure 88 = .ok (.aload_n 0, 1) := by decide +kernel
theorem dX5_crowdFigure_89 : decode cX5_crowdFigure 89 = .ok (.getfield 37, 3) := by decide +kernel
theorem dX5_crowdFigure_92 : decode cX5_crowdFigure 92 = .ok (.invokevirtual 295, 3) := by decide +kernel
theorem dX5_crowdFigure_95 : decode cX5_crowdFigure 95 = .ok (.ireturn, 1) := by decide +kernel
theorem dX5_crowdFigure_96 : decode cX5_crowdFigure 96 = .ok (.aload_n 0, 1) := by decide +kernel
theorem dX5_crowdFigure_97 : decode cX5_crowdFigure 97 = .ok (.getfield 30, 3) := by decide +kernel
theorem dX5_crowdFigure_100 : decode cX5_crowdFigure 100 = .ok (.iconst 0, 1) := by decide +kernel
theorem dX5_crowdFigure_101 : decode cX5_crowdFigure 101 = .ok (.invokevirtual 234, 3) := by decide +kernel
theorem dX5_crowdFigure_104 : decode cX5_crowdFigure 104 = .ok (.ireturn, 1) := by decide +kernel
theorem dX5_crowdFigure_105 : decode cX5_crowdFigure 105 = .ok (.aload_n 0, 1) := by decide +kernel
theorem dX5_crowdFigure_106 : decode cX5_crowdFigure 106 = .ok (.getfield 30, 3) := by decide +kernel
theorem dX5_crowdFigure_109 : decode cX5_crowdFigure 109 = .ok (.aload_n 0, 1) := by decide +kernel
theorem dX5_crowdFigure_110 : decode cX5_crowdFigure 110 = .ok (.getfield 30, 3) := by decide +kernel
theorem dX5_crowdFigure_113 : decode cX5_crowdFigure 113 = .ok (.invokevirtual 298, 3) := by decide +kernel
theorem dX5_crowdFigure_116 : decode cX5_crowdFigure 116 = .ok (.invokevirtual 282, 3) := by decide +kernel
theorem dX5_crowdFigure_119 : decode cX5_crowdFigure 119 = .ok (.ireturn, 1) := by decide +kernel
theorem dX5_crowdFigure_120 : decode cX5_crowdFigure 120 = .ok (.aload_n 0, 1) := by decide +kernel
theorem dX5_crowdFigure_121 : decode cX5_crowdFigure 121 = .ok (.getfield 30, 3) := by decide +kernel
theorem dX5_crowdFigure_124 : decode cX5_crowdFigure 124 = .ok (.invokevirtual 298, 3) := by decide +kernel
theorem dX5_crowdFigure_127 : decode cX5_crowdFigure 127 = .ok (.ireturn, 1) := by decide +kernel
theorem dX5_countOtherwiseFar_0 : decode cX5_countOtherwiseFar 0 = .ok (.iconst 0, 1) := by decide +kernel
theorem dX5_countOtherwiseFar_1 : decode cX5_countOtherwiseFar 1 = .ok (.istore_n 3, 1) := by decide +kernel
theorem dX5_countOtherwiseFar_2 : decode cX5_countOtherwiseFar 2 = .ok (.iconst 0, 1) := by decide +kernel
theorem dX5_countOtherwiseFar_3 : decode cX5_countOtherwiseFar 3 = .ok (.istore 4, 2) := by decide +kernel
theorem dX5_countOtherwiseFar_5 : decode cX5_countOtherwiseFar 5 = .ok (.iload 4, 2) := by decide +kernel
theorem dX5_countOtherwiseFar_7 : decode cX5_countOtherwiseFar 7 = .ok (.aload_n 0, 1) := by decide +kernel
theorem dX5_countOtherwiseFar_8 : decode cX5_countOtherwiseFar 8 = .ok (.getfield 10, 3) := by decide +kernel
theorem dX5_countOtherwiseFar_11 : decode cX5_countOtherwiseFar 11 = .ok (.getfield 58, 3) := by decide +kernel
theorem dX5_countOtherwiseFar_14 : decode cX5_countOtherwiseFar 14 = .ok (.if_icmp .ge 65, 3) := by decide +kernel
theorem dX5_countOtherwiseFar_17 : decode cX5_countOtherwiseFar 17 = .ok (.iload 4, 2) := by decide +kernel
theorem dX5_countOtherwiseFar_19 : decode cX5_countOtherwiseFar 19 = .ok (.iload_n 2, 1) := by decide +kernel
theorem dX5_countOtherwiseFar_20 : decode cX5_countOtherwiseFar 20 = .ok (.if_icmp .eq 19, 3) := by decide +kernel
theorem dX5_countOtherwiseFar_23 : decode cX5_countOtherwiseFar 23 = .ok (.aload_n 0, 1) := by decide +kernel
theorem dX5_countOtherwiseFar_24 : decode cX5_countOtherwiseFar 24 = .ok (.getfield 21, 3) := by decide +kernel
theorem dX5_countOtherwiseFar_27 : decode cX5_countOtherwiseFar 27 = .ok (.iload 4, 2) := by decide +kernel
theorem dX5_countOtherwiseFar_29 : decode cX5_countOtherwiseFar 29 = .ok (.invokevirtual 156, 3) := by decide +kernel
theorem dX5_countOtherwiseFar_32 : decode cX5_countOtherwiseFar 32 = .ok (.ifCond .eq 7, 3) := by decide +kernel
theorem dX5_countOtherwiseFar_35 : decode cX5_countOtherwiseFar 35 = .ok (.iconst 1, 1) := by decide +kernel
theorem dX5_countOtherwiseFar_36 : decode cX5_countOtherwiseFar 36 = .ok (.goto 4, 3) := by decide +kernel
theorem dX5_countOtherwiseFar_39 : decode cX5_countOtherwiseFar 39 = .ok (.iconst 0, 1) := by decide +kernel
theorem dX5_countOtherwiseFar_40 : decode cX5_countOtherwiseFar 40 = .ok (.istore 5, 2) := by decide +kernel
theorem dX5_countOtherwiseFar_42 : decode cX5_countOtherwiseFar 42 = .ok (.iload 5, 2) := by decide +kernel
theorem dX5_countOtherwiseFar_44 : decode cX5_countOtherwiseFar 44 = .ok (.ifCond .eq 29, 3) := by decide +kernel
theorem dX5_countOtherwiseFar_47 : decode cX5_countOtherwiseFar 47 = .ok (.aload_n 0, 1) := by decide +kernel
theorem dX5_countOtherwiseFar_48 : decode cX5_countOtherwiseFar 48 = .ok (.getfield 21, 3) := by decide +kernel
theorem dX5_countOtherwiseFar_51 : decode cX5_countOtherwiseFar 51 = .ok (.iload_n 1, 1) := by decide +kernel
theorem dX5_countOtherwiseFar_52 : decode cX5_countOtherwiseFar 52 = .ok (.iload 4, 2) := by decide +kernel
theorem dX5_countOtherwiseFar_54 : decode cX5_countOtherwiseFar 54 = .ok (.invokevirtual 143, 3) := by decide +kernel
theorem dX5_countOtherwiseFar_57 : decode cX5_countOtherwiseFar 57 = .ok (.aload_n 0, 1) := by decide +kernel
theorem dX5_countOtherwiseFar_58 : decode cX5_countOtherwiseFar 58 = .ok (.getfield 41, 3) := by decide +kernel
theorem dX5_countOtherwiseFar_61 : decode cX5_countOtherwiseFar 61 = .ok (.iload_n 1, 1) := by decide +kernel
theorem dX5_countOtherwiseFar_62 : decode cX5_countOtherwiseFar 62 = .ok (.iload 4, 2) := by decide +kernel
theorem dX5_countOtherwiseFar_64 : decode cX5_countOtherwiseFar 64 = .ok (.invokevirtual 143, 3) := by decide +kernel
theorem dX5_countOtherwiseFar_67 : decode cX5_countOtherwiseFar 67 = .ok (.if_icmp .eq 6, 3) := by decide +kernel
theorem dX5_countOtherwiseFar_70 : decode cX5_countOtherwiseFar 70 = .ok (.iinc 3 1, 3) := by decide +kernel
theorem dX5_countOtherwiseFar_73 : decode cX5_countOtherwiseFar 73 = .ok (.iinc 4 1, 3) := by decide +kernel
theorem dX5_countOtherwiseFar_76 : decode cX5_countOtherwiseFar 76 = .ok (.goto (-71), 3) := by decide +kernel
theorem dX5_countOtherwiseFar_79 : decode cX5_countOtherwiseFar 79 = .ok (.iload_n 3, 1) := by decide +kernel
theorem dX5_countOtherwiseFar_80 : decode cX5_countOtherwiseFar 80 = .ok (.ireturn, 1) := by decide +kernel
theorem dX5_mixWalker_0 : decode cX5_mixWalker 0 = .ok (.aload_n 0, 1) := by decide +kernel
theorem dX5_mixWalker_1 : decode cX5_mixWalker 1 = .ok (.getfield 30, 3) := by decide +kernel
theorem dX5_mixWalker_4 : decode cX5_mixWalker 4 = .ok (.iload_n 3, 1) := by decide +kernel
theorem dX5_mixWalker_5 : decode cX5_mixWalker 5 = .ok (.invokevirtual 109, 3) := by decide +kernel
theorem dX5_mixWalker_8 : decode cX5_mixWalker 8 = .ok (.astore 4, 2) := by decide +kernel
theorem dX5_mixWalker_10 : decode cX5_mixWalker 10 = .ok (.aload 4, 2) := by decide +kernel
theorem dX5_mixWalker_12 : decode cX5_mixWalker 12 = .ok (.ifnonnull 5, 3) := by decide +kernel
theorem dX5_mixWalker_15 : decode cX5_mixWalker 15 = .ok (.lload_n 1, 1) := by decide +kernel
theorem dX5_mixWalker_16 : decode cX5_mixWalker 16 = .ok (.lreturn, 1) := by decide +kernel
theorem dX5_mixWalker_17 : decode cX5_mixWalker 17 = .ok (.lload_n 1, 1) := by decide +kernel
theorem dX5_mixWalker_18 : decode cX5_mixWalker 18 = .ok (.lstore 5, 2) := by decide +kernel
theorem dX5_mixWalker_20 : decode cX5_mixWalker 20 = .ok (.iconst 0, 1) := by decide +kernel
theorem dX5_mixWalker_21 : decode cX5_mixWalker 21 = .ok (.istore 7, 2) := by decide +kernel
theorem dX5_mixWalker_23 : decode cX5_mixWalker 23 = .ok (.iload 7, 2) := by decide +kernel
theorem dX5_mixWalker_25 : decode cX5_mixWalker 25 = .ok (.bipush 8, 2) := by decide +kernel
theorem dX5_mixWalker_27 : decode cX5_mixWalker 27 = .ok (.if_icmp .gt 27, 3) := by decide +kernel
theorem dX5_mixWalker_30 : decode cX5_mixWalker 30 = .ok (.lload 5, 2) := by decide +kernel
theorem dX5_mixWalker_32 : decode cX5_mixWalker 32 = .ok (.aload_n 0, 1) := by decide +kernel
theorem dX5_mixWalker_33 : decode cX5_mixWalker 33 = .ok (.getfield 30, 3) := by decide +kernel
theorem dX5_mixWalker_36 : decode cX5_mixWalker 36 = .ok (.aload 4, 2) := by decide +kernel
theorem dX5_mixWalker_38 : decode cX5_mixWalker 38 = .ok (.iload 7, 2) := by decide +kernel
theorem dX5_mixWalker_40 : decode cX5_mixWalker 40 = .ok (.invokevirtual 210, 3) := by decide +kernel
theorem dX5_mixWalker_43 : decode cX5_mixWalker 43 = .ok (.invokestatic 263, 3) := by decide +kernel
theorem dX5_mixWalker_46 : decode cX5_mixWalker 46 = .ok (.lstore 5, 2) := by decide +kernel
theorem dX5_mixWalker_48 : decode cX5_mixWalker 48 = .ok (.iinc 7 1, 3) := by decide +kernel
theorem dX5_mixWalker_51 : decode cX5_mixWalker 51 = .ok (.goto (-28), 3) := by decide +kernel
theorem dX5_mixWalker_54 : decode cX5_mixWalker 54 = .ok (.lload 5, 2) := by decide +kernel
theorem dX5_mixWalker_56 : decode cX5_mixWalker 56 = .ok (.aload_n 0, 1) := by decide +kernel
theorem dX5_mixWalker_57 : decode cX5_mixWalker 57 = .ok (.getfield 37, 3) := by decide +kernel
theorem dX5_mixWalker_60 : decode cX5_mixWalker 60 = .ok (.iload_n 3, 1) := by decide +kernel
theorem dX5_mixWalker_61 : decode cX5_mixWalker 61 = .ok (.invokevirtual 231, 3) := by decide +kernel
theorem dX5_mixWalker_64 : decode cX5_mixWalker 64 = .ok (.invokestatic 263, 3) := by decide +kernel
theorem dX5_mixWalker_67 : decode cX5_mixWalker 67 = .ok (.lstore 5, 2) := by decide +kernel
theorem dX5_mixWalker_69 : decode cX5_mixWalker 69 = .ok (.aload 4, 2) := by decide +kernel
theorem dX5_mixWalker_71 : decode cX5_mixWalker 71 = .ok (.invokevirtual 176, 3) := by decide +kernel
theorem dX5_mixWalker_74 : decode cX5_mixWalker 74 = .ok (.ifCond .ne 36, 3) := by decide +kernel
theorem dX5_mixWalker_77 : decode cX5_mixWalker 77 = .ok (.iconst 0, 1) := by decide +kernel
theorem dX5_mixWalker_78 : decode cX5_mixWalker 78 = .ok (.istore 7, 2) := by decide +kernel
theorem dX5_mixWalker_80 : decode cX5_mixWalker 80 = .ok (.iload 7, 2) := by decide +kernel
theorem dX5_mixWalker_82 : decode cX5_mixWalker 82 = .ok (.iconst 4, 1) := by decide +kernel
theorem dX5_mixWalker_83 : decode cX5_mixWalker 83 = .ok (.if_icmp .gt 27, 3) := by decide +kernel
theorem dX5_mixWalker_86 : decode cX5_mixWalker 86 = .ok (.lload 5, 2) := by decide +kernel
theorem dX5_mixWalker_88 : decode cX5_mixWalker 88 = .ok (.aload_n 0, 1) := by decide +kernel
theorem dX5_mixWalker_89 : decode cX5_mixWalker 89 = .ok (.getfield 30, 3) := by decide +kernel
theorem dX5_mixWalker_92 : decode cX5_mixWalker 92 = .ok (.aload 4, 2) := by decide +kernel
theorem dX5_mixWalker_94 : decode cX5_mixWalker 94 = .ok (.iload 7, 2) := by decide +kernel
theorem dX5_mixWalker_96 : decode cX5_mixWalker 96 = .ok (.invokevirtual 218, 3) := by decide +kernel
theorem dX5_mixWalker_99 : decode cX5_mixWalker 99 = .ok (.invokestatic 263, 3) := by decide +kernel
theorem dX5_mixWalker_102 : decode cX5_mixWalker 102 = .ok (.lstore 5, 2) := by decide +kernel
theorem dX5_mixWalker_104 : decode cX5_mixWalker 104 = .ok (.iinc 7 1, 3) := by decide +kernel
theorem dX5_mixWalker_107 : decode cX5_mixWalker 107 = .ok (.goto (-27), 3) := by decide +kernel
theorem dX5_mixWalker_110 : decode cX5_mixWalker 110 = .ok (.lload 5, 2) := by decide +kernel
theorem dX5_mixWalker_112 : decode cX5_mixWalker 112 = .ok (.lreturn, 1) := by decide +kernel
theorem dX5_mixField_0 : decode cX5_mixField 0 = .ok (.lload_n 1, 1) := by decide +kernel
theorem dX5_mixField_1 : decode cX5_mixField 1 = .ok (.lstore 4, 2) := by decide +kernel
theorem dX5_mixField_3 : decode cX5_mixField 3 = .ok (.iconst 0, 1) := by decide +kernel
theorem dX5_mixField_4 : decode cX5_mixField 4 = .ok (.istore 6, 2) := by decide +kernel
theorem dX5_mixField_6 : decode cX5_mixField 6 = .ok (.iload 6, 2) := by decide +kernel
theorem dX5_mixField_8 : decode cX5_mixField 8 = .ok (.iconst 2, 1) := by decide +kernel
theorem dX5_mixField_9 : decode cX5_mixField 9 = .ok (.if_icmp .gt 23, 3) := by decide +kernel
theorem dX5_mixField_12 : decode cX5_mixField 12 = .ok (.lload 4, 2) := by decide +kernel
theorem dX5_mixField_14 : decode cX5_mixField 14 = .ok (.aload_n 0, 1) := by decide +kernel
theorem dX5_mixField_15 : decode cX5_mixField 15 = .ok (.iload_n 3, 1) := by decide +kernel
theorem dX5_mixField_16 : decode cX5_mixField 16 = .ok (.iload 6, 2) := by decide +kernel
theorem dX5_mixField_18 : decode cX5_mixField 18 = .ok (.invokevirtual 140, 3) := by decide +kernel
theorem dX5_mixField_21 : decode cX5_mixField 21 = .ok (.invokestatic 263, 3) := by decide +kernel
theorem dX5_mixField_24 : decode cX5_mixField 24 = .ok (.lstore 4, 2) := by decide +kernel
theorem dX5_mixField_26 : decode cX5_mixField 26 = .ok (.iinc 6 1, 3) := by decide +kernel
theorem dX5_mixField_29 : decode cX5_mixField 29 = .ok (.goto (-23), 3) := by decide +kernel
theorem dX5_mixField_32 : decode cX5_mixField 32 = .ok (.iconst 0, 1) := by decide +kernel
theorem dX5_mixField_33 : decode cX5_mixField 33 = .ok (.istore 6, 2) := by decide +kernel
theorem dX5_mixField_35 : decode cX5_mixField 35 = .ok (.iload 6, 2) := by decide +kernel
theorem dX5_mixField_37 : decode cX5_mixField 37 = .ok (.iconst 4, 1) := by decide +kernel
theorem dX5_mixField_38 : decode cX5_mixField 38 = .ok (.if_icmp .ge 26, 3) := by decide +kernel
theorem dX5_mixField_41 : decode cX5_mixField 41 = .ok (.lload 4, 2) := by decide +kernel
theorem dX5_mixField_43 : decode cX5_mixField 43 = .ok (.aload_n 0, 1) := by decide +kernel
theorem dX5_mixField_44 : decode cX5_mixField 44 = .ok (.getfield 21, 3) := by decide +kernel
theorem dX5_mixField_47 : decode cX5_mixField 47 = .ok (.iload 6, 2) := by decide +kernel
theorem dX5_mixField_49 : decode cX5_mixField 49 = .ok (.iload_n 3, 1) := by decide +kernel
theorem dX5_mixField_50 : decode cX5_mixField 50 = .ok (.invokevirtual 143, 3) := by decide +kernel
theorem dX5_mixField_53 : decode cX5_mixField 53 = .ok (.invokestatic 263, 3) := by decide +kernel
theorem dX5_mixField_56 : decode cX5_mixField 56 = .ok (.lstore 4, 2) := by decide +kernel
theorem dX5_mixField_58 : decode cX5_mixField 58 = .ok (.iinc 6 1, 3) := by decide +kernel
theorem dX5_mixField_61 : decode cX5_mixField 61 = .ok (.goto (-26), 3) := by decide +kernel
theorem dX5_mixField_64 : decode cX5_mixField 64 = .ok (.lload 4, 2) := by decide +kernel
theorem dX5_mixField_66 : decode cX5_mixField 66 = .ok (.lreturn, 1) := by decide +kernel
theorem dX5_mix_0 : decode cX5_mix 0 = .ok (.lload_n 0, 1) := by decide +kernel
theorem dX5_mix_1 : decode cX5_mix 1 = .ok (.ldc2_w 301, 3) := by decide +kernel
theorem dX5_mix_4 : decode cX5_mix 4 = .ok (.lmul, 1) := by decide +kernel
theorem dX5_mix_5 : decode cX5_mix 5 = .ok (.iload_n 2, 1) := by decide +kernel
theorem dX5_mix_6 : decode cX5_mix 6 = .ok (.i2l, 1) := by decide +kernel
theorem dX5_mix_7 : decode cX5_mix 7 = .ok (.ladd, 1) := by decide +kernel
theorem dX5_mix_8 : decode cX5_mix 8 = .ok (.lreturn, 1) := by decide +kernel
theorem dX5_isGoal_0 : decode cX5_isGoal 0 = .ok (.iload_n 0, 1) := by decide +kernel
theorem dX5_isGoal_1 : decode cX5_isGoal 1 = .ok (.ifCond .lt 12, 3) := by decide +kernel
theorem dX5_isGoal_4 : decode cX5_isGoal 4 = .ok (.iload_n 0, 1) := by decide +kernel
theorem dX5_isGoal_5 : decode cX5_isGoal 5 = .ok (.iconst 4, 1) := by decide +kernel
theorem dX5_isGoal_6 : decode cX5_isGoal 6 = .ok (.if_icmp .ge 7, 3) := by decide +kernel
theorem dX5_isGoal_9 : decode cX5_isGoal 9 = .ok (.iconst 1, 1) := by decide +kernel
theorem dX5_isGoal_10 : decode cX5_isGoal 10 = .ok (.goto 4, 3) := by decide +kernel
theorem dX5_isGoal_13 : decode cX5_isGoal 13 = .ok (.iconst 0, 1) := by decide +kernel
theorem dX5_isGoal_14 : decode cX5_isGoal 14 = .ok (.ireturn, 1) := by decide +kernel
theorem dX5_isMood_0 : decode cX5_isMood 0 = .ok (.iload_n 0, 1) := by decide +kernel
theorem dX5_isMood_1 : decode cX5_isMood 1 = .ok (.ifCond .lt 13, 3) := by decide +kernel
theorem dX5_isMood_4 : decode cX5_isMood 4 = .ok (.iload_n 0, 1) := by decide +kernel
theorem dX5_isMood_5 : decode cX5_isMood 5 = .ok (.bipush 9, 2) := by decide +kernel
theorem dX5_isMood_7 : decode cX5_isMood 7 = .ok (.if_icmp .gt 7, 3) := by decide +kernel
theorem dX5_isMood_10 : decode cX5_isMood 10 = .ok (.iconst 1, 1) := by decide +kernel
theorem dX5_isMood_11 : decode cX5_isMood 11 = .ok (.goto 4, 3) := by decide +kernel
theorem dX5_isMood_14 : decode cX5_isMood 14 = .ok (.iconst 0, 1) := by decide +kernel
theorem dX5_isMood_15 : decode cX5_isMood 15 = .ok (.ireturn, 1) := by decide +kernel
theorem dX5_isAhead_0 : decode cX5_isAhead 0 = .ok (.iload_n 0, 1) := by decide +kernel
theorem dX5_isAhead_1 : decode cX5_isAhead 1 = .ok (.iconst 1, 1) := by decide +kernel
theorem dX5_isAhead_2 : decode cX5_isAhead 2 = .ok (.if_icmp .lt 13, 3) := by decide +kernel
theorem dX5_isAhead_5 : decode cX5_isAhead 5 = .ok (.iload_n 0, 1) := by decide +kernel
theorem dX5_isAhead_6 : decode cX5_isAhead 6 = .ok (.bipush 60, 2) := by decide +kernel
theorem dX5_isAhead_8 : decode cX5_isAhead 8 = .ok (.if_icmp .gt 7, 3) := by decide +kernel
theorem dX5_isAhead_11 : decode cX5_isAhead 11 = .ok (.iconst 1, 1) := by decide +kernel
theorem dX5_isAhead_12 : decode cX5_isAhead 12 = .ok (.goto 4, 3) := by decide +kernel
theorem dX5_isAhead_15 : decode cX5_isAhead 15 = .ok (.iconst 0, 1) := by decide +kernel
theorem dX5_isAhead_16 : decode cX5_isAhead 16 = .ok (.ireturn, 1) := by decide +kernel
end
section
theorem dX6_init_0 : decode cX6_init 0 = .ok (.aload_n 0, 1) := by decide +kernel
theorem dX6_init_1 : decode cX6_init 1 = .ok (.invokespecial 1, 3) := by decide +kernel
theorem dX6_init_4 : decode cX6_init 4 = .ok (.aload_n 0, 1) := by decide +kernel
theorem dX6_init_5 : decode cX6_init 5 = .ok (.iconst 2, 1) := by decide +kernel
theorem dX6_init_6 : decode cX6_init 6 = .ok (.putfield 7, 3) := by decide +kernel
theorem dX6_init_9 : decode cX6_init 9 = .ok (.aload_n 0, 1) := by decide +kernel
theorem dX6_init_10 : decode cX6_init 10 = .ok (.iconst 3, 1) := by decide +kernel
theorem dX6_init_11 : decode cX6_init 11 = .ok (.putfield 13, 3) := by decide +kernel
theorem dX6_init_14 : decode cX6_init 14 = .ok (.aload_n 0, 1) := by decide +kernel
theorem dX6_init_15 : decode cX6_init 15 = .ok (.bipush 10, 2) := by decide +kernel
theorem dX6_init_17 : decode cX6_init 17 = .ok (.bipush 8, 2) := by decide +kernel
theorem dX6_init_19 : decode cX6_init 19 = .ok (.invokevirtual 16, 3) := by decide +kernel
theorem dX6_init_22 : decode cX6_init 22 = .ok (.return_, 1) := by decide +kernel
theorem dX6_make_0 : decode cX6_make 0 = .ok (.aload_n 0, 1) := by decide +kernel
theorem dX6_make_1 : decode cX6_make 1 = .ok (.iload_n 1, 1) := by decide +kernel
theorem dX6_make_2 : decode cX6_make 2 = .ok (.putfield 20, 3) := by decide +kernel
theorem dX6_make_5 : decode cX6_make 5 = .ok (.aload_n 0, 1) := by decide +kernel
theorem dX6_make_6 : decode cX6_make 6 = .ok (.iload_n 2, 1) := by decide +kernel
theorem dX6_make_7 : decode cX6_make 7 = .ok (.putfield 23, 3) := by decide +kernel
theorem dX6_make_10 : decode cX6_make 10 = .ok (.aload_n 0, 1) := by decide +kernel
theorem dX6_make_11 : decode cX6_make 11 = .ok (.iconst 0, 1) := by decide +kernel
theorem dX6_make_12 : decode cX6_make 12 = .ok (.putfield 26, 3) := by decide +kernel
theorem dX6_make_15 : decode cX6_make 15 = .ok (.aload_n 0, 1) := by decide +kernel
theorem dX6_make_16 : decode cX6_make 16 = .ok (.aload_n 0, 1) := by decide +kernel
theorem dX6_make_17 : decode cX6_make 17 = .ok (.getfield 20, 3) := by decide +kernel
theorem dX6_make_20 : decode cX6_make 20 = .ok (.aload_n 0, 1) := by decide +kernel
theorem dX6_make_21 : decode cX6_make 21 = .ok (.getfield 23, 3) := by decide +kernel
theorem dX6_make_24 : decode cX6_make 24 = .ok (.imul, 1) := by decide +kernel
theorem dX6_make_25 : decode cX6_make 25 = .ok (.newarray .boolean, 2) := by decide +kernel
theorem dX6_make_27 : decode cX6_make 27 = .ok (.putfield 29, 3) := by decide +kernel
theorem dX6_make_30 : decode cX6_make 30 = .ok (.aload_n 0, 1) := by decide +kernel
theorem dX6_make_31 : decode cX6_make 31 = .ok (.iconst 4, 1) := by decide +kernel
theorem dX6_make_32 : decode cX6_make 32 = .ok (.aload_n 0, 1) := by decide +kernel
theorem dX6_make_33 : decode cX6_make 33 = .ok (.getfield 20, 3) := by decide +kernel
theorem dX6_make_36 : decode cX6_make 36 = .ok (.imul, 1) := by decide +kernel
theorem dX6_make_37 : decode cX6_make 37 = .ok (.aload_n 0, 1) := by decide +kernel
theorem dX6_make_38 : decode cX6_make 38 = .ok (.getfield 23, 3) := by decide +kernel
theorem dX6_make_41 : decode cX6_make 41 = .ok (.imul, 1) := by decide +kernel
theorem dX6_make_42 : decode cX6_make 42 = .ok (.newarray .boolean, 2) := by decide +kernel
theorem dX6_make_44 : decode cX6_make 44 = .ok (.putfield 33, 3) := by decide +kernel
theorem dX6_make_47 : decode cX6_make 47 = .ok (.aload_n 0, 1) := by decide +kernel
theorem dX6_make_48 : decode cX6_make 48 = .ok (.iconst 0, 1) := by decide +kernel
theorem dX6_make_49 : decode cX6_make 49 = .ok (.putfield 36, 3) := by decide +kernel
theorem dX6_make_52 : decode cX6_make 52 = .ok (.aload_n 0, 1) := by decide +kernel
theorem dX6_make_53 : decode cX6_make 53 = .ok (.sipush 192, 3) := by decide +kernel
theorem dX6_make_56 : decode cX6_make 56 = .ok (.newarray .int, 2) := by decide +kernel
theorem dX6_make_58 : decode cX6_make 58 = .ok (.putfield 39, 3) := by decide +kernel
theorem dX6_make_61 : decode cX6_make 61 = .ok (.aload_n 0, 1) := by decide +kernel
theorem dX6_make_62 : decode cX6_make 62 = .ok (.aload_n 0, 1) := by decide +kernel
theorem dX6_make_63 : decode cX6_make 63 = .ok (.getfield 20, 3) := by decide +kernel
theorem dX6_make_66 : decode cX6_make 66 = .ok (.aload_n 0, 1) := by decide +kernel
theorem dX6_make_67 : decode cX6_make 67 = .ok (.getfield 23, 3) := by decide +kernel
theorem dX6_make_70 : decode cX6_make 70 = .ok (.imul, 1) := by decide +kernel
theorem dX6_make_71 : decode cX6_make 71 = .ok (.newarray .int, 2) := by decide +kernel
theorem dX6_make_73 : decode cX6_make 73 = .ok (.putfield 43, 3) := by decide +kernel
theorem dX6_make_76 : decode cX6_make 76 = .ok (.return_, 1) := by decide +kernel
theorem dX6_thrown_0 : decode cX6_thrown 0 = .ok (.aload_n 0, 1) := by decide +kernel
theorem dX6_thrown_1 : decode cX6_thrown 1 = .ok (.getfield 46, 3) := by decide +kernel
theorem dX6_thrown_4 : decode cX6_thrown 4 = .ok (.ireturn, 1) := by decide +kernel
theorem dX6_no_0 : decode cX6_no 0 = .ok (.aload_n 0, 1) := by decide +kernel
theorem dX6_no_1 : decode cX6_no 1 = .ok (.iload_n 1, 1) := by decide +kernel
theorem dX6_no_2 : decode cX6_no 2 = .ok (.putfield 46, 3) := by decide +kernel
theorem dX6_no_5 : decode cX6_no 5 = .ok (.iconst 0, 1) := by decide +kernel
theorem dX6_no_6 : decode cX6_no 6 = .ok (.ireturn, 1) := by decide +kernel
theorem dX6_ok_0 : decode cX6_ok 0 = .ok (.aload_n 0, 1) := by decide +kernel
theorem dX6_ok_1 : decode cX6_ok 1 = .ok (.iconst 0, 1) := by decide +kernel
theorem dX6_ok_2 : decode cX6_ok 2 = .ok (.putfield 46, 3) := by decide +kernel
theorem dX6_ok_5 : decode cX6_ok 5 = .ok (.iload_n 1, 1) := by decide +kernel
theorem dX6_ok_6 : decode cX6_ok 6 = .ok (.ireturn, 1) := by decide +kernel
theorem dX6_isIn_0 : decode cX6_isIn 0 = .ok (.iload_n 0, 1) := by decide +kernel
theorem dX6_isIn_1 : decode cX6_isIn 1 = .ok (.iload_n 1, 1) := by decide +kernel
theorem dX6_isIn_2 : decode cX6_isIn 2 = .ok (.if_icmp .lt 12, 3) := by decide +kernel
theorem dX6_isIn_5 : decode cX6_isIn 5 = .ok (.iload_n 0, 1) := by decide +kernel
theorem dX6_isIn_6 : decode cX6_isIn 6 = .ok (.iload_n 2, 1) := by decide +kernel
theorem dX6_isIn_7 : decode cX6_isIn 7 = .ok (.if_icmp .gt 7, 3) := by decide +kernel
theorem dX6_isIn_10 : decode cX6_isIn 10 = .ok (.iconst 1, 1) := by decide +kernel
theorem dX6_isIn_11 : decode cX6_isIn 11 = .ok (.goto 4, 3) := by decide +kernel
theorem dX6_isIn_14 : decode cX6_isIn 14 = .ok (.iconst 0, 1) := by decide +kernel
theorem dX6_isIn_15 : decode cX6_isIn 15 = .ok (.ireturn, 1) := by decide +kernel
theorem dX6_isField_0 : decode cX6_isField 0 = .ok (.iload_n 1, 1) := by decide +kernel
theorem dX6_isField_1 : decode cX6_isField 1 = .ok (.iconst 0, 1) := by decide +kernel
theorem dX6_isField_2 : decode cX6_isField 2 = .ok (.aload_n 0, 1) := by decide +kernel
theorem dX6_isField_3 : decode cX6_isField 3 = .ok (.getfield 20, 3) := by decide +kernel
theorem dX6_isField_6 : decode cX6_isField 6 = .ok (.iconst 1, 1) := by decide +kernel
theorem dX6_isField_7 : decode cX6_isField 7 = .ok (.isub, 1) := by decide +kernel
theorem dX6_isField_8 : decode cX6_isField 8 = .ok (.invokestatic 49, 3) := by decide +kernel
theorem dX6_isField_11 : decode cX6_isField 11 = .ok (.ifCond .eq 21, 3) := by decide +kernel
theorem dX6_isField_14 : decode cX6_isField 14 = .ok (.iload_n 2, 1) := by decide +kernel
theorem dX6_isField_15 : decode cX6_isField 15 = .ok (.iconst 0, 1) := by decide +kernel
theorem dX6_isField_16 : decode cX6_isField 16 = .ok (.aload_n 0, 1) := by decide +kernel
theorem dX6_isField_17 : decode cX6_isField 17 = .ok (.getfield 23, 3) := by decide +kernel
theorem dX6_isField_20 : decode cX6_isField 20 = .ok (.iconst 1, 1) := by decide +kernel
theorem dX6_isField_21 : decode cX6_isField 21 = .ok (.isub, 1) := by decide +kernel
theorem dX6_isField_22 : decode cX6_isField 22 = .ok (.invokestatic 49, 3) := by decide +kernel
theorem dX6_isField_25 : decode cX6_isField 25 = .ok (.ifCond .eq 7, 3) := by decide +kernel
theorem dX6_isField_28 : decode cX6_isField 28 = .ok (.iconst 1, 1) := by decide +kernel
theorem dX6_isField_29 : decode cX6_isField 29 = .ok (.goto 4, 3) := by decide +kernel
theorem dX6_isField_32 : decode cX6_isField 32 = .ok (.iconst 0, 1) := by decide +kernel
theorem dX6_isField_33 : decode cX6_isField 33 = .ok (.ireturn, 1) := by decide +kernel
theorem dX6_isGoal_0 : decode cX6_isGoal 0 = .ok (.iload_n 0, 1) := by decide +kernel
theorem dX6_isGoal_1 : decode cX6_isGoal 1 = .ok (.iconst 0, 1) := by decide +kernel
theorem dX6_isGoal_2 : decode cX6_isGoal 2 = .ok (.iconst 3, 1) := by decide +kernel
theorem dX6_isGoal_3 : decode cX6_isGoal 3 = .ok (.invokestatic 49, 3) := by decide +kernel
theorem dX6_isGoal_6 : decode cX6_isGoal 6 = .ok (.ireturn, 1) := by decide +kernel
theorem dX6_isWalker_0 : decode cX6_isWalker 0 = .ok (.iload_n 1, 1) := by decide +kernel
theorem dX6_isWalker_1 : decode cX6_isWalker 1 = .ok (.iconst 0, 1) := by decide +kernel
theorem dX6_isWalker_2 : decode cX6_isWalker 2 = .ok (.aload_n 0, 1) := by decide +kernel
theorem dX6_isWalker_3 : decode cX6_isWalker 3 = .ok (.getfield 36, 3) := by decide +kernel
theorem dX6_isWalker_6 : decode cX6_isWalker 6 = .ok (.iconst 1, 1) := by decide +kernel
theorem dX6_isWalker_7 : decode cX6_isWalker 7 = .ok (.isub, 1) := by decide +kernel
theorem dX6_isWalker_8 : decode cX6_isWalker 8 = .ok (.invokestatic 49, 3) := by decide +kernel
theorem dX6_isWalker_11 : decode cX6_isWalker 11 = .ok (.ireturn, 1) := by decide +kernel
theorem dX6_isOn_0 : decode cX6_isOn 0 = .ok (.aload_n 0, 1) := by decide +kernel
theorem dX6_isOn_1 : decode cX6_isOn 1 = .ok (.iload_n 1, 1) := by decide +kernel
theorem dX6_isOn_2 : decode cX6_isOn 2 = .ok (.invokevirtual 53, 3) := by decide +kernel
theorem dX6_isOn_5 : decode cX6_isOn 5 = .ok (.ifCond .eq 22, 3) := by decide +kernel
theorem dX6_isOn_8 : decode cX6_isOn 8 = .ok (.aload_n 0, 1) := by decide +kernel
theorem dX6_isOn_9 : decode cX6_isOn 9 = .ok (.getfield 39, 3) := by decide +kernel
theorem dX6_isOn_12 : decode cX6_isOn 12 = .ok (.iload_n 1, 1) := by decide +kernel
theorem dX6_isOn_13 : decode cX6_isOn 13 = .ok (.bipush 8, 2) := by decide +kernel
theorem dX6_isOn_15 : decode cX6_isOn 15 = .ok (.imul, 1) := by decide +kernel
theorem dX6_isOn_16 : decode cX6_isOn 16 = .ok (.iconst 3, 1) := by decide +kernel
theorem dX6_isOn_17 : decode cX6_isOn 17 = .ok (.iadd, 1) := by decide +kernel
theorem dX6_isOn_18 : decode cX6_isOn 18 = .ok (.iaload, 1) := by decide +kernel
theorem dX6_isOn_19 : decode cX6_isOn 19 = .ok (.iconst (-1), 1) := by decide +kernel
theorem dX6_isOn_20 : decode cX6_isOn 20 = .ok (.if_icmp .eq 7, 3) := by decide +kernel
theorem dX6_isOn_23 : decode cX6_isOn 23 = .ok (.iconst 1, 1) := by decide +kernel
theorem dX6_isOn_24 : decode cX6_isOn 24 = .ok (.goto 4, 3) := by decide +kernel
theorem dX6_isOn_27 : decode cX6_isOn 27 = .ok (.iconst 0, 1) := by decide +kernel
theorem dX6_isOn_28 : decode cX6_isOn 28 = .ok (.ireturn, 1) := by decide +kernel
theorem dX6_beside_0 : decode cX6_beside 0 = .ok (.iload_n 1, 1) := by decide +kernel
theorem dX6_beside_1 : decode cX6_beside 1 = .ok (.aload_n 0, 1) := by decide +kernel
theorem dX6_beside_2 : decode cX6_beside 2 = .ok (.getfield 20, 3) := by decide +kernel
theorem dX6_beside_5 : decode cX6_beside 5 = .ok (.irem, 1) := by decide +kernel
theorem dX6_beside_6 : decode cX6_beside 6 = .ok (.iload_n 2, 1) := by decide +kernel
theorem dX6_beside_7 : decode cX6_beside 7 = .ok (.ifCond .ne 7, 3) := by decide +kernel
theorem dX6_beside_10 : decode cX6_beside 10 = .ok (.iconst 1, 1) := by decide +kernel
theorem dX6_beside_11 : decode cX6_beside 11 = .ok (.goto 13, 3) := by decide +kernel
theorem dX6_beside_14 : decode cX6_beside 14 = .ok (.iload_n 2, 1) := by decide +kernel
theorem dX6_beside_15 : decode cX6_beside 15 = .ok (.iconst 2, 1) := by decide +kernel
theorem dX6_beside_16 : decode cX6_beside 16 = .ok (.if_icmp .ne 7, 3) := by decide +kernel
theorem dX6_beside_19 : decode cX6_beside 19 = .ok (.iconst (-1), 1) := by decide +kernel
theorem dX6_beside_20 : decode cX6_beside 20 = .ok (.goto 4, 3) := by decide +kernel
theorem dX6_beside_23 : decode cX6_beside 23 = .ok (.iconst 0, 1) := by decide +kernel
theorem dX6_beside_24 : decode cX6_beside 24 = .ok (.iadd, 1) := by decide +kernel
theorem dX6_beside_25 : decode cX6_beside 25 = .ok (.istore_n 3, 1) := by decide +kernel
theorem dX6_beside_26 : decode cX6_beside 26 = .ok (.iload_n 1, 1) := by decide +kernel
theorem dX6_beside_27 : decode cX6_beside 27 = .ok (.aload_n 0, 1) := by decide +kernel
theorem dX6_beside_28 : decode cX6_beside 28 = .ok (.getfield 20, 3) := by decide +kernel
theorem dX6_beside_31 : decode cX6_beside 31 = .ok (.idiv, 1) := by decide +kernel
theorem dX6_beside_32 : decode cX6_beside 32 = .ok (.iload_n 2, 1) := by decide +kernel
theorem dX6_beside_33 : decode cX6_beside 33 = .ok (.iconst 1, 1) := by decide +kernel
theorem dX6_beside_34 : decode cX6_beside 34 = .ok (.if_icmp .ne 7, 3) := by decide +kernel
theorem dX6_beside_37 : decode cX6_beside 37 = .ok (.iconst 1, 1) := by decide +kernel
theorem dX6_beside_38 : decode cX6_beside 38 = .ok (.goto 13, 3) := by decide +kernel
theorem dX6_beside_41 : decode cX6_beside 41 = .ok (.iload_n 2, 1) := by decide +kernel
theorem dX6_beside_42 : decode cX6_beside 42 = .ok (.iconst 3, 1) := by decide +kernel
theorem dX6_beside_43 : decode cX6_beside 43 = .ok (.if_icmp .ne 7, 3) := by decide +kernel
theorem dX6_beside_46 : decode cX6_beside 46 = .ok (.iconst (-1), 1) := by decide +kernel
theorem dX6_beside_47 : decode cX6_beside 47 = .ok (.goto 4, 3) := by decide +kernel
theorem dX6_beside_50 : decode cX6_beside 50 = .ok (.iconst 0, 1) := by decide +kernel
theorem dX6_beside_51 : decode cX6_beside 51 = .ok (.iadd, 1) := by decide +kernel
theorem dX6_beside_52 : decode cX6_beside 52 = .ok (.istore 4, 2) := by decide +kernel
theorem dX6_beside_54 : decode cX6_beside 54 = .ok (.aload_n 0, 1) := by decide +kernel
theorem dX6_beside_55 : decode cX6_beside 55 = .ok (.iload_n 3, 1) := by decide +kernel
theorem dX6_beside_56 : decode cX6_beside 56 = .ok (.iload 4, 2) := by decide +kernel
theorem dX6_beside_58 : decode cX6_beside 58 = .ok (.invokevirtual 57, 3) := by decide +kernel
theorem dX6_beside_61 : decode cX6_beside 61 = .ok (.ifCond .eq 15, 3) := by decide +kernel
theorem dX6_beside_64 : decode cX6_beside 64 = .ok (.iload 4, 2) := by decide +kernel
theorem dX6_beside_66 : decode cX6_beside 66 = .ok (.aload_n 0, 1) := by decide +kernel
theorem dX6_beside_67 : decode cX6_beside 67 = .ok (.getfield 20, 3) := by decide +kernel
theorem dX6_beside_70 : decode cX6_beside 70 = .ok (.imul, 1) := by decide +kernel
theorem dX6_beside_71 : decode cX6_beside 71 = .ok (.iload_n 3, 1) := by decide +kernel
theorem dX6_beside_72 : decode cX6_beside 72 = .ok (.iadd, 1) := by decide +kernel
theorem dX6_beside_73 : decode cX6_beside 73 = .ok (.goto 4, 3) := by decide +kernel
theorem dX6_beside_76 : decode cX6_beside 76 = .ok (.iconst (-1), 1) := by decide +kernel
theorem dX6_beside_77 : decode cX6_beside 77 = .ok (.ireturn, 1) := by decide +kernel
theorem dX6_areRound_0 : decode cX6_areRound 0 = .ok (.iload_n 1, 1) := by decide +kernel
theorem dX6_areRound_1 : decode cX6_areRound 1 = .ok (.iload_n 2, 1) := by decide +kernel
theorem dX6_areRound_2 : decode cX6_areRound 2 = .ok (.if_icmp .eq 47, 3) := by decide +kernel
theorem dX6_areRound_5 : decode cX6_areRound 5 = .ok (.iload_n 1, 1) := by decide +kernel
theorem dX6_areRound_6 : decode cX6_areRound 6 = .ok (.aload_n 0, 1) := by decide +kernel
theorem dX6_areRound_7 : decode cX6_areRound 7 = .ok (.getfield 20, 3) := by decide +kernel
theorem dX6_areRound_10 : decode cX6_areRound 10 = .ok (.irem, 1) := by decide +kernel
theorem dX6_areRound_11 : decode cX6_areRound 11 = .ok (.iload_n 2, 1) := by decide +kernel
theorem dX6_areRound_12 : decode cX6_areRound 12 = .ok (.aload_n 0, 1) := by decide +kernel
theorem dX6_areRound_13 : decode cX6_areRound 13 = .ok (.getfield 20, 3) := by decide +kernel
theorem dX6_areRound_16 : decode cX6_areRound 16 = .ok (.irem, 1) := by decide +kernel
theorem dX6_areRound_17 : decode cX6_areRound 17 = .ok (.isub, 1) := by decide +kernel
theorem dX6_areRound_18 : decode cX6_areRound 18 = .ok (.invokestatic 61, 3) := by decide +kernel
theorem dX6_areRound_21 : decode cX6_areRound 21 = .ok (.iconst 2, 1) := by decide +kernel
theorem dX6_areRound_22 : decode cX6_areRound 22 = .ok (.if_icmp .ge 27, 3) := by decide +kernel
theorem dX6_areRound_25 : decode cX6_areRound 25 = .ok (.iload_n 1, 1) := by decide +kernel
theorem dX6_areRound_26 : decode cX6_areRound 26 = .ok (.aload_n 0, 1) := by decide +kernel
theorem dX6_areRound_27 : decode cX6_areRound 27 = .ok (.getfield 20, 3) := by decide +kernel
theorem dX6_areRound_30 : decode cX6_areRound 30 = .ok (.idiv, 1) := by decide +kernel
theorem dX6_areRound_31 : decode cX6_areRound 31 = .ok (.iload_n 2, 1) := by decide +kernel
theorem dX6_areRound_32 : decode cX6_areRound 32 = .ok (.aload_n 0, 1) := by decide +kernel
theorem dX6_areRound_33 : decode cX6_areRound 33 = .ok (.getfield 20, 3) := by decide +kernel
theorem dX6_areRound_36 : decode cX6_areRound 36 = .ok (.idiv, 1) := by decide +kernel
theorem dX6_areRound_37 : decode cX6_areRound 37 = .ok (.isub, 1) := by decide +kernel
theorem dX6_areRound_38 : decode cX6_areRound 38 = .ok (.invokestatic 61, 3) := by decide +kernel
theorem dX6_areRound_41 : decode cX6_areRound 41 = .ok (.iconst 2, 1) := by decide +kernel
theorem dX6_areRound_42 : decode cX6_areRound 42 = .ok (.if_icmp .ge 7, 3) := by decide +kernel
theorem dX6_areRound_45 : decode cX6_areRound 45 = .ok (.iconst 1, 1) := by decide +kernel
theorem dX6_areRound_46 : decode cX6_areRound 46 = .ok (.goto 4, 3) := by decide +kernel
theorem dX6_areRound_49 : decode cX6_areRound 49 = .ok (.iconst 0, 1) := by decide +kernel
theorem dX6_areRound_50 : decode cX6_areRound 50 = .ok (.ireturn, 1) := by decide +kernel
theorem dX6_walkerOn_0 : decode cX6_walkerOn 0 = .ok (.iconst 0, 1) := by decide +kernel
theorem dX6_walkerOn_1 : decode cX6_walkerOn 1 = .ok (.istore_n 2, 1) := by decide +kernel
theorem dX6_walkerOn_2 : decode cX6_walkerOn 2 = .ok (.iload_n 2, 1) := by decide +kernel
theorem dX6_walkerOn_3 : decode cX6_walkerOn 3 = .ok (.aload_n 0, 1) := by decide +kernel
theorem dX6_walkerOn_4 : decode cX6_walkerOn 4 = .ok (.getfield 36, 3) := by decide +kernel
theorem dX6_walkerOn_7 : decode cX6_walkerOn 7 = .ok (.if_icmp .ge 26, 3) := by decide +kernel
theorem dX6_walkerOn_10 : decode cX6_walkerOn 10 = .ok (.aload_n 0, 1) := by decide +kernel
theorem dX6_walkerOn_11 : decode cX6_walkerOn 11 = .ok (.getfield 39, 3) := by decide +kernel
theorem dX6_walkerOn_14 : decode cX6_walkerOn 14 = .ok (.iload_n 2, 1) := by decide +kernel
theorem dX6_walkerOn_15 : decode cX6_walkerOn 15 = .ok (.bipush 8, 2) := by decide +kernel
theorem dX6_walkerOn_17 : decode cX6_walkerOn 17 = .ok (.imul, 1) := by decide +kernel
theorem dX6_walkerOn_18 : decode cX6_walkerOn 18 = .ok (.iconst 3, 1) := by decide +kernel
theorem dX6_walkerOn_19 : decode cX6_walkerOn 19 = .ok (.iadd, 1) := by decide +kernel
theorem dX6_walkerOn_20 : decode cX6_walkerOn 20 = .ok (.iaload, 1) := by decide +kernel
theorem dX6_walkerOn_21 : decode cX6_walkerOn 21 = .ok (.iload_n 1, 1) := by decide +kernel
theorem dX6_walkerOn_22 : decode cX6_walkerOn 22 = .ok (.if_icmp .ne 5, 3) := by decide +kernel
theorem dX6_walkerOn_25 : decode cX6_walkerOn 25 = .ok (.iload_n 2, 1) := by decide +kernel
theorem dX6_walkerOn_26 : decode cX6_walkerOn 26 = .ok (.ireturn, 1) := by decide +kernel
theorem dX6_walkerOn_27 : decode cX6_walkerOn 27 = .ok (.iinc 2 1, 3) := by decide +kernel
theorem dX6_walkerOn_30 : decode cX6_walkerOn 30 = .ok (.goto (-28), 3) := by decide +kernel
theorem dX6_walkerOn_33 : decode cX6_walkerOn 33 = .ok (.iconst (-1), 1) := by decide +kernel
theorem dX6_walkerOn_34 : decode cX6_walkerOn 34 = .ok (.ireturn, 1) := by decide +kernel
theorem dX6_round_0 : decode cX6_round 0 = .ok (.iconst 0, 1) := by decide +kernel
theorem dX6_round_1 : decode cX6_round 1 = .ok (.istore_n 3, 1) := by decide +kernel
theorem dX6_round_2 : decode cX6_round 2 = .ok (.iconst 0, 1) := by decide +kernel
theorem dX6_round_3 : decode cX6_round 3 = .ok (.istore 4, 2) := by decide +kernel
theorem dX6_round_5 : decode cX6_round 5 = .ok (.iload 4, 2) := by decide +kernel
theorem dX6_round_7 : decode cX6_round 7 = .ok (.aload_n 0, 1) := by decide +kernel
theorem dX6_round_8 : decode cX6_round 8 = .ok (.getfield 36, 3) := by decide +kernel
theorem dX6_round_11 : decode cX6_round 11 = .ok (.if_icmp .ge 59, 3) := by decide +kernel
theorem dX6_round_14 : decode cX6_round 14 = .ok (.iload_n 3, 1) := by decide +kernel
theorem dX6_round_15 : decode cX6_round 15 = .ok (.iload 4, 2) := by decide +kernel
theorem dX6_round_17 : decode cX6_round 17 = .ok (.iload_n 2, 1) := by decide +kernel
theorem dX6_round_18 : decode cX6_round 18 = .ok (.if_icmp .eq 43, 3) := by decide +kernel
theorem dX6_round_21 : decode cX6_round 21 = .ok (.aload_n 0, 1) := by decide +kernel
theorem dX6_round_22 : decode cX6_round 22 = .ok (.getfield 39, 3) := by decide +kernel
theorem dX6_round_25 : decode cX6_round 25 = .ok (.iload 4, 2) := by decide +kernel
theorem dX6_round_27 : decode cX6_round 27 = .ok (.bipush 8, 2) := by decide +kernel
theorem dX6_round_29 : decode cX6_round 29 = .ok (.imul, 1) := by decide +kernel
theorem dX6_round_30 : decode cX6_round 30 = .ok (.iconst 3, 1) := by decide +kernel
theorem dX6_round_31 : decode cX6_round 31 = .ok (.iadd, 1) := by decide +kernel
theorem dX6_round_32 : decode cX6_round 32 = .ok (.iaload, 1) := by decide +kernel
theorem dX6_round_33 : decode cX6_round 33 = .ok (.iconst (-1), 1) := by decide +kernel
theorem dX6_round_34 : decode cX6_round 34 = .ok (.if_icmp .eq 27, 3) := by decide +kernel
theorem dX6_round_37 : decode cX6_round 37 = .ok (.aload_n 0, 1) := by decide +kernel
theorem dX6_round_38 : decode cX6_round 38 = .ok (.iload_n 1, 1) := by decide +kernel
theorem dX6_round_39 : decode cX6_round 39 = .ok (.aload_n 0, 1) := by decide +kernel
theorem dX6_round_40 : decode cX6_round 40 = .ok (.getfield 39, 3) := by decide +kernel
theorem dX6_round_43 : decode cX6_round 43 = .ok (.iload 4, 2) := by decide +kernel
theorem dX6_round_45 : decode cX6_round 45 = .ok (.bipush 8, 2) := by decide +kernel
theorem dX6_round_47 : decode cX6_round 47 = .ok (.imul, 1) := by decide +kernel
theorem dX6_round_48 : decode cX6_round 48 = .ok (.iconst 3, 1) := by decide +kernel
theorem dX6_round_49 : decode cX6_round 49 = .ok (.iadd, 1) := by decide +kernel
theorem dX6_round_50 : decode cX6_round 50 = .ok (.iaload, 1) := by decide +kernel
theorem dX6_round_51 : decode cX6_round 51 = .ok (.invokevirtual 67, 3) := by decide +kernel
theorem dX6_round_54 : decode cX6_round 54 = .ok (.ifCond .eq 7, 3) := by decide +kernel
theorem dX6_round_57 : decode cX6_round 57 = .ok (.iconst 1, 1) := by decide +kernel
theorem dX6_round_58 : decode cX6_round 58 = .ok (.goto 4, 3) := by decide +kernel
theorem dX6_round_61 : decode cX6_round 61 = .ok (.iconst 0, 1) := by decide +kernel
theorem dX6_round_62 : decode cX6_round 62 = .ok (.iadd, 1) := by decide +kernel
theorem dX6_round_63 : decode cX6_round 63 = .ok (.istore_n 3, 1) := by decide +kernel
theorem dX6_round_64 : decode cX6_round 64 = .ok (.iinc 4 1, 3) := by decide +kernel
theorem dX6_round_67 : decode cX6_round 67 = .ok (.goto (-62), 3) := by decide +kernel
theorem dX6_round_70 : decode cX6_round 70 = .ok (.iload_n 3, 1) := by decide +kernel
theorem dX6_round_71 : decode cX6_round 71 = .ok (.ireturn, 1) := by decide +kernel
theorem dX6_far_0 : decode cX6_far 0 = .ok (.aload_n 0, 1) := by decide +kernel
theorem dX6_far_1 : decode cX6_far 1 = .ok (.getfield 20, 3) := by decide +kernel
theorem dX6_far_4 : decode cX6_far 4 = .ok (.aload_n 0, 1) := by decide +kernel
theorem dX6_far_5 : decode cX6_far 5 = .ok (.getfield 23, 3) := by decide +kernel
theorem dX6_far_8 : decode cX6_far 8 = .ok (.imul, 1) := by decide +kernel
theorem dX6_far_9 : decode cX6_far 9 = .ok (.istore_n 2, 1) := by decide +kernel
theorem dX6_far_10 : decode cX6_far 10 = .ok (.iload_n 2, 1) := by decide +kernel
theorem dX6_far_11 : decode cX6_far 11 = .ok (.newarray .int, 2) := by decide +kernel
theorem dX6_far_13 : decode cX6_far 13 = .ok (.astore_n 3, 1) := by decide +kernel
theorem dX6_far_14 : decode cX6_far 14 = .ok (.iload_n 2, 1) := by decide +kernel
theorem dX6_far_15 : decode cX6_far 15 = .ok (.newarray .int, 2) := by decide +kernel
theorem dX6_far_17 : decode cX6_far 17 = .ok (.astore 4, 2) := by decide +kernel
theorem dX6_far_19 : decode cX6_far 19 = .ok (.iconst 0, 1) := by decide +kernel
theorem dX6_far_20 : decode cX6_far 20 = .ok (.istore 5, 2) := by decide +kernel
theorem dX6_far_22 : decode cX6_far 22 = .ok (.iconst 0, 1) := by decide +kernel
theorem dX6_far_23 : decode cX6_far 23 = .ok (.istore 6, 2) := by decide +kernel
theorem dX6_far_25 : decode cX6_far 25 = .ok (.iload 6, 2) := by decide +kernel
theorem dX6_far_27 : decode cX6_far 27 = .ok (.iload_n 2, 1) := by decide +kernel
theorem dX6_far_28 : decode cX6_far 28 = .ok (.if_icmp .ge 59, 3) := by decide +kernel
theorem dX6_far_31 : decode cX6_far 31 = .ok (.aload_n 3, 1) := by decide +kernel
theorem dX6_far_32 : decode cX6_far 32 = .ok (.iload 6, 2) := by decide +kernel
theorem dX6_far_34 : decode cX6_far 34 = .ok (.aload_n 0, 1) := by decide +kernel
theorem dX6_far_35 : decode cX6_far 35 = .ok (.getfield 33, 3) := by decide +kernel
theorem dX6_far_38 : decode cX6_far 38 = .ok (.iload_n 1, 1) := by decide +kernel
theorem dX6_far_39 : decode cX6_far 39 = .ok (.iload_n 2, 1) := by decide +kernel
theorem dX6_far_40 : decode cX6_far 40 = .ok (.imul, 1) := by decide +kernel
theorem dX6_far_41 : decode cX6_far 41 = .ok (.iload 6, 2) := by decide +kernel
theorem dX6_far_43 : decode cX6_far 43 = .ok (.iadd, 1) := by decide +kernel
theorem dX6_far_44 : decode cX6_far 44 = .ok (.baload, 1) := by decide +kernel
theorem dX6_far_45 : decode cX6_far 45 = .ok (.ifCond .eq 17, 3) := by decide +kernel
theorem dX6_far_48 : decode cX6_far 48 = .ok (.aload_n 0, 1) := by decide +kernel
theorem dX6_far_49 : decode cX6_far 49 = .ok (.getfield 29, 3) := by decide +kernel
theorem dX6_far_52 : decode cX6_far 52 = .ok (.iload 6, 2) := by decide +kernel
theorem dX6_far_54 : decode cX6_far 54 = .ok (.baload, 1) := by decide +kernel
theorem dX6_far_55 : decode cX6_far 55 = .ok (.ifCond .ne 7, 3) := by decide +kernel
theorem dX6_far_58 : decode cX6_far 58 = .ok (.iconst 0, 1) := by decide +kernel
theorem dX6_far_59 : decode cX6_far 59 = .ok (.goto 4, 3) := by decide +kernel
theorem dX6_far_62 : decode cX6_far 62 = .ok (.iconst (-1), 1) := by decide +kernel
theorem dX6_far_63 : decode cX6_far 63 = .ok (.iastore, 1) := by decide +kernel
theorem dX6_far_64 : decode cX6_far 64 = .ok (.aload_n 3, 1) := by decide +kernel
theorem dX6_far_65 : decode cX6_far 65 = .ok (.iload 6, 2) := by decide +kernel
theorem dX6_far_67 : decode cX6_far 67 = .ok (.iaload, 1) := by decide +kernel
theorem dX6_far_68 : decode cX6_far 68 = .ok (.ifCond .ne 13, 3) := by decide +kernel
theorem dX6_far_71 : decode cX6_far 71 = .ok (.aload 4, 2) := by decide +kernel
theorem dX6_far_73 : decode cX6_far 73 = .ok (.iload 5, 2) := by decide +kernel
theorem dX6_far_75 : decode cX6_far 75 = .ok (.iinc 5 1, 3) := by decide +kernel
theorem dX6_far_78 : decode cX6_far 78 = .ok (.iload 6, 2) := by decide +kernel
theorem dX6_far_80 : decode cX6_far 80 = .ok (.iastore, 1) := by decide +kernel
theorem dX6_far_81 : decode cX6_far 81 = .ok (.iinc 6 1, 3) := by decide +kernel
theorem dX6_far_84 : decode cX6_far 84 = .ok (.goto (-59), 3) := by decide +kernel
theorem dX6_far_87 : decode cX6_far 87 = .ok (.iconst 0, 1) := by decide +kernel
theorem dX6_far_88 : decode cX6_far 88 = .ok (.istore 6, 2) := by decide +kernel
theorem dX6_far_90 : decode cX6_far 90 = .ok (.iload 6, 2) := by decide +kernel
theorem dX6_far_92 : decode cX6_far 92 = .ok (.iload 5, 2) := by decide +kernel
theorem dX6_far_94 : decode cX6_far 94 = .ok (.if_icmp .ge 87, 3) := by decide +kernel
theorem dX6_far_97 : decode cX6_far 97 = .ok (.iconst 0, 1) := by decide +kernel
theorem dX6_far_98 : decode cX6_far 98 = .ok (.istore 7, 2) := by decide +kernel
theorem dX6_far_100 : decode cX6_far 100 = .ok (.iload 7, 2) := by decide +kernel
theorem dX6_far_102 : decode cX6_far 102 = .ok (.iconst 4, 1) := by decide +kernel
theorem dX6_far_103 : decode cX6_far 103 = .ok (.if_icmp .ge 72, 3) := by decide +kernel
theorem dX6_far_106 : decode cX6_far 106 = .ok (.aload_n 0, 1) := by decide +kernel
theorem dX6_far_107 : decode cX6_far 107 = .ok (.aload 4, 2) := by decide +kernel
theorem dX6_far_109 : decode cX6_far 109 = .ok (.iload 6, 2) := by decide +kernel
theorem dX6_far_111 : decode cX6_far 111 = .ok (.iaload, 1) := by decide +kernel
theorem dX6_far_112 : decode cX6_far 112 = .ok (.iload 7, 2) := by decide +kernel
theorem dX6_far_114 : decode cX6_far 114 = .ok (.invokevirtual 70, 3) := by decide +kernel
theorem dX6_far_117 : decode cX6_far 117 = .ok (.istore 8, 2) := by decide +kernel
theorem dX6_far_119 : decode cX6_far 119 = .ok (.iload 8, 2) := by decide +kernel
theorem dX6_far_121 : decode cX6_far 121 = .ok (.iconst (-1), 1) := by decide +kernel
theorem dX6_far_122 : decode cX6_far 122 = .ok (.if_icmp .eq 47, 3) := by decide +kernel
theorem dX6_far_125 : decode cX6_far 125 = .ok (.aload_n 0, 1) := by decide +kernel
theorem dX6_far_126 : decode cX6_far 126 = .ok (.getfield 29, 3) := by decide +kernel
theorem dX6_far_129 : decode cX6_far 129 = .ok (.iload 8, 2) := by decide +kernel
theorem dX6_far_131 : decode cX6_far 131 = .ok (.baload, 1) := by decide +kernel
theorem dX6_far_132 : decode cX6_far 132 = .ok (.ifCond .ne 37, 3) := by decide +kernel
theorem dX6_far_135 : decode cX6_far 135 = .ok (.aload_n 3, 1) := by decide +kernel
theorem dX6_far_136 : decode cX6_far 136 = .ok (.iload 8, 2) := by decide +kernel
theorem dX6_far_138 : decode cX6_far 138 = .ok (.iaload, 1) := by decide +kernel
theorem dX6_far_139 : decode cX6_far 139 = .ok (.iconst (-1), 1) := by decide +kernel
theorem dX6_far_140 : decode cX6_far 140 = .ok (.if_icmp .eq 6, 3) := by decide +kernel
theorem dX6_far_143 : decode cX6_far 143 = .ok (.goto 26, 3) := by decide +kernel
theorem dX6_far_146 : decode cX6_far 146 = .ok (.aload_n 3, 1) := by decide +kernel
theorem dX6_far_147 : decode cX6_far 147 = .ok (.iload 8, 2) := by decide +kernel
theorem dX6_far_149 : decode cX6_far 149 = .ok (.aload_n 3, 1) := by decide +kernel
theorem dX6_far_150 : decode cX6_far 150 = .ok (.aload 4, 2) := by decide +kernel
theorem dX6_far_152 : decode cX6_far 152 = .ok (.iload 6, 2) := by decide +kernel
theorem dX6_far_154 : decode cX6_far 154 = .ok (.iaload, 1) := by decide +kernel
theorem dX6_far_155 : decode cX6_far 155 = .ok (.iaload, 1) := by decide +kernel
theorem dX6_far_156 : decode cX6_far 156 = .ok (.iconst 1, 1) := by decide +kernel
theorem dX6_far_157 : decode cX6_far 157 = .ok (.iadd, 1) := by decide +kernel
theorem dX6_far_158 : decode cX6_far 158 = .ok (.iastore, 1) := by decide +kernel
theorem dX6_far_159 : decode cX6_far 159 = .ok (.aload 4, 2) := by decide +kernel
theorem dX6_far_161 : decode cX6_far 161 = .ok (.iload 5, 2) := by decide +kernel
theorem dX6_far_163 : decode cX6_far 163 = .ok (.iinc 5 1, 3) := by decide +kernel
theorem dX6_far_166 : decode cX6_far 166 = .ok (.iload 8, 2) := by decide +kernel
theorem dX6_far_168 : decode cX6_far 168 = .ok (.iastore, 1) := by decide +kernel
theorem dX6_far_169 : decode cX6_far 169 = .ok (.iinc 7 1, 3) := by decide +kernel
theorem dX6_far_172 : decode cX6_far 172 = .ok (.goto (-72), 3) := by decide +kernel
theorem dX6_far_175 : decode cX6_far 175 = .ok (.iinc 6 1, 3) := by decide +kernel
theorem dX6_far_178 : decode cX6_far 178 = .ok (.goto (-88), 3) := by decide +kernel
theorem dX6_far_181 : decode cX6_far 181 = .ok (.aload_n 3, 1) := by decide +kernel
theorem dX6_far_182 : decode cX6_far 182 = .ok (.areturn, 1) := by decide +kernel
theorem dX6_farAll_0 : decode cX6_farAll 0 = .ok (.iconst 4, 1) := by decide +kernel
theorem dX6_farAll_1 : decode cX6_farAll 1 = .ok (.anewarray 74, 3) := by decide +kernel
theorem dX6_farAll_4 : decode cX6_farAll 4 = .ok (.astore_n 1, 1) := by decide +kernel
theorem dX6_farAll_5 : decode cX6_farAll 5 = .ok (.iconst 0, 1) := by decide +kernel
theorem dX6_farAll_6 : decode cX6_farAll 6 = .ok (.istore_n 2, 1) := by decide +kernel
theorem dX6_farAll_7 : decode cX6_farAll 7 = .ok (.iload_n 2, 1) := by decide +kernel
theorem dX6_farAll_8 : decode cX6_farAll 8 = .ok (.iconst 4, 1) := by decide +kernel
theorem dX6_farAll_9 : decode cX6_farAll 9 = .ok (.if_icmp .ge 17, 3) := by decide +kernel
theorem dX6_farAll_12 : decode cX6_farAll 12 = .ok (.aload_n 1, 1) := by decide +kernel
theorem dX6_farAll_13 : decode cX6_farAll 13 = .ok (.iload_n 2, 1) := by decide +kernel
theorem dX6_farAll_14 : decode cX6_farAll 14 = .ok (.aload_n 0, 1) := by decide +kernel
theorem dX6_farAll_15 : decode cX6_farAll 15 = .ok (.iload_n 2, 1) := by decide +kernel
theorem dX6_farAll_16 : decode cX6_farAll 16 = .ok (.invokevirtual 75, 3) := by decide +kernel
theorem dX6_farAll_19 : decode cX6_farAll 19 = .ok (.aastore, 1) := by decide +kernel
theorem dX6_farAll_20 : decode cX6_farAll 20 = .ok (.iinc 2 1, 3) := by decide +kernel
theorem dX6_farAll_23 : decode cX6_farAll 23 = .ok (.goto (-16), 3) := by decide +kernel
theorem dX6_farAll_26 : decode cX6_farAll 26 = .ok (.aload_n 1, 1) := by decide +kernel
theorem dX6_farAll_27 : decode cX6_farAll 27 = .ok (.areturn, 1) := by decide +kernel
theorem dX6_reset_0 : decode cX6_reset 0 = .ok (.aload_n 0, 1) := by decide +kernel
theorem dX6_reset_1 : decode cX6_reset 1 = .ok (.iconst 0, 1) := by decide +kernel
theorem dX6_reset_2 : decode cX6_reset 2 = .ok (.putfield 46, 3) := by decide +kernel
theorem dX6_reset_5 : decode cX6_reset 5 = .ok (.iload_n 1, 1) := by decide +kernel
theorem dX6_reset_6 : decode cX6_reset 6 = .ok (.iconst 2, 1) := by decide +kernel
theorem dX6_reset_7 : decode cX6_reset 7 = .ok (.bipush 14, 2) := by decide +kernel
theorem dX6_reset_9 : decode cX6_reset 9 = .ok (.invokestatic 49, 3) := by decide +kernel
theorem dX6_reset_12 : decode cX6_reset 12 = .ok (.ifCond .eq 13, 3) := by decide +kernel
theorem dX6_reset_15 : decode cX6_reset 15 = .ok (.iload_n 2, 1) := by decide +kernel
theorem dX6_reset_16 : decode cX6_reset 16 = .ok (.iconst 2, 1) := by decide +kernel
theorem dX6_reset_17 : decode cX6_reset 17 = .ok (.bipush 14, 2) := by decide +kernel
theorem dX6_reset_19 : decode cX6_reset 19 = .ok (.invokestatic 49, 3) := by decide +kernel
theorem dX6_reset_22 : decode cX6_reset 22 = .ok (.ifCond .ne 9, 3) := by decide +kernel
theorem dX6_reset_25 : decode cX6_reset 25 = .ok (.aload_n 0, 1) := by decide +kernel
theorem dX6_reset_26 : decode cX6_reset 26 = .ok (.iconst 1, 1) := by decide +kernel
theorem dX6_reset_27 : decode cX6_reset 27 = .ok (.invokevirtual 79, 3) := by decide +kernel
theorem dX6_reset_30 : decode cX6_reset 30 = .ok (.ireturn, 1) := by decide +kernel
theorem dX6_reset_31 : decode cX6_reset 31 = .ok (.aload_n 0, 1) := by decide +kernel
theorem dX6_reset_32 : decode cX6_reset 32 = .ok (.iload_n 1, 1) := by decide +kernel
theorem dX6_reset_33 : decode cX6_reset 33 = .ok (.iload_n 2, 1) := by decide +kernel
theorem dX6_reset_34 : decode cX6_reset 34 = .ok (.invokevirtual 16, 3) := by decide +kernel
theorem dX6_reset_37 : decode cX6_reset 37 = .ok (.aload_n 0, 1) := by decide +kernel
theorem dX6_reset_38 : decode cX6_reset 38 = .ok (.getfield 20, 3) := by decide +kernel
theorem dX6_reset_41 : decode cX6_reset 41 = .ok (.aload_n 0, 1) := by decide +kernel
theorem dX6_reset_42 : decode cX6_reset 42 = .ok (.getfield 23, 3) := by decide +kernel
theorem dX6_reset_45 : decode cX6_reset 45 = .ok (.imul, 1) := by decide +kernel
theorem dX6_reset_46 : decode cX6_reset 46 = .ok (.ireturn, 1) := by decide +kernel
theorem dX6_wall_0 : decode cX6_wall 0 = .ok (.aload_n 0, 1) := by decide +kernel
theorem dX6_wall_1 : decode cX6_wall 1 = .ok (.iconst 0, 1) := by decide +kernel
theorem dX6_wall_2 : decode cX6_wall 2 = .ok (.putfield 46, 3) := by decide +kernel
theorem dX6_wall_5 : decode cX6_wall 5 = .ok (.aload_n 0, 1) := by decide +kernel
theorem dX6_wall_6 : decode cX6_wall 6 = .ok (.iload_n 1, 1) := by decide +kernel
theorem dX6_wall_7 : decode cX6_wall 7 = .ok (.iload_n 2, 1) := by decide +kernel
theorem dX6_wall_8 : decode cX6_wall 8 = .ok (.invokevirtual 57, 3) := by decide +kernel
theorem dX6_wall_11 : decode cX6_wall 11 = .ok (.ifCond .eq 13, 3) := by decide +kernel
theorem dX6_wall_14 : decode cX6_wall 14 = .ok (.aload_n 0, 1) := by decide +kernel
theorem dX6_wall_15 : decode cX6_wall 15 = .ok (.iload_n 3, 1) := by decide +kernel
theorem dX6_wall_16 : decode cX6_wall 16 = .ok (.iload 4, 2) := by decide +kernel
theorem dX6_wall_18 : decode cX6_wall 18 = .ok (.invokevirtual 57, 3) := by decide +kernel
theorem dX6_wall_21 : decode cX6_wall 21 = .ok (.ifCond .ne 9, 3) := by decide +kernel
theorem dX6_wall_24 : decode cX6_wall 24 = .ok (.aload_n 0, 1) := by decide +kernel
theorem dX6_wall_25 : decode cX6_wall 25 = .ok (.iconst 1, 1) := by decide +kernel
theorem dX6_wall_26 : decode cX6_wall 26 = .ok (.invokevirtual 79, 3) := by decide +kernel
theorem dX6_wall_29 : decode cX6_wall 29 = .ok (.ireturn, 1) := by decide +kernel
theorem dX6_wall_30 : decode cX6_wall 30 = .ok (.iconst 0, 1) := by decide +kernel
theorem dX6_wall_31 : decode cX6_wall 31 = .ok (.istore 6, 2) := by decide +kernel
theorem dX6_wall_33 : decode cX6_wall 33 = .ok (.iload 6, 2) := by decide +kernel
theorem dX6_wall_35 : decode cX6_wall 35 = .ok (.iconst 2, 1) := by decide +kernel
theorem dX6_wall_36 : decode cX6_wall 36 = .ok (.if_icmp .ge 124, 3) := by decide +kernel
theorem dX6_wall_39 : decode cX6_wall 39 = .ok (.iconst 0, 1) := by decide +kernel
theorem dX6_wall_40 : decode cX6_wall 40 = .ok (.istore 7, 2) := by decide +kernel
theorem dX6_wall_42 : decode cX6_wall 42 = .ok (.iload 7, 2) := by decide +kernel
theorem dX6_wall_44 : decode cX6_wall 44 = .ok (.aload_n 0, 1) := by decide +kernel
theorem dX6_wall_45 : decode cX6_wall 45 = .ok (.getfield 20, 3) := by decide +kernel
theorem dX6_wall_48 : decode cX6_wall 48 = .ok (.aload_n 0, 1) := by decide +kernel
theorem dX6_wall_49 : decode cX6_wall 49 = .ok (.getfield 23, 3) := by decide +kernel
theorem dX6_wall_52 : decode cX6_wall 52 = .ok (.imul, 1) := by decide +kernel
theorem dX6_wall_53 : decode cX6_wall 53 = .ok (.if_icmp .ge 101, 3) := by decide +kernel
theorem dX6_wall_56 : decode cX6_wall 56 = .ok (.iload 7, 2) := by decide +kernel
theorem dX6_wall_58 : decode cX6_wall 58 = .ok (.aload_n 0, 1) := by decide +kernel
theorem dX6_wall_59 : decode cX6_wall 59 = .ok (.getfield 20, 3) := by decide +kernel
theorem dX6_wall_62 : decode cX6_wall 62 = .ok (.irem, 1) := by decide +kernel
theorem dX6_wall_63 : decode cX6_wall 63 = .ok (.iload_n 1, 1) := by decide +kernel
theorem dX6_wall_64 : decode cX6_wall 64 = .ok (.iload_n 3, 1) := by decide +kernel
theorem dX6_wall_65 : decode cX6_wall 65 = .ok (.invokestatic 82, 3) := by decide +kernel
theorem dX6_wall_68 : decode cX6_wall 68 = .ok (.iload_n 1, 1) := by decide +kernel
theorem dX6_wall_69 : decode cX6_wall 69 = .ok (.iload_n 3, 1) := by decide +kernel
theorem dX6_wall_70 : decode cX6_wall 70 = .ok (.invokestatic 85, 3) := by decide +kernel
theorem dX6_wall_73 : decode cX6_wall 73 = .ok (.invokestatic 49, 3) := by decide +kernel
theorem dX6_wall_76 : decode cX6_wall 76 = .ok (.ifCond .eq 72, 3) := by decide +kernel
theorem dX6_wall_79 : decode cX6_wall 79 = .ok (.iload 7, 2) := by decide +kernel
theorem dX6_wall_81 : decode cX6_wall 81 = .ok (.aload_n 0, 1) := by decide +kernel
theorem dX6_wall_82 : decode cX6_wall 82 = .ok (.getfield 20, 3) := by decide +kernel
theorem dX6_wall_85 : decode cX6_wall 85 = .ok (.idiv, 1) := by decide +kernel
theorem dX6_wall_86 : decode cX6_wall 86 = .ok (.iload_n 2, 1) := by decide +kernel
theorem dX6_wall_87 : decode cX6_wall 87 = .ok (.iload 4, 2) := by decide +kernel
theorem dX6_wall_89 : decode cX6_wall 89 = .ok (.invokestatic 82, 3) := by decide +kernel
theorem dX6_wall_92 : decode cX6_wall 92 = .ok (.iload_n 2, 1) := by decide +kernel
theorem dX6_wall_93 : decode cX6_wall 93 = .ok (.iload 4, 2) := by decide +kernel
theorem dX6_wall_95 : decode cX6_wall 95 = .ok (.invokestatic 85, 3) := by decide +kernel
theorem dX6_wall_98 : decode cX6_wall 98 = .ok (.invokestatic 49, 3) := by decide +kernel
theorem dX6_wall_101 : decode cX6_wall 101 = .ok (.ifCond .ne 6, 3) := by decide +kernel
theorem dX6_wall_104 : decode cX6_wall 104 = .ok (.goto 44, 3) := by decide +kernel
theorem dX6_wall_107 : decode cX6_wall 107 = .ok (.iload 6, 2) := by decide +kernel
theorem dX6_wall_109 : decode cX6_wall 109 = .ok (.ifCond .ne 24, 3) := by decide +kernel
theorem dX6_wall_112 : decode cX6_wall 112 = .ok (.iload 5, 2) := by decide +kernel
theorem dX6_wall_114 : decode cX6_wall 114 = .ok (.ifCond .eq 19, 3) := by decide +kernel
theorem dX6_wall_117 : decode cX6_wall 117 = .ok (.aload_n 0, 1) := by decide +kernel
theorem dX6_wall_118 : decode cX6_wall 118 = .ok (.iload 7, 2) := by decide +kernel
theorem dX6_wall_120 : decode cX6_wall 120 = .ok (.invokevirtual 88, 3) := by decide +kernel
theorem dX6_wall_123 : decode cX6_wall 123 = .ok (.iconst (-1), 1) := by decide +kernel
theorem dX6_wall_124 : decode cX6_wall 124 = .ok (.if_icmp .eq 9, 3) := by decide +kernel
theorem dX6_wall_127 : decode cX6_wall 127 = .ok (.aload_n 0, 1) := by decide +kernel
theorem dX6_wall_128 : decode cX6_wall 128 = .ok (.iconst 2, 1) := by decide +kernel
theorem dX6_wall_129 : decode cX6_wall 129 = .ok (.invokevirtual 79, 3) := by decide +kernel
theorem dX6_wall_132 : decode cX6_wall 132 = .ok (.ireturn, 1) := by decide +kernel
theorem dX6_wall_133 : decode cX6_wall 133 = .ok (.iload 6, 2) := by decide +kernel
theorem dX6_wall_135 : decode cX6_wall 135 = .ok (.iconst 1, 1) := by decide +kernel
theorem dX6_wall_136 : decode cX6_wall 136 = .ok (.if_icmp .ne 12, 3) := by decide +kernel
theorem dX6_wall_139 : decode cX6_wall 139 = .ok (.aload_n 0, 1) := by decide +kernel
theorem dX6_wall_140 : decode cX6_wall 140 = .ok (.getfield 29, 3) := by decide +kernel
theorem dX6_wall_143 : decode cX6_wall 143 = .ok (.iload 7, 2) := by decide +kernel
theorem dX6_wall_145 : decode cX6_wall 145 = .ok (.iload 5, 2) := by decide +kernel
theorem dX6_wall_147 : decode cX6_wall 147 = .ok (.bastore, 1) := by decide +kernel
theorem dX6_wall_148 : decode cX6_wall 148 = .ok (.iinc 7 1, 3) := by decide +kernel
theorem dX6_wall_151 : decode cX6_wall 151 = .ok (.goto (-109), 3) := by decide +kernel
theorem dX6_wall_154 : decode cX6_wall 154 = .ok (.iinc 6 1, 3) := by decide +kernel
theorem dX6_wall_157 : decode cX6_wall 157 = .ok (.goto (-124), 3) := by decide +kernel
theorem dX6_wall_160 : decode cX6_wall 160 = .ok (.iconst 0, 1) := by decide +kernel
theorem dX6_wall_161 : decode cX6_wall 161 = .ok (.istore 6, 2) := by decide +kernel
theorem dX6_wall_163 : decode cX6_wall 163 = .ok (.aload_n 0, 1) := by decide +kernel
theorem dX6_wall_164 : decode cX6_wall 164 = .ok (.getfield 29, 3) := by decide +kernel
theorem dX6_wall_167 : decode cX6_wall 167 = .ok (.astore 7, 2) := by decide +kernel
theorem dX6_wall_169 : decode cX6_wall 169 = .ok (.aload 7, 2) := by decide +kernel
theorem dX6_wall_171 : decode cX6_wall 171 = .ok (.arraylength, 1) := by decide +kernel
theorem dX6_wall_172 : decode cX6_wall 172 = .ok (.istore 8, 2) := by decide +kernel
theorem dX6_wall_174 : decode cX6_wall 174 = .ok (.iconst 0, 1) := by decide +kernel
theorem dX6_wall_175 : decode cX6_wall 175 = .ok (.istore 9, 2) := by decide +kernel
theorem dX6_wall_177 : decode cX6_wall 177 = .ok (.iload 9, 2) := by decide +kernel
theorem dX6_wall_179 : decode cX6_wall 179 = .ok (.iload 8, 2) := by decide +kernel
theorem dX6_wall_181 : decode cX6_wall 181 = .ok (.if_icmp .ge 31, 3) := by decide +kernel
theorem dX6_wall_184 : decode cX6_wall 184 = .ok (.aload 7, 2) := by decide +kernel
theorem dX6_wall_186 : decode cX6_wall 186 = .ok (.iload 9, 2) := by decide +kernel
theorem dX6_wall_188 : decode cX6_wall 188 = .ok (.baload, 1) := by decide +kernel
theorem dX6_wall_189 : decode cX6_wall 189 = .ok (.istore 10, 2) := by decide +kernel
theorem dX6_wall_191 : decode cX6_wall 191 = .ok (.iload 6, 2) := by decide +kernel
theorem dX6_wall_193 : decode cX6_wall 193 = .ok (.iload 10, 2) := by decide +kernel
theorem dX6_wall_195 : decode cX6_wall 195 = .ok (.ifCond .eq 7, 3) := by decide +kernel
theorem dX6_wall_198 : decode cX6_wall 198 = .ok (.iconst 1, 1) := by decide +kernel
theorem dX6_wall_199 : decode cX6_wall 199 = .ok (.goto 4, 3) := by decide +kernel
theorem dX6_wall_202 : decode cX6_wall 202 = .ok (.iconst 0, 1) := by decide +kernel
theorem dX6_wall_203 : decode cX6_wall 203 = .ok (.iadd, 1) := by decide +kernel
theorem dX6_wall_204 : decode cX6_wall 204 = .ok (.istore 6, 2) := by decide +kernel
theorem dX6_wall_206 : decode cX6_wall 206 = .ok (.iinc 9 1, 3) := by decide +kernel
theorem dX6_wall_209 : decode cX6_wall 209 = .ok (.goto (-32), 3) := by decide +kernel
theorem dX6_wall_212 : decode cX6_wall 212 = .ok (.iload 6, 2) := by decide +kernel
theorem dX6_wall_214 : decode cX6_wall 214 = .ok (.ireturn, 1) := by decide +kernel
theorem dX6_mark_0 : decode cX6_mark 0 = .ok (.aload_n 0, 1) := by decide +kernel
theorem dX6_mark_1 : decode cX6_mark 1 = .ok (.iconst 0, 1) := by decide +kernel
theorem dX6_mark_2 : decode cX6_mark 2 = .ok (.putfield 46, 3) := by decide +kernel
theorem dX6_mark_5 : decode cX6_mark 5 = .ok (.iload_n 1, 1) := by decide +kernel
theorem dX6_mark_6 : decode cX6_mark 6 = .ok (.invokestatic 91, 3) := by decide +kernel
theorem dX6_mark_9 : decode cX6_mark 9 = .ok (.ifCond .eq 12, 3) := by decide +kernel
theorem dX6_mark_12 : decode cX6_mark 12 = .ok (.aload_n 0, 1) := by decide +kernel
theorem dX6_mark_13 : decode cX6_mark 13 = .ok (.iload_n 2, 1) := by decide +kernel
theorem dX6_mark_14 : decode cX6_mark 14 = .ok (.iload_n 3, 1) := by decide +kernel
theorem dX6_mark_15 : decode cX6_mark 15 = .ok (.invokevirtual 57, 3) := by decide +kernel
theorem dX6_mark_18 : decode cX6_mark 18 = .ok (.ifCond .ne 9, 3) := by decide +kernel
theorem dX6_mark_21 : decode cX6_mark 21 = .ok (.aload_n 0, 1) := by decide +kernel
theorem dX6_mark_22 : decode cX6_mark 22 = .ok (.iconst 1, 1) := by decide +kernel
theorem dX6_mark_23 : decode cX6_mark 23 = .ok (.invokevirtual 79, 3) := by decide +kernel
theorem dX6_mark_26 : decode cX6_mark 26 = .ok (.ireturn, 1) := by decide +kernel
theorem dX6_mark_27 : decode cX6_mark 27 = .ok (.iload_n 3, 1) := by decide +kernel
theorem dX6_mark_28 : decode cX6_mark 28 = .ok (.aload_n 0, 1) := by decide +kernel
theorem dX6_mark_29 : decode cX6_mark 29 = .ok (.getfield 20, 3) := by decide +kernel
theorem dX6_mark_32 : decode cX6_mark 32 = .ok (.imul, 1) := by decide +kernel
theorem dX6_mark_33 : decode cX6_mark 33 = .ok (.iload_n 2, 1) := by decide +kernel
theorem dX6_mark_34 : decode cX6_mark 34 = .ok (.iadd, 1) := by decide +kernel
theorem dX6_mark_35 : decode cX6_mark 35 = .ok (.istore 4, 2) := by decide +kernel
theorem dX6_mark_37 : decode cX6_mark 37 = .ok (.aload_n 0, 1) := by decide +kernel
theorem dX6_mark_38 : decode cX6_mark 38 = .ok (.iload 4, 2) := by decide +kernel
theorem dX6_mark_40 : decode cX6_mark 40 = .ok (.invokevirtual 88, 3) := by decide +kernel
theorem dX6_mark_43 : decode cX6_mark 43 = .ok (.istore 5, 2) := by decide +kernel
theorem dX6_mark_45 : decode cX6_mark 45 = .ok (.iload 5, 2) := by decide +kernel
theorem dX6_mark_47 : decode cX6_mark 47 = .ok (.iconst (-1), 1) := by decide +kernel
theorem dX6_mark_48 : decode cX6_mark 48 = .ok (.if_icmp .eq 25, 3) := by decide +kernel
theorem dX6_mark_51 : decode cX6_mark 51 = .ok (.aload_n 0, 1) := by decide +kernel
theorem dX6_mark_52 : decode cX6_mark 52 = .ok (.getfield 39, 3) := by decide +kernel
theorem dX6_mark_55 : decode cX6_mark 55 = .ok (.iload 5, 2) := by decide +kernel
theorem dX6_mark_57 : decode cX6_mark 57 = .ok (.bipush 8, 2) := by decide +kernel
theorem dX6_mark_59 : decode cX6_mark 59 = .ok (.imul, 1) := by decide +kernel
theorem dX6_mark_60 : decode cX6_mark 60 = .ok (.iconst 0, 1) := by decide +kernel
theorem dX6_mark_61 : decode cX6_mark 61 = .ok (.iadd, 1) := by decide +kernel
theorem dX6_mark_62 : decode cX6_mark 62 = .ok (.iaload, 1) := by decide +kernel
theorem dX6_mark_63 : decode cX6_mark 63 = .ok (.iload_n 1, 1) := by decide +kernel
theorem dX6_mark_64 : decode cX6_mark 64 = .ok (.if_icmp .ne 9, 3) := by decide +kernel
theorem dX6_mark_67 : decode cX6_mark 67 = .ok (.aload_n 0, 1) := by decide +kernel
theorem dX6_mark_68 : decode cX6_mark 68 = .ok (.iconst 2, 1) := by decide +kernel
theorem dX6_mark_69 : decode cX6_mark 69 = .ok (.invokevirtual 79, 3) := by decide +kernel
theorem dX6_mark_72 : decode cX6_mark 72 = .ok (.ireturn, 1) := by decide +kernel
theorem dX6_mark_73 : decode cX6_mark 73 = .ok (.aload_n 0, 1) := by decide +kernel
theorem dX6_mark_74 : decode cX6_mark 74 = .ok (.getfield 33, 3) := by decide +kernel
theorem dX6_mark_77 : decode cX6_mark 77 = .ok (.iload_n 1, 1) := by decide +kernel
theorem dX6_mark_78 : decode cX6_mark 78 = .ok (.aload_n 0, 1) := by decide +kernel
theorem dX6_mark_79 : decode cX6_mark 79 = .ok (.getfield 20, 3) := by decide +kernel
theorem dX6_mark_82 : decode cX6_mark 82 = .ok (.imul, 1) := by decide +kernel
theorem dX6_mark_83 : decode cX6_mark 83 = .ok (.aload_n 0, 1) := by decide +kernel
theorem dX6_mark_84 : decode cX6_mark 84 = .ok (.getfield 23, 3) := by decide +kernel
theorem dX6_mark_87 : decode cX6_mark 87 = .ok (.imul, 1) := by decide +kernel
theorem dX6_mark_88 : decode cX6_mark 88 = .ok (.iload 4, 2) := by decide +kernel
theorem dX6_mark_90 : decode cX6_mark 90 = .ok (.iadd, 1) := by decide +kernel
theorem dX6_mark_91 : decode cX6_mark 91 = .ok (.aload_n 0, 1) := by decide +kernel
theorem dX6_mark_92 : decode cX6_mark 92 = .ok (.getfield 33, 3) := by decide +kernel
theorem dX6_mark_95 : decode cX6_mark 95 = .ok (.iload_n 1, 1) := by decide +kernel
theorem dX6_mark_96 : decode cX6_mark 96 = .ok (.aload_n 0, 1) := by decide +kernel
theorem dX6_mark_97 : decode cX6_mark 97 = .ok (.getfield 20, 3) := by decide +kernel
theorem dX6_mark_100 : decode cX6_mark 100 = .ok (.imul, 1) := by decide +kernel
theorem dX6_mark_101 : decode cX6_mark 101 = .ok (.aload_n 0, 1) := by decide +kernel
theorem dX6_mark_102 : decode cX6_mark 102 = .ok (.getfield 23, 3) := by decide +kernel
theorem dX6_mark_105 : decode cX6_mark 105 = .ok (.imul, 1) := by decide +kernel
theorem dX6_mark_106 : decode cX6_mark 106 = .ok (.iload 4, 2) := by decide +kernel
theorem dX6_mark_108 : decode cX6_mark 108 = .ok (.iadd, 1) := by decide +kernel
theorem dX6_mark_109 : decode cX6_mark 109 = .ok (.baload, 1) := by decide +kernel
theorem dX6_mark_110 : decode cX6_mark 110 = .ok (.ifCond .ne 7, 3) := by decide +kernel
theorem dX6_mark_113 : decode cX6_mark 113 = .ok (.iconst 1, 1) := by decide +kernel
theorem dX6_mark_114 : decode cX6_mark 114 = .ok (.goto 4, 3) := by decide +kernel
theorem dX6_mark_117 : decode cX6_mark 117 = .ok (.iconst 0, 1) := by decide +kernel
theorem dX6_mark_118 : decode cX6_mark 118 = .ok (.bastore, 1) := by decide +kernel
theorem dX6_mark_119 : decode cX6_mark 119 = .ok (.iconst 0, 1) := by decide +kernel
theorem dX6_mark_120 : decode cX6_mark 120 = .ok (.istore 6, 2) := by decide +kernel
theorem dX6_mark_122 : decode cX6_mark 122 = .ok (.iconst 0, 1) := by decide +kernel
theorem dX6_mark_123 : decode cX6_mark 123 = .ok (.istore 7, 2) := by decide +kernel
theorem dX6_mark_125 : decode cX6_mark 125 = .ok (.iload 7, 2) := by decide +kernel
theorem dX6_mark_127 : decode cX6_mark 127 = .ok (.aload_n 0, 1) := by decide +kernel
theorem dX6_mark_128 : decode cX6_mark 128 = .ok (.getfield 20, 3) := by decide +kernel
theorem dX6_mark_131 : decode cX6_mark 131 = .ok (.aload_n 0, 1) := by decide +kernel
theorem dX6_mark_132 : decode cX6_mark 132 = .ok (.getfield 23, 3) := by decide +kernel
theorem dX6_mark_135 : decode cX6_mark 135 = .ok (.imul, 1) := by decide +kernel
theorem dX6_mark_136 : decode cX6_mark 136 = .ok (.if_icmp .ge 41, 3) := by decide +kernel
theorem dX6_mark_139 : decode cX6_mark 139 = .ok (.iload 6, 2) := by decide +kernel
theorem dX6_mark_141 : decode cX6_mark 141 = .ok (.aload_n 0, 1) := by decide +kernel
theorem dX6_mark_142 : decode cX6_mark 142 = .ok (.getfield 33, 3) := by decide +kernel
theorem dX6_mark_145 : decode cX6_mark 145 = .ok (.iload_n 1, 1) := by decide +kernel
theorem dX6_mark_146 : decode cX6_mark 146 = .ok (.aload_n 0, 1) := by decide +kernel
theorem dX6_mark_147 : decode cX6_mark 147 = .ok (.getfield 20, 3) := by decide +kernel
theorem dX6_mark_150 : decode cX6_mark 150 = .ok (.imul, 1) := by decide +kernel
theorem dX6_mark_151 : decode cX6_mark 151 = .ok (.aload_n 0, 1) := by decide +kernel
theorem dX6_mark_152 : decode cX6_mark 152 = .ok (.getfield 23, 3) := by decide +kernel
theorem dX6_mark_155 : decode cX6_mark 155 = .ok (.imul, 1) := by decide +kernel
theorem dX6_mark_156 : decode cX6_mark 156 = .ok (.iload 7, 2) := by decide +kernel
theorem dX6_mark_158 : decode cX6_mark 158 = .ok (.iadd, 1) := by decide +kernel
theorem dX6_mark_159 : decode cX6_mark 159 = .ok (.baload, 1) := by decide +kernel
theorem dX6_mark_160 : decode cX6_mark 160 = .ok (.ifCond .eq 7, 3) := by decide +kernel
theorem dX6_mark_163 : decode cX6_mark 163 = .ok (.iconst 1, 1) := by decide +kernel
theorem dX6_mark_164 : decode cX6_mark 164 = .ok (.goto 4, 3) := by decide +kernel
theorem dX6_mark_167 : decode cX6_mark 167 = .ok (.iconst 0, 1) := by decide +kernel
theorem dX6_mark_168 : decode cX6_mark 168 = .ok (.iadd, 1) := by decide +kernel
theorem dX6_mark_169 : decode cX6_mark 169 = .ok (.istore 6, 2) := by decide +kernel
theorem dX6_mark_171 : decode cX6_mark 171 = .ok (.iinc 7 1, 3) := by decide +kernel
theorem dX6_mark_174 : decode cX6_mark 174 = .ok (.goto (-49), 3) := by decide +kernel
theorem dX6_mark_177 : decode cX6_mark 177 = .ok (.iload 6, 2) := by decide +kernel
theorem dX6_mark_179 : decode cX6_mark 179 = .ok (.ireturn, 1) := by decide +kernel
theorem dX6_set_0 : decode cX6_set 0 = .ok (.aload_n 0, 1) := by decide +kernel
theorem dX6_set_1 : decode cX6_set 1 = .ok (.iconst 0, 1) := by decide +kernel
theorem dX6_set_2 : decode cX6_set 2 = .ok (.putfield 46, 3) := by decide +kernel
theorem dX6_set_5 : decode cX6_set 5 = .ok (.iload_n 1, 1) := by decide +kernel
theorem dX6_set_6 : decode cX6_set 6 = .ok (.iconst 0, 1) := by decide +kernel
theorem dX6_set_7 : decode cX6_set 7 = .ok (.bipush 9, 2) := by decide +kernel
theorem dX6_set_9 : decode cX6_set 9 = .ok (.invokestatic 49, 3) := by decide +kernel
theorem dX6_set_12 : decode cX6_set 12 = .ok (.ifCond .eq 13, 3) := by decide +kernel
theorem dX6_set_15 : decode cX6_set 15 = .ok (.iload_n 2, 1) := by decide +kernel
theorem dX6_set_16 : decode cX6_set 16 = .ok (.iconst 1, 1) := by decide +kernel
theorem dX6_set_17 : decode cX6_set 17 = .ok (.bipush 20, 2) := by decide +kernel
theorem dX6_set_19 : decode cX6_set 19 = .ok (.invokestatic 49, 3) := by decide +kernel
theorem dX6_set_22 : decode cX6_set 22 = .ok (.ifCond .ne 9, 3) := by decide +kernel
theorem dX6_set_25 : decode cX6_set 25 = .ok (.aload_n 0, 1) := by decide +kernel
theorem dX6_set_26 : decode cX6_set 26 = .ok (.iconst 1, 1) := by decide +kernel
theorem dX6_set_27 : decode cX6_set 27 = .ok (.invokevirtual 79, 3) := by decide +kernel
theorem dX6_set_30 : decode cX6_set 30 = .ok (.ireturn, 1) := by decide +kernel
theorem dX6_set_31 : decode cX6_set 31 = .ok (.aload_n 0, 1) := by decide +kernel
theorem dX6_set_32 : decode cX6_set 32 = .ok (.getfield 7, 3) := by decide +kernel
theorem dX6_set_35 : decode cX6_set 35 = .ok (.istore_n 3, 1) := by decide +kernel
theorem dX6_set_36 : decode cX6_set 36 = .ok (.aload_n 0, 1) := by decide +kernel
theorem dX6_set_37 : decode cX6_set 37 = .ok (.iload_n 1, 1) := by decide +kernel
theorem dX6_set_38 : decode cX6_set 38 = .ok (.putfield 7, 3) := by decide +kernel
theorem dX6_set_41 : decode cX6_set 41 = .ok (.aload_n 0, 1) := by decide +kernel
theorem dX6_set_42 : decode cX6_set 42 = .ok (.iload_n 2, 1) := by decide +kernel
theorem dX6_set_43 : decode cX6_set 43 = .ok (.putfield 13, 3) := by decide +kernel
theorem dX6_set_46 : decode cX6_set 46 = .ok (.iload_n 3, 1) := by decide +kernel
theorem dX6_set_47 : decode cX6_set 47 = .ok (.ireturn, 1) := by decide +kernel
theorem dX6_fieldNow_0 : decode cX6_fieldNow 0 = .ok (.iload_n 2, 1) := by decide +kernel
theorem dX6_fieldNow_1 : decode cX6_fieldNow 1 = .ok (.tableswitch 55 0 2 #[27, 42, 48], 27) := by decide +kernel
theorem dX6_fieldNow_28 : decode cX6_fieldNow 28 = .ok (.aload_n 0, 1) := by decide +kernel
theorem dX6_fieldNow_29 : decode cX6_fieldNow 29 = .ok (.getfield 29, 3) := by decide +kernel
theorem dX6_fieldNow_32 : decode cX6_fieldNow 32 = .ok (.iload_n 1, 1) := by decide +kernel
theorem dX6_fieldNow_33 : decode cX6_fieldNow 33 = .ok (.baload, 1) := by decide +kernel
theorem dX6_fieldNow_34 : decode cX6_fieldNow 34 = .ok (.ifCond .eq 7, 3) := by decide +kernel
theorem dX6_fieldNow_37 : decode cX6_fieldNow 37 = .ok (.iconst 1, 1) := by decide +kernel
theorem dX6_fieldNow_38 : decode cX6_fieldNow 38 = .ok (.goto 4, 3) := by decide +kernel
theorem dX6_fieldNow_41 : decode cX6_fieldNow 41 = .ok (.iconst 0, 1) := by decide +kernel
theorem dX6_fieldNow_42 : decode cX6_fieldNow 42 = .ok (.ireturn, 1) := by decide +kernel
theorem dX6_fieldNow_43 : decode cX6_fieldNow 43 = .ok (.aload_n 0, 1) := by decide +kernel
theorem dX6_fieldNow_44 : decode cX6_fieldNow 44 = .ok (.iload_n 1, 1) := by decide +kernel
theorem dX6_fieldNow_45 : decode cX6_fieldNow 45 = .ok (.invokevirtual 88, 3) := by decide +kernel
theorem dX6_fieldNow_48 : decode cX6_fieldNow 48 = .ok (.ireturn, 1) := by decide +kernel
theorem dX6_fieldNow_49 : decode cX6_fieldNow 49 = .ok (.aload_n 0, 1) := by decide +kernel
theorem dX6_fieldNow_50 : decode cX6_fieldNow 50 = .ok (.getfield 43, 3) := by decide +kernel
theorem dX6_fieldNow_53 : decode cX6_fieldNow 53 = .ok (.iload_n 1, 1) := by decide +kernel
theorem dX6_fieldNow_54 : decode cX6_fieldNow 54 = .ok (.iaload, 1) := by decide +kernel
theorem dX6_fieldNow_55 : decode cX6_fieldNow 55 = .ok (.ireturn, 1) := by decide +kernel
theorem dX6_fieldNow_56 : decode cX6_fieldNow 56 = .ok (.aload_n 0, 1) := by decide +kernel
theorem dX6_fieldNow_57 : decode cX6_fieldNow 57 = .ok (.iload_n 1, 1) := by decide +kernel
theorem dX6_fieldNow_58 : decode cX6_fieldNow 58 = .ok (.iconst (-1), 1) := by decide +kernel
theorem dX6_fieldNow_59 : decode cX6_fieldNow 59 = .ok (.invokevirtual 94, 3) := by decide +kernel
theorem dX6_fieldNow_62 : decode cX6_fieldNow 62 = .ok (.ireturn, 1) := by decide +kernel
theorem dX6_field_0 : decode cX6_field 0 = .ok (.aload_n 0, 1) := by decide +kernel
theorem dX6_field_1 : decode cX6_field 1 = .ok (.iconst 0, 1) := by decide +kernel
theorem dX6_field_2 : decode cX6_field 2 = .ok (.putfield 46, 3) := by decide +kernel
theorem dX6_field_5 : decode cX6_field 5 = .ok (.aload_n 0, 1) := by decide +kernel
theorem dX6_field_6 : decode cX6_field 6 = .ok (.iload_n 1, 1) := by decide +kernel
theorem dX6_field_7 : decode cX6_field 7 = .ok (.iload_n 2, 1) := by decide +kernel
theorem dX6_field_8 : decode cX6_field 8 = .ok (.invokevirtual 57, 3) := by decide +kernel
theorem dX6_field_11 : decode cX6_field 11 = .ok (.ifCond .ne 9, 3) := by decide +kernel
theorem dX6_field_14 : decode cX6_field 14 = .ok (.aload_n 0, 1) := by decide +kernel
theorem dX6_field_15 : decode cX6_field 15 = .ok (.iconst 1, 1) := by decide +kernel
theorem dX6_field_16 : decode cX6_field 16 = .ok (.invokevirtual 79, 3) := by decide +kernel
theorem dX6_field_19 : decode cX6_field 19 = .ok (.ireturn, 1) := by decide +kernel
theorem dX6_field_20 : decode cX6_field 20 = .ok (.iload_n 3, 1) := by decide +kernel
theorem dX6_field_21 : decode cX6_field 21 = .ok (.iconst 0, 1) := by decide +kernel
theorem dX6_field_22 : decode cX6_field 22 = .ok (.iconst 3, 1) := by decide +kernel
theorem dX6_field_23 : decode cX6_field 23 = .ok (.invokestatic 49, 3) := by decide +kernel
theorem dX6_field_26 : decode cX6_field 26 = .ok (.ifCond .eq 19, 3) := by decide +kernel
theorem dX6_field_29 : decode cX6_field 29 = .ok (.aload_n 0, 1) := by decide +kernel
theorem dX6_field_30 : decode cX6_field 30 = .ok (.iload_n 2, 1) := by decide +kernel
theorem dX6_field_31 : decode cX6_field 31 = .ok (.aload_n 0, 1) := by decide +kernel
theorem dX6_field_32 : decode cX6_field 32 = .ok (.getfield 20, 3) := by decide +kernel
theorem dX6_field_35 : decode cX6_field 35 = .ok (.imul, 1) := by decide +kernel
theorem dX6_field_36 : decode cX6_field 36 = .ok (.iload_n 1, 1) := by decide +kernel
theorem dX6_field_37 : decode cX6_field 37 = .ok (.iadd, 1) := by decide +kernel
theorem dX6_field_38 : decode cX6_field 38 = .ok (.iload_n 3, 1) := by decide +kernel
theorem dX6_field_39 : decode cX6_field 39 = .ok (.invokevirtual 97, 3) := by decide +kernel
theorem dX6_field_42 : decode cX6_field 42 = .ok (.goto 8, 3) := by decide +kernel
theorem dX6_field_45 : decode cX6_field 45 = .ok (.aload_n 0, 1) := by decide +kernel
theorem dX6_field_46 : decode cX6_field 46 = .ok (.iconst 2, 1) := by decide +kernel
theorem dX6_field_47 : decode cX6_field 47 = .ok (.invokevirtual 79, 3) := by decide +kernel
theorem dX6_field_50 : decode cX6_field 50 = .ok (.ireturn, 1) := by decide +kernel
theorem dX6_far__0 : decode cX6_far_ 0 = .ok (.aload_n 0, 1) := by decide +kernel
theorem dX6_far__1 : decode cX6_far_ 1 = .ok (.iconst 0, 1) := by decide +kernel
theorem dX6_far__2 : decode cX6_far_ 2 = .ok (.putfield 46, 3) := by decide +kernel
theorem dX6_far__5 : decode cX6_far_ 5 = .ok (.iload_n 1, 1) := by decide +kernel
theorem dX6_far__6 : decode cX6_far_ 6 = .ok (.invokestatic 91, 3) := by decide +kernel
theorem dX6_far__9 : decode cX6_far_ 9 = .ok (.ifCond .eq 29, 3) := by decide +kernel
theorem dX6_far__12 : decode cX6_far_ 12 = .ok (.aload_n 0, 1) := by decide +kernel
theorem dX6_far__13 : decode cX6_far_ 13 = .ok (.iload_n 2, 1) := by decide +kernel
theorem dX6_far__14 : decode cX6_far_ 14 = .ok (.iload_n 3, 1) := by decide +kernel
theorem dX6_far__15 : decode cX6_far_ 15 = .ok (.invokevirtual 57, 3) := by decide +kernel
theorem dX6_far__18 : decode cX6_far_ 18 = .ok (.ifCond .eq 20, 3) := by decide +kernel
theorem dX6_far__21 : decode cX6_far_ 21 = .ok (.aload_n 0, 1) := by decide +kernel
theorem dX6_far__22 : decode cX6_far_ 22 = .ok (.iload_n 1, 1) := by decide +kernel
theorem dX6_far__23 : decode cX6_far_ 23 = .ok (.invokevirtual 75, 3) := by decide +kernel
theorem dX6_far__26 : decode cX6_far_ 26 = .ok (.iload_n 3, 1) := by decide +kernel
theorem dX6_far__27 : decode cX6_far_ 27 = .ok (.aload_n 0, 1) := by decide +kernel
theorem dX6_far__28 : decode cX6_far_ 28 = .ok (.getfield 20, 3) := by decide +kernel
theorem dX6_far__31 : decode cX6_far_ 31 = .ok (.imul, 1) := by decide +kernel
theorem dX6_far__32 : decode cX6_far_ 32 = .ok (.iload_n 2, 1) := by decide +kernel
theorem dX6_far__33 : decode cX6_far_ 33 = .ok (.iadd, 1) := by decide +kernel
theorem dX6_far__34 : decode cX6_far_ 34 = .ok (.iaload, 1) := by decide +kernel
theorem dX6_far__35 : decode cX6_far_ 35 = .ok (.goto 8, 3) := by decide +kernel
theorem dX6_far__38 : decode cX6_far_ 38 = .ok (.aload_n 0, 1) := by decide +kernel
theorem dX6_far__39 : decode cX6_far_ 39 = .ok (.iconst 1, 1) := by decide +kernel
theorem dX6_far__40 : decode cX6_far_ 40 = .ok (.invokevirtual 79, 3) := by decide +kernel
theorem dX6_far__43 : decode cX6_far_ 43 = .ok (.ireturn, 1) := by decide +kernel
theorem dX6_most_0 : decode cX6_most 0 = .ok (.iconst (-1), 1) := by decide +kernel
theorem dX6_most_1 : decode cX6_most 1 = .ok (.istore_n 1, 1) := by decide +kernel
theorem dX6_most_2 : decode cX6_most 2 = .ok (.aload_n 0, 1) := by decide +kernel
theorem dX6_most_3 : decode cX6_most 3 = .ok (.astore_n 2, 1) := by decide +kernel
theorem dX6_most_4 : decode cX6_most 4 = .ok (.aload_n 2, 1) := by decide +kernel
theorem dX6_most_5 : decode cX6_most 5 = .ok (.arraylength, 1) := by decide +kernel
theorem dX6_most_6 : decode cX6_most 6 = .ok (.istore_n 3, 1) := by decide +kernel
theorem dX6_most_7 : decode cX6_most 7 = .ok (.iconst 0, 1) := by decide +kernel
theorem dX6_most_8 : decode cX6_most 8 = .ok (.istore 4, 2) := by decide +kernel
theorem dX6_most_10 : decode cX6_most 10 = .ok (.iload 4, 2) := by decide +kernel
theorem dX6_most_12 : decode cX6_most 12 = .ok (.iload_n 3, 1) := by decide +kernel
theorem dX6_most_13 : decode cX6_most 13 = .ok (.if_icmp .ge 22, 3) := by decide +kernel
theorem dX6_most_16 : decode cX6_most 16 = .ok (.aload_n 2, 1) := by decide +kernel
theorem dX6_most_17 : decode cX6_most 17 = .ok (.iload 4, 2) := by decide +kernel
theorem dX6_most_19 : decode cX6_most 19 = .ok (.iaload, 1) := by decide +kernel
theorem dX6_most_20 : decode cX6_most 20 = .ok (.istore 5, 2) := by decide +kernel
theorem dX6_most_22 : decode cX6_most 22 = .ok (.iload_n 1, 1) := by decide +kernel
theorem dX6_most_23 : decode cX6_most 23 = .ok (.iload 5, 2) := by decide +kernel
theorem dX6_most_25 : decode cX6_most 25 = .ok (.invokestatic 85, 3) := by decide +kernel
theorem dX6_most_28 : decode cX6_most 28 = .ok (.istore_n 1, 1) := by decide +kernel
theorem dX6_most_29 : decode cX6_most 29 = .ok (.iinc 4 1, 3) := by decide +kernel
theorem dX6_most_32 : decode cX6_most 32 = .ok (.goto (-22), 3) := by decide +kernel
theorem dX6_most_35 : decode cX6_most 35 = .ok (.iload_n 1, 1) := by decide +kernel
theorem dX6_most_36 : decode cX6_most 36 = .ok (.ireturn, 1) := by decide +kernel
theorem dX6_farthest_0 : decode cX6_farthest 0 = .ok (.aload_n 0, 1) := by decide +kernel
theorem dX6_farthest_1 : decode cX6_farthest 1 = .ok (.iconst 0, 1) := by decide +kernel
theorem dX6_farthest_2 : decode cX6_farthest 2 = .ok (.putfield 46, 3) := by decide +kernel
theorem dX6_farthest_5 : decode cX6_farthest 5 = .ok (.iload_n 1, 1) := by decide +kernel
theorem dX6_farthest_6 : decode cX6_farthest 6 = .ok (.invokestatic 91, 3) := by decide +kernel
theorem dX6_farthest_9 : decode cX6_farthest 9 = .ok (.ifCond .eq 14, 3) := by decide +kernel
theorem dX6_farthest_12 : decode cX6_farthest 12 = .ok (.aload_n 0, 1) := by decide +kernel
theorem dX6_farthest_13 : decode cX6_farthest 13 = .ok (.iload_n 1, 1) := by decide +kernel
theorem dX6_farthest_14 : decode cX6_farthest 14 = .ok (.invokevirtual 75, 3) := by decide +kernel
theorem dX6_farthest_17 : decode cX6_farthest 17 = .ok (.invokestatic 100, 3) := by decide +kernel
theorem dX6_farthest_20 : decode cX6_farthest 20 = .ok (.goto 8, 3) := by decide +kernel
theorem dX6_farthest_23 : decode cX6_farthest 23 = .ok (.aload_n 0, 1) := by decide +kernel
theorem dX6_farthest_24 : decode cX6_farthest 24 = .ok (.iconst 1, 1) := by decide +kernel
theorem dX6_farthest_25 : decode cX6_farthest 25 = .ok (.invokevirtual 79, 3) := by decide +kernel
theorem dX6_farthest_28 : decode cX6_farthest 28 = .ok (.ireturn, 1) := by decide +kernel
theorem dX6_walker_0 : decode cX6_walker 0 = .ok (.aload_n 0, 1) := by decide +kernel
theorem dX6_walker_1 : decode cX6_walker 1 = .ok (.iconst 0, 1) := by decide +kernel
theorem dX6_walker_2 : decode cX6_walker 2 = .ok (.putfield 46, 3) := by decide +kernel
theorem dX6_walker_5 : decode cX6_walker 5 = .ok (.iload_n 1, 1) := by decide +kernel
theorem dX6_walker_6 : decode cX6_walker 6 = .ok (.invokestatic 91, 3) := by decide +kernel
theorem dX6_walker_9 : decode cX6_walker 9 = .ok (.ifCond .eq 14, 3) := by decide +kernel
theorem dX6_walker_12 : decode cX6_walker 12 = .ok (.aload_n 0, 1) := by decide +kernel
theorem dX6_walker_13 : decode cX6_walker 13 = .ok (.iload 4, 2) := by decide +kernel
theorem dX6_walker_15 : decode cX6_walker 15 = .ok (.iload 5, 2) := by decide +kernel
theorem dX6_walker_17 : decode cX6_walker 17 = .ok (.invokevirtual 57, 3) := by decide +kernel
theorem dX6_walker_20 : decode cX6_walker 20 = .ok (.ifCond .ne 9, 3) := by decide +kernel
theorem dX6_walker_23 : decode cX6_walker 23 = .ok (.aload_n 0, 1) := by decide +kernel
theorem dX6_walker_24 : decode cX6_walker 24 = .ok (.iconst 1, 1) := by decide +kernel
theorem dX6_walker_25 : decode cX6_walker 25 = .ok (.invokevirtual 79, 3) := by decide +kernel
theorem dX6_walker_28 : decode cX6_walker 28 = .ok (.ireturn, 1) := by decide +kernel
theorem dX6_walker_29 : decode cX6_walker 29 = .ok (.iload_n 2, 1) := by decide +kernel
theorem dX6_walker_30 : decode cX6_walker 30 = .ok (.iconst 1, 1) := by decide +kernel
theorem dX6_walker_31 : decode cX6_walker 31 = .ok (.iconst 3, 1) := by decide +kernel
theorem dX6_walker_32 : decode cX6_walker 32 = .ok (.invokestatic 49, 3) := by decide +kernel
theorem dX6_walker_35 : decode cX6_walker 35 = .ok (.ifCond .eq 13, 3) := by decide +kernel
theorem dX6_walker_38 : decode cX6_walker 38 = .ok (.iload_n 3, 1) := by decide +kernel
theorem dX6_walker_39 : decode cX6_walker 39 = .ok (.iconst 0, 1) := by decide +kernel
theorem dX6_walker_40 : decode cX6_walker 40 = .ok (.bipush 9, 2) := by decide +kernel
theorem dX6_walker_42 : decode cX6_walker 42 = .ok (.invokestatic 49, 3) := by decide +kernel
theorem dX6_walker_45 : decode cX6_walker 45 = .ok (.ifCond .ne 9, 3) := by decide +kernel
theorem dX6_walker_48 : decode cX6_walker 48 = .ok (.aload_n 0, 1) := by decide +kernel
theorem dX6_walker_49 : decode cX6_walker 49 = .ok (.iconst 2, 1) := by decide +kernel
theorem dX6_walker_50 : decode cX6_walker 50 = .ok (.invokevirtual 79, 3) := by decide +kernel
theorem dX6_walker_53 : decode cX6_walker 53 = .ok (.ireturn, 1) := by decide +kernel
theorem dX6_walker_54 : decode cX6_walker 54 = .ok (.iload 5, 2) := by decide +kernel
theorem dX6_walker_56 : decode cX6_walker 56 = .ok (.aload_n 0, 1) := by decide +kernel
theorem dX6_walker_57 : decode cX6_walker 57 = .ok (.getfield 20, 3) := by decide +kernel
theorem dX6_walker_60 : decode cX6_walker 60 = .ok (.imul, 1) := by decide +kernel
theorem dX6_walker_61 : decode cX6_walker 61 = .ok (.iload 4, 2) := by decide +kernel
theorem dX6_walker_63 : decode cX6_walker 63 = .ok (.iadd, 1) := by decide +kernel
theorem dX6_walker_64 : decode cX6_walker 64 = .ok (.istore 6, 2) := by decide +kernel
theorem dX6_walker_66 : decode cX6_walker 66 = .ok (.aload_n 0, 1) := by decide +kernel
theorem dX6_walker_67 : decode cX6_walker 67 = .ok (.getfield 36, 3) := by decide +kernel
theorem dX6_walker_70 : decode cX6_walker 70 = .ok (.bipush 24, 2) := by decide +kernel
theorem dX6_walker_72 : decode cX6_walker 72 = .ok (.if_icmp .eq 45, 3) := by decide +kernel
theorem dX6_walker_75 : decode cX6_walker 75 = .ok (.aload_n 0, 1) := by decide +kernel
theorem dX6_walker_76 : decode cX6_walker 76 = .ok (.getfield 29, 3) := by decide +kernel
theorem dX6_walker_79 : decode cX6_walker 79 = .ok (.iload 6, 2) := by decide +kernel
theorem dX6_walker_81 : decode cX6_walker 81 = .ok (.baload, 1) := by decide +kernel
theorem dX6_walker_82 : decode cX6_walker 82 = .ok (.ifCond .ne 35, 3) := by decide +kernel
theorem dX6_walker_85 : decode cX6_walker 85 = .ok (.aload_n 0, 1) := by decide +kernel
theorem dX6_walker_86 : decode cX6_walker 86 = .ok (.getfield 33, 3) := by decide +kernel
theorem dX6_walker_89 : decode cX6_walker 89 = .ok (.iload_n 1, 1) := by decide +kernel
theorem dX6_walker_90 : decode cX6_walker 90 = .ok (.aload_n 0, 1) := by decide +kernel
theorem dX6_walker_91 : decode cX6_walker 91 = .ok (.getfield 20, 3) := by decide +kernel
theorem dX6_walker_94 : decode cX6_walker 94 = .ok (.imul, 1) := by decide +kernel
theorem dX6_walker_95 : decode cX6_walker 95 = .ok (.aload_n 0, 1) := by decide +kernel
theorem dX6_walker_96 : decode cX6_walker 96 = .ok (.getfield 23, 3) := by decide +kernel
theorem dX6_walker_99 : decode cX6_walker 99 = .ok (.imul, 1) := by decide +kernel
theorem dX6_walker_100 : decode cX6_walker 100 = .ok (.iload 6, 2) := by decide +kernel
theorem dX6_walker_102 : decode cX6_walker 102 = .ok (.iadd, 1) := by decide +kernel
theorem dX6_walker_103 : decode cX6_walker 103 = .ok (.baload, 1) := by decide +kernel
theorem dX6_walker_104 : decode cX6_walker 104 = .ok (.ifCond .ne 13, 3) := by decide +kernel
theorem dX6_walker_107 : decode cX6_walker 107 = .ok (.aload_n 0, 1) := by decide +kernel
theorem dX6_walker_108 : decode cX6_walker 108 = .ok (.iload 6, 2) := by decide +kernel
theorem dX6_walker_110 : decode cX6_walker 110 = .ok (.invokevirtual 88, 3) := by decide +kernel
theorem dX6_walker_113 : decode cX6_walker 113 = .ok (.iconst (-1), 1) := by decide +kernel
theorem dX6_walker_114 : decode cX6_walker 114 = .ok (.if_icmp .eq 9, 3) := by decide +kernel
theorem dX6_walker_117 : decode cX6_walker 117 = .ok (.aload_n 0, 1) := by decide +kernel
theorem dX6_walker_118 : decode cX6_walker 118 = .ok (.iconst 3, 1) := by decide +kernel
theorem dX6_walker_119 : decode cX6_walker 119 = .ok (.invokevirtual 79, 3) := by decide +kernel
theorem dX6_walker_122 : decode cX6_walker 122 = .ok (.ireturn, 1) := by decide +kernel
theorem dX6_walker_123 : decode cX6_walker 123 = .ok (.bipush 8, 2) := by decide +kernel
theorem dX6_walker_125 : decode cX6_walker 125 = .ok (.newarray .int, 2) := by decide +kernel
theorem dX6_walker_127 : decode cX6_walker 127 = .ok (.dup, 1) := by decide +kernel
theorem dX6_walker_128 : decode cX6_walker 128 = .ok (.iconst 0, 1) := by decide +kernel
theorem dX6_walker_129 : decode cX6_walker 129 = .ok (.iload_n 1, 1) := by decide +kernel
theorem dX6_walker_130 : decode cX6_walker 130 = .ok (.iastore, 1) := by decide +kernel
theorem dX6_walker_131 : decode cX6_walker 131 = .ok (.dup, 1) := by decide +kernel
theorem dX6_walker_132 : decode cX6_walker 132 = .ok (.iconst 1, 1) := by decide +kernel
theorem dX6_walker_133 : decode cX6_walker 133 = .ok (.iload_n 2, 1) := by decide +kernel
theorem dX6_walker_134 : decode cX6_walker 134 = .ok (.iastore, 1) := by decide +kernel
theorem dX6_walker_135 : decode cX6_walker 135 = .ok (.dup, 1) := by decide +kernel
theorem dX6_walker_136 : decode cX6_walker 136 = .ok (.iconst 2, 1) := by decide +kernel
theorem dX6_walker_137 : decode cX6_walker 137 = .ok (.iload_n 3, 1) := by decide +kernel
theorem dX6_walker_138 : decode cX6_walker 138 = .ok (.iastore, 1) := by decide +kernel
theorem dX6_walker_139 : decode cX6_walker 139 = .ok (.dup, 1) := by decide +kernel
theorem dX6_walker_140 : decode cX6_walker 140 = .ok (.iconst 3, 1) := by decide +kernel
theorem dX6_walker_141 : decode cX6_walker 141 = .ok (.iload 6, 2) := by decide +kernel
theorem dX6_walker_143 : decode cX6_walker 143 = .ok (.iastore, 1) := by decide +kernel
theorem dX6_walker_144 : decode cX6_walker 144 = .ok (.dup, 1) := by decide +kernel
theorem dX6_walker_145 : decode cX6_walker 145 = .ok (.iconst 4, 1) := by decide +kernel
theorem dX6_walker_146 : decode cX6_walker 146 = .ok (.iconst 4, 1) := by decide +kernel
theorem dX6_walker_147 : decode cX6_walker 147 = .ok (.iastore, 1) := by decide +kernel
theorem dX6_walker_148 : decode cX6_walker 148 = .ok (.dup, 1) := by decide +kernel
theorem dX6_walker_149 : decode cX6_walker 149 = .ok (.iconst 5, 1) := by decide +kernel
theorem dX6_walker_150 : decode cX6_walker 150 = .ok (.iconst 0, 1) := by decide +kernel
theorem dX6_walker_151 : decode cX6_walker 151 = .ok (.iastore, 1) := by decide +kernel
theorem dX6_walker_152 : decode cX6_walker 152 = .ok (.dup, 1) := by decide +kernel
theorem dX6_walker_153 : decode cX6_walker 153 = .ok (.bipush 6, 2) := by decide +kernel
theorem dX6_walker_155 : decode cX6_walker 155 = .ok (.iconst 0, 1) := by decide +kernel
theorem dX6_walker_156 : decode cX6_walker 156 = .ok (.iastore, 1) := by decide +kernel
theorem dX6_walker_157 : decode cX6_walker 157 = .ok (.dup, 1) := by decide +kernel
theorem dX6_walker_158 : decode cX6_walker 158 = .ok (.bipush 7, 2) := by decide +kernel
theorem dX6_walker_160 : decode cX6_walker 160 = .ok (.iconst (-1), 1) := by decide +kernel
theorem dX6_walker_161 : decode cX6_walker 161 = .ok (.iastore, 1) := by decide +kernel
theorem dX6_walker_162 : decode cX6_walker 162 = .ok (.astore 7, 2) := by decide +kernel
theorem dX6_walker_164 : decode cX6_walker 164 = .ok (.aload 7, 2) := by decide +kernel
theorem dX6_walker_166 : decode cX6_walker 166 = .ok (.iconst 0, 1) := by decide +kernel
theorem dX6_walker_167 : decode cX6_walker 167 = .ok (.aload_n 0, 1) := by decide +kernel
theorem dX6_walker_168 : decode cX6_walker 168 = .ok (.getfield 39, 3) := by decide +kernel
theorem dX6_walker_171 : decode cX6_walker 171 = .ok (.aload_n 0, 1) := by decide +kernel
theorem dX6_walker_172 : decode cX6_walker 172 = .ok (.getfield 36, 3) := by decide +kernel
theorem dX6_walker_175 : decode cX6_walker 175 = .ok (.bipush 8, 2) := by decide +kernel
theorem dX6_walker_177 : decode cX6_walker 177 = .ok (.imul, 1) := by decide +kernel
theorem dX6_walker_178 : decode cX6_walker 178 = .ok (.bipush 8, 2) := by decide +kernel
theorem dX6_walker_180 : decode cX6_walker 180 = .ok (.invokestatic 104, 3) := by decide +kernel
theorem dX6_walker_183 : decode cX6_walker 183 = .ok (.aload_n 0, 1) := by decide +kernel
theorem dX6_walker_184 : decode cX6_walker 184 = .ok (.dup, 1) := by decide +kernel
theorem dX6_walker_185 : decode cX6_walker 185 = .ok (.getfield 36, 3) := by decide +kernel
theorem dX6_walker_188 : decode cX6_walker 188 = .ok (.dup_x1, 1) := by decide +kernel
theorem dX6_walker_189 : decode cX6_walker 189 = .ok (.iconst 1, 1) := by decide +kernel
theorem dX6_walker_190 : decode cX6_walker 190 = .ok (.iadd, 1) := by decide +kernel
theorem dX6_walker_191 : decode cX6_walker 191 = .ok (.putfield 36, 3) := by decide +kernel
theorem dX6_walker_194 : decode cX6_walker 194 = .ok (.ireturn, 1) := by decide +kernel
theorem dX6_turnTo_0 : decode cX6_turnTo 0 = .ok (.aload_n 0, 1) := by decide +kernel
theorem dX6_turnTo_1 : decode cX6_turnTo 1 = .ok (.iconst 0, 1) := by decide +kernel
theorem dX6_turnTo_2 : decode cX6_turnTo 2 = .ok (.putfield 46, 3) := by decide +kernel
theorem dX6_turnTo_5 : decode cX6_turnTo 5 = .ok (.aload_n 0, 1) := by decide +kernel
theorem dX6_turnTo_6 : decode cX6_turnTo 6 = .ok (.iload_n 1, 1) := by decide +kernel
theorem dX6_turnTo_7 : decode cX6_turnTo 7 = .ok (.invokevirtual 53, 3) := by decide +kernel
theorem dX6_turnTo_10 : decode cX6_turnTo 10 = .ok (.ifCond .eq 10, 3) := by decide +kernel
theorem dX6_turnTo_13 : decode cX6_turnTo 13 = .ok (.iload_n 2, 1) := by decide +kernel
theorem dX6_turnTo_14 : decode cX6_turnTo 14 = .ok (.invokestatic 91, 3) := by decide +kernel
theorem dX6_turnTo_17 : decode cX6_turnTo 17 = .ok (.ifCond .ne 9, 3) := by decide +kernel
theorem dX6_turnTo_20 : decode cX6_turnTo 20 = .ok (.aload_n 0, 1) := by decide +kernel
theorem dX6_turnTo_21 : decode cX6_turnTo 21 = .ok (.iconst 1, 1) := by decide +kernel
theorem dX6_turnTo_22 : decode cX6_turnTo 22 = .ok (.invokevirtual 79, 3) := by decide +kernel
theorem dX6_turnTo_25 : decode cX6_turnTo 25 = .ok (.ireturn, 1) := by decide +kernel
theorem dX6_turnTo_26 : decode cX6_turnTo 26 = .ok (.iload_n 3, 1) := by decide +kernel
theorem dX6_turnTo_27 : decode cX6_turnTo 27 = .ok (.iconst 0, 1) := by decide +kernel
theorem dX6_turnTo_28 : decode cX6_turnTo 28 = .ok (.bipush 9, 2) := by decide +kernel
theorem dX6_turnTo_30 : decode cX6_turnTo 30 = .ok (.invokestatic 49, 3) := by decide +kernel
theorem dX6_turnTo_33 : decode cX6_turnTo 33 = .ok (.ifCond .ne 9, 3) := by decide +kernel
theorem dX6_turnTo_36 : decode cX6_turnTo 36 = .ok (.aload_n 0, 1) := by decide +kernel
theorem dX6_turnTo_37 : decode cX6_turnTo 37 = .ok (.iconst 2, 1) := by decide +kernel
theorem dX6_turnTo_38 : decode cX6_turnTo 38 = .ok (.invokevirtual 79, 3) := by decide +kernel
theorem dX6_turnTo_41 : decode cX6_turnTo 41 = .ok (.ireturn, 1) := by decide +kernel
theorem dX6_turnTo_42 : decode cX6_turnTo 42 = .ok (.iload_n 1, 1) := by decide +kernel
theorem dX6_turnTo_43 : decode cX6_turnTo 43 = .ok (.bipush 8, 2) := by decide +kernel
theorem dX6_turnTo_45 : decode cX6_turnTo 45 = .ok (.imul, 1) := by decide +kernel
theorem dX6_turnTo_46 : decode cX6_turnTo 46 = .ok (.istore 4, 2) := by decide +kernel
theorem dX6_turnTo_48 : decode cX6_turnTo 48 = .ok (.aload_n 0, 1) := by decide +kernel
theorem dX6_turnTo_49 : decode cX6_turnTo 49 = .ok (.iload_n 1, 1) := by decide +kernel
theorem dX6_turnTo_50 : decode cX6_turnTo 50 = .ok (.invokevirtual 110, 3) := by decide +kernel
theorem dX6_turnTo_53 : decode cX6_turnTo 53 = .ok (.ifCond .eq 32, 3) := by decide +kernel
theorem dX6_turnTo_56 : decode cX6_turnTo 56 = .ok (.aload_n 0, 1) := by decide +kernel
theorem dX6_turnTo_57 : decode cX6_turnTo 57 = .ok (.getfield 33, 3) := by decide +kernel
theorem dX6_turnTo_60 : decode cX6_turnTo 60 = .ok (.iload_n 2, 1) := by decide +kernel
theorem dX6_turnTo_61 : decode cX6_turnTo 61 = .ok (.aload_n 0, 1) := by decide +kernel
theorem dX6_turnTo_62 : decode cX6_turnTo 62 = .ok (.getfield 20, 3) := by decide +kernel
theorem dX6_turnTo_65 : decode cX6_turnTo 65 = .ok (.imul, 1) := by decide +kernel
theorem dX6_turnTo_66 : decode cX6_turnTo 66 = .ok (.aload_n 0, 1) := by decide +kernel
theorem dX6_turnTo_67 : decode cX6_turnTo 67 = .ok (.getfield 23, 3) := by decide +kernel
theorem dX6_turnTo_70 : decode cX6_turnTo 70 = .ok (.imul, 1) := by decide +kernel
theorem dX6_turnTo_71 : decode cX6_turnTo 71 = .ok (.aload_n 0, 1) := by decide +kernel
theorem dX6_turnTo_72 : decode cX6_turnTo 72 = .ok (.getfield 39, 3) := by decide +kernel
theorem dX6_turnTo_75 : decode cX6_turnTo 75 = .ok (.iload 4, 2) := by decide +kernel
theorem dX6_turnTo_77 : decode cX6_turnTo 77 = .ok (.iconst 3, 1) := by decide +kernel
theorem dX6_turnTo_78 : decode cX6_turnTo 78 = .ok (.iadd, 1) := by decide +kernel
theorem dX6_turnTo_79 : decode cX6_turnTo 79 = .ok (.iaload, 1) := by decide +kernel
theorem dX6_turnTo_80 : decode cX6_turnTo 80 = .ok (.iadd, 1) := by decide +kernel
theorem dX6_turnTo_81 : decode cX6_turnTo 81 = .ok (.baload, 1) := by decide +kernel
theorem dX6_turnTo_82 : decode cX6_turnTo 82 = .ok (.ifCond .eq 9, 3) := by decide +kernel
theorem dX6_turnTo_85 : decode cX6_turnTo 85 = .ok (.aload_n 0, 1) := by decide +kernel
theorem dX6_turnTo_86 : decode cX6_turnTo 86 = .ok (.iconst 3, 1) := by decide +kernel
theorem dX6_turnTo_87 : decode cX6_turnTo 87 = .ok (.invokevirtual 79, 3) := by decide +kernel
theorem dX6_turnTo_90 : decode cX6_turnTo 90 = .ok (.ireturn, 1) := by decide +kernel
theorem dX6_turnTo_91 : decode cX6_turnTo 91 = .ok (.aload_n 0, 1) := by decide +kernel
theorem dX6_turnTo_92 : decode cX6_turnTo 92 = .ok (.getfield 39, 3) := by decide +kernel
theorem dX6_turnTo_95 : decode cX6_turnTo 95 = .ok (.iload 4, 2) := by decide +kernel
theorem dX6_turnTo_97 : decode cX6_turnTo 97 = .ok (.iconst 0, 1) := by decide +kernel
theorem dX6_turnTo_98 : decode cX6_turnTo 98 = .ok (.iadd, 1) := by decide +kernel
theorem dX6_turnTo_99 : decode cX6_turnTo 99 = .ok (.iaload, 1) := by decide +kernel
theorem dX6_turnTo_100 : decode cX6_turnTo 100 = .ok (.istore 5, 2) := by decide +kernel
theorem dX6_turnTo_102 : decode cX6_turnTo 102 = .ok (.aload_n 0, 1) := by decide +kernel
theorem dX6_turnTo_103 : decode cX6_turnTo 103 = .ok (.getfield 39, 3) := by decide +kernel
theorem dX6_turnTo_106 : decode cX6_turnTo 106 = .ok (.iload 4, 2) := by decide +kernel
theorem dX6_turnTo_108 : decode cX6_turnTo 108 = .ok (.iconst 0, 1) := by decide +kernel
theorem dX6_turnTo_109 : decode cX6_turnTo 109 = .ok (.iadd, 1) := by decide +kernel
theorem dX6_turnTo_110 : decode cX6_turnTo 110 = .ok (.iload_n 2, 1) := by decide +kernel
theorem dX6_turnTo_111 : decode cX6_turnTo 111 = .ok (.iastore, 1) := by decide +kernel
theorem dX6_turnTo_112 : decode cX6_turnTo 112 = .ok (.aload_n 0, 1) := by decide +kernel
theorem dX6_turnTo_113 : decode cX6_turnTo 113 = .ok (.getfield 39, 3) := by decide +kernel
theorem dX6_turnTo_116 : decode cX6_turnTo 116 = .ok (.iload 4, 2) := by decide +kernel
theorem dX6_turnTo_118 : decode cX6_turnTo 118 = .ok (.iconst 2, 1) := by decide +kernel
theorem dX6_turnTo_119 : decode cX6_turnTo 119 = .ok (.iadd, 1) := by decide +kernel
theorem dX6_turnTo_120 : decode cX6_turnTo 120 = .ok (.iload_n 3, 1) := by decide +kernel
theorem dX6_turnTo_121 : decode cX6_turnTo 121 = .ok (.iastore, 1) := by decide +kernel
theorem dX6_turnTo_122 : decode cX6_turnTo 122 = .ok (.iload 5, 2) := by decide +kernel
theorem dX6_turnTo_124 : decode cX6_turnTo 124 = .ok (.ireturn, 1) := by decide +kernel
theorem dX6_costNow_0 : decode cX6_costNow 0 = .ok (.aload_n 0, 1) := by decide +kernel
theorem dX6_costNow_1 : decode cX6_costNow 1 = .ok (.getfield 39, 3) := by decide +kernel
theorem dX6_costNow_4 : decode cX6_costNow 4 = .ok (.iload_n 1, 1) := by decide +kernel
theorem dX6_costNow_5 : decode cX6_costNow 5 = .ok (.bipush 8, 2) := by decide +kernel
theorem dX6_costNow_7 : decode cX6_costNow 7 = .ok (.imul, 1) := by decide +kernel
theorem dX6_costNow_8 : decode cX6_costNow 8 = .ok (.iconst 3, 1) := by decide +kernel
theorem dX6_costNow_9 : decode cX6_costNow 9 = .ok (.iadd, 1) := by decide +kernel
theorem dX6_costNow_10 : decode cX6_costNow 10 = .ok (.iaload, 1) := by decide +kernel
theorem dX6_costNow_11 : decode cX6_costNow 11 = .ok (.istore 4, 2) := by decide +kernel
theorem dX6_costNow_13 : decode cX6_costNow 13 = .ok (.iload_n 2, 1) := by decide +kernel
theorem dX6_costNow_14 : decode cX6_costNow 14 = .ok (.iconst 4, 1) := by decide +kernel
theorem dX6_costNow_15 : decode cX6_costNow 15 = .ok (.if_icmp .ne 8, 3) := by decide +kernel
theorem dX6_costNow_18 : decode cX6_costNow 18 = .ok (.iload 4, 2) := by decide +kernel
theorem dX6_costNow_20 : decode cX6_costNow 20 = .ok (.goto 10, 3) := by decide +kernel
theorem dX6_costNow_23 : decode cX6_costNow 23 = .ok (.aload_n 0, 1) := by decide +kernel
theorem dX6_costNow_24 : decode cX6_costNow 24 = .ok (.iload 4, 2) := by decide +kernel
theorem dX6_costNow_26 : decode cX6_costNow 26 = .ok (.iload_n 2, 1) := by decide +kernel
theorem dX6_costNow_27 : decode cX6_costNow 27 = .ok (.invokevirtual 70, 3) := by decide +kernel
theorem dX6_costNow_30 : decode cX6_costNow 30 = .ok (.istore 5, 2) := by decide +kernel
theorem dX6_costNow_32 : decode cX6_costNow 32 = .ok (.iload 5, 2) := by decide +kernel
theorem dX6_costNow_34 : decode cX6_costNow 34 = .ok (.iconst (-1), 1) := by decide +kernel
theorem dX6_costNow_35 : decode cX6_costNow 35 = .ok (.if_icmp .eq 26, 3) := by decide +kernel
theorem dX6_costNow_38 : decode cX6_costNow 38 = .ok (.aload_n 3, 1) := by decide +kernel
theorem dX6_costNow_39 : decode cX6_costNow 39 = .ok (.iload 5, 2) := by decide +kernel
theorem dX6_costNow_41 : decode cX6_costNow 41 = .ok (.iaload, 1) := by decide +kernel
theorem dX6_costNow_42 : decode cX6_costNow 42 = .ok (.iconst (-1), 1) := by decide +kernel
theorem dX6_costNow_43 : decode cX6_costNow 43 = .ok (.if_icmp .eq 18, 3) := by decide +kernel
theorem dX6_costNow_46 : decode cX6_costNow 46 = .ok (.iload_n 2, 1) := by decide +kernel
theorem dX6_costNow_47 : decode cX6_costNow 47 = .ok (.iconst 4, 1) := by decide +kernel
theorem dX6_costNow_48 : decode cX6_costNow 48 = .ok (.if_icmp .eq 17, 3) := by decide +kernel
theorem dX6_costNow_51 : decode cX6_costNow 51 = .ok (.aload_n 0, 1) := by decide +kernel
theorem dX6_costNow_52 : decode cX6_costNow 52 = .ok (.iload 5, 2) := by decide +kernel
theorem dX6_costNow_54 : decode cX6_costNow 54 = .ok (.invokevirtual 88, 3) := by decide +kernel
theorem dX6_costNow_57 : decode cX6_costNow 57 = .ok (.iconst (-1), 1) := by decide +kernel
theorem dX6_costNow_58 : decode cX6_costNow 58 = .ok (.if_icmp .eq 7, 3) := by decide +kernel
theorem dX6_costNow_61 : decode cX6_costNow 61 = .ok (.sipush 10000, 3) := by decide +kernel
theorem dX6_costNow_64 : decode cX6_costNow 64 = .ok (.ireturn, 1) := by decide +kernel
theorem dX6_costNow_65 : decode cX6_costNow 65 = .ok (.bipush 10, 2) := by decide +kernel
theorem dX6_costNow_67 : decode cX6_costNow 67 = .ok (.aload_n 3, 1) := by decide +kernel
theorem dX6_costNow_68 : decode cX6_costNow 68 = .ok (.iload 5, 2) := by decide +kernel
theorem dX6_costNow_70 : decode cX6_costNow 70 = .ok (.iaload, 1) := by decide +kernel
theorem dX6_costNow_71 : decode cX6_costNow 71 = .ok (.imul, 1) := by decide +kernel
theorem dX6_costNow_72 : decode cX6_costNow 72 = .ok (.aload_n 0, 1) := by decide +kernel
theorem dX6_costNow_73 : decode cX6_costNow 73 = .ok (.getfield 39, 3) := by decide +kernel
theorem dX6_costNow_76 : decode cX6_costNow 76 = .ok (.iload_n 1, 1) := by decide +kernel
theorem dX6_costNow_77 : decode cX6_costNow 77 = .ok (.bipush 8, 2) := by decide +kernel
theorem dX6_costNow_79 : decode cX6_costNow 79 = .ok (.imul, 1) := by decide +kernel
theorem dX6_costNow_80 : decode cX6_costNow 80 = .ok (.iconst 2, 1) := by decide +kernel
theorem dX6_costNow_81 : decode cX6_costNow 81 = .ok (.iadd, 1) := by decide +kernel
theorem dX6_costNow_82 : decode cX6_costNow 82 = .ok (.iaload, 1) := by decide +kernel
theorem dX6_costNow_83 : decode cX6_costNow 83 = .ok (.aload_n 0, 1) := by decide +kernel
theorem dX6_costNow_84 : decode cX6_costNow 84 = .ok (.iload 5, 2) := by decide +kernel
theorem dX6_costNow_86 : decode cX6_costNow 86 = .ok (.iload_n 1, 1) := by decide +kernel
theorem dX6_costNow_87 : decode cX6_costNow 87 = .ok (.invokevirtual 94, 3) := by decide +kernel
theorem dX6_costNow_90 : decode cX6_costNow 90 = .ok (.imul, 1) := by decide +kernel
theorem dX6_costNow_91 : decode cX6_costNow 91 = .ok (.iadd, 1) := by decide +kernel
theorem dX6_costNow_92 : decode cX6_costNow 92 = .ok (.istore 6, 2) := by decide +kernel
theorem dX6_costNow_94 : decode cX6_costNow 94 = .ok (.iconst 0, 1) := by decide +kernel
theorem dX6_costNow_95 : decode cX6_costNow 95 = .ok (.istore 7, 2) := by decide +kernel
theorem dX6_costNow_97 : decode cX6_costNow 97 = .ok (.iload 7, 2) := by decide +kernel
theorem dX6_costNow_99 : decode cX6_costNow 99 = .ok (.aload_n 0, 1) := by decide +kernel
theorem dX6_costNow_100 : decode cX6_costNow 100 = .ok (.getfield 36, 3) := by decide +kernel
theorem dX6_costNow_103 : decode cX6_costNow 103 = .ok (.if_icmp .ge 76, 3) := by decide +kernel
theorem dX6_costNow_106 : decode cX6_costNow 106 = .ok (.iload_n 2, 1) := by decide +kernel
theorem dX6_costNow_107 : decode cX6_costNow 107 = .ok (.iconst 4, 1) := by decide +kernel
theorem dX6_costNow_108 : decode cX6_costNow 108 = .ok (.if_icmp .eq 71, 3) := by decide +kernel
theorem dX6_costNow_111 : decode cX6_costNow 111 = .ok (.aload_n 0, 1) := by decide +kernel
theorem dX6_costNow_112 : decode cX6_costNow 112 = .ok (.getfield 39, 3) := by decide +kernel
theorem dX6_costNow_115 : decode cX6_costNow 115 = .ok (.iload 7, 2) := by decide +kernel
theorem dX6_costNow_117 : decode cX6_costNow 117 = .ok (.bipush 8, 2) := by decide +kernel
theorem dX6_costNow_119 : decode cX6_costNow 119 = .ok (.imul, 1) := by decide +kernel
theorem dX6_costNow_120 : decode cX6_costNow 120 = .ok (.iconst 3, 1) := by decide +kernel
theorem dX6_costNow_121 : decode cX6_costNow 121 = .ok (.iadd, 1) := by decide +kernel
theorem dX6_costNow_122 : decode cX6_costNow 122 = .ok (.iaload, 1) := by decide +kernel
theorem dX6_costNow_123 : decode cX6_costNow 123 = .ok (.istore 8, 2) := by decide +kernel
theorem dX6_costNow_125 : decode cX6_costNow 125 = .ok (.iload 7, 2) := by decide +kernel
theorem dX6_costNow_127 : decode cX6_costNow 127 = .ok (.iload_n 1, 1) := by decide +kernel
theorem dX6_costNow_128 : decode cX6_costNow 128 = .ok (.if_icmp .eq 45, 3) := by decide +kernel
theorem dX6_costNow_131 : decode cX6_costNow 131 = .ok (.iload 8, 2) := by decide +kernel
theorem dX6_costNow_133 : decode cX6_costNow 133 = .ok (.iconst (-1), 1) := by decide +kernel
theorem dX6_costNow_134 : decode cX6_costNow 134 = .ok (.if_icmp .eq 39, 3) := by decide +kernel
theorem dX6_costNow_137 : decode cX6_costNow 137 = .ok (.aload_n 0, 1) := by decide +kernel
theorem dX6_costNow_138 : decode cX6_costNow 138 = .ok (.iload 4, 2) := by decide +kernel
theorem dX6_costNow_140 : decode cX6_costNow 140 = .ok (.iload 8, 2) := by decide +kernel
theorem dX6_costNow_142 : decode cX6_costNow 142 = .ok (.invokevirtual 67, 3) := by decide +kernel
theorem dX6_costNow_145 : decode cX6_costNow 145 = .ok (.ifCond .eq 28, 3) := by decide +kernel
theorem dX6_costNow_148 : decode cX6_costNow 148 = .ok (.aload_n 0, 1) := by decide +kernel
theorem dX6_costNow_149 : decode cX6_costNow 149 = .ok (.getfield 39, 3) := by decide +kernel
theorem dX6_costNow_152 : decode cX6_costNow 152 = .ok (.iload 7, 2) := by decide +kernel
theorem dX6_costNow_154 : decode cX6_costNow 154 = .ok (.bipush 8, 2) := by decide +kernel
theorem dX6_costNow_156 : decode cX6_costNow 156 = .ok (.imul, 1) := by decide +kernel
theorem dX6_costNow_157 : decode cX6_costNow 157 = .ok (.iconst 4, 1) := by decide +kernel
theorem dX6_costNow_158 : decode cX6_costNow 158 = .ok (.iadd, 1) := by decide +kernel
theorem dX6_costNow_159 : decode cX6_costNow 159 = .ok (.iaload, 1) := by decide +kernel
theorem dX6_costNow_160 : decode cX6_costNow 160 = .ok (.iload_n 2, 1) := by decide +kernel
theorem dX6_costNow_161 : decode cX6_costNow 161 = .ok (.if_icmp .ne 12, 3) := by decide +kernel
theorem dX6_costNow_164 : decode cX6_costNow 164 = .ok (.iload 6, 2) := by decide +kernel
theorem dX6_costNow_166 : decode cX6_costNow 166 = .ok (.aload_n 0, 1) := by decide +kernel
theorem dX6_costNow_167 : decode cX6_costNow 167 = .ok (.getfield 7, 3) := by decide +kernel
theorem dX6_costNow_170 : decode cX6_costNow 170 = .ok (.isub, 1) := by decide +kernel
theorem dX6_costNow_171 : decode cX6_costNow 171 = .ok (.istore 6, 2) := by decide +kernel
theorem dX6_costNow_173 : decode cX6_costNow 173 = .ok (.iinc 7 1, 3) := by decide +kernel
theorem dX6_costNow_176 : decode cX6_costNow 176 = .ok (.goto (-79), 3) := by decide +kernel
theorem dX6_costNow_179 : decode cX6_costNow 179 = .ok (.iload 6, 2) := by decide +kernel
theorem dX6_costNow_181 : decode cX6_costNow 181 = .ok (.ireturn, 1) := by decide +kernel
theorem dX6_wantsNow_0 : decode cX6_wantsNow 0 = .ok (.iconst 4, 1) := by decide +kernel
theorem dX6_wantsNow_1 : decode cX6_wantsNow 1 = .ok (.istore_n 3, 1) := by decide +kernel
theorem dX6_wantsNow_2 : decode cX6_wantsNow 2 = .ok (.aload_n 0, 1) := by decide +kernel
theorem dX6_wantsNow_3 : decode cX6_wantsNow 3 = .ok (.iload_n 1, 1) := by decide +kernel
theorem dX6_wantsNow_4 : decode cX6_wantsNow 4 = .ok (.iconst 4, 1) := by decide +kernel
theorem dX6_wantsNow_5 : decode cX6_wantsNow 5 = .ok (.aload_n 2, 1) := by decide +kernel
theorem dX6_wantsNow_6 : decode cX6_wantsNow 6 = .ok (.invokevirtual 113, 3) := by decide +kernel
theorem dX6_wantsNow_9 : decode cX6_wantsNow 9 = .ok (.istore 4, 2) := by decide +kernel
theorem dX6_wantsNow_11 : decode cX6_wantsNow 11 = .ok (.iconst 3, 1) := by decide +kernel
theorem dX6_wantsNow_12 : decode cX6_wantsNow 12 = .ok (.istore 5, 2) := by decide +kernel
theorem dX6_wantsNow_14 : decode cX6_wantsNow 14 = .ok (.iload 5, 2) := by decide +kernel
theorem dX6_wantsNow_16 : decode cX6_wantsNow 16 = .ok (.ifCond .lt 44, 3) := by decide +kernel
theorem dX6_wantsNow_19 : decode cX6_wantsNow 19 = .ok (.aload_n 0, 1) := by decide +kernel
theorem dX6_wantsNow_20 : decode cX6_wantsNow 20 = .ok (.iload_n 1, 1) := by decide +kernel
theorem dX6_wantsNow_21 : decode cX6_wantsNow 21 = .ok (.iload 5, 2) := by decide +kernel
theorem dX6_wantsNow_23 : decode cX6_wantsNow 23 = .ok (.aload_n 2, 1) := by decide +kernel
theorem dX6_wantsNow_24 : decode cX6_wantsNow 24 = .ok (.invokevirtual 113, 3) := by decide +kernel
theorem dX6_wantsNow_27 : decode cX6_wantsNow 27 = .ok (.istore 6, 2) := by decide +kernel
theorem dX6_wantsNow_29 : decode cX6_wantsNow 29 = .ok (.iload 6, 2) := by decide +kernel
theorem dX6_wantsNow_31 : decode cX6_wantsNow 31 = .ok (.iload 4, 2) := by decide +kernel
theorem dX6_wantsNow_33 : decode cX6_wantsNow 33 = .ok (.if_icmp .gt 21, 3) := by decide +kernel
theorem dX6_wantsNow_36 : decode cX6_wantsNow 36 = .ok (.iload 6, 2) := by decide +kernel
theorem dX6_wantsNow_38 : decode cX6_wantsNow 38 = .ok (.sipush 10000, 3) := by decide +kernel
theorem dX6_wantsNow_41 : decode cX6_wantsNow 41 = .ok (.if_icmp .ne 6, 3) := by decide +kernel
theorem dX6_wantsNow_44 : decode cX6_wantsNow 44 = .ok (.goto 10, 3) := by decide +kernel
theorem dX6_wantsNow_47 : decode cX6_wantsNow 47 = .ok (.iload 6, 2) := by decide +kernel
theorem dX6_wantsNow_49 : decode cX6_wantsNow 49 = .ok (.istore 4, 2) := by decide +kernel
theorem dX6_wantsNow_51 : decode cX6_wantsNow 51 = .ok (.iload 5, 2) := by decide +kernel
theorem dX6_wantsNow_53 : decode cX6_wantsNow 53 = .ok (.istore_n 3, 1) := by decide +kernel
theorem dX6_wantsNow_54 : decode cX6_wantsNow 54 = .ok (.iinc 5 (-1), 3) := by decide +kernel
theorem dX6_wantsNow_57 : decode cX6_wantsNow 57 = .ok (.goto (-43), 3) := by decide +kernel
theorem dX6_wantsNow_60 : decode cX6_wantsNow 60 = .ok (.iload_n 3, 1) := by decide +kernel
theorem dX6_wantsNow_61 : decode cX6_wantsNow 61 = .ok (.ireturn, 1) := by decide +kernel
theorem dX6_tickNow_0 : decode cX6_tickNow 0 = .ok (.aload_n 0, 1) := by decide +kernel
theorem dX6_tickNow_1 : decode cX6_tickNow 1 = .ok (.dup, 1) := by decide +kernel
theorem dX6_tickNow_2 : decode cX6_tickNow 2 = .ok (.getfield 26, 3) := by decide +kernel
theorem dX6_tickNow_5 : decode cX6_tickNow 5 = .ok (.iconst 1, 1) := by decide +kernel
theorem dX6_tickNow_6 : decode cX6_tickNow 6 = .ok (.iadd, 1) := by decide +kernel
theorem dX6_tickNow_7 : decode cX6_tickNow 7 = .ok (.putfield 26, 3) := by decide +kernel
theorem dX6_tickNow_10 : decode cX6_tickNow 10 = .ok (.bipush 24, 2) := by decide +kernel
theorem dX6_tickNow_12 : decode cX6_tickNow 12 = .ok (.newarray .int, 2) := by decide +kernel
theorem dX6_tickNow_14 : decode cX6_tickNow 14 = .ok (.astore_n 2, 1) := by decide +kernel
theorem dX6_tickNow_15 : decode cX6_tickNow 15 = .ok (.bipush 24, 2) := by decide +kernel
theorem dX6_tickNow_17 : decode cX6_tickNow 17 = .ok (.newarray .int, 2) := by decide +kernel
theorem dX6_tickNow_19 : decode cX6_tickNow 19 = .ok (.astore_n 3, 1) := by decide +kernel
theorem dX6_tickNow_20 : decode cX6_tickNow 20 = .ok (.iconst 0, 1) := by decide +kernel
theorem dX6_tickNow_21 : decode cX6_tickNow 21 = .ok (.istore 4, 2) := by decide +kernel
theorem dX6_tickNow_23 : decode cX6_tickNow 23 = .ok (.iload 4, 2) := by decide +kernel
theorem dX6_tickNow_25 : decode cX6_tickNow 25 = .ok (.aload_n 0, 1) := by decide +kernel
theorem dX6_tickNow_26 : decode cX6_tickNow 26 = .ok (.getfield 36, 3) := by decide +kernel
theorem dX6_tickNow_29 : decode cX6_tickNow 29 = .ok (.if_icmp .ge 117, 3) := by decide +kernel
theorem dX6_tickNow_32 : decode cX6_tickNow 32 = .ok (.aload_n 2, 1) := by decide +kernel
theorem dX6_tickNow_33 : decode cX6_tickNow 33 = .ok (.iload 4, 2) := by decide +kernel
theorem dX6_tickNow_35 : decode cX6_tickNow 35 = .ok (.iconst (-1), 1) := by decide +kernel
theorem dX6_tickNow_36 : decode cX6_tickNow 36 = .ok (.iastore, 1) := by decide +kernel
theorem dX6_tickNow_37 : decode cX6_tickNow 37 = .ok (.aload_n 0, 1) := by decide +kernel
theorem dX6_tickNow_38 : decode cX6_tickNow 38 = .ok (.iload 4, 2) := by decide +kernel
theorem dX6_tickNow_40 : decode cX6_tickNow 40 = .ok (.invokevirtual 110, 3) := by decide +kernel
theorem dX6_tickNow_43 : decode cX6_tickNow 43 = .ok (.ifCond .eq 97, 3) := by decide +kernel
theorem dX6_tickNow_46 : decode cX6_tickNow 46 = .ok (.aload_n 0, 1) := by decide +kernel
theorem dX6_tickNow_47 : decode cX6_tickNow 47 = .ok (.getfield 26, 3) := by decide +kernel
theorem dX6_tickNow_50 : decode cX6_tickNow 50 = .ok (.aload_n 0, 1) := by decide +kernel
theorem dX6_tickNow_51 : decode cX6_tickNow 51 = .ok (.getfield 39, 3) := by decide +kernel
theorem dX6_tickNow_54 : decode cX6_tickNow 54 = .ok (.iload 4, 2) := by decide +kernel
theorem dX6_tickNow_56 : decode cX6_tickNow 56 = .ok (.bipush 8, 2) := by decide +kernel
theorem dX6_tickNow_58 : decode cX6_tickNow 58 = .ok (.imul, 1) := by decide +kernel
theorem dX6_tickNow_59 : decode cX6_tickNow 59 = .ok (.iconst 1, 1) := by decide +kernel
theorem dX6_tickNow_60 : decode cX6_tickNow 60 = .ok (.iadd, 1) := by decide +kernel
theorem dX6_tickNow_61 : decode cX6_tickNow 61 = .ok (.iaload, 1) := by decide +kernel
theorem dX6_tickNow_62 : decode cX6_tickNow 62 = .ok (.irem, 1) := by decide +kernel
theorem dX6_tickNow_63 : decode cX6_tickNow 63 = .ok (.ifCond .eq 6, 3) := by decide +kernel
theorem dX6_tickNow_66 : decode cX6_tickNow 66 = .ok (.goto 74, 3) := by decide +kernel
theorem dX6_tickNow_69 : decode cX6_tickNow 69 = .ok (.aload_n 3, 1) := by decide +kernel
theorem dX6_tickNow_70 : decode cX6_tickNow 70 = .ok (.iload 4, 2) := by decide +kernel
theorem dX6_tickNow_72 : decode cX6_tickNow 72 = .ok (.aload_n 0, 1) := by decide +kernel
theorem dX6_tickNow_73 : decode cX6_tickNow 73 = .ok (.iload 4, 2) := by decide +kernel
theorem dX6_tickNow_75 : decode cX6_tickNow 75 = .ok (.aload_n 1, 1) := by decide +kernel
theorem dX6_tickNow_76 : decode cX6_tickNow 76 = .ok (.aload_n 0, 1) := by decide +kernel
theorem dX6_tickNow_77 : decode cX6_tickNow 77 = .ok (.getfield 39, 3) := by decide +kernel
theorem dX6_tickNow_80 : decode cX6_tickNow 80 = .ok (.iload 4, 2) := by decide +kernel
theorem dX6_tickNow_82 : decode cX6_tickNow 82 = .ok (.bipush 8, 2) := by decide +kernel
theorem dX6_tickNow_84 : decode cX6_tickNow 84 = .ok (.imul, 1) := by decide +kernel
theorem dX6_tickNow_85 : decode cX6_tickNow 85 = .ok (.iconst 0, 1) := by decide +kernel
theorem dX6_tickNow_86 : decode cX6_tickNow 86 = .ok (.iadd, 1) := by decide +kernel
theorem dX6_tickNow_87 : decode cX6_tickNow 87 = .ok (.iaload, 1) := by decide +kernel
theorem dX6_tickNow_88 : decode cX6_tickNow 88 = .ok (.aaload, 1) := by decide +kernel
theorem dX6_tickNow_89 : decode cX6_tickNow 89 = .ok (.invokevirtual 117, 3) := by decide +kernel
theorem dX6_tickNow_92 : decode cX6_tickNow 92 = .ok (.iastore, 1) := by decide +kernel
theorem dX6_tickNow_93 : decode cX6_tickNow 93 = .ok (.aload_n 2, 1) := by decide +kernel
theorem dX6_tickNow_94 : decode cX6_tickNow 94 = .ok (.iload 4, 2) := by decide +kernel
theorem dX6_tickNow_96 : decode cX6_tickNow 96 = .ok (.aload_n 3, 1) := by decide +kernel
theorem dX6_tickNow_97 : decode cX6_tickNow 97 = .ok (.iload 4, 2) := by decide +kernel
theorem dX6_tickNow_99 : decode cX6_tickNow 99 = .ok (.iaload, 1) := by decide +kernel
theorem dX6_tickNow_100 : decode cX6_tickNow 100 = .ok (.iconst 4, 1) := by decide +kernel
theorem dX6_tickNow_101 : decode cX6_tickNow 101 = .ok (.if_icmp .ne 18, 3) := by decide +kernel
theorem dX6_tickNow_104 : decode cX6_tickNow 104 = .ok (.aload_n 0, 1) := by decide +kernel
theorem dX6_tickNow_105 : decode cX6_tickNow 105 = .ok (.getfield 39, 3) := by decide +kernel
theorem dX6_tickNow_108 : decode cX6_tickNow 108 = .ok (.iload 4, 2) := by decide +kernel
theorem dX6_tickNow_110 : decode cX6_tickNow 110 = .ok (.bipush 8, 2) := by decide +kernel
theorem dX6_tickNow_112 : decode cX6_tickNow 112 = .ok (.imul, 1) := by decide +kernel
theorem dX6_tickNow_113 : decode cX6_tickNow 113 = .ok (.iconst 3, 1) := by decide +kernel
theorem dX6_tickNow_114 : decode cX6_tickNow 114 = .ok (.iadd, 1) := by decide +kernel
theorem dX6_tickNow_115 : decode cX6_tickNow 115 = .ok (.iaload, 1) := by decide +kernel
theorem dX6_tickNow_116 : decode cX6_tickNow 116 = .ok (.goto 23, 3) := by decide +kernel
theorem dX6_tickNow_119 : decode cX6_tickNow 119 = .ok (.aload_n 0, 1) := by decide +kernel
theorem dX6_tickNow_120 : decode cX6_tickNow 120 = .ok (.aload_n 0, 1) := by decide +kernel
theorem dX6_tickNow_121 : decode cX6_tickNow 121 = .ok (.getfield 39, 3) := by decide +kernel
theorem dX6_tickNow_124 : decode cX6_tickNow 124 = .ok (.iload 4, 2) := by decide +kernel
theorem dX6_tickNow_126 : decode cX6_tickNow 126 = .ok (.bipush 8, 2) := by decide +kernel
theorem dX6_tickNow_128 : decode cX6_tickNow 128 = .ok (.imul, 1) := by decide +kernel
theorem dX6_tickNow_129 : decode cX6_tickNow 129 = .ok (.iconst 3, 1) := by decide +kernel
theorem dX6_tickNow_130 : decode cX6_tickNow 130 = .ok (.iadd, 1) := by decide +kernel
theorem dX6_tickNow_131 : decode cX6_tickNow 131 = .ok (.iaload, 1) := by decide +kernel
theorem dX6_tickNow_132 : decode cX6_tickNow 132 = .ok (.aload_n 3, 1) := by decide +kernel
theorem dX6_tickNow_133 : decode cX6_tickNow 133 = .ok (.iload 4, 2) := by decide +kernel
theorem dX6_tickNow_135 : decode cX6_tickNow 135 = .ok (.iaload, 1) := by decide +kernel
theorem dX6_tickNow_136 : decode cX6_tickNow 136 = .ok (.invokevirtual 70, 3) := by decide +kernel
theorem dX6_tickNow_139 : decode cX6_tickNow 139 = .ok (.iastore, 1) := by decide +kernel
theorem dX6_tickNow_140 : decode cX6_tickNow 140 = .ok (.iinc 4 1, 3) := by decide +kernel
theorem dX6_tickNow_143 : decode cX6_tickNow 143 = .ok (.goto (-120), 3) := by decide +kernel
theorem dX6_tickNow_146 : decode cX6_tickNow 146 = .ok (.bipush 24, 2) := by decide +kernel
theorem dX6_tickNow_148 : decode cX6_tickNow 148 = .ok (.newarray .boolean, 2) := by decide +kernel
theorem dX6_tickNow_150 : decode cX6_tickNow 150 = .ok (.astore 4, 2) := by decide +kernel
theorem dX6_tickNow_152 : decode cX6_tickNow 152 = .ok (.iconst 0, 1) := by decide +kernel
theorem dX6_tickNow_153 : decode cX6_tickNow 153 = .ok (.istore 5, 2) := by decide +kernel
theorem dX6_tickNow_155 : decode cX6_tickNow 155 = .ok (.iload 5, 2) := by decide +kernel
theorem dX6_tickNow_157 : decode cX6_tickNow 157 = .ok (.aload_n 0, 1) := by decide +kernel
theorem dX6_tickNow_158 : decode cX6_tickNow 158 = .ok (.getfield 36, 3) := by decide +kernel
theorem dX6_tickNow_161 : decode cX6_tickNow 161 = .ok (.if_icmp .ge 144, 3) := by decide +kernel
theorem dX6_tickNow_164 : decode cX6_tickNow 164 = .ok (.aload 4, 2) := by decide +kernel
theorem dX6_tickNow_166 : decode cX6_tickNow 166 = .ok (.iload 5, 2) := by decide +kernel
theorem dX6_tickNow_168 : decode cX6_tickNow 168 = .ok (.aload_n 2, 1) := by decide +kernel
theorem dX6_tickNow_169 : decode cX6_tickNow 169 = .ok (.iload 5, 2) := by decide +kernel
theorem dX6_tickNow_171 : decode cX6_tickNow 171 = .ok (.iaload, 1) := by decide +kernel
theorem dX6_tickNow_172 : decode cX6_tickNow 172 = .ok (.iconst (-1), 1) := by decide +kernel
theorem dX6_tickNow_173 : decode cX6_tickNow 173 = .ok (.if_icmp .eq 15, 3) := by decide +kernel
theorem dX6_tickNow_176 : decode cX6_tickNow 176 = .ok (.aload_n 3, 1) := by decide +kernel
theorem dX6_tickNow_177 : decode cX6_tickNow 177 = .ok (.iload 5, 2) := by decide +kernel
theorem dX6_tickNow_179 : decode cX6_tickNow 179 = .ok (.iaload, 1) := by decide +kernel
theorem dX6_tickNow_180 : decode cX6_tickNow 180 = .ok (.iconst 4, 1) := by decide +kernel
theorem dX6_tickNow_181 : decode cX6_tickNow 181 = .ok (.if_icmp .eq 7, 3) := by decide +kernel
theorem dX6_tickNow_184 : decode cX6_tickNow 184 = .ok (.iconst 1, 1) := by decide +kernel
theorem dX6_tickNow_185 : decode cX6_tickNow 185 = .ok (.goto 4, 3) := by decide +kernel
theorem dX6_tickNow_188 : decode cX6_tickNow 188 = .ok (.iconst 0, 1) := by decide +kernel
theorem dX6_tickNow_189 : decode cX6_tickNow 189 = .ok (.bastore, 1) := by decide +kernel
theorem dX6_tickNow_190 : decode cX6_tickNow 190 = .ok (.iconst 0, 1) := by decide +kernel
theorem dX6_tickNow_191 : decode cX6_tickNow 191 = .ok (.istore 6, 2) := by decide +kernel
theorem dX6_tickNow_193 : decode cX6_tickNow 193 = .ok (.iload 6, 2) := by decide +kernel
theorem dX6_tickNow_195 : decode cX6_tickNow 195 = .ok (.aload_n 0, 1) := by decide +kernel
theorem dX6_tickNow_196 : decode cX6_tickNow 196 = .ok (.getfield 36, 3) := by decide +kernel
theorem dX6_tickNow_199 : decode cX6_tickNow 199 = .ok (.if_icmp .ge 100, 3) := by decide +kernel
theorem dX6_tickNow_202 : decode cX6_tickNow 202 = .ok (.aload 4, 2) := by decide +kernel
theorem dX6_tickNow_204 : decode cX6_tickNow 204 = .ok (.iload 5, 2) := by decide +kernel
theorem dX6_tickNow_206 : decode cX6_tickNow 206 = .ok (.baload, 1) := by decide +kernel
theorem dX6_tickNow_207 : decode cX6_tickNow 207 = .ok (.ifCond .eq 92, 3) := by decide +kernel
theorem dX6_tickNow_210 : decode cX6_tickNow 210 = .ok (.iload 6, 2) := by decide +kernel
theorem dX6_tickNow_212 : decode cX6_tickNow 212 = .ok (.iload 5, 2) := by decide +kernel
theorem dX6_tickNow_214 : decode cX6_tickNow 214 = .ok (.if_icmp .eq 79, 3) := by decide +kernel
theorem dX6_tickNow_217 : decode cX6_tickNow 217 = .ok (.aload_n 2, 1) := by decide +kernel
theorem dX6_tickNow_218 : decode cX6_tickNow 218 = .ok (.iload 6, 2) := by decide +kernel
theorem dX6_tickNow_220 : decode cX6_tickNow 220 = .ok (.iaload, 1) := by decide +kernel
theorem dX6_tickNow_221 : decode cX6_tickNow 221 = .ok (.aload_n 2, 1) := by decide +kernel
theorem dX6_tickNow_222 : decode cX6_tickNow 222 = .ok (.iload 5, 2) := by decide +kernel
theorem dX6_tickNow_224 : decode cX6_tickNow 224 = .ok (.iaload, 1) := by decide +kernel
theorem dX6_tickNow_225 : decode cX6_tickNow 225 = .ok (.if_icmp .ne 68, 3) := by decide +kernel
theorem dX6_tickNow_228 : decode cX6_tickNow 228 = .ok (.aload_n 3, 1) := by decide +kernel
theorem dX6_tickNow_229 : decode cX6_tickNow 229 = .ok (.iload 6, 2) := by decide +kernel
theorem dX6_tickNow_231 : decode cX6_tickNow 231 = .ok (.iaload, 1) := by decide +kernel
theorem dX6_tickNow_232 : decode cX6_tickNow 232 = .ok (.iconst 4, 1) := by decide +kernel
theorem dX6_tickNow_233 : decode cX6_tickNow 233 = .ok (.if_icmp .ne 6, 3) := by decide +kernel
theorem dX6_tickNow_236 : decode cX6_tickNow 236 = .ok (.goto 57, 3) := by decide +kernel
theorem dX6_tickNow_239 : decode cX6_tickNow 239 = .ok (.aload_n 0, 1) := by decide +kernel
theorem dX6_tickNow_240 : decode cX6_tickNow 240 = .ok (.getfield 39, 3) := by decide +kernel
theorem dX6_tickNow_243 : decode cX6_tickNow 243 = .ok (.iload 6, 2) := by decide +kernel
theorem dX6_tickNow_245 : decode cX6_tickNow 245 = .ok (.bipush 8, 2) := by decide +kernel
theorem dX6_tickNow_247 : decode cX6_tickNow 247 = .ok (.imul, 1) := by decide +kernel
theorem dX6_tickNow_248 : decode cX6_tickNow 248 = .ok (.iconst 5, 1) := by decide +kernel
theorem dX6_tickNow_249 : decode cX6_tickNow 249 = .ok (.iadd, 1) := by decide +kernel
theorem dX6_tickNow_250 : decode cX6_tickNow 250 = .ok (.iaload, 1) := by decide +kernel
theorem dX6_tickNow_251 : decode cX6_tickNow 251 = .ok (.aload_n 0, 1) := by decide +kernel
theorem dX6_tickNow_252 : decode cX6_tickNow 252 = .ok (.getfield 39, 3) := by decide +kernel
theorem dX6_tickNow_255 : decode cX6_tickNow 255 = .ok (.iload 5, 2) := by decide +kernel
theorem dX6_tickNow_257 : decode cX6_tickNow 257 = .ok (.bipush 8, 2) := by decide +kernel
theorem dX6_tickNow_259 : decode cX6_tickNow 259 = .ok (.imul, 1) := by decide +kernel
theorem dX6_tickNow_260 : decode cX6_tickNow 260 = .ok (.iconst 5, 1) := by decide +kernel
theorem dX6_tickNow_261 : decode cX6_tickNow 261 = .ok (.iadd, 1) := by decide +kernel
theorem dX6_tickNow_262 : decode cX6_tickNow 262 = .ok (.iaload, 1) := by decide +kernel
theorem dX6_tickNow_263 : decode cX6_tickNow 263 = .ok (.isub, 1) := by decide +kernel
theorem dX6_tickNow_264 : decode cX6_tickNow 264 = .ok (.istore 7, 2) := by decide +kernel
theorem dX6_tickNow_266 : decode cX6_tickNow 266 = .ok (.aload 4, 2) := by decide +kernel
theorem dX6_tickNow_268 : decode cX6_tickNow 268 = .ok (.iload 5, 2) := by decide +kernel
theorem dX6_tickNow_270 : decode cX6_tickNow 270 = .ok (.iload 7, 2) := by decide +kernel
theorem dX6_tickNow_272 : decode cX6_tickNow 272 = .ok (.ifCond .lt 15, 3) := by decide +kernel
theorem dX6_tickNow_275 : decode cX6_tickNow 275 = .ok (.iload 7, 2) := by decide +kernel
theorem dX6_tickNow_277 : decode cX6_tickNow 277 = .ok (.ifCond .ne 14, 3) := by decide +kernel
theorem dX6_tickNow_280 : decode cX6_tickNow 280 = .ok (.iload 5, 2) := by decide +kernel
theorem dX6_tickNow_282 : decode cX6_tickNow 282 = .ok (.iload 6, 2) := by decide +kernel
theorem dX6_tickNow_284 : decode cX6_tickNow 284 = .ok (.if_icmp .ge 7, 3) := by decide +kernel
theorem dX6_tickNow_287 : decode cX6_tickNow 287 = .ok (.iconst 1, 1) := by decide +kernel
theorem dX6_tickNow_288 : decode cX6_tickNow 288 = .ok (.goto 4, 3) := by decide +kernel
theorem dX6_tickNow_291 : decode cX6_tickNow 291 = .ok (.iconst 0, 1) := by decide +kernel
theorem dX6_tickNow_292 : decode cX6_tickNow 292 = .ok (.bastore, 1) := by decide +kernel
theorem dX6_tickNow_293 : decode cX6_tickNow 293 = .ok (.iinc 6 1, 3) := by decide +kernel
theorem dX6_tickNow_296 : decode cX6_tickNow 296 = .ok (.goto (-103), 3) := by decide +kernel
theorem dX6_tickNow_299 : decode cX6_tickNow 299 = .ok (.iinc 5 1, 3) := by decide +kernel
theorem dX6_tickNow_302 : decode cX6_tickNow 302 = .ok (.goto (-147), 3) := by decide +kernel
theorem dX6_tickNow_305 : decode cX6_tickNow 305 = .ok (.iconst 0, 1) := by decide +kernel
theorem dX6_tickNow_306 : decode cX6_tickNow 306 = .ok (.istore 5, 2) := by decide +kernel
theorem dX6_tickNow_308 : decode cX6_tickNow 308 = .ok (.iconst 0, 1) := by decide +kernel
theorem dX6_tickNow_309 : decode cX6_tickNow 309 = .ok (.istore 6, 2) := by decide +kernel
theorem dX6_tickNow_311 : decode cX6_tickNow 311 = .ok (.iload 6, 2) := by decide +kernel
theorem dX6_tickNow_313 : decode cX6_tickNow 313 = .ok (.aload_n 0, 1) := by decide +kernel
theorem dX6_tickNow_314 : decode cX6_tickNow 314 = .ok (.getfield 36, 3) := by decide +kernel
theorem dX6_tickNow_317 : decode cX6_tickNow 317 = .ok (.if_icmp .ge 181, 3) := by decide +kernel
theorem dX6_tickNow_320 : decode cX6_tickNow 320 = .ok (.iload 6, 2) := by decide +kernel
theorem dX6_tickNow_322 : decode cX6_tickNow 322 = .ok (.bipush 8, 2) := by decide +kernel
theorem dX6_tickNow_324 : decode cX6_tickNow 324 = .ok (.imul, 1) := by decide +kernel
theorem dX6_tickNow_325 : decode cX6_tickNow 325 = .ok (.istore 7, 2) := by decide +kernel
theorem dX6_tickNow_327 : decode cX6_tickNow 327 = .ok (.aload_n 2, 1) := by decide +kernel
theorem dX6_tickNow_328 : decode cX6_tickNow 328 = .ok (.iload 6, 2) := by decide +kernel
theorem dX6_tickNow_330 : decode cX6_tickNow 330 = .ok (.iaload, 1) := by decide +kernel
theorem dX6_tickNow_331 : decode cX6_tickNow 331 = .ok (.iconst (-1), 1) := by decide +kernel
theorem dX6_tickNow_332 : decode cX6_tickNow 332 = .ok (.if_icmp .eq 24, 3) := by decide +kernel
theorem dX6_tickNow_335 : decode cX6_tickNow 335 = .ok (.aload 4, 2) := by decide +kernel
theorem dX6_tickNow_337 : decode cX6_tickNow 337 = .ok (.iload 6, 2) := by decide +kernel
theorem dX6_tickNow_339 : decode cX6_tickNow 339 = .ok (.baload, 1) := by decide +kernel
theorem dX6_tickNow_340 : decode cX6_tickNow 340 = .ok (.ifCond .ne 16, 3) := by decide +kernel
theorem dX6_tickNow_343 : decode cX6_tickNow 343 = .ok (.aload_n 0, 1) := by decide +kernel
theorem dX6_tickNow_344 : decode cX6_tickNow 344 = .ok (.getfield 39, 3) := by decide +kernel
theorem dX6_tickNow_347 : decode cX6_tickNow 347 = .ok (.iload 7, 2) := by decide +kernel
theorem dX6_tickNow_349 : decode cX6_tickNow 349 = .ok (.iconst 5, 1) := by decide +kernel
theorem dX6_tickNow_350 : decode cX6_tickNow 350 = .ok (.iadd, 1) := by decide +kernel
theorem dX6_tickNow_351 : decode cX6_tickNow 351 = .ok (.dup2, 1) := by decide +kernel
theorem dX6_tickNow_352 : decode cX6_tickNow 352 = .ok (.iaload, 1) := by decide +kernel
theorem dX6_tickNow_353 : decode cX6_tickNow 353 = .ok (.iconst 1, 1) := by decide +kernel
theorem dX6_tickNow_354 : decode cX6_tickNow 354 = .ok (.iadd, 1) := by decide +kernel
theorem dX6_tickNow_355 : decode cX6_tickNow 355 = .ok (.iastore, 1) := by decide +kernel
theorem dX6_tickNow_356 : decode cX6_tickNow 356 = .ok (.aload 4, 2) := by decide +kernel
theorem dX6_tickNow_358 : decode cX6_tickNow 358 = .ok (.iload 6, 2) := by decide +kernel
theorem dX6_tickNow_360 : decode cX6_tickNow 360 = .ok (.baload, 1) := by decide +kernel
theorem dX6_tickNow_361 : decode cX6_tickNow 361 = .ok (.ifCond .ne 6, 3) := by decide +kernel
theorem dX6_tickNow_364 : decode cX6_tickNow 364 = .ok (.goto 128, 3) := by decide +kernel
theorem dX6_tickNow_367 : decode cX6_tickNow 367 = .ok (.aload_n 0, 1) := by decide +kernel
theorem dX6_tickNow_368 : decode cX6_tickNow 368 = .ok (.getfield 39, 3) := by decide +kernel
theorem dX6_tickNow_371 : decode cX6_tickNow 371 = .ok (.iload 7, 2) := by decide +kernel
theorem dX6_tickNow_373 : decode cX6_tickNow 373 = .ok (.iconst 4, 1) := by decide +kernel
theorem dX6_tickNow_374 : decode cX6_tickNow 374 = .ok (.iadd, 1) := by decide +kernel
theorem dX6_tickNow_375 : decode cX6_tickNow 375 = .ok (.aload_n 3, 1) := by decide +kernel
theorem dX6_tickNow_376 : decode cX6_tickNow 376 = .ok (.iload 6, 2) := by decide +kernel
theorem dX6_tickNow_378 : decode cX6_tickNow 378 = .ok (.iaload, 1) := by decide +kernel
theorem dX6_tickNow_379 : decode cX6_tickNow 379 = .ok (.iastore, 1) := by decide +kernel
theorem dX6_tickNow_380 : decode cX6_tickNow 380 = .ok (.aload_n 0, 1) := by decide +kernel
theorem dX6_tickNow_381 : decode cX6_tickNow 381 = .ok (.getfield 39, 3) := by decide +kernel
theorem dX6_tickNow_384 : decode cX6_tickNow 384 = .ok (.iload 7, 2) := by decide +kernel
theorem dX6_tickNow_386 : decode cX6_tickNow 386 = .ok (.iconst 5, 1) := by decide +kernel
theorem dX6_tickNow_387 : decode cX6_tickNow 387 = .ok (.iadd, 1) := by decide +kernel
theorem dX6_tickNow_388 : decode cX6_tickNow 388 = .ok (.iconst 0, 1) := by decide +kernel
theorem dX6_tickNow_389 : decode cX6_tickNow 389 = .ok (.iastore, 1) := by decide +kernel
theorem dX6_tickNow_390 : decode cX6_tickNow 390 = .ok (.aload_n 0, 1) := by decide +kernel
theorem dX6_tickNow_391 : decode cX6_tickNow 391 = .ok (.getfield 39, 3) := by decide +kernel
theorem dX6_tickNow_394 : decode cX6_tickNow 394 = .ok (.iload 7, 2) := by decide +kernel
theorem dX6_tickNow_396 : decode cX6_tickNow 396 = .ok (.bipush 6, 2) := by decide +kernel
theorem dX6_tickNow_398 : decode cX6_tickNow 398 = .ok (.iadd, 1) := by decide +kernel
theorem dX6_tickNow_399 : decode cX6_tickNow 399 = .ok (.dup2, 1) := by decide +kernel
theorem dX6_tickNow_400 : decode cX6_tickNow 400 = .ok (.iaload, 1) := by decide +kernel
theorem dX6_tickNow_401 : decode cX6_tickNow 401 = .ok (.iconst 1, 1) := by decide +kernel
theorem dX6_tickNow_402 : decode cX6_tickNow 402 = .ok (.iadd, 1) := by decide +kernel
theorem dX6_tickNow_403 : decode cX6_tickNow 403 = .ok (.iastore, 1) := by decide +kernel
theorem dX6_tickNow_404 : decode cX6_tickNow 404 = .ok (.aload_n 0, 1) := by decide +kernel
theorem dX6_tickNow_405 : decode cX6_tickNow 405 = .ok (.getfield 43, 3) := by decide +kernel
theorem dX6_tickNow_408 : decode cX6_tickNow 408 = .ok (.aload_n 2, 1) := by decide +kernel
theorem dX6_tickNow_409 : decode cX6_tickNow 409 = .ok (.iload 6, 2) := by decide +kernel
theorem dX6_tickNow_411 : decode cX6_tickNow 411 = .ok (.iaload, 1) := by decide +kernel
theorem dX6_tickNow_412 : decode cX6_tickNow 412 = .ok (.dup2, 1) := by decide +kernel
theorem dX6_tickNow_413 : decode cX6_tickNow 413 = .ok (.iaload, 1) := by decide +kernel
theorem dX6_tickNow_414 : decode cX6_tickNow 414 = .ok (.iconst 1, 1) := by decide +kernel
theorem dX6_tickNow_415 : decode cX6_tickNow 415 = .ok (.iadd, 1) := by decide +kernel
theorem dX6_tickNow_416 : decode cX6_tickNow 416 = .ok (.iastore, 1) := by decide +kernel
theorem dX6_tickNow_417 : decode cX6_tickNow 417 = .ok (.aload_n 0, 1) := by decide +kernel
theorem dX6_tickNow_418 : decode cX6_tickNow 418 = .ok (.getfield 39, 3) := by decide +kernel
theorem dX6_tickNow_421 : decode cX6_tickNow 421 = .ok (.iload 7, 2) := by decide +kernel
theorem dX6_tickNow_423 : decode cX6_tickNow 423 = .ok (.iconst 3, 1) := by decide +kernel
theorem dX6_tickNow_424 : decode cX6_tickNow 424 = .ok (.iadd, 1) := by decide +kernel
theorem dX6_tickNow_425 : decode cX6_tickNow 425 = .ok (.aload_n 2, 1) := by decide +kernel
theorem dX6_tickNow_426 : decode cX6_tickNow 426 = .ok (.iload 6, 2) := by decide +kernel
theorem dX6_tickNow_428 : decode cX6_tickNow 428 = .ok (.iaload, 1) := by decide +kernel
theorem dX6_tickNow_429 : decode cX6_tickNow 429 = .ok (.iastore, 1) := by decide +kernel
theorem dX6_tickNow_430 : decode cX6_tickNow 430 = .ok (.aload_n 0, 1) := by decide +kernel
theorem dX6_tickNow_431 : decode cX6_tickNow 431 = .ok (.getfield 33, 3) := by decide +kernel
theorem dX6_tickNow_434 : decode cX6_tickNow 434 = .ok (.aload_n 0, 1) := by decide +kernel
theorem dX6_tickNow_435 : decode cX6_tickNow 435 = .ok (.getfield 39, 3) := by decide +kernel
theorem dX6_tickNow_438 : decode cX6_tickNow 438 = .ok (.iload 7, 2) := by decide +kernel
theorem dX6_tickNow_440 : decode cX6_tickNow 440 = .ok (.iconst 0, 1) := by decide +kernel
theorem dX6_tickNow_441 : decode cX6_tickNow 441 = .ok (.iadd, 1) := by decide +kernel
theorem dX6_tickNow_442 : decode cX6_tickNow 442 = .ok (.iaload, 1) := by decide +kernel
theorem dX6_tickNow_443 : decode cX6_tickNow 443 = .ok (.aload_n 0, 1) := by decide +kernel
theorem dX6_tickNow_444 : decode cX6_tickNow 444 = .ok (.getfield 20, 3) := by decide +kernel
theorem dX6_tickNow_447 : decode cX6_tickNow 447 = .ok (.imul, 1) := by decide +kernel
theorem dX6_tickNow_448 : decode cX6_tickNow 448 = .ok (.aload_n 0, 1) := by decide +kernel
theorem dX6_tickNow_449 : decode cX6_tickNow 449 = .ok (.getfield 23, 3) := by decide +kernel
theorem dX6_tickNow_452 : decode cX6_tickNow 452 = .ok (.imul, 1) := by decide +kernel
theorem dX6_tickNow_453 : decode cX6_tickNow 453 = .ok (.aload_n 2, 1) := by decide +kernel
theorem dX6_tickNow_454 : decode cX6_tickNow 454 = .ok (.iload 6, 2) := by decide +kernel
theorem dX6_tickNow_456 : decode cX6_tickNow 456 = .ok (.iaload, 1) := by decide +kernel
theorem dX6_tickNow_457 : decode cX6_tickNow 457 = .ok (.iadd, 1) := by decide +kernel
theorem dX6_tickNow_458 : decode cX6_tickNow 458 = .ok (.baload, 1) := by decide +kernel
theorem dX6_tickNow_459 : decode cX6_tickNow 459 = .ok (.ifCond .ne 6, 3) := by decide +kernel
theorem dX6_tickNow_462 : decode cX6_tickNow 462 = .ok (.goto 30, 3) := by decide +kernel
theorem dX6_tickNow_465 : decode cX6_tickNow 465 = .ok (.aload_n 0, 1) := by decide +kernel
theorem dX6_tickNow_466 : decode cX6_tickNow 466 = .ok (.getfield 39, 3) := by decide +kernel
theorem dX6_tickNow_469 : decode cX6_tickNow 469 = .ok (.iload 7, 2) := by decide +kernel
theorem dX6_tickNow_471 : decode cX6_tickNow 471 = .ok (.iconst 3, 1) := by decide +kernel
theorem dX6_tickNow_472 : decode cX6_tickNow 472 = .ok (.iadd, 1) := by decide +kernel
theorem dX6_tickNow_473 : decode cX6_tickNow 473 = .ok (.iconst (-1), 1) := by decide +kernel
theorem dX6_tickNow_474 : decode cX6_tickNow 474 = .ok (.iastore, 1) := by decide +kernel
theorem dX6_tickNow_475 : decode cX6_tickNow 475 = .ok (.aload_n 0, 1) := by decide +kernel
theorem dX6_tickNow_476 : decode cX6_tickNow 476 = .ok (.getfield 39, 3) := by decide +kernel
theorem dX6_tickNow_479 : decode cX6_tickNow 479 = .ok (.iload 7, 2) := by decide +kernel
theorem dX6_tickNow_481 : decode cX6_tickNow 481 = .ok (.bipush 7, 2) := by decide +kernel
theorem dX6_tickNow_483 : decode cX6_tickNow 483 = .ok (.iadd, 1) := by decide +kernel
theorem dX6_tickNow_484 : decode cX6_tickNow 484 = .ok (.aload_n 0, 1) := by decide +kernel
theorem dX6_tickNow_485 : decode cX6_tickNow 485 = .ok (.getfield 26, 3) := by decide +kernel
theorem dX6_tickNow_488 : decode cX6_tickNow 488 = .ok (.iastore, 1) := by decide +kernel
theorem dX6_tickNow_489 : decode cX6_tickNow 489 = .ok (.iinc 5 1, 3) := by decide +kernel
theorem dX6_tickNow_492 : decode cX6_tickNow 492 = .ok (.iinc 6 1, 3) := by decide +kernel
theorem dX6_tickNow_495 : decode cX6_tickNow 495 = .ok (.goto (-184), 3) := by decide +kernel
theorem dX6_tickNow_498 : decode cX6_tickNow 498 = .ok (.iload 5, 2) := by decide +kernel
theorem dX6_tickNow_500 : decode cX6_tickNow 500 = .ok (.ireturn, 1) := by decide +kernel
theorem dX6_tick_0 : decode cX6_tick 0 = .ok (.aload_n 0, 1) := by decide +kernel
theorem dX6_tick_1 : decode cX6_tick 1 = .ok (.iconst 0, 1) := by decide +kernel
theorem dX6_tick_2 : decode cX6_tick 2 = .ok (.putfield 46, 3) := by decide +kernel
theorem dX6_tick_5 : decode cX6_tick 5 = .ok (.iload_n 1, 1) := by decide +kernel
theorem dX6_tick_6 : decode cX6_tick 6 = .ok (.iconst 1, 1) := by decide +kernel
theorem dX6_tick_7 : decode cX6_tick 7 = .ok (.bipush 20, 2) := by decide +kernel
theorem dX6_tick_9 : decode cX6_tick 9 = .ok (.invokestatic 49, 3) := by decide +kernel
theorem dX6_tick_12 : decode cX6_tick 12 = .ok (.ifCond .ne 9, 3) := by decide +kernel
theorem dX6_tick_15 : decode cX6_tick 15 = .ok (.aload_n 0, 1) := by decide +kernel
theorem dX6_tick_16 : decode cX6_tick 16 = .ok (.iconst 1, 1) := by decide +kernel
theorem dX6_tick_17 : decode cX6_tick 17 = .ok (.invokevirtual 79, 3) := by decide +kernel
theorem dX6_tick_20 : decode cX6_tick 20 = .ok (.ireturn, 1) := by decide +kernel
theorem dX6_tick_21 : decode cX6_tick 21 = .ok (.aload_n 0, 1) := by decide +kernel
theorem dX6_tick_22 : decode cX6_tick 22 = .ok (.invokevirtual 121, 3) := by decide +kernel
theorem dX6_tick_25 : decode cX6_tick 25 = .ok (.astore_n 2, 1) := by decide +kernel
theorem dX6_tick_26 : decode cX6_tick 26 = .ok (.iconst 0, 1) := by decide +kernel
theorem dX6_tick_27 : decode cX6_tick 27 = .ok (.istore_n 3, 1) := by decide +kernel
theorem dX6_tick_28 : decode cX6_tick 28 = .ok (.iconst 0, 1) := by decide +kernel
theorem dX6_tick_29 : decode cX6_tick 29 = .ok (.istore 4, 2) := by decide +kernel
theorem dX6_tick_31 : decode cX6_tick 31 = .ok (.iload 4, 2) := by decide +kernel
theorem dX6_tick_33 : decode cX6_tick 33 = .ok (.iload_n 1, 1) := by decide +kernel
theorem dX6_tick_34 : decode cX6_tick 34 = .ok (.if_icmp .ge 17, 3) := by decide +kernel
theorem dX6_tick_37 : decode cX6_tick 37 = .ok (.iload_n 3, 1) := by decide +kernel
theorem dX6_tick_38 : decode cX6_tick 38 = .ok (.aload_n 0, 1) := by decide +kernel
theorem dX6_tick_39 : decode cX6_tick 39 = .ok (.aload_n 2, 1) := by decide +kernel
theorem dX6_tick_40 : decode cX6_tick 40 = .ok (.invokevirtual 125, 3) := by decide +kernel
theorem dX6_tick_43 : decode cX6_tick 43 = .ok (.iadd, 1) := by decide +kernel
theorem dX6_tick_44 : decode cX6_tick 44 = .ok (.istore_n 3, 1) := by decide +kernel
theorem dX6_tick_45 : decode cX6_tick 45 = .ok (.iinc 4 1, 3) := by decide +kernel
theorem dX6_tick_48 : decode cX6_tick 48 = .ok (.goto (-17), 3) := by decide +kernel
theorem dX6_tick_51 : decode cX6_tick 51 = .ok (.iload_n 3, 1) := by decide +kernel
theorem dX6_tick_52 : decode cX6_tick 52 = .ok (.ireturn, 1) := by decide +kernel
theorem dX6_clock_0 : decode cX6_clock 0 = .ok (.aload_n 0, 1) := by decide +kernel
theorem dX6_clock_1 : decode cX6_clock 1 = .ok (.aload_n 0, 1) := by decide +kernel
theorem dX6_clock_2 : decode cX6_clock 2 = .ok (.getfield 26, 3) := by decide +kernel
theorem dX6_clock_5 : decode cX6_clock 5 = .ok (.invokevirtual 129, 3) := by decide +kernel
theorem dX6_clock_8 : decode cX6_clock 8 = .ok (.ireturn, 1) := by decide +kernel
theorem dX6_jams_0 : decode cX6_jams 0 = .ok (.aload_n 0, 1) := by decide +kernel
theorem dX6_jams_1 : decode cX6_jams 1 = .ok (.getfield 36, 3) := by decide +kernel
theorem dX6_jams_4 : decode cX6_jams 4 = .ok (.newarray .int, 2) := by decide +kernel
theorem dX6_jams_6 : decode cX6_jams 6 = .ok (.astore_n 1, 1) := by decide +kernel
theorem dX6_jams_7 : decode cX6_jams 7 = .ok (.iconst 0, 1) := by decide +kernel
theorem dX6_jams_8 : decode cX6_jams 8 = .ok (.istore_n 2, 1) := by decide +kernel
theorem dX6_jams_9 : decode cX6_jams 9 = .ok (.iload_n 2, 1) := by decide +kernel
theorem dX6_jams_10 : decode cX6_jams 10 = .ok (.aload_n 0, 1) := by decide +kernel
theorem dX6_jams_11 : decode cX6_jams 11 = .ok (.getfield 36, 3) := by decide +kernel
theorem dX6_jams_14 : decode cX6_jams 14 = .ok (.if_icmp .ge 43, 3) := by decide +kernel
theorem dX6_jams_17 : decode cX6_jams 17 = .ok (.aload_n 1, 1) := by decide +kernel
theorem dX6_jams_18 : decode cX6_jams 18 = .ok (.iload_n 2, 1) := by decide +kernel
theorem dX6_jams_19 : decode cX6_jams 19 = .ok (.aload_n 0, 1) := by decide +kernel
theorem dX6_jams_20 : decode cX6_jams 20 = .ok (.iload_n 2, 1) := by decide +kernel
theorem dX6_jams_21 : decode cX6_jams 21 = .ok (.invokevirtual 110, 3) := by decide +kernel
theorem dX6_jams_24 : decode cX6_jams 24 = .ok (.ifCond .eq 25, 3) := by decide +kernel
theorem dX6_jams_27 : decode cX6_jams 27 = .ok (.aload_n 0, 1) := by decide +kernel
theorem dX6_jams_28 : decode cX6_jams 28 = .ok (.getfield 39, 3) := by decide +kernel
theorem dX6_jams_31 : decode cX6_jams 31 = .ok (.iload_n 2, 1) := by decide +kernel
theorem dX6_jams_32 : decode cX6_jams 32 = .ok (.bipush 8, 2) := by decide +kernel
theorem dX6_jams_34 : decode cX6_jams 34 = .ok (.imul, 1) := by decide +kernel
theorem dX6_jams_35 : decode cX6_jams 35 = .ok (.iconst 5, 1) := by decide +kernel
theorem dX6_jams_36 : decode cX6_jams 36 = .ok (.iadd, 1) := by decide +kernel
theorem dX6_jams_37 : decode cX6_jams 37 = .ok (.iaload, 1) := by decide +kernel
theorem dX6_jams_38 : decode cX6_jams 38 = .ok (.aload_n 0, 1) := by decide +kernel
theorem dX6_jams_39 : decode cX6_jams 39 = .ok (.getfield 13, 3) := by decide +kernel
theorem dX6_jams_42 : decode cX6_jams 42 = .ok (.if_icmp .lt 7, 3) := by decide +kernel
theorem dX6_jams_45 : decode cX6_jams 45 = .ok (.iload_n 2, 1) := by decide +kernel
theorem dX6_jams_46 : decode cX6_jams 46 = .ok (.goto 4, 3) := by decide +kernel
theorem dX6_jams_49 : decode cX6_jams 49 = .ok (.iconst (-1), 1) := by decide +kernel
theorem dX6_jams_50 : decode cX6_jams 50 = .ok (.iastore, 1) := by decide +kernel
theorem dX6_jams_51 : decode cX6_jams 51 = .ok (.iinc 2 1, 3) := by decide +kernel
theorem dX6_jams_54 : decode cX6_jams 54 = .ok (.goto (-45), 3) := by decide +kernel
theorem dX6_jams_57 : decode cX6_jams 57 = .ok (.iconst 1, 1) := by decide +kernel
theorem dX6_jams_58 : decode cX6_jams 58 = .ok (.istore_n 2, 1) := by decide +kernel
theorem dX6_jams_59 : decode cX6_jams 59 = .ok (.iload_n 2, 1) := by decide +kernel
theorem dX6_jams_60 : decode cX6_jams 60 = .ok (.ifCond .eq 119, 3) := by decide +kernel
theorem dX6_jams_63 : decode cX6_jams 63 = .ok (.iconst 0, 1) := by decide +kernel
theorem dX6_jams_64 : decode cX6_jams 64 = .ok (.istore_n 2, 1) := by decide +kernel
theorem dX6_jams_65 : decode cX6_jams 65 = .ok (.iconst 0, 1) := by decide +kernel
theorem dX6_jams_66 : decode cX6_jams 66 = .ok (.istore_n 3, 1) := by decide +kernel
theorem dX6_jams_67 : decode cX6_jams 67 = .ok (.iload_n 3, 1) := by decide +kernel
theorem dX6_jams_68 : decode cX6_jams 68 = .ok (.aload_n 0, 1) := by decide +kernel
theorem dX6_jams_69 : decode cX6_jams 69 = .ok (.getfield 36, 3) := by decide +kernel
theorem dX6_jams_72 : decode cX6_jams 72 = .ok (.if_icmp .ge 104, 3) := by decide +kernel
theorem dX6_jams_75 : decode cX6_jams 75 = .ok (.iconst 0, 1) := by decide +kernel
theorem dX6_jams_76 : decode cX6_jams 76 = .ok (.istore 4, 2) := by decide +kernel
theorem dX6_jams_78 : decode cX6_jams 78 = .ok (.iload 4, 2) := by decide +kernel
theorem dX6_jams_80 : decode cX6_jams 80 = .ok (.iconst 4, 1) := by decide +kernel
theorem dX6_jams_81 : decode cX6_jams 81 = .ok (.if_icmp .ge 89, 3) := by decide +kernel
theorem dX6_jams_84 : decode cX6_jams 84 = .ok (.aload_n 1, 1) := by decide +kernel
theorem dX6_jams_85 : decode cX6_jams 85 = .ok (.iload_n 3, 1) := by decide +kernel
theorem dX6_jams_86 : decode cX6_jams 86 = .ok (.iaload, 1) := by decide +kernel
theorem dX6_jams_87 : decode cX6_jams 87 = .ok (.iconst (-1), 1) := by decide +kernel
theorem dX6_jams_88 : decode cX6_jams 88 = .ok (.if_icmp .eq 82, 3) := by decide +kernel
theorem dX6_jams_91 : decode cX6_jams 91 = .ok (.aload_n 0, 1) := by decide +kernel
theorem dX6_jams_92 : decode cX6_jams 92 = .ok (.aload_n 0, 1) := by decide +kernel
theorem dX6_jams_93 : decode cX6_jams 93 = .ok (.getfield 39, 3) := by decide +kernel
theorem dX6_jams_96 : decode cX6_jams 96 = .ok (.iload_n 3, 1) := by decide +kernel
theorem dX6_jams_97 : decode cX6_jams 97 = .ok (.bipush 8, 2) := by decide +kernel
theorem dX6_jams_99 : decode cX6_jams 99 = .ok (.imul, 1) := by decide +kernel
theorem dX6_jams_100 : decode cX6_jams 100 = .ok (.iconst 3, 1) := by decide +kernel
theorem dX6_jams_101 : decode cX6_jams 101 = .ok (.iadd, 1) := by decide +kernel
theorem dX6_jams_102 : decode cX6_jams 102 = .ok (.iaload, 1) := by decide +kernel
theorem dX6_jams_103 : decode cX6_jams 103 = .ok (.iload 4, 2) := by decide +kernel
theorem dX6_jams_105 : decode cX6_jams 105 = .ok (.invokevirtual 70, 3) := by decide +kernel
theorem dX6_jams_108 : decode cX6_jams 108 = .ok (.istore 5, 2) := by decide +kernel
theorem dX6_jams_110 : decode cX6_jams 110 = .ok (.iload 5, 2) := by decide +kernel
theorem dX6_jams_112 : decode cX6_jams 112 = .ok (.iconst (-1), 1) := by decide +kernel
theorem dX6_jams_113 : decode cX6_jams 113 = .ok (.if_icmp .ne 7, 3) := by decide +kernel
theorem dX6_jams_116 : decode cX6_jams 116 = .ok (.iconst (-1), 1) := by decide +kernel
theorem dX6_jams_117 : decode cX6_jams 117 = .ok (.goto 9, 3) := by decide +kernel
theorem dX6_jams_120 : decode cX6_jams 120 = .ok (.aload_n 0, 1) := by decide +kernel
theorem dX6_jams_121 : decode cX6_jams 121 = .ok (.iload 5, 2) := by decide +kernel
theorem dX6_jams_123 : decode cX6_jams 123 = .ok (.invokevirtual 88, 3) := by decide +kernel
theorem dX6_jams_126 : decode cX6_jams 126 = .ok (.istore 6, 2) := by decide +kernel
theorem dX6_jams_128 : decode cX6_jams 128 = .ok (.iload 6, 2) := by decide +kernel
theorem dX6_jams_130 : decode cX6_jams 130 = .ok (.iconst (-1), 1) := by decide +kernel
theorem dX6_jams_131 : decode cX6_jams 131 = .ok (.if_icmp .eq 33, 3) := by decide +kernel
theorem dX6_jams_134 : decode cX6_jams 134 = .ok (.aload_n 1, 1) := by decide +kernel
theorem dX6_jams_135 : decode cX6_jams 135 = .ok (.iload 6, 2) := by decide +kernel
theorem dX6_jams_137 : decode cX6_jams 137 = .ok (.iaload, 1) := by decide +kernel
theorem dX6_jams_138 : decode cX6_jams 138 = .ok (.iconst (-1), 1) := by decide +kernel
theorem dX6_jams_139 : decode cX6_jams 139 = .ok (.if_icmp .eq 25, 3) := by decide +kernel
theorem dX6_jams_142 : decode cX6_jams 142 = .ok (.aload_n 1, 1) := by decide +kernel
theorem dX6_jams_143 : decode cX6_jams 143 = .ok (.iload 6, 2) := by decide +kernel
theorem dX6_jams_145 : decode cX6_jams 145 = .ok (.iaload, 1) := by decide +kernel
theorem dX6_jams_146 : decode cX6_jams 146 = .ok (.aload_n 1, 1) := by decide +kernel
theorem dX6_jams_147 : decode cX6_jams 147 = .ok (.iload_n 3, 1) := by decide +kernel
theorem dX6_jams_148 : decode cX6_jams 148 = .ok (.iaload, 1) := by decide +kernel
theorem dX6_jams_149 : decode cX6_jams 149 = .ok (.if_icmp .lt 6, 3) := by decide +kernel
theorem dX6_jams_152 : decode cX6_jams 152 = .ok (.goto 12, 3) := by decide +kernel
theorem dX6_jams_155 : decode cX6_jams 155 = .ok (.aload_n 1, 1) := by decide +kernel
theorem dX6_jams_156 : decode cX6_jams 156 = .ok (.iload_n 3, 1) := by decide +kernel
theorem dX6_jams_157 : decode cX6_jams 157 = .ok (.aload_n 1, 1) := by decide +kernel
theorem dX6_jams_158 : decode cX6_jams 158 = .ok (.iload 6, 2) := by decide +kernel
theorem dX6_jams_160 : decode cX6_jams 160 = .ok (.iaload, 1) := by decide +kernel
theorem dX6_jams_161 : decode cX6_jams 161 = .ok (.iastore, 1) := by decide +kernel
theorem dX6_jams_162 : decode cX6_jams 162 = .ok (.iconst 1, 1) := by decide +kernel
theorem dX6_jams_163 : decode cX6_jams 163 = .ok (.istore_n 2, 1) := by decide +kernel
theorem dX6_jams_164 : decode cX6_jams 164 = .ok (.iinc 4 1, 3) := by decide +kernel
theorem dX6_jams_167 : decode cX6_jams 167 = .ok (.goto (-89), 3) := by decide +kernel
theorem dX6_jams_170 : decode cX6_jams 170 = .ok (.iinc 3 1, 3) := by decide +kernel
theorem dX6_jams_173 : decode cX6_jams 173 = .ok (.goto (-106), 3) := by decide +kernel
theorem dX6_jams_176 : decode cX6_jams 176 = .ok (.goto (-117), 3) := by decide +kernel
theorem dX6_jams_179 : decode cX6_jams 179 = .ok (.aload_n 1, 1) := by decide +kernel
theorem dX6_jams_180 : decode cX6_jams 180 = .ok (.areturn, 1) := by decide +kernel
theorem dX6_count_0 : decode cX6_count 0 = .ok (.iconst 0, 1) := by decide +kernel
theorem dX6_count_1 : decode cX6_count 1 = .ok (.istore_n 2, 1) := by decide +kernel
theorem dX6_count_2 : decode cX6_count 2 = .ok (.aload_n 0, 1) := by decide +kernel
theorem dX6_count_3 : decode cX6_count 3 = .ok (.astore_n 3, 1) := by decide +kernel
theorem dX6_count_4 : decode cX6_count 4 = .ok (.aload_n 3, 1) := by decide +kernel
theorem dX6_count_5 : decode cX6_count 5 = .ok (.arraylength, 1) := by decide +kernel
theorem dX6_count_6 : decode cX6_count 6 = .ok (.istore 4, 2) := by decide +kernel
theorem dX6_count_8 : decode cX6_count 8 = .ok (.iconst 0, 1) := by decide +kernel
theorem dX6_count_9 : decode cX6_count 9 = .ok (.istore 5, 2) := by decide +kernel
theorem dX6_count_11 : decode cX6_count 11 = .ok (.iload 5, 2) := by decide +kernel
theorem dX6_count_13 : decode cX6_count 13 = .ok (.iload 4, 2) := by decide +kernel
theorem dX6_count_15 : decode cX6_count 15 = .ok (.if_icmp .ge 29, 3) := by decide +kernel
theorem dX6_count_18 : decode cX6_count 18 = .ok (.aload_n 3, 1) := by decide +kernel
theorem dX6_count_19 : decode cX6_count 19 = .ok (.iload 5, 2) := by decide +kernel
theorem dX6_count_21 : decode cX6_count 21 = .ok (.iaload, 1) := by decide +kernel
theorem dX6_count_22 : decode cX6_count 22 = .ok (.istore 6, 2) := by decide +kernel
theorem dX6_count_24 : decode cX6_count 24 = .ok (.iload_n 2, 1) := by decide +kernel
theorem dX6_count_25 : decode cX6_count 25 = .ok (.iload 6, 2) := by decide +kernel
theorem dX6_count_27 : decode cX6_count 27 = .ok (.iload_n 1, 1) := by decide +kernel
theorem dX6_count_28 : decode cX6_count 28 = .ok (.if_icmp .ne 7, 3) := by decide +kernel
theorem dX6_count_31 : decode cX6_count 31 = .ok (.iconst 1, 1) := by decide +kernel
theorem dX6_count_32 : decode cX6_count 32 = .ok (.goto 4, 3) := by decide +kernel
theorem dX6_count_35 : decode cX6_count 35 = .ok (.iconst 0, 1) := by decide +kernel
theorem dX6_count_36 : decode cX6_count 36 = .ok (.iadd, 1) := by decide +kernel
theorem dX6_count_37 : decode cX6_count 37 = .ok (.istore_n 2, 1) := by decide +kernel
theorem dX6_count_38 : decode cX6_count 38 = .ok (.iinc 5 1, 3) := by decide +kernel
theorem dX6_count_41 : decode cX6_count 41 = .ok (.goto (-30), 3) := by decide +kernel
theorem dX6_count_44 : decode cX6_count 44 = .ok (.iload_n 2, 1) := by decide +kernel
theorem dX6_count_45 : decode cX6_count 45 = .ok (.ireturn, 1) := by decide +kernel
theorem dX6_manyNow_0 : decode cX6_manyNow 0 = .ok (.iconst 0, 1) := by decide +kernel
theorem dX6_manyNow_1 : decode cX6_manyNow 1 = .ok (.istore 4, 2) := by decide +kernel
theorem dX6_manyNow_3 : decode cX6_manyNow 3 = .ok (.iload_n 1, 1) := by decide +kernel
theorem dX6_manyNow_4 : decode cX6_manyNow 4 = .ok (.tableswitch 176 0 8 #[52, 176, 176, 57, 68, 108, 176, 142, 150], 52) := by decide +kernel
theorem dX6_manyNow_56 : decode cX6_manyNow 56 = .ok (.aload_n 0, 1) := by decide +kernel
theorem dX6_manyNow_57 : decode cX6_manyNow 57 = .ok (.getfield 36, 3) := by decide +kernel
theorem dX6_manyNow_60 : decode cX6_manyNow 60 = .ok (.ireturn, 1) := by decide +kernel
theorem dX6_manyNow_61 : decode cX6_manyNow 61 = .ok (.aload_n 0, 1) := by decide +kernel
theorem dX6_manyNow_62 : decode cX6_manyNow 62 = .ok (.getfield 36, 3) := by decide +kernel
theorem dX6_manyNow_65 : decode cX6_manyNow 65 = .ok (.aload_n 2, 1) := by decide +kernel
theorem dX6_manyNow_66 : decode cX6_manyNow 66 = .ok (.iconst (-1), 1) := by decide +kernel
theorem dX6_manyNow_67 : decode cX6_manyNow 67 = .ok (.invokestatic 132, 3) := by decide +kernel
theorem dX6_manyNow_70 : decode cX6_manyNow 70 = .ok (.isub, 1) := by decide +kernel
theorem dX6_manyNow_71 : decode cX6_manyNow 71 = .ok (.ireturn, 1) := by decide +kernel
theorem dX6_manyNow_72 : decode cX6_manyNow 72 = .ok (.iconst 0, 1) := by decide +kernel
theorem dX6_manyNow_73 : decode cX6_manyNow 73 = .ok (.istore 5, 2) := by decide +kernel
theorem dX6_manyNow_75 : decode cX6_manyNow 75 = .ok (.iload 5, 2) := by decide +kernel
theorem dX6_manyNow_77 : decode cX6_manyNow 77 = .ok (.aload_n 0, 1) := by decide +kernel
theorem dX6_manyNow_78 : decode cX6_manyNow 78 = .ok (.getfield 36, 3) := by decide +kernel
theorem dX6_manyNow_81 : decode cX6_manyNow 81 = .ok (.if_icmp .ge 28, 3) := by decide +kernel
theorem dX6_manyNow_84 : decode cX6_manyNow 84 = .ok (.iload 4, 2) := by decide +kernel
theorem dX6_manyNow_86 : decode cX6_manyNow 86 = .ok (.aload_n 2, 1) := by decide +kernel
theorem dX6_manyNow_87 : decode cX6_manyNow 87 = .ok (.iload 5, 2) := by decide +kernel
theorem dX6_manyNow_89 : decode cX6_manyNow 89 = .ok (.iaload, 1) := by decide +kernel
theorem dX6_manyNow_90 : decode cX6_manyNow 90 = .ok (.iload 5, 2) := by decide +kernel
theorem dX6_manyNow_92 : decode cX6_manyNow 92 = .ok (.if_icmp .ne 7, 3) := by decide +kernel
theorem dX6_manyNow_95 : decode cX6_manyNow 95 = .ok (.iconst 1, 1) := by decide +kernel
theorem dX6_manyNow_96 : decode cX6_manyNow 96 = .ok (.goto 4, 3) := by decide +kernel
theorem dX6_manyNow_99 : decode cX6_manyNow 99 = .ok (.iconst 0, 1) := by decide +kernel
theorem dX6_manyNow_100 : decode cX6_manyNow 100 = .ok (.iadd, 1) := by decide +kernel
theorem dX6_manyNow_101 : decode cX6_manyNow 101 = .ok (.istore 4, 2) := by decide +kernel
theorem dX6_manyNow_103 : decode cX6_manyNow 103 = .ok (.iinc 5 1, 3) := by decide +kernel
theorem dX6_manyNow_106 : decode cX6_manyNow 106 = .ok (.goto (-31), 3) := by decide +kernel
theorem dX6_manyNow_109 : decode cX6_manyNow 109 = .ok (.iload 4, 2) := by decide +kernel
theorem dX6_manyNow_111 : decode cX6_manyNow 111 = .ok (.ireturn, 1) := by decide +kernel
theorem dX6_manyNow_112 : decode cX6_manyNow 112 = .ok (.iconst 0, 1) := by decide +kernel
theorem dX6_manyNow_113 : decode cX6_manyNow 113 = .ok (.istore 5, 2) := by decide +kernel
theorem dX6_manyNow_115 : decode cX6_manyNow 115 = .ok (.iload 5, 2) := by decide +kernel
theorem dX6_manyNow_117 : decode cX6_manyNow 117 = .ok (.aload_n 0, 1) := by decide +kernel
theorem dX6_manyNow_118 : decode cX6_manyNow 118 = .ok (.getfield 36, 3) := by decide +kernel
theorem dX6_manyNow_121 : decode cX6_manyNow 121 = .ok (.if_icmp .ge 22, 3) := by decide +kernel
theorem dX6_manyNow_124 : decode cX6_manyNow 124 = .ok (.iload 4, 2) := by decide +kernel
theorem dX6_manyNow_126 : decode cX6_manyNow 126 = .ok (.aload_n 2, 1) := by decide +kernel
theorem dX6_manyNow_127 : decode cX6_manyNow 127 = .ok (.iload 5, 2) := by decide +kernel
theorem dX6_manyNow_129 : decode cX6_manyNow 129 = .ok (.invokestatic 132, 3) := by decide +kernel
theorem dX6_manyNow_132 : decode cX6_manyNow 132 = .ok (.invokestatic 85, 3) := by decide +kernel
theorem dX6_manyNow_135 : decode cX6_manyNow 135 = .ok (.istore 4, 2) := by decide +kernel
theorem dX6_manyNow_137 : decode cX6_manyNow 137 = .ok (.iinc 5 1, 3) := by decide +kernel
theorem dX6_manyNow_140 : decode cX6_manyNow 140 = .ok (.goto (-25), 3) := by decide +kernel
theorem dX6_manyNow_143 : decode cX6_manyNow 143 = .ok (.iload 4, 2) := by decide +kernel
theorem dX6_manyNow_145 : decode cX6_manyNow 145 = .ok (.ireturn, 1) := by decide +kernel
theorem dX6_manyNow_146 : decode cX6_manyNow 146 = .ok (.aload_n 0, 1) := by decide +kernel
theorem dX6_manyNow_147 : decode cX6_manyNow 147 = .ok (.getfield 43, 3) := by decide +kernel
theorem dX6_manyNow_150 : decode cX6_manyNow 150 = .ok (.invokestatic 100, 3) := by decide +kernel
theorem dX6_manyNow_153 : decode cX6_manyNow 153 = .ok (.ireturn, 1) := by decide +kernel
theorem dX6_manyNow_154 : decode cX6_manyNow 154 = .ok (.aload_n 0, 1) := by decide +kernel
theorem dX6_manyNow_155 : decode cX6_manyNow 155 = .ok (.getfield 43, 3) := by decide +kernel
theorem dX6_manyNow_158 : decode cX6_manyNow 158 = .ok (.iload 4, 2) := by decide +kernel
theorem dX6_manyNow_160 : decode cX6_manyNow 160 = .ok (.iaload, 1) := by decide +kernel
theorem dX6_manyNow_161 : decode cX6_manyNow 161 = .ok (.aload_n 0, 1) := by decide +kernel
theorem dX6_manyNow_162 : decode cX6_manyNow 162 = .ok (.getfield 43, 3) := by decide +kernel
theorem dX6_manyNow_165 : decode cX6_manyNow 165 = .ok (.invokestatic 100, 3) := by decide +kernel
theorem dX6_manyNow_168 : decode cX6_manyNow 168 = .ok (.if_icmp .ge 9, 3) := by decide +kernel
theorem dX6_manyNow_171 : decode cX6_manyNow 171 = .ok (.iinc 4 1, 3) := by decide +kernel
theorem dX6_manyNow_174 : decode cX6_manyNow 174 = .ok (.goto (-20), 3) := by decide +kernel
theorem dX6_manyNow_177 : decode cX6_manyNow 177 = .ok (.iload 4, 2) := by decide +kernel
theorem dX6_manyNow_179 : decode cX6_manyNow 179 = .ok (.ireturn, 1) := by decide +kernel
theorem dX6_manyNow_180 : decode cX6_manyNow 180 = .ok (.iconst 0, 1) := by decide +kernel
theorem dX6_manyNow_181 : decode cX6_manyNow 181 = .ok (.istore 5, 2) := by decide +kernel
theorem dX6_manyNow_183 : decode cX6_manyNow 183 = .ok (.iload 5, 2) := by decide +kernel
theorem dX6_manyNow_185 : decode cX6_manyNow 185 = .ok (.aload_n 0, 1) := by decide +kernel
theorem dX6_manyNow_186 : decode cX6_manyNow 186 = .ok (.getfield 36, 3) := by decide +kernel
theorem dX6_manyNow_189 : decode cX6_manyNow 189 = .ok (.if_icmp .ge 103, 3) := by decide +kernel
theorem dX6_manyNow_192 : decode cX6_manyNow 192 = .ok (.iload 4, 2) := by decide +kernel
theorem dX6_manyNow_194 : decode cX6_manyNow 194 = .ok (.iload_n 1, 1) := by decide +kernel
theorem dX6_manyNow_195 : decode cX6_manyNow 195 = .ok (.bipush 6, 2) := by decide +kernel
theorem dX6_manyNow_197 : decode cX6_manyNow 197 = .ok (.if_icmp .ne 19, 3) := by decide +kernel
theorem dX6_manyNow_200 : decode cX6_manyNow 200 = .ok (.aload_n 0, 1) := by decide +kernel
theorem dX6_manyNow_201 : decode cX6_manyNow 201 = .ok (.getfield 39, 3) := by decide +kernel
theorem dX6_manyNow_204 : decode cX6_manyNow 204 = .ok (.iload 5, 2) := by decide +kernel
theorem dX6_manyNow_206 : decode cX6_manyNow 206 = .ok (.bipush 8, 2) := by decide +kernel
theorem dX6_manyNow_208 : decode cX6_manyNow 208 = .ok (.imul, 1) := by decide +kernel
theorem dX6_manyNow_209 : decode cX6_manyNow 209 = .ok (.bipush 6, 2) := by decide +kernel
theorem dX6_manyNow_211 : decode cX6_manyNow 211 = .ok (.iadd, 1) := by decide +kernel
theorem dX6_manyNow_212 : decode cX6_manyNow 212 = .ok (.iaload, 1) := by decide +kernel
theorem dX6_manyNow_213 : decode cX6_manyNow 213 = .ok (.goto 70, 3) := by decide +kernel
theorem dX6_manyNow_216 : decode cX6_manyNow 216 = .ok (.iload_n 1, 1) := by decide +kernel
theorem dX6_manyNow_217 : decode cX6_manyNow 217 = .ok (.iconst 1, 1) := by decide +kernel
theorem dX6_manyNow_218 : decode cX6_manyNow 218 = .ok (.if_icmp .ne 20, 3) := by decide +kernel
theorem dX6_manyNow_221 : decode cX6_manyNow 221 = .ok (.aload_n 0, 1) := by decide +kernel
theorem dX6_manyNow_222 : decode cX6_manyNow 222 = .ok (.iload 5, 2) := by decide +kernel
theorem dX6_manyNow_224 : decode cX6_manyNow 224 = .ok (.invokevirtual 110, 3) := by decide +kernel
theorem dX6_manyNow_227 : decode cX6_manyNow 227 = .ok (.ifCond .eq 7, 3) := by decide +kernel
theorem dX6_manyNow_230 : decode cX6_manyNow 230 = .ok (.iconst 0, 1) := by decide +kernel
theorem dX6_manyNow_231 : decode cX6_manyNow 231 = .ok (.goto 52, 3) := by decide +kernel
theorem dX6_manyNow_234 : decode cX6_manyNow 234 = .ok (.iconst 1, 1) := by decide +kernel
theorem dX6_manyNow_235 : decode cX6_manyNow 235 = .ok (.goto 48, 3) := by decide +kernel
theorem dX6_manyNow_238 : decode cX6_manyNow 238 = .ok (.aload_n 0, 1) := by decide +kernel
theorem dX6_manyNow_239 : decode cX6_manyNow 239 = .ok (.iload 5, 2) := by decide +kernel
theorem dX6_manyNow_241 : decode cX6_manyNow 241 = .ok (.invokevirtual 110, 3) := by decide +kernel
theorem dX6_manyNow_244 : decode cX6_manyNow 244 = .ok (.ifCond .eq 38, 3) := by decide +kernel
theorem dX6_manyNow_247 : decode cX6_manyNow 247 = .ok (.aload_n 3, 1) := by decide +kernel
theorem dX6_manyNow_248 : decode cX6_manyNow 248 = .ok (.aload_n 0, 1) := by decide +kernel
theorem dX6_manyNow_249 : decode cX6_manyNow 249 = .ok (.getfield 39, 3) := by decide +kernel
theorem dX6_manyNow_252 : decode cX6_manyNow 252 = .ok (.iload 5, 2) := by decide +kernel
theorem dX6_manyNow_254 : decode cX6_manyNow 254 = .ok (.bipush 8, 2) := by decide +kernel
theorem dX6_manyNow_256 : decode cX6_manyNow 256 = .ok (.imul, 1) := by decide +kernel
theorem dX6_manyNow_257 : decode cX6_manyNow 257 = .ok (.iconst 0, 1) := by decide +kernel
theorem dX6_manyNow_258 : decode cX6_manyNow 258 = .ok (.iadd, 1) := by decide +kernel
theorem dX6_manyNow_259 : decode cX6_manyNow 259 = .ok (.iaload, 1) := by decide +kernel
theorem dX6_manyNow_260 : decode cX6_manyNow 260 = .ok (.aaload, 1) := by decide +kernel
theorem dX6_manyNow_261 : decode cX6_manyNow 261 = .ok (.aload_n 0, 1) := by decide +kernel
theorem dX6_manyNow_262 : decode cX6_manyNow 262 = .ok (.getfield 39, 3) := by decide +kernel
theorem dX6_manyNow_265 : decode cX6_manyNow 265 = .ok (.iload 5, 2) := by decide +kernel
theorem dX6_manyNow_267 : decode cX6_manyNow 267 = .ok (.bipush 8, 2) := by decide +kernel
theorem dX6_manyNow_269 : decode cX6_manyNow 269 = .ok (.imul, 1) := by decide +kernel
theorem dX6_manyNow_270 : decode cX6_manyNow 270 = .ok (.iconst 3, 1) := by decide +kernel
theorem dX6_manyNow_271 : decode cX6_manyNow 271 = .ok (.iadd, 1) := by decide +kernel
theorem dX6_manyNow_272 : decode cX6_manyNow 272 = .ok (.iaload, 1) := by decide +kernel
theorem dX6_manyNow_273 : decode cX6_manyNow 273 = .ok (.iaload, 1) := by decide +kernel
theorem dX6_manyNow_274 : decode cX6_manyNow 274 = .ok (.iconst (-1), 1) := by decide +kernel
theorem dX6_manyNow_275 : decode cX6_manyNow 275 = .ok (.if_icmp .ne 7, 3) := by decide +kernel
theorem dX6_manyNow_278 : decode cX6_manyNow 278 = .ok (.iconst 1, 1) := by decide +kernel
theorem dX6_manyNow_279 : decode cX6_manyNow 279 = .ok (.goto 4, 3) := by decide +kernel
theorem dX6_manyNow_282 : decode cX6_manyNow 282 = .ok (.iconst 0, 1) := by decide +kernel
theorem dX6_manyNow_283 : decode cX6_manyNow 283 = .ok (.iadd, 1) := by decide +kernel
theorem dX6_manyNow_284 : decode cX6_manyNow 284 = .ok (.istore 4, 2) := by decide +kernel
theorem dX6_manyNow_286 : decode cX6_manyNow 286 = .ok (.iinc 5 1, 3) := by decide +kernel
theorem dX6_manyNow_289 : decode cX6_manyNow 289 = .ok (.goto (-106), 3) := by decide +kernel
theorem dX6_manyNow_292 : decode cX6_manyNow 292 = .ok (.iload 4, 2) := by decide +kernel
theorem dX6_manyNow_294 : decode cX6_manyNow 294 = .ok (.ireturn, 1) := by decide +kernel
theorem dX6_many_0 : decode cX6_many 0 = .ok (.aload_n 0, 1) := by decide +kernel
theorem dX6_many_1 : decode cX6_many 1 = .ok (.iconst 0, 1) := by decide +kernel
theorem dX6_many_2 : decode cX6_many 2 = .ok (.putfield 46, 3) := by decide +kernel
theorem dX6_many_5 : decode cX6_many 5 = .ok (.iload_n 1, 1) := by decide +kernel
theorem dX6_many_6 : decode cX6_many 6 = .ok (.iconst 0, 1) := by decide +kernel
theorem dX6_many_7 : decode cX6_many 7 = .ok (.bipush 8, 2) := by decide +kernel
theorem dX6_many_9 : decode cX6_many 9 = .ok (.invokestatic 49, 3) := by decide +kernel
theorem dX6_many_12 : decode cX6_many 12 = .ok (.ifCond .eq 19, 3) := by decide +kernel
theorem dX6_many_15 : decode cX6_many 15 = .ok (.aload_n 0, 1) := by decide +kernel
theorem dX6_many_16 : decode cX6_many 16 = .ok (.iload_n 1, 1) := by decide +kernel
theorem dX6_many_17 : decode cX6_many 17 = .ok (.aload_n 0, 1) := by decide +kernel
theorem dX6_many_18 : decode cX6_many 18 = .ok (.invokevirtual 136, 3) := by decide +kernel
theorem dX6_many_21 : decode cX6_many 21 = .ok (.aload_n 0, 1) := by decide +kernel
theorem dX6_many_22 : decode cX6_many 22 = .ok (.invokevirtual 121, 3) := by decide +kernel
theorem dX6_many_25 : decode cX6_many 25 = .ok (.invokevirtual 140, 3) := by decide +kernel
theorem dX6_many_28 : decode cX6_many 28 = .ok (.goto 8, 3) := by decide +kernel
theorem dX6_many_31 : decode cX6_many 31 = .ok (.aload_n 0, 1) := by decide +kernel
theorem dX6_many_32 : decode cX6_many 32 = .ok (.iconst 1, 1) := by decide +kernel
theorem dX6_many_33 : decode cX6_many 33 = .ok (.invokevirtual 79, 3) := by decide +kernel
theorem dX6_many_36 : decode cX6_many 36 = .ok (.ireturn, 1) := by decide +kernel
theorem dX6_ofNow_0 : decode cX6_ofNow 0 = .ok (.iload_n 1, 1) := by decide +kernel
theorem dX6_ofNow_1 : decode cX6_ofNow 1 = .ok (.bipush 8, 2) := by decide +kernel
theorem dX6_ofNow_3 : decode cX6_ofNow 3 = .ok (.imul, 1) := by decide +kernel
theorem dX6_ofNow_4 : decode cX6_ofNow 4 = .ok (.istore 4, 2) := by decide +kernel
theorem dX6_ofNow_6 : decode cX6_ofNow 6 = .ok (.iload_n 2, 1) := by decide +kernel
theorem dX6_ofNow_7 : decode cX6_ofNow 7 = .ok (.lookupswitch 70 #[(7, 25), (8, 59)], 25) := by decide +kernel
theorem dX6_ofNow_32 : decode cX6_ofNow 32 = .ok (.aload_n 0, 1) := by decide +kernel
theorem dX6_ofNow_33 : decode cX6_ofNow 33 = .ok (.iload_n 1, 1) := by decide +kernel
theorem dX6_ofNow_34 : decode cX6_ofNow 34 = .ok (.invokevirtual 110, 3) := by decide +kernel
theorem dX6_ofNow_37 : decode cX6_ofNow 37 = .ok (.ifCond .eq 27, 3) := by decide +kernel
theorem dX6_ofNow_40 : decode cX6_ofNow 40 = .ok (.aload_n 3, 1) := by decide +kernel
theorem dX6_ofNow_41 : decode cX6_ofNow 41 = .ok (.aload_n 0, 1) := by decide +kernel
theorem dX6_ofNow_42 : decode cX6_ofNow 42 = .ok (.getfield 39, 3) := by decide +kernel
theorem dX6_ofNow_45 : decode cX6_ofNow 45 = .ok (.iload 4, 2) := by decide +kernel
theorem dX6_ofNow_47 : decode cX6_ofNow 47 = .ok (.iconst 0, 1) := by decide +kernel
theorem dX6_ofNow_48 : decode cX6_ofNow 48 = .ok (.iadd, 1) := by decide +kernel
theorem dX6_ofNow_49 : decode cX6_ofNow 49 = .ok (.iaload, 1) := by decide +kernel
theorem dX6_ofNow_50 : decode cX6_ofNow 50 = .ok (.aaload, 1) := by decide +kernel
theorem dX6_ofNow_51 : decode cX6_ofNow 51 = .ok (.aload_n 0, 1) := by decide +kernel
theorem dX6_ofNow_52 : decode cX6_ofNow 52 = .ok (.getfield 39, 3) := by decide +kernel
theorem dX6_ofNow_55 : decode cX6_ofNow 55 = .ok (.iload 4, 2) := by decide +kernel
theorem dX6_ofNow_57 : decode cX6_ofNow 57 = .ok (.iconst 3, 1) := by decide +kernel
theorem dX6_ofNow_58 : decode cX6_ofNow 58 = .ok (.iadd, 1) := by decide +kernel
theorem dX6_ofNow_59 : decode cX6_ofNow 59 = .ok (.iaload, 1) := by decide +kernel
theorem dX6_ofNow_60 : decode cX6_ofNow 60 = .ok (.iaload, 1) := by decide +kernel
theorem dX6_ofNow_61 : decode cX6_ofNow 61 = .ok (.goto 4, 3) := by decide +kernel
theorem dX6_ofNow_64 : decode cX6_ofNow 64 = .ok (.iconst 0, 1) := by decide +kernel
theorem dX6_ofNow_65 : decode cX6_ofNow 65 = .ok (.ireturn, 1) := by decide +kernel
theorem dX6_ofNow_66 : decode cX6_ofNow 66 = .ok (.aload_n 0, 1) := by decide +kernel
theorem dX6_ofNow_67 : decode cX6_ofNow 67 = .ok (.getfield 39, 3) := by decide +kernel
theorem dX6_ofNow_70 : decode cX6_ofNow 70 = .ok (.iload 4, 2) := by decide +kernel
theorem dX6_ofNow_72 : decode cX6_ofNow 72 = .ok (.bipush 7, 2) := by decide +kernel
theorem dX6_ofNow_74 : decode cX6_ofNow 74 = .ok (.iadd, 1) := by decide +kernel
theorem dX6_ofNow_75 : decode cX6_ofNow 75 = .ok (.iaload, 1) := by decide +kernel
theorem dX6_ofNow_76 : decode cX6_ofNow 76 = .ok (.ireturn, 1) := by decide +kernel
theorem dX6_ofNow_77 : decode cX6_ofNow 77 = .ok (.aload_n 0, 1) := by decide +kernel
theorem dX6_ofNow_78 : decode cX6_ofNow 78 = .ok (.getfield 39, 3) := by decide +kernel
theorem dX6_ofNow_81 : decode cX6_ofNow 81 = .ok (.iload 4, 2) := by decide +kernel
theorem dX6_ofNow_83 : decode cX6_ofNow 83 = .ok (.iload_n 2, 1) := by decide +kernel
theorem dX6_ofNow_84 : decode cX6_ofNow 84 = .ok (.iadd, 1) := by decide +kernel
theorem dX6_ofNow_85 : decode cX6_ofNow 85 = .ok (.iaload, 1) := by decide +kernel
theorem dX6_ofNow_86 : decode cX6_ofNow 86 = .ok (.ireturn, 1) := by decide +kernel
theorem dX6_ofWalker_0 : decode cX6_ofWalker 0 = .ok (.aload_n 0, 1) := by decide +kernel
theorem dX6_ofWalker_1 : decode cX6_ofWalker 1 = .ok (.iconst 0, 1) := by decide +kernel
theorem dX6_ofWalker_2 : decode cX6_ofWalker 2 = .ok (.putfield 46, 3) := by decide +kernel
theorem dX6_ofWalker_5 : decode cX6_ofWalker 5 = .ok (.aload_n 0, 1) := by decide +kernel
theorem dX6_ofWalker_6 : decode cX6_ofWalker 6 = .ok (.iload_n 1, 1) := by decide +kernel
theorem dX6_ofWalker_7 : decode cX6_ofWalker 7 = .ok (.invokevirtual 53, 3) := by decide +kernel
theorem dX6_ofWalker_10 : decode cX6_ofWalker 10 = .ok (.ifCond .ne 9, 3) := by decide +kernel
theorem dX6_ofWalker_13 : decode cX6_ofWalker 13 = .ok (.aload_n 0, 1) := by decide +kernel
theorem dX6_ofWalker_14 : decode cX6_ofWalker 14 = .ok (.iconst 1, 1) := by decide +kernel
theorem dX6_ofWalker_15 : decode cX6_ofWalker 15 = .ok (.invokevirtual 79, 3) := by decide +kernel
theorem dX6_ofWalker_18 : decode cX6_ofWalker 18 = .ok (.ireturn, 1) := by decide +kernel
theorem dX6_ofWalker_19 : decode cX6_ofWalker 19 = .ok (.iload_n 2, 1) := by decide +kernel
theorem dX6_ofWalker_20 : decode cX6_ofWalker 20 = .ok (.iconst 0, 1) := by decide +kernel
theorem dX6_ofWalker_21 : decode cX6_ofWalker 21 = .ok (.bipush 8, 2) := by decide +kernel
theorem dX6_ofWalker_23 : decode cX6_ofWalker 23 = .ok (.invokestatic 49, 3) := by decide +kernel
theorem dX6_ofWalker_26 : decode cX6_ofWalker 26 = .ok (.ifCond .eq 16, 3) := by decide +kernel
theorem dX6_ofWalker_29 : decode cX6_ofWalker 29 = .ok (.aload_n 0, 1) := by decide +kernel
theorem dX6_ofWalker_30 : decode cX6_ofWalker 30 = .ok (.iload_n 1, 1) := by decide +kernel
theorem dX6_ofWalker_31 : decode cX6_ofWalker 31 = .ok (.iload_n 2, 1) := by decide +kernel
theorem dX6_ofWalker_32 : decode cX6_ofWalker 32 = .ok (.aload_n 0, 1) := by decide +kernel
theorem dX6_ofWalker_33 : decode cX6_ofWalker 33 = .ok (.invokevirtual 121, 3) := by decide +kernel
theorem dX6_ofWalker_36 : decode cX6_ofWalker 36 = .ok (.invokevirtual 144, 3) := by decide +kernel
theorem dX6_ofWalker_39 : decode cX6_ofWalker 39 = .ok (.goto 8, 3) := by decide +kernel
theorem dX6_ofWalker_42 : decode cX6_ofWalker 42 = .ok (.aload_n 0, 1) := by decide +kernel
theorem dX6_ofWalker_43 : decode cX6_ofWalker 43 = .ok (.iconst 2, 1) := by decide +kernel
theorem dX6_ofWalker_44 : decode cX6_ofWalker 44 = .ok (.invokevirtual 79, 3) := by decide +kernel
theorem dX6_ofWalker_47 : decode cX6_ofWalker 47 = .ok (.ireturn, 1) := by decide +kernel
theorem dX6_farOf_0 : decode cX6_farOf 0 = .ok (.aload_n 0, 1) := by decide +kernel
theorem dX6_farOf_1 : decode cX6_farOf 1 = .ok (.aload_n 0, 1) := by decide +kernel
theorem dX6_farOf_2 : decode cX6_farOf 2 = .ok (.getfield 39, 3) := by decide +kernel
theorem dX6_farOf_5 : decode cX6_farOf 5 = .ok (.iload_n 1, 1) := by decide +kernel
theorem dX6_farOf_6 : decode cX6_farOf 6 = .ok (.bipush 8, 2) := by decide +kernel
theorem dX6_farOf_8 : decode cX6_farOf 8 = .ok (.imul, 1) := by decide +kernel
theorem dX6_farOf_9 : decode cX6_farOf 9 = .ok (.iconst 0, 1) := by decide +kernel
theorem dX6_farOf_10 : decode cX6_farOf 10 = .ok (.iadd, 1) := by decide +kernel
theorem dX6_farOf_11 : decode cX6_farOf 11 = .ok (.iaload, 1) := by decide +kernel
theorem dX6_farOf_12 : decode cX6_farOf 12 = .ok (.invokevirtual 75, 3) := by decide +kernel
theorem dX6_farOf_15 : decode cX6_farOf 15 = .ok (.areturn, 1) := by decide +kernel
theorem dX6_cost_0 : decode cX6_cost 0 = .ok (.aload_n 0, 1) := by decide +kernel
theorem dX6_cost_1 : decode cX6_cost 1 = .ok (.iconst 0, 1) := by decide +kernel
theorem dX6_cost_2 : decode cX6_cost 2 = .ok (.putfield 46, 3) := by decide +kernel
theorem dX6_cost_5 : decode cX6_cost 5 = .ok (.aload_n 0, 1) := by decide +kernel
theorem dX6_cost_6 : decode cX6_cost 6 = .ok (.iload_n 1, 1) := by decide +kernel
theorem dX6_cost_7 : decode cX6_cost 7 = .ok (.invokevirtual 110, 3) := by decide +kernel
theorem dX6_cost_10 : decode cX6_cost 10 = .ok (.ifCond .ne 9, 3) := by decide +kernel
theorem dX6_cost_13 : decode cX6_cost 13 = .ok (.aload_n 0, 1) := by decide +kernel
theorem dX6_cost_14 : decode cX6_cost 14 = .ok (.iconst 1, 1) := by decide +kernel
theorem dX6_cost_15 : decode cX6_cost 15 = .ok (.invokevirtual 79, 3) := by decide +kernel
theorem dX6_cost_18 : decode cX6_cost 18 = .ok (.ireturn, 1) := by decide +kernel
theorem dX6_cost_19 : decode cX6_cost 19 = .ok (.iload_n 2, 1) := by decide +kernel
theorem dX6_cost_20 : decode cX6_cost 20 = .ok (.iconst 0, 1) := by decide +kernel
theorem dX6_cost_21 : decode cX6_cost 21 = .ok (.iconst 4, 1) := by decide +kernel
theorem dX6_cost_22 : decode cX6_cost 22 = .ok (.invokestatic 49, 3) := by decide +kernel
theorem dX6_cost_25 : decode cX6_cost 25 = .ok (.ifCond .eq 17, 3) := by decide +kernel
theorem dX6_cost_28 : decode cX6_cost 28 = .ok (.aload_n 0, 1) := by decide +kernel
theorem dX6_cost_29 : decode cX6_cost 29 = .ok (.iload_n 1, 1) := by decide +kernel
theorem dX6_cost_30 : decode cX6_cost 30 = .ok (.iload_n 2, 1) := by decide +kernel
theorem dX6_cost_31 : decode cX6_cost 31 = .ok (.aload_n 0, 1) := by decide +kernel
theorem dX6_cost_32 : decode cX6_cost 32 = .ok (.iload_n 1, 1) := by decide +kernel
theorem dX6_cost_33 : decode cX6_cost 33 = .ok (.invokevirtual 148, 3) := by decide +kernel
theorem dX6_cost_36 : decode cX6_cost 36 = .ok (.invokevirtual 113, 3) := by decide +kernel
theorem dX6_cost_39 : decode cX6_cost 39 = .ok (.goto 8, 3) := by decide +kernel
theorem dX6_cost_42 : decode cX6_cost 42 = .ok (.aload_n 0, 1) := by decide +kernel
theorem dX6_cost_43 : decode cX6_cost 43 = .ok (.iconst 2, 1) := by decide +kernel
theorem dX6_cost_44 : decode cX6_cost 44 = .ok (.invokevirtual 79, 3) := by decide +kernel
theorem dX6_cost_47 : decode cX6_cost 47 = .ok (.ireturn, 1) := by decide +kernel
theorem dX6_wants_0 : decode cX6_wants 0 = .ok (.aload_n 0, 1) := by decide +kernel
theorem dX6_wants_1 : decode cX6_wants 1 = .ok (.iconst 0, 1) := by decide +kernel
theorem dX6_wants_2 : decode cX6_wants 2 = .ok (.putfield 46, 3) := by decide +kernel
theorem dX6_wants_5 : decode cX6_wants 5 = .ok (.aload_n 0, 1) := by decide +kernel
theorem dX6_wants_6 : decode cX6_wants 6 = .ok (.iload_n 1, 1) := by decide +kernel
theorem dX6_wants_7 : decode cX6_wants 7 = .ok (.invokevirtual 110, 3) := by decide +kernel
theorem dX6_wants_10 : decode cX6_wants 10 = .ok (.ifCond .eq 16, 3) := by decide +kernel
theorem dX6_wants_13 : decode cX6_wants 13 = .ok (.aload_n 0, 1) := by decide +kernel
theorem dX6_wants_14 : decode cX6_wants 14 = .ok (.iload_n 1, 1) := by decide +kernel
theorem dX6_wants_15 : decode cX6_wants 15 = .ok (.aload_n 0, 1) := by decide +kernel
theorem dX6_wants_16 : decode cX6_wants 16 = .ok (.iload_n 1, 1) := by decide +kernel
theorem dX6_wants_17 : decode cX6_wants 17 = .ok (.invokevirtual 148, 3) := by decide +kernel
theorem dX6_wants_20 : decode cX6_wants 20 = .ok (.invokevirtual 117, 3) := by decide +kernel
theorem dX6_wants_23 : decode cX6_wants 23 = .ok (.goto 8, 3) := by decide +kernel
theorem dX6_wants_26 : decode cX6_wants 26 = .ok (.aload_n 0, 1) := by decide +kernel
theorem dX6_wants_27 : decode cX6_wants 27 = .ok (.iconst 1, 1) := by decide +kernel
theorem dX6_wants_28 : decode cX6_wants 28 = .ok (.invokevirtual 79, 3) := by decide +kernel
theorem dX6_wants_31 : decode cX6_wants 31 = .ok (.ireturn, 1) := by decide +kernel
theorem dX6_way_0 : decode cX6_way 0 = .ok (.aload_n 0, 1) := by decide +kernel
theorem dX6_way_1 : decode cX6_way 1 = .ok (.iconst 0, 1) := by decide +kernel
theorem dX6_way_2 : decode cX6_way 2 = .ok (.putfield 46, 3) := by decide +kernel
theorem dX6_way_5 : decode cX6_way 5 = .ok (.aload_n 0, 1) := by decide +kernel
theorem dX6_way_6 : decode cX6_way 6 = .ok (.iload_n 1, 1) := by decide +kernel
theorem dX6_way_7 : decode cX6_way 7 = .ok (.invokevirtual 110, 3) := by decide +kernel
theorem dX6_way_10 : decode cX6_way 10 = .ok (.ifCond .ne 9, 3) := by decide +kernel
theorem dX6_way_13 : decode cX6_way 13 = .ok (.aload_n 0, 1) := by decide +kernel
theorem dX6_way_14 : decode cX6_way 14 = .ok (.iconst 1, 1) := by decide +kernel
theorem dX6_way_15 : decode cX6_way 15 = .ok (.invokevirtual 79, 3) := by decide +kernel
theorem dX6_way_18 : decode cX6_way 18 = .ok (.ireturn, 1) := by decide +kernel
theorem dX6_way_19 : decode cX6_way 19 = .ok (.iload_n 2, 1) := by decide +kernel
theorem dX6_way_20 : decode cX6_way 20 = .ok (.ifCond .ge 9, 3) := by decide +kernel
theorem dX6_way_23 : decode cX6_way 23 = .ok (.aload_n 0, 1) := by decide +kernel
theorem dX6_way_24 : decode cX6_way 24 = .ok (.iconst 2, 1) := by decide +kernel
theorem dX6_way_25 : decode cX6_way 25 = .ok (.invokevirtual 79, 3) := by decide +kernel
theorem dX6_way_28 : decode cX6_way 28 = .ok (.ireturn, 1) := by decide +kernel
theorem dX6_way_29 : decode cX6_way 29 = .ok (.aload_n 0, 1) := by decide +kernel
theorem dX6_way_30 : decode cX6_way 30 = .ok (.iload_n 1, 1) := by decide +kernel
theorem dX6_way_31 : decode cX6_way 31 = .ok (.invokevirtual 148, 3) := by decide +kernel
theorem dX6_way_34 : decode cX6_way 34 = .ok (.astore_n 3, 1) := by decide +kernel
theorem dX6_way_35 : decode cX6_way 35 = .ok (.aload_n 0, 1) := by decide +kernel
theorem dX6_way_36 : decode cX6_way 36 = .ok (.getfield 39, 3) := by decide +kernel
theorem dX6_way_39 : decode cX6_way 39 = .ok (.iload_n 1, 1) := by decide +kernel
theorem dX6_way_40 : decode cX6_way 40 = .ok (.bipush 8, 2) := by decide +kernel
theorem dX6_way_42 : decode cX6_way 42 = .ok (.imul, 1) := by decide +kernel
theorem dX6_way_43 : decode cX6_way 43 = .ok (.iconst 3, 1) := by decide +kernel
theorem dX6_way_44 : decode cX6_way 44 = .ok (.iadd, 1) := by decide +kernel
theorem dX6_way_45 : decode cX6_way 45 = .ok (.iaload, 1) := by decide +kernel
theorem dX6_way_46 : decode cX6_way 46 = .ok (.istore 4, 2) := by decide +kernel
theorem dX6_way_48 : decode cX6_way 48 = .ok (.aload_n 3, 1) := by decide +kernel
theorem dX6_way_49 : decode cX6_way 49 = .ok (.iload 4, 2) := by decide +kernel
theorem dX6_way_51 : decode cX6_way 51 = .ok (.iaload, 1) := by decide +kernel
theorem dX6_way_52 : decode cX6_way 52 = .ok (.iconst (-1), 1) := by decide +kernel
theorem dX6_way_53 : decode cX6_way 53 = .ok (.if_icmp .eq 11, 3) := by decide +kernel
theorem dX6_way_56 : decode cX6_way 56 = .ok (.iload_n 2, 1) := by decide +kernel
theorem dX6_way_57 : decode cX6_way 57 = .ok (.aload_n 3, 1) := by decide +kernel
theorem dX6_way_58 : decode cX6_way 58 = .ok (.iload 4, 2) := by decide +kernel
theorem dX6_way_60 : decode cX6_way 60 = .ok (.iaload, 1) := by decide +kernel
theorem dX6_way_61 : decode cX6_way 61 = .ok (.if_icmp .le 5, 3) := by decide +kernel
theorem dX6_way_64 : decode cX6_way 64 = .ok (.iconst (-1), 1) := by decide +kernel
theorem dX6_way_65 : decode cX6_way 65 = .ok (.ireturn, 1) := by decide +kernel
theorem dX6_way_66 : decode cX6_way 66 = .ok (.iconst 0, 1) := by decide +kernel
theorem dX6_way_67 : decode cX6_way 67 = .ok (.istore 5, 2) := by decide +kernel
theorem dX6_way_69 : decode cX6_way 69 = .ok (.iload 5, 2) := by decide +kernel
theorem dX6_way_71 : decode cX6_way 71 = .ok (.iload_n 2, 1) := by decide +kernel
theorem dX6_way_72 : decode cX6_way 72 = .ok (.if_icmp .ge 59, 3) := by decide +kernel
theorem dX6_way_75 : decode cX6_way 75 = .ok (.iconst 0, 1) := by decide +kernel
theorem dX6_way_76 : decode cX6_way 76 = .ok (.istore 6, 2) := by decide +kernel
theorem dX6_way_78 : decode cX6_way 78 = .ok (.aload_n 0, 1) := by decide +kernel
theorem dX6_way_79 : decode cX6_way 79 = .ok (.iload 4, 2) := by decide +kernel
theorem dX6_way_81 : decode cX6_way 81 = .ok (.iload 6, 2) := by decide +kernel
theorem dX6_way_83 : decode cX6_way 83 = .ok (.invokevirtual 70, 3) := by decide +kernel
theorem dX6_way_86 : decode cX6_way 86 = .ok (.iconst (-1), 1) := by decide +kernel
theorem dX6_way_87 : decode cX6_way 87 = .ok (.if_icmp .eq 22, 3) := by decide +kernel
theorem dX6_way_90 : decode cX6_way 90 = .ok (.aload_n 3, 1) := by decide +kernel
theorem dX6_way_91 : decode cX6_way 91 = .ok (.aload_n 0, 1) := by decide +kernel
theorem dX6_way_92 : decode cX6_way 92 = .ok (.iload 4, 2) := by decide +kernel
theorem dX6_way_94 : decode cX6_way 94 = .ok (.iload 6, 2) := by decide +kernel
theorem dX6_way_96 : decode cX6_way 96 = .ok (.invokevirtual 70, 3) := by decide +kernel
theorem dX6_way_99 : decode cX6_way 99 = .ok (.iaload, 1) := by decide +kernel
theorem dX6_way_100 : decode cX6_way 100 = .ok (.aload_n 3, 1) := by decide +kernel
theorem dX6_way_101 : decode cX6_way 101 = .ok (.iload 4, 2) := by decide +kernel
theorem dX6_way_103 : decode cX6_way 103 = .ok (.iaload, 1) := by decide +kernel
theorem dX6_way_104 : decode cX6_way 104 = .ok (.iconst 1, 1) := by decide +kernel
theorem dX6_way_105 : decode cX6_way 105 = .ok (.isub, 1) := by decide +kernel
theorem dX6_way_106 : decode cX6_way 106 = .ok (.if_icmp .eq 9, 3) := by decide +kernel
theorem dX6_way_109 : decode cX6_way 109 = .ok (.iinc 6 1, 3) := by decide +kernel
theorem dX6_way_112 : decode cX6_way 112 = .ok (.goto (-34), 3) := by decide +kernel
theorem dX6_way_115 : decode cX6_way 115 = .ok (.aload_n 0, 1) := by decide +kernel
theorem dX6_way_116 : decode cX6_way 116 = .ok (.iload 4, 2) := by decide +kernel
theorem dX6_way_118 : decode cX6_way 118 = .ok (.iload 6, 2) := by decide +kernel
theorem dX6_way_120 : decode cX6_way 120 = .ok (.invokevirtual 70, 3) := by decide +kernel
theorem dX6_way_123 : decode cX6_way 123 = .ok (.istore 4, 2) := by decide +kernel
theorem dX6_way_125 : decode cX6_way 125 = .ok (.iinc 5 1, 3) := by decide +kernel
theorem dX6_way_128 : decode cX6_way 128 = .ok (.goto (-59), 3) := by decide +kernel
theorem dX6_way_131 : decode cX6_way 131 = .ok (.iload 4, 2) := by decide +kernel
theorem dX6_way_133 : decode cX6_way 133 = .ok (.ireturn, 1) := by decide +kernel
theorem dX6_jamNow_0 : decode cX6_jamNow 0 = .ok (.aload_n 2, 1) := by decide +kernel
theorem dX6_jamNow_1 : decode cX6_jamNow 1 = .ok (.iload_n 1, 1) := by decide +kernel
theorem dX6_jamNow_2 : decode cX6_jamNow 2 = .ok (.iaload, 1) := by decide +kernel
theorem dX6_jamNow_3 : decode cX6_jamNow 3 = .ok (.iconst (-1), 1) := by decide +kernel
theorem dX6_jamNow_4 : decode cX6_jamNow 4 = .ok (.if_icmp .ne 7, 3) := by decide +kernel
theorem dX6_jamNow_7 : decode cX6_jamNow 7 = .ok (.iconst 0, 1) := by decide +kernel
theorem dX6_jamNow_8 : decode cX6_jamNow 8 = .ok (.goto 10, 3) := by decide +kernel
theorem dX6_jamNow_11 : decode cX6_jamNow 11 = .ok (.aload_n 2, 1) := by decide +kernel
theorem dX6_jamNow_12 : decode cX6_jamNow 12 = .ok (.aload_n 2, 1) := by decide +kernel
theorem dX6_jamNow_13 : decode cX6_jamNow 13 = .ok (.iload_n 1, 1) := by decide +kernel
theorem dX6_jamNow_14 : decode cX6_jamNow 14 = .ok (.iaload, 1) := by decide +kernel
theorem dX6_jamNow_15 : decode cX6_jamNow 15 = .ok (.invokestatic 132, 3) := by decide +kernel
theorem dX6_jamNow_18 : decode cX6_jamNow 18 = .ok (.ireturn, 1) := by decide +kernel
theorem dX6_jam_0 : decode cX6_jam 0 = .ok (.aload_n 0, 1) := by decide +kernel
theorem dX6_jam_1 : decode cX6_jam 1 = .ok (.iconst 0, 1) := by decide +kernel
theorem dX6_jam_2 : decode cX6_jam 2 = .ok (.putfield 46, 3) := by decide +kernel
theorem dX6_jam_5 : decode cX6_jam 5 = .ok (.aload_n 0, 1) := by decide +kernel
theorem dX6_jam_6 : decode cX6_jam 6 = .ok (.iload_n 1, 1) := by decide +kernel
theorem dX6_jam_7 : decode cX6_jam 7 = .ok (.invokevirtual 53, 3) := by decide +kernel
theorem dX6_jam_10 : decode cX6_jam 10 = .ok (.ifCond .eq 15, 3) := by decide +kernel
theorem dX6_jam_13 : decode cX6_jam 13 = .ok (.aload_n 0, 1) := by decide +kernel
theorem dX6_jam_14 : decode cX6_jam 14 = .ok (.iload_n 1, 1) := by decide +kernel
theorem dX6_jam_15 : decode cX6_jam 15 = .ok (.aload_n 0, 1) := by decide +kernel
theorem dX6_jam_16 : decode cX6_jam 16 = .ok (.invokevirtual 136, 3) := by decide +kernel
theorem dX6_jam_19 : decode cX6_jam 19 = .ok (.invokevirtual 151, 3) := by decide +kernel
theorem dX6_jam_22 : decode cX6_jam 22 = .ok (.goto 8, 3) := by decide +kernel
theorem dX6_jam_25 : decode cX6_jam 25 = .ok (.aload_n 0, 1) := by decide +kernel
theorem dX6_jam_26 : decode cX6_jam 26 = .ok (.iconst 1, 1) := by decide +kernel
theorem dX6_jam_27 : decode cX6_jam 27 = .ok (.invokevirtual 79, 3) := by decide +kernel
theorem dX6_jam_30 : decode cX6_jam 30 = .ok (.ireturn, 1) := by decide +kernel
theorem dX6_meanSteps_0 : decode cX6_meanSteps 0 = .ok (.aload_n 0, 1) := by decide +kernel
theorem dX6_meanSteps_1 : decode cX6_meanSteps 1 = .ok (.iconst 0, 1) := by decide +kernel
theorem dX6_meanSteps_2 : decode cX6_meanSteps 2 = .ok (.putfield 46, 3) := by decide +kernel
theorem dX6_meanSteps_5 : decode cX6_meanSteps 5 = .ok (.iconst 0, 1) := by decide +kernel
theorem dX6_meanSteps_6 : decode cX6_meanSteps 6 = .ok (.istore_n 1, 1) := by decide +kernel
theorem dX6_meanSteps_7 : decode cX6_meanSteps 7 = .ok (.iconst 0, 1) := by decide +kernel
theorem dX6_meanSteps_8 : decode cX6_meanSteps 8 = .ok (.istore_n 2, 1) := by decide +kernel
theorem dX6_meanSteps_9 : decode cX6_meanSteps 9 = .ok (.iconst 0, 1) := by decide +kernel
theorem dX6_meanSteps_10 : decode cX6_meanSteps 10 = .ok (.istore_n 3, 1) := by decide +kernel
theorem dX6_meanSteps_11 : decode cX6_meanSteps 11 = .ok (.iload_n 3, 1) := by decide +kernel
theorem dX6_meanSteps_12 : decode cX6_meanSteps 12 = .ok (.aload_n 0, 1) := by decide +kernel
theorem dX6_meanSteps_13 : decode cX6_meanSteps 13 = .ok (.getfield 36, 3) := by decide +kernel
theorem dX6_meanSteps_16 : decode cX6_meanSteps 16 = .ok (.if_icmp .ge 52, 3) := by decide +kernel
theorem dX6_meanSteps_19 : decode cX6_meanSteps 19 = .ok (.iload_n 1, 1) := by decide +kernel
theorem dX6_meanSteps_20 : decode cX6_meanSteps 20 = .ok (.aload_n 0, 1) := by decide +kernel
theorem dX6_meanSteps_21 : decode cX6_meanSteps 21 = .ok (.iload_n 3, 1) := by decide +kernel
theorem dX6_meanSteps_22 : decode cX6_meanSteps 22 = .ok (.invokevirtual 110, 3) := by decide +kernel
theorem dX6_meanSteps_25 : decode cX6_meanSteps 25 = .ok (.ifCond .eq 7, 3) := by decide +kernel
theorem dX6_meanSteps_28 : decode cX6_meanSteps 28 = .ok (.iconst 0, 1) := by decide +kernel
theorem dX6_meanSteps_29 : decode cX6_meanSteps 29 = .ok (.goto 4, 3) := by decide +kernel
theorem dX6_meanSteps_32 : decode cX6_meanSteps 32 = .ok (.iconst 1, 1) := by decide +kernel
theorem dX6_meanSteps_33 : decode cX6_meanSteps 33 = .ok (.iadd, 1) := by decide +kernel
theorem dX6_meanSteps_34 : decode cX6_meanSteps 34 = .ok (.istore_n 1, 1) := by decide +kernel
theorem dX6_meanSteps_35 : decode cX6_meanSteps 35 = .ok (.iload_n 2, 1) := by decide +kernel
theorem dX6_meanSteps_36 : decode cX6_meanSteps 36 = .ok (.aload_n 0, 1) := by decide +kernel
theorem dX6_meanSteps_37 : decode cX6_meanSteps 37 = .ok (.iload_n 3, 1) := by decide +kernel
theorem dX6_meanSteps_38 : decode cX6_meanSteps 38 = .ok (.invokevirtual 110, 3) := by decide +kernel
theorem dX6_meanSteps_41 : decode cX6_meanSteps 41 = .ok (.ifCond .eq 7, 3) := by decide +kernel
theorem dX6_meanSteps_44 : decode cX6_meanSteps 44 = .ok (.iconst 0, 1) := by decide +kernel
theorem dX6_meanSteps_45 : decode cX6_meanSteps 45 = .ok (.goto 15, 3) := by decide +kernel
theorem dX6_meanSteps_48 : decode cX6_meanSteps 48 = .ok (.aload_n 0, 1) := by decide +kernel
theorem dX6_meanSteps_49 : decode cX6_meanSteps 49 = .ok (.getfield 39, 3) := by decide +kernel
theorem dX6_meanSteps_52 : decode cX6_meanSteps 52 = .ok (.iload_n 3, 1) := by decide +kernel
theorem dX6_meanSteps_53 : decode cX6_meanSteps 53 = .ok (.bipush 8, 2) := by decide +kernel
theorem dX6_meanSteps_55 : decode cX6_meanSteps 55 = .ok (.imul, 1) := by decide +kernel
theorem dX6_meanSteps_56 : decode cX6_meanSteps 56 = .ok (.bipush 6, 2) := by decide +kernel
theorem dX6_meanSteps_58 : decode cX6_meanSteps 58 = .ok (.iadd, 1) := by decide +kernel
theorem dX6_meanSteps_59 : decode cX6_meanSteps 59 = .ok (.iaload, 1) := by decide +kernel
theorem dX6_meanSteps_60 : decode cX6_meanSteps 60 = .ok (.iadd, 1) := by decide +kernel
theorem dX6_meanSteps_61 : decode cX6_meanSteps 61 = .ok (.istore_n 2, 1) := by decide +kernel
theorem dX6_meanSteps_62 : decode cX6_meanSteps 62 = .ok (.iinc 3 1, 3) := by decide +kernel
theorem dX6_meanSteps_65 : decode cX6_meanSteps 65 = .ok (.goto (-54), 3) := by decide +kernel
theorem dX6_meanSteps_68 : decode cX6_meanSteps 68 = .ok (.iload_n 1, 1) := by decide +kernel
theorem dX6_meanSteps_69 : decode cX6_meanSteps 69 = .ok (.ifCond .ne 7, 3) := by decide +kernel
theorem dX6_meanSteps_72 : decode cX6_meanSteps 72 = .ok (.dconst 0, 1) := by decide +kernel
theorem dX6_meanSteps_73 : decode cX6_meanSteps 73 = .ok (.goto 8, 3) := by decide +kernel
theorem dX6_meanSteps_76 : decode cX6_meanSteps 76 = .ok (.iload_n 2, 1) := by decide +kernel
theorem dX6_meanSteps_77 : decode cX6_meanSteps 77 = .ok (.i2d, 1) := by decide +kernel
theorem dX6_meanSteps_78 : decode cX6_meanSteps 78 = .ok (.iload_n 1, 1) := by decide +kernel
theorem dX6_meanSteps_79 : decode cX6_meanSteps 79 = .ok (.i2d, 1) := by decide +kernel
theorem dX6_meanSteps_80 : decode cX6_meanSteps 80 = .ok (.ddiv, 1) := by decide +kernel
theorem dX6_meanSteps_81 : decode cX6_meanSteps 81 = .ok (.dreturn, 1) := by decide +kernel
theorem dX6_putBy_0 : decode cX6_putBy 0 = .ok (.iconst 3, 1) := by decide +kernel
theorem dX6_putBy_1 : decode cX6_putBy 1 = .ok (.anewarray 74, 3) := by decide +kernel
theorem dX6_putBy_4 : decode cX6_putBy 4 = .ok (.dup, 1) := by decide +kernel
theorem dX6_putBy_5 : decode cX6_putBy 5 = .ok (.iconst 0, 1) := by decide +kernel
theorem dX6_putBy_6 : decode cX6_putBy 6 = .ok (.aload_n 0, 1) := by decide +kernel
theorem dX6_putBy_7 : decode cX6_putBy 7 = .ok (.getfield 39, 3) := by decide +kernel
theorem dX6_putBy_10 : decode cX6_putBy 10 = .ok (.aastore, 1) := by decide +kernel
theorem dX6_putBy_11 : decode cX6_putBy 11 = .ok (.dup, 1) := by decide +kernel
theorem dX6_putBy_12 : decode cX6_putBy 12 = .ok (.iconst 1, 1) := by decide +kernel
theorem dX6_putBy_13 : decode cX6_putBy 13 = .ok (.aload_n 0, 1) := by decide +kernel
theorem dX6_putBy_14 : decode cX6_putBy 14 = .ok (.getfield 43, 3) := by decide +kernel
theorem dX6_putBy_17 : decode cX6_putBy 17 = .ok (.aastore, 1) := by decide +kernel
theorem dX6_putBy_18 : decode cX6_putBy 18 = .ok (.dup, 1) := by decide +kernel
theorem dX6_putBy_19 : decode cX6_putBy 19 = .ok (.iconst 2, 1) := by decide +kernel
theorem dX6_putBy_20 : decode cX6_putBy 20 = .ok (.iconst 2, 1) := by decide +kernel
theorem dX6_putBy_21 : decode cX6_putBy 21 = .ok (.newarray .int, 2) := by decide +kernel
theorem dX6_putBy_23 : decode cX6_putBy 23 = .ok (.dup, 1) := by decide +kernel
theorem dX6_putBy_24 : decode cX6_putBy 24 = .ok (.iconst 0, 1) := by decide +kernel
theorem dX6_putBy_25 : decode cX6_putBy 25 = .ok (.aload_n 0, 1) := by decide +kernel
theorem dX6_putBy_26 : decode cX6_putBy 26 = .ok (.getfield 26, 3) := by decide +kernel
theorem dX6_putBy_29 : decode cX6_putBy 29 = .ok (.iastore, 1) := by decide +kernel
theorem dX6_putBy_30 : decode cX6_putBy 30 = .ok (.dup, 1) := by decide +kernel
theorem dX6_putBy_31 : decode cX6_putBy 31 = .ok (.iconst 1, 1) := by decide +kernel
theorem dX6_putBy_32 : decode cX6_putBy 32 = .ok (.aload_n 0, 1) := by decide +kernel
theorem dX6_putBy_33 : decode cX6_putBy 33 = .ok (.getfield 7, 3) := by decide +kernel
theorem dX6_putBy_36 : decode cX6_putBy 36 = .ok (.iastore, 1) := by decide +kernel
theorem dX6_putBy_37 : decode cX6_putBy 37 = .ok (.aastore, 1) := by decide +kernel
theorem dX6_putBy_38 : decode cX6_putBy 38 = .ok (.astore_n 1, 1) := by decide +kernel
theorem dX6_putBy_39 : decode cX6_putBy 39 = .ok (.aload_n 0, 1) := by decide +kernel
theorem dX6_putBy_40 : decode cX6_putBy 40 = .ok (.sipush 192, 3) := by decide +kernel
theorem dX6_putBy_43 : decode cX6_putBy 43 = .ok (.newarray .int, 2) := by decide +kernel
theorem dX6_putBy_45 : decode cX6_putBy 45 = .ok (.putfield 39, 3) := by decide +kernel
theorem dX6_putBy_48 : decode cX6_putBy 48 = .ok (.aload_n 0, 1) := by decide +kernel
theorem dX6_putBy_49 : decode cX6_putBy 49 = .ok (.aload_n 0, 1) := by decide +kernel
theorem dX6_putBy_50 : decode cX6_putBy 50 = .ok (.getfield 20, 3) := by decide +kernel
theorem dX6_putBy_53 : decode cX6_putBy 53 = .ok (.aload_n 0, 1) := by decide +kernel
theorem dX6_putBy_54 : decode cX6_putBy 54 = .ok (.getfield 23, 3) := by decide +kernel
theorem dX6_putBy_57 : decode cX6_putBy 57 = .ok (.imul, 1) := by decide +kernel
theorem dX6_putBy_58 : decode cX6_putBy 58 = .ok (.newarray .int, 2) := by decide +kernel
theorem dX6_putBy_60 : decode cX6_putBy 60 = .ok (.putfield 43, 3) := by decide +kernel
theorem dX6_putBy_63 : decode cX6_putBy 63 = .ok (.aload_n 1, 1) := by decide +kernel
theorem dX6_putBy_64 : decode cX6_putBy 64 = .ok (.iconst 0, 1) := by decide +kernel
theorem dX6_putBy_65 : decode cX6_putBy 65 = .ok (.aaload, 1) := by decide +kernel
theorem dX6_putBy_66 : decode cX6_putBy 66 = .ok (.iconst 0, 1) := by decide +kernel
theorem dX6_putBy_67 : decode cX6_putBy 67 = .ok (.aload_n 0, 1) := by decide +kernel
theorem dX6_putBy_68 : decode cX6_putBy 68 = .ok (.getfield 39, 3) := by decide +kernel
theorem dX6_putBy_71 : decode cX6_putBy 71 = .ok (.iconst 0, 1) := by decide +kernel
theorem dX6_putBy_72 : decode cX6_putBy 72 = .ok (.aload_n 0, 1) := by decide +kernel
theorem dX6_putBy_73 : decode cX6_putBy 73 = .ok (.getfield 39, 3) := by decide +kernel
theorem dX6_putBy_76 : decode cX6_putBy 76 = .ok (.arraylength, 1) := by decide +kernel
theorem dX6_putBy_77 : decode cX6_putBy 77 = .ok (.invokestatic 104, 3) := by decide +kernel
theorem dX6_putBy_80 : decode cX6_putBy 80 = .ok (.aload_n 1, 1) := by decide +kernel
theorem dX6_putBy_81 : decode cX6_putBy 81 = .ok (.iconst 1, 1) := by decide +kernel
theorem dX6_putBy_82 : decode cX6_putBy 82 = .ok (.aaload, 1) := by decide +kernel
theorem dX6_putBy_83 : decode cX6_putBy 83 = .ok (.iconst 0, 1) := by decide +kernel
theorem dX6_putBy_84 : decode cX6_putBy 84 = .ok (.aload_n 0, 1) := by decide +kernel
theorem dX6_putBy_85 : decode cX6_putBy 85 = .ok (.getfield 43, 3) := by decide +kernel
theorem dX6_putBy_88 : decode cX6_putBy 88 = .ok (.iconst 0, 1) := by decide +kernel
theorem dX6_putBy_89 : decode cX6_putBy 89 = .ok (.aload_n 0, 1) := by decide +kernel
theorem dX6_putBy_90 : decode cX6_putBy 90 = .ok (.getfield 43, 3) := by decide +kernel
theorem dX6_putBy_93 : decode cX6_putBy 93 = .ok (.arraylength, 1) := by decide +kernel
theorem dX6_putBy_94 : decode cX6_putBy 94 = .ok (.invokestatic 104, 3) := by decide +kernel
theorem dX6_putBy_97 : decode cX6_putBy 97 = .ok (.aload_n 1, 1) := by decide +kernel
theorem dX6_putBy_98 : decode cX6_putBy 98 = .ok (.areturn, 1) := by decide +kernel
theorem dX6_putBack_0 : decode cX6_putBack 0 = .ok (.aload_n 0, 1) := by decide +kernel
theorem dX6_putBack_1 : decode cX6_putBack 1 = .ok (.aload_n 1, 1) := by decide +kernel
theorem dX6_putBack_2 : decode cX6_putBack 2 = .ok (.iconst 0, 1) := by decide +kernel
theorem dX6_putBack_3 : decode cX6_putBack 3 = .ok (.aaload, 1) := by decide +kernel
theorem dX6_putBack_4 : decode cX6_putBack 4 = .ok (.putfield 39, 3) := by decide +kernel
theorem dX6_putBack_7 : decode cX6_putBack 7 = .ok (.aload_n 0, 1) := by decide +kernel
theorem dX6_putBack_8 : decode cX6_putBack 8 = .ok (.aload_n 1, 1) := by decide +kernel
theorem dX6_putBack_9 : decode cX6_putBack 9 = .ok (.iconst 1, 1) := by decide +kernel
theorem dX6_putBack_10 : decode cX6_putBack 10 = .ok (.aaload, 1) := by decide +kernel
theorem dX6_putBack_11 : decode cX6_putBack 11 = .ok (.putfield 43, 3) := by decide +kernel
theorem dX6_putBack_14 : decode cX6_putBack 14 = .ok (.aload_n 0, 1) := by decide +kernel
theorem dX6_putBack_15 : decode cX6_putBack 15 = .ok (.aload_n 1, 1) := by decide +kernel
theorem dX6_putBack_16 : decode cX6_putBack 16 = .ok (.iconst 2, 1) := by decide +kernel
theorem dX6_putBack_17 : decode cX6_putBack 17 = .ok (.aaload, 1) := by decide +kernel
theorem dX6_putBack_18 : decode cX6_putBack 18 = .ok (.iconst 0, 1) := by decide +kernel
theorem dX6_putBack_19 : decode cX6_putBack 19 = .ok (.iaload, 1) := by decide +kernel
theorem dX6_putBack_20 : decode cX6_putBack 20 = .ok (.putfield 26, 3) := by decide +kernel
theorem dX6_putBack_23 : decode cX6_putBack 23 = .ok (.aload_n 0, 1) := by decide +kernel
theorem dX6_putBack_24 : decode cX6_putBack 24 = .ok (.aload_n 1, 1) := by decide +kernel
theorem dX6_putBack_25 : decode cX6_putBack 25 = .ok (.iconst 2, 1) := by decide +kernel
theorem dX6_putBack_26 : decode cX6_putBack 26 = .ok (.aaload, 1) := by decide +kernel
theorem dX6_putBack_27 : decode cX6_putBack 27 = .ok (.iconst 1, 1) := by decide +kernel
theorem dX6_putBack_28 : decode cX6_putBack 28 = .ok (.iaload, 1) := by decide +kernel
theorem dX6_putBack_29 : decode cX6_putBack 29 = .ok (.putfield 7, 3) := by decide +kernel
theorem dX6_putBack_32 : decode cX6_putBack 32 = .ok (.return_, 1) := by decide +kernel
theorem dX6_outIn_0 : decode cX6_outIn 0 = .ok (.aload_n 0, 1) := by decide +kernel
theorem dX6_outIn_1 : decode cX6_outIn 1 = .ok (.iconst 0, 1) := by decide +kernel
theorem dX6_outIn_2 : decode cX6_outIn 2 = .ok (.putfield 46, 3) := by decide +kernel
theorem dX6_outIn_5 : decode cX6_outIn 5 = .ok (.aload_n 0, 1) := by decide +kernel
theorem dX6_outIn_6 : decode cX6_outIn 6 = .ok (.iload_n 1, 1) := by decide +kernel
theorem dX6_outIn_7 : decode cX6_outIn 7 = .ok (.invokevirtual 53, 3) := by decide +kernel
theorem dX6_outIn_10 : decode cX6_outIn 10 = .ok (.ifCond .ne 9, 3) := by decide +kernel
theorem dX6_outIn_13 : decode cX6_outIn 13 = .ok (.aload_n 0, 1) := by decide +kernel
theorem dX6_outIn_14 : decode cX6_outIn 14 = .ok (.iconst 1, 1) := by decide +kernel
theorem dX6_outIn_15 : decode cX6_outIn 15 = .ok (.invokevirtual 79, 3) := by decide +kernel
theorem dX6_outIn_18 : decode cX6_outIn 18 = .ok (.ireturn, 1) := by decide +kernel
theorem dX6_outIn_19 : decode cX6_outIn 19 = .ok (.iload_n 2, 1) := by decide +kernel
theorem dX6_outIn_20 : decode cX6_outIn 20 = .ok (.iconst 1, 1) := by decide +kernel
theorem dX6_outIn_21 : decode cX6_outIn 21 = .ok (.bipush 60, 2) := by decide +kernel
theorem dX6_outIn_23 : decode cX6_outIn 23 = .ok (.invokestatic 49, 3) := by decide +kernel
theorem dX6_outIn_26 : decode cX6_outIn 26 = .ok (.ifCond .ne 9, 3) := by decide +kernel
theorem dX6_outIn_29 : decode cX6_outIn 29 = .ok (.aload_n 0, 1) := by decide +kernel
theorem dX6_outIn_30 : decode cX6_outIn 30 = .ok (.iconst 2, 1) := by decide +kernel
theorem dX6_outIn_31 : decode cX6_outIn 31 = .ok (.invokevirtual 79, 3) := by decide +kernel
theorem dX6_outIn_34 : decode cX6_outIn 34 = .ok (.ireturn, 1) := by decide +kernel
theorem dX6_outIn_35 : decode cX6_outIn 35 = .ok (.aload_n 0, 1) := by decide +kernel
theorem dX6_outIn_36 : decode cX6_outIn 36 = .ok (.invokevirtual 154, 3) := by decide +kernel
theorem dX6_outIn_39 : decode cX6_outIn 39 = .ok (.astore_n 3, 1) := by decide +kernel
theorem dX6_outIn_40 : decode cX6_outIn 40 = .ok (.aload_n 0, 1) := by decide +kernel
theorem dX6_outIn_41 : decode cX6_outIn 41 = .ok (.invokevirtual 121, 3) := by decide +kernel
theorem dX6_outIn_44 : decode cX6_outIn 44 = .ok (.astore 4, 2) := by decide +kernel
theorem dX6_outIn_46 : decode cX6_outIn 46 = .ok (.iconst 0, 1) := by decide +kernel
theorem dX6_outIn_47 : decode cX6_outIn 47 = .ok (.istore 5, 2) := by decide +kernel
theorem dX6_outIn_49 : decode cX6_outIn 49 = .ok (.aload_n 0, 1) := by decide +kernel
theorem dX6_outIn_50 : decode cX6_outIn 50 = .ok (.iload_n 1, 1) := by decide +kernel
theorem dX6_outIn_51 : decode cX6_outIn 51 = .ok (.invokevirtual 110, 3) := by decide +kernel
theorem dX6_outIn_54 : decode cX6_outIn 54 = .ok (.ifCond .eq 22, 3) := by decide +kernel
theorem dX6_outIn_57 : decode cX6_outIn 57 = .ok (.iload 5, 2) := by decide +kernel
theorem dX6_outIn_59 : decode cX6_outIn 59 = .ok (.iload_n 2, 1) := by decide +kernel
theorem dX6_outIn_60 : decode cX6_outIn 60 = .ok (.if_icmp .gt 16, 3) := by decide +kernel
theorem dX6_outIn_63 : decode cX6_outIn 63 = .ok (.aload_n 0, 1) := by decide +kernel
theorem dX6_outIn_64 : decode cX6_outIn 64 = .ok (.aload 4, 2) := by decide +kernel
theorem dX6_outIn_66 : decode cX6_outIn 66 = .ok (.invokevirtual 125, 3) := by decide +kernel
theorem dX6_outIn_69 : decode cX6_outIn 69 = .ok (.pop, 1) := by decide +kernel
theorem dX6_outIn_70 : decode cX6_outIn 70 = .ok (.iinc 5 1, 3) := by decide +kernel
theorem dX6_outIn_73 : decode cX6_outIn 73 = .ok (.goto (-24), 3) := by decide +kernel
theorem dX6_outIn_76 : decode cX6_outIn 76 = .ok (.aload_n 0, 1) := by decide +kernel
theorem dX6_outIn_77 : decode cX6_outIn 77 = .ok (.aload_n 3, 1) := by decide +kernel
theorem dX6_outIn_78 : decode cX6_outIn 78 = .ok (.invokevirtual 157, 3) := by decide +kernel
theorem dX6_outIn_81 : decode cX6_outIn 81 = .ok (.iload 5, 2) := by decide +kernel
theorem dX6_outIn_83 : decode cX6_outIn 83 = .ok (.iload_n 2, 1) := by decide +kernel
theorem dX6_outIn_84 : decode cX6_outIn 84 = .ok (.if_icmp .le 7, 3) := by decide +kernel
theorem dX6_outIn_87 : decode cX6_outIn 87 = .ok (.iconst (-1), 1) := by decide +kernel
theorem dX6_outIn_88 : decode cX6_outIn 88 = .ok (.goto 5, 3) := by decide +kernel
theorem dX6_outIn_91 : decode cX6_outIn 91 = .ok (.iload 5, 2) := by decide +kernel
theorem dX6_outIn_93 : decode cX6_outIn 93 = .ok (.ireturn, 1) := by decide +kernel
theorem dX6_outBehind_0 : decode cX6_outBehind 0 = .ok (.aload_n 0, 1) := by decide +kernel
theorem dX6_outBehind_1 : decode cX6_outBehind 1 = .ok (.invokevirtual 154, 3) := by decide +kernel
theorem dX6_outBehind_4 : decode cX6_outBehind 4 = .ok (.astore_n 2, 1) := by decide +kernel
theorem dX6_outBehind_5 : decode cX6_outBehind 5 = .ok (.aload_n 0, 1) := by decide +kernel
theorem dX6_outBehind_6 : decode cX6_outBehind 6 = .ok (.invokevirtual 121, 3) := by decide +kernel
theorem dX6_outBehind_9 : decode cX6_outBehind 9 = .ok (.astore_n 3, 1) := by decide +kernel
theorem dX6_outBehind_10 : decode cX6_outBehind 10 = .ok (.iconst 0, 1) := by decide +kernel
theorem dX6_outBehind_11 : decode cX6_outBehind 11 = .ok (.istore 4, 2) := by decide +kernel
theorem dX6_outBehind_13 : decode cX6_outBehind 13 = .ok (.iload 4, 2) := by decide +kernel
theorem dX6_outBehind_15 : decode cX6_outBehind 15 = .ok (.iload_n 1, 1) := by decide +kernel
theorem dX6_outBehind_16 : decode cX6_outBehind 16 = .ok (.if_icmp .ge 15, 3) := by decide +kernel
theorem dX6_outBehind_19 : decode cX6_outBehind 19 = .ok (.aload_n 0, 1) := by decide +kernel
theorem dX6_outBehind_20 : decode cX6_outBehind 20 = .ok (.aload_n 3, 1) := by decide +kernel
theorem dX6_outBehind_21 : decode cX6_outBehind 21 = .ok (.invokevirtual 125, 3) := by decide +kernel
theorem dX6_outBehind_24 : decode cX6_outBehind 24 = .ok (.pop, 1) := by decide +kernel
theorem dX6_outBehind_25 : decode cX6_outBehind 25 = .ok (.iinc 4 1, 3) := by decide +kernel
theorem dX6_outBehind_28 : decode cX6_outBehind 28 = .ok (.goto (-15), 3) := by decide +kernel
theorem dX6_outBehind_31 : decode cX6_outBehind 31 = .ok (.iconst 0, 1) := by decide +kernel
theorem dX6_outBehind_32 : decode cX6_outBehind 32 = .ok (.istore 4, 2) := by decide +kernel
theorem dX6_outBehind_34 : decode cX6_outBehind 34 = .ok (.iconst 0, 1) := by decide +kernel
theorem dX6_outBehind_35 : decode cX6_outBehind 35 = .ok (.istore 5, 2) := by decide +kernel
theorem dX6_outBehind_37 : decode cX6_outBehind 37 = .ok (.iload 5, 2) := by decide +kernel
theorem dX6_outBehind_39 : decode cX6_outBehind 39 = .ok (.aload_n 0, 1) := by decide +kernel
theorem dX6_outBehind_40 : decode cX6_outBehind 40 = .ok (.getfield 36, 3) := by decide +kernel
theorem dX6_outBehind_43 : decode cX6_outBehind 43 = .ok (.if_icmp .ge 28, 3) := by decide +kernel
theorem dX6_outBehind_46 : decode cX6_outBehind 46 = .ok (.iload 4, 2) := by decide +kernel
theorem dX6_outBehind_48 : decode cX6_outBehind 48 = .ok (.aload_n 0, 1) := by decide +kernel
theorem dX6_outBehind_49 : decode cX6_outBehind 49 = .ok (.iload 5, 2) := by decide +kernel
theorem dX6_outBehind_51 : decode cX6_outBehind 51 = .ok (.invokevirtual 110, 3) := by decide +kernel
theorem dX6_outBehind_54 : decode cX6_outBehind 54 = .ok (.ifCond .eq 7, 3) := by decide +kernel
theorem dX6_outBehind_57 : decode cX6_outBehind 57 = .ok (.iconst 0, 1) := by decide +kernel
theorem dX6_outBehind_58 : decode cX6_outBehind 58 = .ok (.goto 4, 3) := by decide +kernel
theorem dX6_outBehind_61 : decode cX6_outBehind 61 = .ok (.iconst 1, 1) := by decide +kernel
theorem dX6_outBehind_62 : decode cX6_outBehind 62 = .ok (.iadd, 1) := by decide +kernel
theorem dX6_outBehind_63 : decode cX6_outBehind 63 = .ok (.istore 4, 2) := by decide +kernel
theorem dX6_outBehind_65 : decode cX6_outBehind 65 = .ok (.iinc 5 1, 3) := by decide +kernel
theorem dX6_outBehind_68 : decode cX6_outBehind 68 = .ok (.goto (-31), 3) := by decide +kernel
theorem dX6_outBehind_71 : decode cX6_outBehind 71 = .ok (.aload_n 0, 1) := by decide +kernel
theorem dX6_outBehind_72 : decode cX6_outBehind 72 = .ok (.aload_n 2, 1) := by decide +kernel
theorem dX6_outBehind_73 : decode cX6_outBehind 73 = .ok (.invokevirtual 157, 3) := by decide +kernel
theorem dX6_outBehind_76 : decode cX6_outBehind 76 = .ok (.iload 4, 2) := by decide +kernel
theorem dX6_outBehind_78 : decode cX6_outBehind 78 = .ok (.ireturn, 1) := by decide +kernel
theorem dX6_outWith_0 : decode cX6_outWith 0 = .ok (.aload_n 0, 1) := by decide +kernel
theorem dX6_outWith_1 : decode cX6_outWith 1 = .ok (.iconst 0, 1) := by decide +kernel
theorem dX6_outWith_2 : decode cX6_outWith 2 = .ok (.putfield 46, 3) := by decide +kernel
theorem dX6_outWith_5 : decode cX6_outWith 5 = .ok (.iload_n 1, 1) := by decide +kernel
theorem dX6_outWith_6 : decode cX6_outWith 6 = .ok (.iconst 1, 1) := by decide +kernel
theorem dX6_outWith_7 : decode cX6_outWith 7 = .ok (.bipush 60, 2) := by decide +kernel
theorem dX6_outWith_9 : decode cX6_outWith 9 = .ok (.invokestatic 49, 3) := by decide +kernel
theorem dX6_outWith_12 : decode cX6_outWith 12 = .ok (.ifCond .eq 13, 3) := by decide +kernel
theorem dX6_outWith_15 : decode cX6_outWith 15 = .ok (.iload_n 2, 1) := by decide +kernel
theorem dX6_outWith_16 : decode cX6_outWith 16 = .ok (.iconst 0, 1) := by decide +kernel
theorem dX6_outWith_17 : decode cX6_outWith 17 = .ok (.bipush 9, 2) := by decide +kernel
theorem dX6_outWith_19 : decode cX6_outWith 19 = .ok (.invokestatic 49, 3) := by decide +kernel
theorem dX6_outWith_22 : decode cX6_outWith 22 = .ok (.ifCond .ne 9, 3) := by decide +kernel
theorem dX6_outWith_25 : decode cX6_outWith 25 = .ok (.aload_n 0, 1) := by decide +kernel
theorem dX6_outWith_26 : decode cX6_outWith 26 = .ok (.iconst 1, 1) := by decide +kernel
theorem dX6_outWith_27 : decode cX6_outWith 27 = .ok (.invokevirtual 79, 3) := by decide +kernel
theorem dX6_outWith_30 : decode cX6_outWith 30 = .ok (.ireturn, 1) := by decide +kernel
theorem dX6_outWith_31 : decode cX6_outWith 31 = .ok (.aload_n 0, 1) := by decide +kernel
theorem dX6_outWith_32 : decode cX6_outWith 32 = .ok (.getfield 7, 3) := by decide +kernel
theorem dX6_outWith_35 : decode cX6_outWith 35 = .ok (.istore_n 3, 1) := by decide +kernel
theorem dX6_outWith_36 : decode cX6_outWith 36 = .ok (.aload_n 0, 1) := by decide +kernel
theorem dX6_outWith_37 : decode cX6_outWith 37 = .ok (.iload_n 2, 1) := by decide +kernel
theorem dX6_outWith_38 : decode cX6_outWith 38 = .ok (.putfield 7, 3) := by decide +kernel
theorem dX6_outWith_41 : decode cX6_outWith 41 = .ok (.aload_n 0, 1) := by decide +kernel
theorem dX6_outWith_42 : decode cX6_outWith 42 = .ok (.iload_n 1, 1) := by decide +kernel
theorem dX6_outWith_43 : decode cX6_outWith 43 = .ok (.invokevirtual 161, 3) := by decide +kernel
theorem dX6_outWith_46 : decode cX6_outWith 46 = .ok (.istore 4, 2) := by decide +kernel
theorem dX6_outWith_48 : decode cX6_outWith 48 = .ok (.aload_n 0, 1) := by decide +kernel
theorem dX6_outWith_49 : decode cX6_outWith 49 = .ok (.iload_n 3, 1) := by decide +kernel
theorem dX6_outWith_50 : decode cX6_outWith 50 = .ok (.putfield 7, 3) := by decide +kernel
theorem dX6_outWith_53 : decode cX6_outWith 53 = .ok (.iload 4, 2) := by decide +kernel
theorem dX6_outWith_55 : decode cX6_outWith 55 = .ok (.ireturn, 1) := by decide +kernel
theorem dX6_outBy_0 : decode cX6_outBy 0 = .ok (.aload_n 0, 1) := by decide +kernel
theorem dX6_outBy_1 : decode cX6_outBy 1 = .ok (.iconst 0, 1) := by decide +kernel
theorem dX6_outBy_2 : decode cX6_outBy 2 = .ok (.putfield 46, 3) := by decide +kernel
theorem dX6_outBy_5 : decode cX6_outBy 5 = .ok (.aload_n 0, 1) := by decide +kernel
theorem dX6_outBy_6 : decode cX6_outBy 6 = .ok (.iload_n 1, 1) := by decide +kernel
theorem dX6_outBy_7 : decode cX6_outBy 7 = .ok (.iload_n 2, 1) := by decide +kernel
theorem dX6_outBy_8 : decode cX6_outBy 8 = .ok (.invokevirtual 57, 3) := by decide +kernel
theorem dX6_outBy_11 : decode cX6_outBy 11 = .ok (.ifCond .ne 9, 3) := by decide +kernel
theorem dX6_outBy_14 : decode cX6_outBy 14 = .ok (.aload_n 0, 1) := by decide +kernel
theorem dX6_outBy_15 : decode cX6_outBy 15 = .ok (.iconst 1, 1) := by decide +kernel
theorem dX6_outBy_16 : decode cX6_outBy 16 = .ok (.invokevirtual 79, 3) := by decide +kernel
theorem dX6_outBy_19 : decode cX6_outBy 19 = .ok (.ireturn, 1) := by decide +kernel
theorem dX6_outBy_20 : decode cX6_outBy 20 = .ok (.iload_n 3, 1) := by decide +kernel
theorem dX6_outBy_21 : decode cX6_outBy 21 = .ok (.iconst 1, 1) := by decide +kernel
theorem dX6_outBy_22 : decode cX6_outBy 22 = .ok (.bipush 60, 2) := by decide +kernel
theorem dX6_outBy_24 : decode cX6_outBy 24 = .ok (.invokestatic 49, 3) := by decide +kernel
theorem dX6_outBy_27 : decode cX6_outBy 27 = .ok (.ifCond .ne 9, 3) := by decide +kernel
theorem dX6_outBy_30 : decode cX6_outBy 30 = .ok (.aload_n 0, 1) := by decide +kernel
theorem dX6_outBy_31 : decode cX6_outBy 31 = .ok (.iconst 2, 1) := by decide +kernel
theorem dX6_outBy_32 : decode cX6_outBy 32 = .ok (.invokevirtual 79, 3) := by decide +kernel
theorem dX6_outBy_35 : decode cX6_outBy 35 = .ok (.ireturn, 1) := by decide +kernel
theorem dX6_outBy_36 : decode cX6_outBy 36 = .ok (.iload_n 2, 1) := by decide +kernel
theorem dX6_outBy_37 : decode cX6_outBy 37 = .ok (.aload_n 0, 1) := by decide +kernel
theorem dX6_outBy_38 : decode cX6_outBy 38 = .ok (.getfield 20, 3) := by decide +kernel
theorem dX6_outBy_41 : decode cX6_outBy 41 = .ok (.imul, 1) := by decide +kernel
theorem dX6_outBy_42 : decode cX6_outBy 42 = .ok (.iload_n 1, 1) := by decide +kernel
theorem dX6_outBy_43 : decode cX6_outBy 43 = .ok (.iadd, 1) := by decide +kernel
theorem dX6_outBy_44 : decode cX6_outBy 44 = .ok (.istore 4, 2) := by decide +kernel
theorem dX6_outBy_46 : decode cX6_outBy 46 = .ok (.aload_n 0, 1) := by decide +kernel
theorem dX6_outBy_47 : decode cX6_outBy 47 = .ok (.iload 4, 2) := by decide +kernel
theorem dX6_outBy_49 : decode cX6_outBy 49 = .ok (.invokevirtual 88, 3) := by decide +kernel
theorem dX6_outBy_52 : decode cX6_outBy 52 = .ok (.iconst (-1), 1) := by decide +kernel
theorem dX6_outBy_53 : decode cX6_outBy 53 = .ok (.if_icmp .eq 9, 3) := by decide +kernel
theorem dX6_outBy_56 : decode cX6_outBy 56 = .ok (.aload_n 0, 1) := by decide +kernel
theorem dX6_outBy_57 : decode cX6_outBy 57 = .ok (.iconst 3, 1) := by decide +kernel
theorem dX6_outBy_58 : decode cX6_outBy 58 = .ok (.invokevirtual 79, 3) := by decide +kernel
theorem dX6_outBy_61 : decode cX6_outBy 61 = .ok (.ireturn, 1) := by decide +kernel
theorem dX6_outBy_62 : decode cX6_outBy 62 = .ok (.aload_n 0, 1) := by decide +kernel
theorem dX6_outBy_63 : decode cX6_outBy 63 = .ok (.iload_n 3, 1) := by decide +kernel
theorem dX6_outBy_64 : decode cX6_outBy 64 = .ok (.invokevirtual 161, 3) := by decide +kernel
theorem dX6_outBy_67 : decode cX6_outBy 67 = .ok (.istore 5, 2) := by decide +kernel
theorem dX6_outBy_69 : decode cX6_outBy 69 = .ok (.aload_n 0, 1) := by decide +kernel
theorem dX6_outBy_70 : decode cX6_outBy 70 = .ok (.getfield 29, 3) := by decide +kernel
theorem dX6_outBy_73 : decode cX6_outBy 73 = .ok (.iload 4, 2) := by decide +kernel
theorem dX6_outBy_75 : decode cX6_outBy 75 = .ok (.aload_n 0, 1) := by decide +kernel
theorem dX6_outBy_76 : decode cX6_outBy 76 = .ok (.getfield 29, 3) := by decide +kernel
theorem dX6_outBy_79 : decode cX6_outBy 79 = .ok (.iload 4, 2) := by decide +kernel
theorem dX6_outBy_81 : decode cX6_outBy 81 = .ok (.baload, 1) := by decide +kernel
theorem dX6_outBy_82 : decode cX6_outBy 82 = .ok (.ifCond .ne 7, 3) := by decide +kernel
theorem dX6_outBy_85 : decode cX6_outBy 85 = .ok (.iconst 1, 1) := by decide +kernel
theorem dX6_outBy_86 : decode cX6_outBy 86 = .ok (.goto 4, 3) := by decide +kernel
theorem dX6_outBy_89 : decode cX6_outBy 89 = .ok (.iconst 0, 1) := by decide +kernel
theorem dX6_outBy_90 : decode cX6_outBy 90 = .ok (.bastore, 1) := by decide +kernel
theorem dX6_outBy_91 : decode cX6_outBy 91 = .ok (.aload_n 0, 1) := by decide +kernel
theorem dX6_outBy_92 : decode cX6_outBy 92 = .ok (.iload_n 3, 1) := by decide +kernel
theorem dX6_outBy_93 : decode cX6_outBy 93 = .ok (.invokevirtual 161, 3) := by decide +kernel
theorem dX6_outBy_96 : decode cX6_outBy 96 = .ok (.istore 6, 2) := by decide +kernel
theorem dX6_outBy_98 : decode cX6_outBy 98 = .ok (.aload_n 0, 1) := by decide +kernel
theorem dX6_outBy_99 : decode cX6_outBy 99 = .ok (.getfield 29, 3) := by decide +kernel
theorem dX6_outBy_102 : decode cX6_outBy 102 = .ok (.iload 4, 2) := by decide +kernel
theorem dX6_outBy_104 : decode cX6_outBy 104 = .ok (.aload_n 0, 1) := by decide +kernel
theorem dX6_outBy_105 : decode cX6_outBy 105 = .ok (.getfield 29, 3) := by decide +kernel
theorem dX6_outBy_108 : decode cX6_outBy 108 = .ok (.iload 4, 2) := by decide +kernel
theorem dX6_outBy_110 : decode cX6_outBy 110 = .ok (.baload, 1) := by decide +kernel
theorem dX6_outBy_111 : decode cX6_outBy 111 = .ok (.ifCond .ne 7, 3) := by decide +kernel
theorem dX6_outBy_114 : decode cX6_outBy 114 = .ok (.iconst 1, 1) := by decide +kernel
theorem dX6_outBy_115 : decode cX6_outBy 115 = .ok (.goto 4, 3) := by decide +kernel
theorem dX6_outBy_118 : decode cX6_outBy 118 = .ok (.iconst 0, 1) := by decide +kernel
theorem dX6_outBy_119 : decode cX6_outBy 119 = .ok (.bastore, 1) := by decide +kernel
theorem dX6_outBy_120 : decode cX6_outBy 120 = .ok (.iload 6, 2) := by decide +kernel
theorem dX6_outBy_122 : decode cX6_outBy 122 = .ok (.iload 5, 2) := by decide +kernel
theorem dX6_outBy_124 : decode cX6_outBy 124 = .ok (.isub, 1) := by decide +kernel
theorem dX6_outBy_125 : decode cX6_outBy 125 = .ok (.ireturn, 1) := by decide +kernel
theorem dX6_jamIn_0 : decode cX6_jamIn 0 = .ok (.aload_n 0, 1) := by decide +kernel
theorem dX6_jamIn_1 : decode cX6_jamIn 1 = .ok (.iconst 0, 1) := by decide +kernel
theorem dX6_jamIn_2 : decode cX6_jamIn 2 = .ok (.putfield 46, 3) := by decide +kernel
theorem dX6_jamIn_5 : decode cX6_jamIn 5 = .ok (.iload_n 1, 1) := by decide +kernel
theorem dX6_jamIn_6 : decode cX6_jamIn 6 = .ok (.iconst 1, 1) := by decide +kernel
theorem dX6_jamIn_7 : decode cX6_jamIn 7 = .ok (.bipush 60, 2) := by decide +kernel
theorem dX6_jamIn_9 : decode cX6_jamIn 9 = .ok (.invokestatic 49, 3) := by decide +kernel
theorem dX6_jamIn_12 : decode cX6_jamIn 12 = .ok (.ifCond .ne 9, 3) := by decide +kernel
theorem dX6_jamIn_15 : decode cX6_jamIn 15 = .ok (.aload_n 0, 1) := by decide +kernel
theorem dX6_jamIn_16 : decode cX6_jamIn 16 = .ok (.iconst 1, 1) := by decide +kernel
theorem dX6_jamIn_17 : decode cX6_jamIn 17 = .ok (.invokevirtual 79, 3) := by decide +kernel
theorem dX6_jamIn_20 : decode cX6_jamIn 20 = .ok (.ireturn, 1) := by decide +kernel
theorem dX6_jamIn_21 : decode cX6_jamIn 21 = .ok (.aload_n 0, 1) := by decide +kernel
theorem dX6_jamIn_22 : decode cX6_jamIn 22 = .ok (.invokevirtual 154, 3) := by decide +kernel
theorem dX6_jamIn_25 : decode cX6_jamIn 25 = .ok (.astore_n 2, 1) := by decide +kernel
theorem dX6_jamIn_26 : decode cX6_jamIn 26 = .ok (.aload_n 0, 1) := by decide +kernel
theorem dX6_jamIn_27 : decode cX6_jamIn 27 = .ok (.invokevirtual 121, 3) := by decide +kernel
theorem dX6_jamIn_30 : decode cX6_jamIn 30 = .ok (.astore_n 3, 1) := by decide +kernel
theorem dX6_jamIn_31 : decode cX6_jamIn 31 = .ok (.iconst 0, 1) := by decide +kernel
theorem dX6_jamIn_32 : decode cX6_jamIn 32 = .ok (.istore 4, 2) := by decide +kernel
theorem dX6_jamIn_34 : decode cX6_jamIn 34 = .ok (.aload_n 0, 1) := by decide +kernel
theorem dX6_jamIn_35 : decode cX6_jamIn 35 = .ok (.invokevirtual 136, 3) := by decide +kernel
theorem dX6_jamIn_38 : decode cX6_jamIn 38 = .ok (.iconst (-1), 1) := by decide +kernel
theorem dX6_jamIn_39 : decode cX6_jamIn 39 = .ok (.invokestatic 132, 3) := by decide +kernel
theorem dX6_jamIn_42 : decode cX6_jamIn 42 = .ok (.aload_n 0, 1) := by decide +kernel
theorem dX6_jamIn_43 : decode cX6_jamIn 43 = .ok (.getfield 36, 3) := by decide +kernel
theorem dX6_jamIn_46 : decode cX6_jamIn 46 = .ok (.if_icmp .ne 21, 3) := by decide +kernel
theorem dX6_jamIn_49 : decode cX6_jamIn 49 = .ok (.iload 4, 2) := by decide +kernel
theorem dX6_jamIn_51 : decode cX6_jamIn 51 = .ok (.iload_n 1, 1) := by decide +kernel
theorem dX6_jamIn_52 : decode cX6_jamIn 52 = .ok (.if_icmp .gt 15, 3) := by decide +kernel
theorem dX6_jamIn_55 : decode cX6_jamIn 55 = .ok (.aload_n 0, 1) := by decide +kernel
theorem dX6_jamIn_56 : decode cX6_jamIn 56 = .ok (.aload_n 3, 1) := by decide +kernel
theorem dX6_jamIn_57 : decode cX6_jamIn 57 = .ok (.invokevirtual 125, 3) := by decide +kernel
theorem dX6_jamIn_60 : decode cX6_jamIn 60 = .ok (.pop, 1) := by decide +kernel
theorem dX6_jamIn_61 : decode cX6_jamIn 61 = .ok (.iinc 4 1, 3) := by decide +kernel
theorem dX6_jamIn_64 : decode cX6_jamIn 64 = .ok (.goto (-30), 3) := by decide +kernel
theorem dX6_jamIn_67 : decode cX6_jamIn 67 = .ok (.aload_n 0, 1) := by decide +kernel
theorem dX6_jamIn_68 : decode cX6_jamIn 68 = .ok (.aload_n 2, 1) := by decide +kernel
theorem dX6_jamIn_69 : decode cX6_jamIn 69 = .ok (.invokevirtual 157, 3) := by decide +kernel
theorem dX6_jamIn_72 : decode cX6_jamIn 72 = .ok (.iload 4, 2) := by decide +kernel
theorem dX6_jamIn_74 : decode cX6_jamIn 74 = .ok (.iload_n 1, 1) := by decide +kernel
theorem dX6_jamIn_75 : decode cX6_jamIn 75 = .ok (.if_icmp .le 7, 3) := by decide +kernel
theorem dX6_jamIn_78 : decode cX6_jamIn 78 = .ok (.iconst (-1), 1) := by decide +kernel
theorem dX6_jamIn_79 : decode cX6_jamIn 79 = .ok (.goto 5, 3) := by decide +kernel
theorem dX6_jamIn_82 : decode cX6_jamIn 82 = .ok (.iload 4, 2) := by decide +kernel
theorem dX6_jamIn_84 : decode cX6_jamIn 84 = .ok (.ireturn, 1) := by decide +kernel
theorem dX6_farWith_0 : decode cX6_farWith 0 = .ok (.aload_n 0, 1) := by decide +kernel
theorem dX6_farWith_1 : decode cX6_farWith 1 = .ok (.iconst 0, 1) := by decide +kernel
theorem dX6_farWith_2 : decode cX6_farWith 2 = .ok (.putfield 46, 3) := by decide +kernel
theorem dX6_farWith_5 : decode cX6_farWith 5 = .ok (.iload_n 1, 1) := by decide +kernel
theorem dX6_farWith_6 : decode cX6_farWith 6 = .ok (.invokestatic 91, 3) := by decide +kernel
theorem dX6_farWith_9 : decode cX6_farWith 9 = .ok (.ifCond .eq 12, 3) := by decide +kernel
theorem dX6_farWith_12 : decode cX6_farWith 12 = .ok (.aload_n 0, 1) := by decide +kernel
theorem dX6_farWith_13 : decode cX6_farWith 13 = .ok (.iload_n 2, 1) := by decide +kernel
theorem dX6_farWith_14 : decode cX6_farWith 14 = .ok (.iload_n 3, 1) := by decide +kernel
theorem dX6_farWith_15 : decode cX6_farWith 15 = .ok (.invokevirtual 57, 3) := by decide +kernel
theorem dX6_farWith_18 : decode cX6_farWith 18 = .ok (.ifCond .ne 9, 3) := by decide +kernel
theorem dX6_farWith_21 : decode cX6_farWith 21 = .ok (.aload_n 0, 1) := by decide +kernel
theorem dX6_farWith_22 : decode cX6_farWith 22 = .ok (.iconst 1, 1) := by decide +kernel
theorem dX6_farWith_23 : decode cX6_farWith 23 = .ok (.invokevirtual 79, 3) := by decide +kernel
theorem dX6_farWith_26 : decode cX6_farWith 26 = .ok (.ireturn, 1) := by decide +kernel
theorem dX6_farWith_27 : decode cX6_farWith 27 = .ok (.iload_n 3, 1) := by decide +kernel
theorem dX6_farWith_28 : decode cX6_farWith 28 = .ok (.aload_n 0, 1) := by decide +kernel
theorem dX6_farWith_29 : decode cX6_farWith 29 = .ok (.getfield 20, 3) := by decide +kernel
theorem dX6_farWith_32 : decode cX6_farWith 32 = .ok (.imul, 1) := by decide +kernel
theorem dX6_farWith_33 : decode cX6_farWith 33 = .ok (.iload_n 2, 1) := by decide +kernel
theorem dX6_farWith_34 : decode cX6_farWith 34 = .ok (.iadd, 1) := by decide +kernel
theorem dX6_farWith_35 : decode cX6_farWith 35 = .ok (.istore 4, 2) := by decide +kernel
theorem dX6_farWith_37 : decode cX6_farWith 37 = .ok (.aload_n 0, 1) := by decide +kernel
theorem dX6_farWith_38 : decode cX6_farWith 38 = .ok (.iload_n 1, 1) := by decide +kernel
theorem dX6_farWith_39 : decode cX6_farWith 39 = .ok (.invokevirtual 75, 3) := by decide +kernel
theorem dX6_farWith_42 : decode cX6_farWith 42 = .ok (.astore 5, 2) := by decide +kernel
theorem dX6_farWith_44 : decode cX6_farWith 44 = .ok (.aload_n 0, 1) := by decide +kernel
theorem dX6_farWith_45 : decode cX6_farWith 45 = .ok (.getfield 29, 3) := by decide +kernel
theorem dX6_farWith_48 : decode cX6_farWith 48 = .ok (.iload 4, 2) := by decide +kernel
theorem dX6_farWith_50 : decode cX6_farWith 50 = .ok (.aload_n 0, 1) := by decide +kernel
theorem dX6_farWith_51 : decode cX6_farWith 51 = .ok (.getfield 29, 3) := by decide +kernel
theorem dX6_farWith_54 : decode cX6_farWith 54 = .ok (.iload 4, 2) := by decide +kernel
theorem dX6_farWith_56 : decode cX6_farWith 56 = .ok (.baload, 1) := by decide +kernel
theorem dX6_farWith_57 : decode cX6_farWith 57 = .ok (.ifCond .ne 7, 3) := by decide +kernel
theorem dX6_farWith_60 : decode cX6_farWith 60 = .ok (.iconst 1, 1) := by decide +kernel
theorem dX6_farWith_61 : decode cX6_farWith 61 = .ok (.goto 4, 3) := by decide +kernel
theorem dX6_farWith_64 : decode cX6_farWith 64 = .ok (.iconst 0, 1) := by decide +kernel
theorem dX6_farWith_65 : decode cX6_farWith 65 = .ok (.bastore, 1) := by decide +kernel
theorem dX6_farWith_66 : decode cX6_farWith 66 = .ok (.aload_n 0, 1) := by decide +kernel
theorem dX6_farWith_67 : decode cX6_farWith 67 = .ok (.iload_n 1, 1) := by decide +kernel
theorem dX6_farWith_68 : decode cX6_farWith 68 = .ok (.invokevirtual 75, 3) := by decide +kernel
theorem dX6_farWith_71 : decode cX6_farWith 71 = .ok (.astore 6, 2) := by decide +kernel
theorem dX6_farWith_73 : decode cX6_farWith 73 = .ok (.aload_n 0, 1) := by decide +kernel
theorem dX6_farWith_74 : decode cX6_farWith 74 = .ok (.getfield 29, 3) := by decide +kernel
theorem dX6_farWith_77 : decode cX6_farWith 77 = .ok (.iload 4, 2) := by decide +kernel
theorem dX6_farWith_79 : decode cX6_farWith 79 = .ok (.aload_n 0, 1) := by decide +kernel
theorem dX6_farWith_80 : decode cX6_farWith 80 = .ok (.getfield 29, 3) := by decide +kernel
theorem dX6_farWith_83 : decode cX6_farWith 83 = .ok (.iload 4, 2) := by decide +kernel
theorem dX6_farWith_85 : decode cX6_farWith 85 = .ok (.baload, 1) := by decide +kernel
theorem dX6_farWith_86 : decode cX6_farWith 86 = .ok (.ifCond .ne 7, 3) := by decide +kernel
theorem dX6_farWith_89 : decode cX6_farWith 89 = .ok (.iconst 1, 1) := by decide +kernel
theorem dX6_farWith_90 : decode cX6_farWith 90 = .ok (.goto 4, 3) := by decide +kernel
theorem dX6_farWith_93 : decode cX6_farWith 93 = .ok (.iconst 0, 1) := by decide +kernel
theorem dX6_farWith_94 : decode cX6_farWith 94 = .ok (.bastore, 1) := by decide +kernel
theorem dX6_farWith_95 : decode cX6_farWith 95 = .ok (.iconst 0, 1) := by decide +kernel
theorem dX6_farWith_96 : decode cX6_farWith 96 = .ok (.istore 7, 2) := by decide +kernel
theorem dX6_farWith_98 : decode cX6_farWith 98 = .ok (.iconst 0, 1) := by decide +kernel
theorem dX6_farWith_99 : decode cX6_farWith 99 = .ok (.istore 8, 2) := by decide +kernel
theorem dX6_farWith_101 : decode cX6_farWith 101 = .ok (.iload 8, 2) := by decide +kernel
theorem dX6_farWith_103 : decode cX6_farWith 103 = .ok (.aload_n 0, 1) := by decide +kernel
theorem dX6_farWith_104 : decode cX6_farWith 104 = .ok (.getfield 20, 3) := by decide +kernel
theorem dX6_farWith_107 : decode cX6_farWith 107 = .ok (.aload_n 0, 1) := by decide +kernel
theorem dX6_farWith_108 : decode cX6_farWith 108 = .ok (.getfield 23, 3) := by decide +kernel
theorem dX6_farWith_111 : decode cX6_farWith 111 = .ok (.imul, 1) := by decide +kernel
theorem dX6_farWith_112 : decode cX6_farWith 112 = .ok (.if_icmp .ge 49, 3) := by decide +kernel
theorem dX6_farWith_115 : decode cX6_farWith 115 = .ok (.iload 7, 2) := by decide +kernel
theorem dX6_farWith_117 : decode cX6_farWith 117 = .ok (.iload 8, 2) := by decide +kernel
theorem dX6_farWith_119 : decode cX6_farWith 119 = .ok (.iload 4, 2) := by decide +kernel
theorem dX6_farWith_121 : decode cX6_farWith 121 = .ok (.if_icmp .eq 30, 3) := by decide +kernel
theorem dX6_farWith_124 : decode cX6_farWith 124 = .ok (.aload_n 0, 1) := by decide +kernel
theorem dX6_farWith_125 : decode cX6_farWith 125 = .ok (.getfield 29, 3) := by decide +kernel
theorem dX6_farWith_128 : decode cX6_farWith 128 = .ok (.iload 8, 2) := by decide +kernel
theorem dX6_farWith_130 : decode cX6_farWith 130 = .ok (.baload, 1) := by decide +kernel
theorem dX6_farWith_131 : decode cX6_farWith 131 = .ok (.ifCond .ne 20, 3) := by decide +kernel
theorem dX6_farWith_134 : decode cX6_farWith 134 = .ok (.aload 5, 2) := by decide +kernel
theorem dX6_farWith_136 : decode cX6_farWith 136 = .ok (.iload 8, 2) := by decide +kernel
theorem dX6_farWith_138 : decode cX6_farWith 138 = .ok (.iaload, 1) := by decide +kernel
theorem dX6_farWith_139 : decode cX6_farWith 139 = .ok (.aload 6, 2) := by decide +kernel
theorem dX6_farWith_141 : decode cX6_farWith 141 = .ok (.iload 8, 2) := by decide +kernel
theorem dX6_farWith_143 : decode cX6_farWith 143 = .ok (.iaload, 1) := by decide +kernel
theorem dX6_farWith_144 : decode cX6_farWith 144 = .ok (.if_icmp .eq 7, 3) := by decide +kernel
theorem dX6_farWith_147 : decode cX6_farWith 147 = .ok (.iconst 1, 1) := by decide +kernel
theorem dX6_farWith_148 : decode cX6_farWith 148 = .ok (.goto 4, 3) := by decide +kernel
theorem dX6_farWith_151 : decode cX6_farWith 151 = .ok (.iconst 0, 1) := by decide +kernel
theorem dX6_farWith_152 : decode cX6_farWith 152 = .ok (.iadd, 1) := by decide +kernel
theorem dX6_farWith_153 : decode cX6_farWith 153 = .ok (.istore 7, 2) := by decide +kernel
theorem dX6_farWith_155 : decode cX6_farWith 155 = .ok (.iinc 8 1, 3) := by decide +kernel
theorem dX6_farWith_158 : decode cX6_farWith 158 = .ok (.goto (-57), 3) := by decide +kernel
theorem dX6_farWith_161 : decode cX6_farWith 161 = .ok (.iload 7, 2) := by decide +kernel
theorem dX6_farWith_163 : decode cX6_farWith 163 = .ok (.ireturn, 1) := by decide +kernel
theorem dX6_digest_0 : decode cX6_digest 0 = .ok (.aload_n 0, 1) := by decide +kernel
theorem dX6_digest_1 : decode cX6_digest 1 = .ok (.iconst 0, 1) := by decide +kernel
theorem dX6_digest_2 : decode cX6_digest 2 = .ok (.putfield 46, 3) := by decide +kernel
theorem dX6_digest_5 : decode cX6_digest 5 = .ok (.aload_n 0, 1) := by decide +kernel
theorem dX6_digest_6 : decode cX6_digest 6 = .ok (.invokevirtual 121, 3) := by decide +kernel
theorem dX6_digest_9 : decode cX6_digest 9 = .ok (.astore_n 1, 1) := by decide +kernel
theorem dX6_digest_10 : decode cX6_digest 10 = .ok (.aload_n 0, 1) := by decide +kernel
theorem dX6_digest_11 : decode cX6_digest 11 = .ok (.invokevirtual 136, 3) := by decide +kernel
theorem dX6_digest_14 : decode cX6_digest 14 = .ok (.astore_n 2, 1) := by decide +kernel
theorem dX6_digest_15 : decode cX6_digest 15 = .ok (.ldc2_w 164, 3) := by decide +kernel
theorem dX6_digest_18 : decode cX6_digest 18 = .ok (.aload_n 0, 1) := by decide +kernel
theorem dX6_digest_19 : decode cX6_digest 19 = .ok (.getfield 26, 3) := by decide +kernel
theorem dX6_digest_22 : decode cX6_digest 22 = .ok (.i2l, 1) := by decide +kernel
theorem dX6_digest_23 : decode cX6_digest 23 = .ok (.ladd, 1) := by decide +kernel
theorem dX6_digest_24 : decode cX6_digest 24 = .ok (.lstore_n 3, 1) := by decide +kernel
theorem dX6_digest_25 : decode cX6_digest 25 = .ok (.iconst 0, 1) := by decide +kernel
theorem dX6_digest_26 : decode cX6_digest 26 = .ok (.istore 5, 2) := by decide +kernel
theorem dX6_digest_28 : decode cX6_digest 28 = .ok (.iload 5, 2) := by decide +kernel
theorem dX6_digest_30 : decode cX6_digest 30 = .ok (.bipush 9, 2) := by decide +kernel
theorem dX6_digest_32 : decode cX6_digest 32 = .ok (.if_icmp .ge 25, 3) := by decide +kernel
theorem dX6_digest_35 : decode cX6_digest 35 = .ok (.lload_n 3, 1) := by decide +kernel
theorem dX6_digest_36 : decode cX6_digest 36 = .ok (.ldc2_w 166, 3) := by decide +kernel
theorem dX6_digest_39 : decode cX6_digest 39 = .ok (.lmul, 1) := by decide +kernel
theorem dX6_digest_40 : decode cX6_digest 40 = .ok (.aload_n 0, 1) := by decide +kernel
theorem dX6_digest_41 : decode cX6_digest 41 = .ok (.iload 5, 2) := by decide +kernel
theorem dX6_digest_43 : decode cX6_digest 43 = .ok (.aload_n 2, 1) := by decide +kernel
theorem dX6_digest_44 : decode cX6_digest 44 = .ok (.aload_n 1, 1) := by decide +kernel
theorem dX6_digest_45 : decode cX6_digest 45 = .ok (.invokevirtual 140, 3) := by decide +kernel
theorem dX6_digest_48 : decode cX6_digest 48 = .ok (.i2l, 1) := by decide +kernel
theorem dX6_digest_49 : decode cX6_digest 49 = .ok (.ladd, 1) := by decide +kernel
theorem dX6_digest_50 : decode cX6_digest 50 = .ok (.lstore_n 3, 1) := by decide +kernel
theorem dX6_digest_51 : decode cX6_digest 51 = .ok (.iinc 5 1, 3) := by decide +kernel
theorem dX6_digest_54 : decode cX6_digest 54 = .ok (.goto (-26), 3) := by decide +kernel
theorem dX6_digest_57 : decode cX6_digest 57 = .ok (.iconst 0, 1) := by decide +kernel
theorem dX6_digest_58 : decode cX6_digest 58 = .ok (.istore 5, 2) := by decide +kernel
theorem dX6_digest_60 : decode cX6_digest 60 = .ok (.iload 5, 2) := by decide +kernel
theorem dX6_digest_62 : decode cX6_digest 62 = .ok (.iconst 4, 1) := by decide +kernel
theorem dX6_digest_63 : decode cX6_digest 63 = .ok (.if_icmp .ge 24, 3) := by decide +kernel
theorem dX6_digest_66 : decode cX6_digest 66 = .ok (.lload_n 3, 1) := by decide +kernel
theorem dX6_digest_67 : decode cX6_digest 67 = .ok (.ldc2_w 166, 3) := by decide +kernel
theorem dX6_digest_70 : decode cX6_digest 70 = .ok (.lmul, 1) := by decide +kernel
theorem dX6_digest_71 : decode cX6_digest 71 = .ok (.aload_n 1, 1) := by decide +kernel
theorem dX6_digest_72 : decode cX6_digest 72 = .ok (.iload 5, 2) := by decide +kernel
theorem dX6_digest_74 : decode cX6_digest 74 = .ok (.aaload, 1) := by decide +kernel
theorem dX6_digest_75 : decode cX6_digest 75 = .ok (.invokestatic 100, 3) := by decide +kernel
theorem dX6_digest_78 : decode cX6_digest 78 = .ok (.i2l, 1) := by decide +kernel
theorem dX6_digest_79 : decode cX6_digest 79 = .ok (.ladd, 1) := by decide +kernel
theorem dX6_digest_80 : decode cX6_digest 80 = .ok (.lstore_n 3, 1) := by decide +kernel
theorem dX6_digest_81 : decode cX6_digest 81 = .ok (.iinc 5 1, 3) := by decide +kernel
theorem dX6_digest_84 : decode cX6_digest 84 = .ok (.goto (-24), 3) := by decide +kernel
theorem dX6_digest_87 : decode cX6_digest 87 = .ok (.iconst 0, 1) := by decide +kernel
theorem dX6_digest_88 : decode cX6_digest 88 = .ok (.istore 5, 2) := by decide +kernel
theorem dX6_digest_90 : decode cX6_digest 90 = .ok (.iload 5, 2) := by decide +kernel
theorem dX6_digest_92 : decode cX6_digest 92 = .ok (.aload_n 0, 1) := by decide +kernel
theorem dX6_digest_93 : decode cX6_digest 93 = .ok (.getfield 36, 3) := by decide +kernel
theorem dX6_digest_96 : decode cX6_digest 96 = .ok (.if_icmp .ge 111, 3) := by decide +kernel
theorem dX6_digest_99 : decode cX6_digest 99 = .ok (.iconst 0, 1) := by decide +kernel
theorem dX6_digest_100 : decode cX6_digest 100 = .ok (.istore 6, 2) := by decide +kernel
theorem dX6_digest_102 : decode cX6_digest 102 = .ok (.iload 6, 2) := by decide +kernel
theorem dX6_digest_104 : decode cX6_digest 104 = .ok (.bipush 9, 2) := by decide +kernel
theorem dX6_digest_106 : decode cX6_digest 106 = .ok (.if_icmp .ge 26, 3) := by decide +kernel
theorem dX6_digest_109 : decode cX6_digest 109 = .ok (.lload_n 3, 1) := by decide +kernel
theorem dX6_digest_110 : decode cX6_digest 110 = .ok (.ldc2_w 166, 3) := by decide +kernel
theorem dX6_digest_113 : decode cX6_digest 113 = .ok (.lmul, 1) := by decide +kernel
theorem dX6_digest_114 : decode cX6_digest 114 = .ok (.aload_n 0, 1) := by decide +kernel
theorem dX6_digest_115 : decode cX6_digest 115 = .ok (.iload 5, 2) := by decide +kernel
theorem dX6_digest_117 : decode cX6_digest 117 = .ok (.iload 6, 2) := by decide +kernel
theorem dX6_digest_119 : decode cX6_digest 119 = .ok (.aload_n 1, 1) := by decide +kernel
theorem dX6_digest_120 : decode cX6_digest 120 = .ok (.invokevirtual 144, 3) := by decide +kernel
theorem dX6_digest_123 : decode cX6_digest 123 = .ok (.i2l, 1) := by decide +kernel
theorem dX6_digest_124 : decode cX6_digest 124 = .ok (.ladd, 1) := by decide +kernel
theorem dX6_digest_125 : decode cX6_digest 125 = .ok (.lstore_n 3, 1) := by decide +kernel
theorem dX6_digest_126 : decode cX6_digest 126 = .ok (.iinc 6 1, 3) := by decide +kernel
theorem dX6_digest_129 : decode cX6_digest 129 = .ok (.goto (-27), 3) := by decide +kernel
theorem dX6_digest_132 : decode cX6_digest 132 = .ok (.lload_n 3, 1) := by decide +kernel
theorem dX6_digest_133 : decode cX6_digest 133 = .ok (.ldc2_w 166, 3) := by decide +kernel
theorem dX6_digest_136 : decode cX6_digest 136 = .ok (.lmul, 1) := by decide +kernel
theorem dX6_digest_137 : decode cX6_digest 137 = .ok (.aload_n 0, 1) := by decide +kernel
theorem dX6_digest_138 : decode cX6_digest 138 = .ok (.iload 5, 2) := by decide +kernel
theorem dX6_digest_140 : decode cX6_digest 140 = .ok (.aload_n 2, 1) := by decide +kernel
theorem dX6_digest_141 : decode cX6_digest 141 = .ok (.invokevirtual 151, 3) := by decide +kernel
theorem dX6_digest_144 : decode cX6_digest 144 = .ok (.i2l, 1) := by decide +kernel
theorem dX6_digest_145 : decode cX6_digest 145 = .ok (.ladd, 1) := by decide +kernel
theorem dX6_digest_146 : decode cX6_digest 146 = .ok (.lstore_n 3, 1) := by decide +kernel
theorem dX6_digest_147 : decode cX6_digest 147 = .ok (.iconst 0, 1) := by decide +kernel
theorem dX6_digest_148 : decode cX6_digest 148 = .ok (.istore 6, 2) := by decide +kernel
theorem dX6_digest_150 : decode cX6_digest 150 = .ok (.iload 6, 2) := by decide +kernel
theorem dX6_digest_152 : decode cX6_digest 152 = .ok (.iconst 4, 1) := by decide +kernel
theorem dX6_digest_153 : decode cX6_digest 153 = .ok (.if_icmp .gt 48, 3) := by decide +kernel
theorem dX6_digest_156 : decode cX6_digest 156 = .ok (.aload_n 0, 1) := by decide +kernel
theorem dX6_digest_157 : decode cX6_digest 157 = .ok (.iload 5, 2) := by decide +kernel
theorem dX6_digest_159 : decode cX6_digest 159 = .ok (.invokevirtual 110, 3) := by decide +kernel
theorem dX6_digest_162 : decode cX6_digest 162 = .ok (.ifCond .eq 39, 3) := by decide +kernel
theorem dX6_digest_165 : decode cX6_digest 165 = .ok (.lload_n 3, 1) := by decide +kernel
theorem dX6_digest_166 : decode cX6_digest 166 = .ok (.ldc2_w 166, 3) := by decide +kernel
theorem dX6_digest_169 : decode cX6_digest 169 = .ok (.lmul, 1) := by decide +kernel
theorem dX6_digest_170 : decode cX6_digest 170 = .ok (.aload_n 0, 1) := by decide +kernel
theorem dX6_digest_171 : decode cX6_digest 171 = .ok (.iload 5, 2) := by decide +kernel
theorem dX6_digest_173 : decode cX6_digest 173 = .ok (.iload 6, 2) := by decide +kernel
theorem dX6_digest_175 : decode cX6_digest 175 = .ok (.aload_n 1, 1) := by decide +kernel
theorem dX6_digest_176 : decode cX6_digest 176 = .ok (.aload_n 0, 1) := by decide +kernel
theorem dX6_digest_177 : decode cX6_digest 177 = .ok (.getfield 39, 3) := by decide +kernel
theorem dX6_digest_180 : decode cX6_digest 180 = .ok (.iload 5, 2) := by decide +kernel
theorem dX6_digest_182 : decode cX6_digest 182 = .ok (.bipush 8, 2) := by decide +kernel
theorem dX6_digest_184 : decode cX6_digest 184 = .ok (.imul, 1) := by decide +kernel
theorem dX6_digest_185 : decode cX6_digest 185 = .ok (.iconst 0, 1) := by decide +kernel
theorem dX6_digest_186 : decode cX6_digest 186 = .ok (.iadd, 1) := by decide +kernel
theorem dX6_digest_187 : decode cX6_digest 187 = .ok (.iaload, 1) := by decide +kernel
theorem dX6_digest_188 : decode cX6_digest 188 = .ok (.aaload, 1) := by decide +kernel
theorem dX6_digest_189 : decode cX6_digest 189 = .ok (.invokevirtual 113, 3) := by decide +kernel
theorem dX6_digest_192 : decode cX6_digest 192 = .ok (.i2l, 1) := by decide +kernel
theorem dX6_digest_193 : decode cX6_digest 193 = .ok (.ladd, 1) := by decide +kernel
theorem dX6_digest_194 : decode cX6_digest 194 = .ok (.lstore_n 3, 1) := by decide +kernel
theorem dX6_digest_195 : decode cX6_digest 195 = .ok (.iinc 6 1, 3) := by decide +kernel
theorem dX6_digest_198 : decode cX6_digest 198 = .ok (.goto (-48), 3) := by decide +kernel
theorem dX6_digest_201 : decode cX6_digest 201 = .ok (.iinc 5 1, 3) := by decide +kernel
theorem dX6_digest_204 : decode cX6_digest 204 = .ok (.goto (-114), 3) := by decide +kernel
theorem dX6_digest_207 : decode cX6_digest 207 = .ok (.iconst 0, 1) := by decide +kernel
theorem dX6_digest_208 : decode cX6_digest 208 = .ok (.istore 5, 2) := by decide +kernel
theorem dX6_digest_210 : decode cX6_digest 210 = .ok (.iload 5, 2) := by decide +kernel
theorem dX6_digest_212 : decode cX6_digest 212 = .ok (.aload_n 0, 1) := by decide +kernel
theorem dX6_digest_213 : decode cX6_digest 213 = .ok (.getfield 20, 3) := by decide +kernel
theorem dX6_digest_216 : decode cX6_digest 216 = .ok (.aload_n 0, 1) := by decide +kernel
theorem dX6_digest_217 : decode cX6_digest 217 = .ok (.getfield 23, 3) := by decide +kernel
theorem dX6_digest_220 : decode cX6_digest 220 = .ok (.imul, 1) := by decide +kernel
theorem dX6_digest_221 : decode cX6_digest 221 = .ok (.if_icmp .ge 70, 3) := by decide +kernel
theorem dX6_digest_224 : decode cX6_digest 224 = .ok (.iconst 0, 1) := by decide +kernel
theorem dX6_digest_225 : decode cX6_digest 225 = .ok (.istore 6, 2) := by decide +kernel
theorem dX6_digest_227 : decode cX6_digest 227 = .ok (.iload 6, 2) := by decide +kernel
theorem dX6_digest_229 : decode cX6_digest 229 = .ok (.iconst 3, 1) := by decide +kernel
theorem dX6_digest_230 : decode cX6_digest 230 = .ok (.if_icmp .ge 25, 3) := by decide +kernel
theorem dX6_digest_233 : decode cX6_digest 233 = .ok (.lload_n 3, 1) := by decide +kernel
theorem dX6_digest_234 : decode cX6_digest 234 = .ok (.ldc2_w 166, 3) := by decide +kernel
theorem dX6_digest_237 : decode cX6_digest 237 = .ok (.lmul, 1) := by decide +kernel
theorem dX6_digest_238 : decode cX6_digest 238 = .ok (.aload_n 0, 1) := by decide +kernel
theorem dX6_digest_239 : decode cX6_digest 239 = .ok (.iload 5, 2) := by decide +kernel
theorem dX6_digest_241 : decode cX6_digest 241 = .ok (.iload 6, 2) := by decide +kernel
theorem dX6_digest_243 : decode cX6_digest 243 = .ok (.invokevirtual 97, 3) := by decide +kernel
theorem dX6_digest_246 : decode cX6_digest 246 = .ok (.i2l, 1) := by decide +kernel
theorem dX6_digest_247 : decode cX6_digest 247 = .ok (.ladd, 1) := by decide +kernel
theorem dX6_digest_248 : decode cX6_digest 248 = .ok (.lstore_n 3, 1) := by decide +kernel
theorem dX6_digest_249 : decode cX6_digest 249 = .ok (.iinc 6 1, 3) := by decide +kernel
theorem dX6_digest_252 : decode cX6_digest 252 = .ok (.goto (-25), 3) := by decide +kernel
theorem dX6_digest_255 : decode cX6_digest 255 = .ok (.iconst 0, 1) := by decide +kernel
theorem dX6_digest_256 : decode cX6_digest 256 = .ok (.istore 6, 2) := by decide +kernel
theorem dX6_digest_258 : decode cX6_digest 258 = .ok (.iload 6, 2) := by decide +kernel
theorem dX6_digest_260 : decode cX6_digest 260 = .ok (.iconst 4, 1) := by decide +kernel
theorem dX6_digest_261 : decode cX6_digest 261 = .ok (.if_icmp .ge 24, 3) := by decide +kernel
theorem dX6_digest_264 : decode cX6_digest 264 = .ok (.lload_n 3, 1) := by decide +kernel
theorem dX6_digest_265 : decode cX6_digest 265 = .ok (.ldc2_w 166, 3) := by decide +kernel
theorem dX6_digest_268 : decode cX6_digest 268 = .ok (.lmul, 1) := by decide +kernel
theorem dX6_digest_269 : decode cX6_digest 269 = .ok (.aload_n 1, 1) := by decide +kernel
theorem dX6_digest_270 : decode cX6_digest 270 = .ok (.iload 6, 2) := by decide +kernel
theorem dX6_digest_272 : decode cX6_digest 272 = .ok (.aaload, 1) := by decide +kernel
theorem dX6_digest_273 : decode cX6_digest 273 = .ok (.iload 5, 2) := by decide +kernel
theorem dX6_digest_275 : decode cX6_digest 275 = .ok (.iaload, 1) := by decide +kernel
theorem dX6_digest_276 : decode cX6_digest 276 = .ok (.i2l, 1) := by decide +kernel
theorem dX6_digest_277 : decode cX6_digest 277 = .ok (.ladd, 1) := by decide +kernel
theorem dX6_digest_278 : decode cX6_digest 278 = .ok (.lstore_n 3, 1) := by decide +kernel
theorem dX6_digest_279 : decode cX6_digest 279 = .ok (.iinc 6 1, 3) := by decide +kernel
theorem dX6_digest_282 : decode cX6_digest 282 = .ok (.goto (-24), 3) := by decide +kernel
theorem dX6_digest_285 : decode cX6_digest 285 = .ok (.iinc 5 1, 3) := by decide +kernel
theorem dX6_digest_288 : decode cX6_digest 288 = .ok (.goto (-78), 3) := by decide +kernel
theorem dX6_digest_291 : decode cX6_digest 291 = .ok (.lload_n 3, 1) := by decide +kernel
theorem dX6_digest_292 : decode cX6_digest 292 = .ok (.lreturn, 1) := by decide +kernel
end
section
/-! What needs no walk: descriptors of methods, the words that stay, what a field, a call, an object, a throw, a catch wants of them. -/
/-- a method: name, code, locals, answer, frames and words of locals that it may use below it, its handlers, the script that it reads -/
abbrev ms_D : Type := MethodName × ByteArray × Nat × Option FieldType × Nat × Nat × List (Nat × Nat × Nat × Nat) × Option (Nat × Nat × (Nat → Int32))
/-- the tables' words that stay where they are whatever is resolved -/
def ms_big : List Cond := lw_tbl.filter goodWord
theorem ms_big_good : ∀ w ∈ ms_big, goodWord w = true := fun w h => (List.mem_filter.mp h).2
theorem ms_big_in {w : Cond} (h : w ∈ lw_tbl) (hg : goodWord w = true) : w ∈ ms_big := List.mem_filter.mpr ⟨h, hg⟩
theorem ms_at {w : Cond} (i : Nat) (h : lw_tbl[i]? = some w) (hg : goodWord w = true) : w ∈ ms_big := ms_big_in (List.mem_of_getElem? h) hg
theorem ms_sub (ws : List Cond) (ps : List Nat) (hp : ws = ps.filterMap (fun i => lw_tbl[i]?)) (hg : ws.all goodWord = true) : ∀ w ∈ ws, w ∈ ms_big := by
  intro w hw
  have h1 := List.all_eq_true.mp hg w hw
  rw [hp] at hw
  obtain ⟨i, -, hi⟩ := List.mem_filterMap.mp hw
  exact ms_at i hi h1
/-- the code word of a method -/
def ms_cd (d : ms_D) : Cond := match d.2.2.2.2.2.2.1 with
  | [] => .code d.1 d.2.1 d.2.2.1 d.2.2.2.1
  | h :: t => .codeWith d.1 d.2.1 d.2.2.1 d.2.2.2.1 (h :: t)
theorem ms_cd_nil {d : ms_D} (h : d.2.2.2.2.2.2.1 = []) : ms_cd d = .code d.1 d.2.1 d.2.2.1 d.2.2.2.1 := by unfold ms_cd; rw [h]
theorem ms_cd_cons {d : ms_D} (h : ¬ d.2.2.2.2.2.2.1 = []) : ms_cd d = .codeWith d.1 d.2.1 d.2.2.1 d.2.2.2.1 d.2.2.2.2.2.2.1 := by
  unfold ms_cd
  cases e : d.2.2.2.2.2.2.1 with
  | nil => exact absurd e h
  | cons x t => rfl
def ms_ws (d : ms_D) : List Cond := ms_cd d :: ms_big
def ms_nF : List (String × Nat × String × String × String × String) := [("StarlingSquare$Grid", 37, "StarlingSquare", "STEP_X", "[I", "StarlingSquare"), ("StarlingSquare$Grid", 40, "StarlingSquare", "STEP_Y", "[I", "StarlingSquare"), ("StarlingSquare$Jams", 51, "StarlingSquare$Crowd", "grid", "LStarlingSquare$Grid;", "StarlingSquare")]
/-- the links between nest mates -/
def ms_nM : List (String × Nat × MethodName × String) := [(RX5, 9, yX1_init, RX5), (RX5, 36, yX2_init, RX5), (RX0, 42, yX4_init, RX5), (RX3, 40, yX5_isGoal, RX5)]
/-- the texts of the exceptions -/
def ms_strs : List (String × Nat × String) := [("StarlingSquare", 53, "an edge is 2 to 14"), ("StarlingSquare", 68, "no such field"), ("StarlingSquare", 85, "a walker is on it"), ("StarlingSquare", 103, "no such goal or field"), ("StarlingSquare", 118, "a walker with that goal is on it"), ("StarlingSquare", 130, "draw is 0 to 9, jam 1 to 20"), ("StarlingSquare", 138, "what is 0 to 3"), ("StarlingSquare", 146, "no such goal"), ("StarlingSquare", 154, "pace is 1 to 3, mood 0 to 9"), ("StarlingSquare", 166, "no walker can come there"), ("StarlingSquare", 172, "no such walker or goal"), ("StarlingSquare", 174, "mood is 0 to 9"), ("StarlingSquare", 183, "it is out, or at that goal"), ("StarlingSquare", 188, "ticks is 1 to 20"), ("StarlingSquare", 199, "what is 0 to 8"), ("StarlingSquare", 208, "no such walker"), ("StarlingSquare", 214, "no such walker, or it is out"), ("StarlingSquare", 216, "side is 0 to 4"), ("StarlingSquare", 225, "k is below 0"), ("StarlingSquare", 241, "ticks is 1 to 60"), ("StarlingSquare", 249, "ticks is 1 to 60, draw 0 to 9")]
/-- who isn't whose -/
def ms_ncs : List (String × String) := [("java/lang/IndexOutOfBoundsException", "java/lang/IllegalArgumentException"), ("java/lang/IllegalStateException", "java/lang/IllegalArgumentException"), ("java/lang/IllegalArgumentException", "java/lang/IndexOutOfBoundsException"), ("java/lang/IllegalStateException", "java/lang/IndexOutOfBoundsException"), ("java/lang/IllegalArgumentException", "java/lang/IllegalStateException"), ("java/lang/IndexOutOfBoundsException", "java/lang/IllegalStateException")]
def ms_exs : List String := ["java/lang/IllegalArgumentException", "java/lang/IllegalStateException", "java/lang/IndexOutOfBoundsException"]
def ms_dcl : List MethodName := [⟨"java/lang/RuntimeException", "<init>", "(Ljava/lang/String;)V"⟩, ⟨"java/lang/Exception", "<init>", "(Ljava/lang/String;)V"⟩, ⟨"java/lang/Throwable", "<init>", "(Ljava/lang/String;)V"⟩]
def ms_names : List String := ["java/lang/RuntimeException", "java/lang/Exception"]
def ms_okR (d d' : ms_D) : Prop := d'.2.2.2.2.1 + 1 ≤ d.2.2.2.2.1 ∧ 8 + (d'.2.2.1 + 11) + d'.2.2.2.2.2.1 ≤ d.2.2.2.2.2.1
def ms_okY (d' : ms_D) (na : Nat) : Prop := d'.1.cls ≠ "java/lang/invoke/MethodHandle" ∧ d'.1.cls ≠ "java/lang/invoke/VarHandle" ∧ (parseMethodDescriptor d'.1.desc).map (fun d => d.parameters.length) = some na
def ms_okF (own : String) (idx ci k : Nat) : Prop := ∃ (C : String) (T : u_T) (N : Nat), vwCl[ci]? = some (C, T, N) ∧ k < N ∧ (∀ w ∈ u_ws C T N, w ∈ ms_big) ∧ Cond.fieldLink own idx C (T k).2.1 (T k).2.2.1 ∈ ms_big ∧ (T k).1 = C
def ms_okP (own : String) (idx ci k : Nat) (ty : FieldType) (fin : Bool) : Prop := ∃ (C : String) (T : u_T) (N : Nat) (t0 : Nat → FieldType), vwCl[ci]? = some (C, T, N) ∧ k < N ∧ (∀ w ∈ u_ws C T N, w ∈ ms_big) ∧ Cond.fieldLink own idx C (T k).2.1 (T k).2.2.1 ∈ ms_big ∧ (T k).1 = C ∧
  (∀ k, k < N → parseFieldDescriptor (T k).2.2.1 = some (t0 k)) ∧ (∀ a, a < N → ∀ b, b < N → a ≠ b → (T a).2.1 ≠ (T b).2.1) ∧ (T k).2.2.2 = fin ∧ t0 k = ty ∧ (fin = true → C = own)
def ms_okN (own : String) (idx ci : Nat) (fs : List Value) : Prop := ∃ (C : String) (T : u_T) (N : Nat) (t0 : Nat → FieldType), vwCl[ci]? = some (C, T, N) ∧ (∀ w ∈ u_ws C T N, w ∈ ms_big) ∧ (∀ k, k < N → parseFieldDescriptor (T k).2.2.1 = some (t0 k)) ∧ Cond.classLink own idx C ∈ ms_big ∧ Cond.instantiable C N ∈ ms_big ∧ Cond.initialized C ∈ ms_big ∧ fs = (List.range N).map (fun j => defaultValue (t0 j))
/-- the words of a virtual call: its link, that it is there, what it selects -/
def ms_okV (own : String) (idx : Nat) (d' : ms_D) (ci na : Nat) : Prop := Cond.methodLink own idx d'.1 ∈ ms_big ∧ (∀ w ∈ [Cond.instanceMethod d'.1, Cond.selects d'.1.cls d'.1 d'.1, Cond.initialized d'.1.cls, ms_cd d'], w ∈ ms_big) ∧ (∃ (T : u_T) (N : Nat), vwCl[ci]? = some (d'.1.cls, T, N)) ∧ ms_okY d' na ∧ d'.2.2.2.2.2.2.1 = []
def ms_okS (own : String) (idx : Nat) (d' : ms_D) (na : Nat) : Prop := d'.1.cls = own ∧ Cond.methodLink own idx d'.1 ∈ ms_big ∧ (∀ w ∈ [Cond.static d'.1, Cond.initialized own, ms_cd d'], w ∈ ms_big) ∧ ms_okY d' na
/-- a static call of a nest mate's private method -/
def ms_okSN (own : String) (idx : Nat) (d' : ms_D) (host : String) (na : Nat) : Prop := (own, idx, d'.1, host) ∈ ms_nM ∧ (∀ w ∈ [Cond.static d'.1, Cond.initialized d'.1.cls, ms_cd d'], w ∈ ms_big) ∧ ms_okY d' na ∧ d'.2.2.2.2.2.2.1 = []
/-- a constructor's call -/
def ms_okI (own : String) (idx : Nat) (d' : ms_D) (na : Nat) : Prop := Cond.methodLink own idx d'.1 ∈ ms_big ∧ (∀ w ∈ [Cond.instanceMethod d'.1, Cond.initialized d'.1.cls, ms_cd d'], w ∈ ms_big) ∧ d'.1.name = "<init>" ∧ ms_okY d' na ∧ d'.2.2.2.2.2.2.1 = [] ∧ d'.2.2.2.1 = none
def ms_okIN (own : String) (idx : Nat) (d' : ms_D) (host : String) (na : Nat) : Prop := (own, idx, d'.1, host) ∈ ms_nM ∧ (∀ w ∈ [Cond.instanceMethod d'.1, Cond.initialized d'.1.cls, ms_cd d'], w ∈ ms_big) ∧ d'.1.name = "<init>" ∧ ms_okY d' na ∧ d'.2.2.2.2.2.2.1 = [] ∧ d'.2.2.2.1 = none
/-- a throw: class and its constructor, the text -/
def ms_okT (own : String) (ik is ic : Nat) (E text : String) : Prop := Bundle.fit E = true ∧ (∀ n ∈ ms_names, Bundle.fit n = true) ∧ (∀ w ∈ Cond.classLink own ik E :: Cond.initialized E :: (vx_atS own ic E ms_names).filter goodWord, w ∈ ms_big) ∧ (own, is, text) ∈ ms_strs ∧ (∀ w ∈ (vx_atS own ic E ms_names).filter (fun w => !goodWord w), w ∈ Cond.castable E E :: ms_dcl.map Cond.declares) ∧ E ∈ ms_exs
theorem ms_asg (vm : Vm) (c : ClassId) : vm.assignable c c = true := by
  show vm.assignableAux (255 + 1) c c = true
  unfold Vm.assignableAux
  rw [beq_self_eq_true, Bool.true_or]
theorem ms_cas {args : Array Value} {s : State} {E : String} (h : ∃ c, s.vm.findClass E = some c) : (Cond.castable E E).before args s = true := by
  obtain ⟨c, h⟩ := h
  have e := ms_asg s.vm c
  simp [Cond.before, Cond.holds, Cond.value, h, e]
/-- E, thrown at pc, is caught at hpc -/
def ms_hd (d : ms_D) (E : String) (pc hpc : Nat) : Prop := ∃ (pre suf : List ExceptionTableEntry) (x : ExceptionTableEntry) (name : String), tableOf d.2.2.2.2.2.2.1 = pre ++ x :: suf ∧ (∀ z ∈ pre, z.catchType ≠ 0 ∧ ∃ nm : String, Cond.classLink d.1.cls z.catchType nm ∈ ms_big ∧ (E, nm) ∈ ms_ncs) ∧ covers x pc = true ∧ x.catchType ≠ 0 ∧ Cond.classLink d.1.cls x.catchType name ∈ ms_big ∧ name = E ∧ E ∈ ms_exs ∧ x.handlerPc = hpc
end
section
/-! methods as descriptors; the words of fields, calls, objects: printed by wip/whole/gen04_links.py -/
theorem iwX0 : ∀ w ∈ u_ws RX0 TX0 10, w ∈ ms_big := ms_sub _ [189, 191, 193, 195, 197, 199, 201, 203, 205, 207] (by decide +kernel) (by decide +kernel)
theorem iwX1 : ∀ w ∈ u_ws RX1 TX1 4, w ∈ ms_big := ms_sub _ [82, 84, 86, 88] (by decide +kernel) (by decide +kernel)
theorem iwX2 : ∀ w ∈ u_ws RX2 TX2 5, w ∈ ms_big := ms_sub _ [223, 225, 227, 229, 231] (by decide +kernel) (by decide +kernel)
theorem iwX3 : ∀ w ∈ u_ws RX3 TX3 5, w ∈ ms_big := ms_sub _ [103, 105, 107, 109, 111] (by decide +kernel) (by decide +kernel)
theorem iwX4 : ∀ w ∈ u_ws RX4 TX4 11, w ∈ ms_big := ms_sub _ [150, 152, 154, 156, 158, 160, 162, 164, 166, 168, 170] (by decide +kernel) (by decide +kernel)
theorem iwX5 : ∀ w ∈ u_ws RX5 TX5 6, w ∈ ms_big := ms_sub _ [272, 274, 276, 278, 280, 282] (by decide +kernel) (by decide +kernel)
theorem iwX6 : ∀ w ∈ u_ws RX6 TX6 11, w ∈ ms_big := ms_sub _ [864, 866, 868, 870, 872, 874, 876, 878, 880, 882, 884] (by decide +kernel) (by decide +kernel)
theorem fg_X5_10 : ms_okF RX5 10 5 0 := ⟨RX5, TX5, 6, rfl, by decide, iwX5, (ms_at 266 (by decide +kernel) rfl), rfl⟩
theorem fg_X5_21 : ms_okF RX5 21 5 1 := ⟨RX5, TX5, 6, rfl, by decide, iwX5, (ms_at 267 (by decide +kernel) rfl), rfl⟩
theorem fg_X5_30 : ms_okF RX5 30 5 2 := ⟨RX5, TX5, 6, rfl, by decide, iwX5, (ms_at 268 (by decide +kernel) rfl), rfl⟩
theorem fg_X5_37 : ms_okF RX5 37 5 3 := ⟨RX5, TX5, 6, rfl, by decide, iwX5, (ms_at 269 (by decide +kernel) rfl), rfl⟩
theorem fg_X5_41 : ms_okF RX5 41 5 4 := ⟨RX5, TX5, 6, rfl, by decide, iwX5, (ms_at 270 (by decide +kernel) rfl), rfl⟩
theorem fg_X5_44 : ms_okF RX5 44 5 5 := ⟨RX5, TX5, 6, rfl, by decide, iwX5, (ms_at 271 (by decide +kernel) rfl), rfl⟩
theorem fg_X5_58 : ms_okF RX5 58 1 0 := ⟨RX1, TX1, 4, rfl, by decide, iwX1, (ms_at 76 (by decide +kernel) rfl), rfl⟩
theorem fg_X5_113 : ms_okF RX5 113 4 0 := ⟨RX4, TX4, 11, rfl, by decide, iwX4, (ms_at 128 (by decide +kernel) rfl), rfl⟩
theorem fg_X5_132 : ms_okF RX5 132 0 2 := ⟨RX0, TX0, 10, rfl, by decide, iwX0, (ms_at 179 (by decide +kernel) rfl), rfl⟩
theorem fg_X5_163 : ms_okF RX5 163 0 0 := ⟨RX0, TX0, 10, rfl, by decide, iwX0, (ms_at 175 (by decide +kernel) rfl), rfl⟩
theorem fg_X5_180 : ms_okF RX5 180 4 3 := ⟨RX4, TX4, 11, rfl, by decide, iwX4, (ms_at 137 (by decide +kernel) rfl), rfl⟩
theorem fg_X5_196 : ms_okF RX5 196 0 1 := ⟨RX0, TX0, 10, rfl, by decide, iwX0, (ms_at 177 (by decide +kernel) rfl), rfl⟩
theorem fg_X5_291 : ms_okF RX5 291 2 1 := ⟨RX2, TX2, 5, rfl, by decide, iwX2, (ms_at 219 (by decide +kernel) rfl), rfl⟩
theorem fg_X5_294 : ms_okF RX5 294 2 0 := ⟨RX2, TX2, 5, rfl, by decide, iwX2, (ms_at 217 (by decide +kernel) rfl), rfl⟩
theorem fg_X0_9 : ms_okF RX0 9 0 2 := ⟨RX0, TX0, 10, rfl, by decide, iwX0, (ms_at 178 (by decide +kernel) rfl), rfl⟩
theorem fg_X0_15 : ms_okF RX0 15 0 3 := ⟨RX0, TX0, 10, rfl, by decide, iwX0, (ms_at 180 (by decide +kernel) rfl), rfl⟩
theorem fg_X0_20 : ms_okF RX0 20 0 6 := ⟨RX0, TX0, 10, rfl, by decide, iwX0, (ms_at 185 (by decide +kernel) rfl), rfl⟩
theorem fg_X0_24 : ms_okF RX0 24 0 7 := ⟨RX0, TX0, 10, rfl, by decide, iwX0, (ms_at 186 (by decide +kernel) rfl), rfl⟩
theorem fg_X0_28 : ms_okF RX0 28 0 8 := ⟨RX0, TX0, 10, rfl, by decide, iwX0, (ms_at 187 (by decide +kernel) rfl), rfl⟩
theorem fg_X0_31 : ms_okF RX0 31 0 9 := ⟨RX0, TX0, 10, rfl, by decide, iwX0, (ms_at 188 (by decide +kernel) rfl), rfl⟩
theorem fg_X0_34 : ms_okF RX0 34 0 4 := ⟨RX0, TX0, 10, rfl, by decide, iwX0, (ms_at 182 (by decide +kernel) rfl), rfl⟩
theorem fg_X0_38 : ms_okF RX0 38 0 5 := ⟨RX0, TX0, 10, rfl, by decide, iwX0, (ms_at 184 (by decide +kernel) rfl), rfl⟩
theorem fg_X0_43 : ms_okF RX0 43 0 0 := ⟨RX0, TX0, 10, rfl, by decide, iwX0, (ms_at 173 (by decide +kernel) rfl), rfl⟩
theorem fg_X0_46 : ms_okF RX0 46 0 1 := ⟨RX0, TX0, 10, rfl, by decide, iwX0, (ms_at 176 (by decide +kernel) rfl), rfl⟩
theorem fg_X0_85 : ms_okF RX0 85 1 0 := ⟨RX1, TX1, 4, rfl, by decide, iwX1, (ms_at 78 (by decide +kernel) rfl), rfl⟩
theorem fg_X0_95 : ms_okF RX0 95 4 0 := ⟨RX4, TX4, 11, rfl, by decide, iwX4, (ms_at 129 (by decide +kernel) rfl), rfl⟩
theorem fg_X0_98 : ms_okF RX0 98 4 3 := ⟨RX4, TX4, 11, rfl, by decide, iwX4, (ms_at 138 (by decide +kernel) rfl), rfl⟩
theorem fg_X0_106 : ms_okF RX0 106 4 6 := ⟨RX4, TX4, 11, rfl, by decide, iwX4, (ms_at 144 (by decide +kernel) rfl), rfl⟩
theorem fg_X0_109 : ms_okF RX0 109 4 1 := ⟨RX4, TX4, 11, rfl, by decide, iwX4, (ms_at 131 (by decide +kernel) rfl), rfl⟩
theorem fg_X0_112 : ms_okF RX0 112 4 2 := ⟨RX4, TX4, 11, rfl, by decide, iwX4, (ms_at 134 (by decide +kernel) rfl), rfl⟩
theorem fg_X0_115 : ms_okF RX0 115 4 4 := ⟨RX4, TX4, 11, rfl, by decide, iwX4, (ms_at 140 (by decide +kernel) rfl), rfl⟩
theorem fg_X0_118 : ms_okF RX0 118 4 5 := ⟨RX4, TX4, 11, rfl, by decide, iwX4, (ms_at 142 (by decide +kernel) rfl), rfl⟩
theorem fg_X0_121 : ms_okF RX0 121 4 7 := ⟨RX4, TX4, 11, rfl, by decide, iwX4, (ms_at 146 (by decide +kernel) rfl), rfl⟩
theorem fg_X0_154 : ms_okF RX0 154 4 8 := ⟨RX4, TX4, 11, rfl, by decide, iwX4, (ms_at 147 (by decide +kernel) rfl), rfl⟩
theorem fg_X0_173 : ms_okF RX0 173 4 9 := ⟨RX4, TX4, 11, rfl, by decide, iwX4, (ms_at 148 (by decide +kernel) rfl), rfl⟩
theorem fg_X0_176 : ms_okF RX0 176 4 10 := ⟨RX4, TX4, 11, rfl, by decide, iwX4, (ms_at 149 (by decide +kernel) rfl), rfl⟩
theorem fg_X1_9 : ms_okF RX1 9 1 3 := ⟨RX1, TX1, 4, rfl, by decide, iwX1, (ms_at 81 (by decide +kernel) rfl), rfl⟩
theorem fg_X1_15 : ms_okF RX1 15 1 1 := ⟨RX1, TX1, 4, rfl, by decide, iwX1, (ms_at 79 (by decide +kernel) rfl), rfl⟩
theorem fg_X1_19 : ms_okF RX1 19 1 2 := ⟨RX1, TX1, 4, rfl, by decide, iwX1, (ms_at 80 (by decide +kernel) rfl), rfl⟩
theorem fg_X1_22 : ms_okF RX1 22 1 0 := ⟨RX1, TX1, 4, rfl, by decide, iwX1, (ms_at 75 (by decide +kernel) rfl), rfl⟩
theorem fg_X2_9 : ms_okF RX2 9 2 2 := ⟨RX2, TX2, 5, rfl, by decide, iwX2, (ms_at 220 (by decide +kernel) rfl), rfl⟩
theorem fg_X2_15 : ms_okF RX2 15 2 3 := ⟨RX2, TX2, 5, rfl, by decide, iwX2, (ms_at 221 (by decide +kernel) rfl), rfl⟩
theorem fg_X2_18 : ms_okF RX2 18 2 4 := ⟨RX2, TX2, 5, rfl, by decide, iwX2, (ms_at 222 (by decide +kernel) rfl), rfl⟩
theorem fg_X2_21 : ms_okF RX2 21 2 0 := ⟨RX2, TX2, 5, rfl, by decide, iwX2, (ms_at 216 (by decide +kernel) rfl), rfl⟩
theorem fg_X2_25 : ms_okF RX2 25 2 1 := ⟨RX2, TX2, 5, rfl, by decide, iwX2, (ms_at 218 (by decide +kernel) rfl), rfl⟩
theorem fg_X2_28 : ms_okF RX2 28 0 0 := ⟨RX0, TX0, 10, rfl, by decide, iwX0, (ms_at 174 (by decide +kernel) rfl), rfl⟩
theorem fg_X2_55 : ms_okF RX2 55 4 3 := ⟨RX4, TX4, 11, rfl, by decide, iwX4, (ms_at 136 (by decide +kernel) rfl), rfl⟩
theorem fg_X3_9 : ms_okF RX3 9 3 1 := ⟨RX3, TX3, 5, rfl, by decide, iwX3, (ms_at 99 (by decide +kernel) rfl), rfl⟩
theorem fg_X3_15 : ms_okF RX3 15 3 2 := ⟨RX3, TX3, 5, rfl, by decide, iwX3, (ms_at 100 (by decide +kernel) rfl), rfl⟩
theorem fg_X3_18 : ms_okF RX3 18 3 3 := ⟨RX3, TX3, 5, rfl, by decide, iwX3, (ms_at 101 (by decide +kernel) rfl), rfl⟩
theorem fg_X3_21 : ms_okF RX3 21 3 4 := ⟨RX3, TX3, 5, rfl, by decide, iwX3, (ms_at 102 (by decide +kernel) rfl), rfl⟩
theorem fg_X3_24 : ms_okF RX3 24 3 0 := ⟨RX3, TX3, 5, rfl, by decide, iwX3, (ms_at 98 (by decide +kernel) rfl), rfl⟩
theorem fg_X3_43 : ms_okF RX3 43 1 0 := ⟨RX1, TX1, 4, rfl, by decide, iwX1, (ms_at 77 (by decide +kernel) rfl), rfl⟩
theorem fg_X4_9 : ms_okF RX4 9 4 0 := ⟨RX4, TX4, 11, rfl, by decide, iwX4, (ms_at 127 (by decide +kernel) rfl), rfl⟩
theorem fg_X4_15 : ms_okF RX4 15 4 1 := ⟨RX4, TX4, 11, rfl, by decide, iwX4, (ms_at 130 (by decide +kernel) rfl), rfl⟩
theorem fg_X4_18 : ms_okF RX4 18 4 2 := ⟨RX4, TX4, 11, rfl, by decide, iwX4, (ms_at 132 (by decide +kernel) rfl), rfl⟩
theorem fg_X4_21 : ms_okF RX4 21 4 3 := ⟨RX4, TX4, 11, rfl, by decide, iwX4, (ms_at 135 (by decide +kernel) rfl), rfl⟩
theorem fg_X4_24 : ms_okF RX4 24 4 4 := ⟨RX4, TX4, 11, rfl, by decide, iwX4, (ms_at 139 (by decide +kernel) rfl), rfl⟩
theorem fg_X4_27 : ms_okF RX4 27 4 5 := ⟨RX4, TX4, 11, rfl, by decide, iwX4, (ms_at 141 (by decide +kernel) rfl), rfl⟩
theorem fg_X4_30 : ms_okF RX4 30 4 6 := ⟨RX4, TX4, 11, rfl, by decide, iwX4, (ms_at 143 (by decide +kernel) rfl), rfl⟩
theorem fg_X4_33 : ms_okF RX4 33 4 7 := ⟨RX4, TX4, 11, rfl, by decide, iwX4, (ms_at 145 (by decide +kernel) rfl), rfl⟩
theorem fg_X6_7 : ms_okF RX6 7 6 4 := ⟨RX6, TX6, 11, rfl, by decide, iwX6, (ms_at 857 (by decide +kernel) rfl), rfl⟩
theorem fg_X6_13 : ms_okF RX6 13 6 5 := ⟨RX6, TX6, 11, rfl, by decide, iwX6, (ms_at 858 (by decide +kernel) rfl), rfl⟩
theorem fg_X6_20 : ms_okF RX6 20 6 1 := ⟨RX6, TX6, 11, rfl, by decide, iwX6, (ms_at 854 (by decide +kernel) rfl), rfl⟩
theorem fg_X6_23 : ms_okF RX6 23 6 2 := ⟨RX6, TX6, 11, rfl, by decide, iwX6, (ms_at 855 (by decide +kernel) rfl), rfl⟩
theorem fg_X6_26 : ms_okF RX6 26 6 3 := ⟨RX6, TX6, 11, rfl, by decide, iwX6, (ms_at 856 (by decide +kernel) rfl), rfl⟩
theorem fg_X6_29 : ms_okF RX6 29 6 6 := ⟨RX6, TX6, 11, rfl, by decide, iwX6, (ms_at 859 (by decide +kernel) rfl), rfl⟩
theorem fg_X6_33 : ms_okF RX6 33 6 7 := ⟨RX6, TX6, 11, rfl, by decide, iwX6, (ms_at 860 (by decide +kernel) rfl), rfl⟩
theorem fg_X6_36 : ms_okF RX6 36 6 8 := ⟨RX6, TX6, 11, rfl, by decide, iwX6, (ms_at 861 (by decide +kernel) rfl), rfl⟩
theorem fg_X6_39 : ms_okF RX6 39 6 9 := ⟨RX6, TX6, 11, rfl, by decide, iwX6, (ms_at 862 (by decide +kernel) rfl), rfl⟩
theorem fg_X6_43 : ms_okF RX6 43 6 10 := ⟨RX6, TX6, 11, rfl, by decide, iwX6, (ms_at 863 (by decide +kernel) rfl), rfl⟩
theorem fg_X6_46 : ms_okF RX6 46 6 0 := ⟨RX6, TX6, 11, rfl, by decide, iwX6, (ms_at 853 (by decide +kernel) rfl), rfl⟩
theorem fp_X5_10 : ms_okP RX5 10 5 0 (tyX5 0) true := ⟨RX5, TX5, 6, tyX5, rfl, by decide, iwX5, (ms_at 266 (by decide +kernel) rfl), rfl, tyX5_ok, nmX5, rfl, rfl, fun _ => rfl⟩
theorem fp_X5_21 : ms_okP RX5 21 5 1 (tyX5 1) true := ⟨RX5, TX5, 6, tyX5, rfl, by decide, iwX5, (ms_at 267 (by decide +kernel) rfl), rfl, tyX5_ok, nmX5, rfl, rfl, fun _ => rfl⟩
theorem fp_X5_30 : ms_okP RX5 30 5 2 (tyX5 2) true := ⟨RX5, TX5, 6, tyX5, rfl, by decide, iwX5, (ms_at 268 (by decide +kernel) rfl), rfl, tyX5_ok, nmX5, rfl, rfl, fun _ => rfl⟩
theorem fp_X5_37 : ms_okP RX5 37 5 3 (tyX5 3) true := ⟨RX5, TX5, 6, tyX5, rfl, by decide, iwX5, (ms_at 269 (by decide +kernel) rfl), rfl, tyX5_ok, nmX5, rfl, rfl, fun _ => rfl⟩
theorem fp_X5_41 : ms_okP RX5 41 5 4 (tyX5 4) true := ⟨RX5, TX5, 6, tyX5, rfl, by decide, iwX5, (ms_at 270 (by decide +kernel) rfl), rfl, tyX5_ok, nmX5, rfl, rfl, fun _ => rfl⟩
theorem fp_X5_44 : ms_okP RX5 44 5 5 (tyX5 5) true := ⟨RX5, TX5, 6, tyX5, rfl, by decide, iwX5, (ms_at 271 (by decide +kernel) rfl), rfl, tyX5_ok, nmX5, rfl, rfl, fun _ => rfl⟩
theorem fp_X5_113 : ms_okP RX5 113 4 0 (tyX4 0) false := ⟨RX4, TX4, 11, tyX4, rfl, by decide, iwX4, (ms_at 128 (by decide +kernel) rfl), rfl, tyX4_ok, nmX4, rfl, rfl, fun h => by cases h⟩
theorem fp_X5_132 : ms_okP RX5 132 0 2 (tyX0 2) false := ⟨RX0, TX0, 10, tyX0, rfl, by decide, iwX0, (ms_at 179 (by decide +kernel) rfl), rfl, tyX0_ok, nmX0, rfl, rfl, fun h => by cases h⟩
theorem fp_X5_135 : ms_okP RX5 135 0 3 (tyX0 3) false := ⟨RX0, TX0, 10, tyX0, rfl, by decide, iwX0, (ms_at 181 (by decide +kernel) rfl), rfl, tyX0_ok, nmX0, rfl, rfl, fun h => by cases h⟩
theorem fp_X5_185 : ms_okP RX5 185 4 2 (tyX4 2) false := ⟨RX4, TX4, 11, tyX4, rfl, by decide, iwX4, (ms_at 133 (by decide +kernel) rfl), rfl, tyX4_ok, nmX4, rfl, rfl, fun h => by cases h⟩
theorem fp_X0_9 : ms_okP RX0 9 0 2 (tyX0 2) false := ⟨RX0, TX0, 10, tyX0, rfl, by decide, iwX0, (ms_at 178 (by decide +kernel) rfl), rfl, tyX0_ok, nmX0, rfl, rfl, fun h => by cases h⟩
theorem fp_X0_15 : ms_okP RX0 15 0 3 (tyX0 3) false := ⟨RX0, TX0, 10, tyX0, rfl, by decide, iwX0, (ms_at 180 (by decide +kernel) rfl), rfl, tyX0_ok, nmX0, rfl, rfl, fun h => by cases h⟩
theorem fp_X0_20 : ms_okP RX0 20 0 6 (tyX0 6) true := ⟨RX0, TX0, 10, tyX0, rfl, by decide, iwX0, (ms_at 185 (by decide +kernel) rfl), rfl, tyX0_ok, nmX0, rfl, rfl, fun _ => rfl⟩
theorem fp_X0_24 : ms_okP RX0 24 0 7 (tyX0 7) true := ⟨RX0, TX0, 10, tyX0, rfl, by decide, iwX0, (ms_at 186 (by decide +kernel) rfl), rfl, tyX0_ok, nmX0, rfl, rfl, fun _ => rfl⟩
theorem fp_X0_28 : ms_okP RX0 28 0 8 (tyX0 8) true := ⟨RX0, TX0, 10, tyX0, rfl, by decide, iwX0, (ms_at 187 (by decide +kernel) rfl), rfl, tyX0_ok, nmX0, rfl, rfl, fun _ => rfl⟩
theorem fp_X0_31 : ms_okP RX0 31 0 9 (tyX0 9) true := ⟨RX0, TX0, 10, tyX0, rfl, by decide, iwX0, (ms_at 188 (by decide +kernel) rfl), rfl, tyX0_ok, nmX0, rfl, rfl, fun _ => rfl⟩
theorem fp_X0_34 : ms_okP RX0 34 0 4 (tyX0 4) true := ⟨RX0, TX0, 10, tyX0, rfl, by decide, iwX0, (ms_at 182 (by decide +kernel) rfl), rfl, tyX0_ok, nmX0, rfl, rfl, fun _ => rfl⟩
theorem fp_X0_38 : ms_okP RX0 38 0 5 (tyX0 5) true := ⟨RX0, TX0, 10, tyX0, rfl, by decide, iwX0, (ms_at 184 (by decide +kernel) rfl), rfl, tyX0_ok, nmX0, rfl, rfl, fun _ => rfl⟩
theorem fp_X0_43 : ms_okP RX0 43 0 0 (tyX0 0) false := ⟨RX0, TX0, 10, tyX0, rfl, by decide, iwX0, (ms_at 173 (by decide +kernel) rfl), rfl, tyX0_ok, nmX0, rfl, rfl, fun h => by cases h⟩
theorem fp_X0_46 : ms_okP RX0 46 0 1 (tyX0 1) false := ⟨RX0, TX0, 10, tyX0, rfl, by decide, iwX0, (ms_at 176 (by decide +kernel) rfl), rfl, tyX0_ok, nmX0, rfl, rfl, fun h => by cases h⟩
theorem fp_X0_98 : ms_okP RX0 98 4 3 (tyX4 3) false := ⟨RX4, TX4, 11, tyX4, rfl, by decide, iwX4, (ms_at 138 (by decide +kernel) rfl), rfl, tyX4_ok, nmX4, rfl, rfl, fun h => by cases h⟩
theorem fp_X0_106 : ms_okP RX0 106 4 6 (tyX4 6) false := ⟨RX4, TX4, 11, tyX4, rfl, by decide, iwX4, (ms_at 144 (by decide +kernel) rfl), rfl, tyX4_ok, nmX4, rfl, rfl, fun h => by cases h⟩
theorem fp_X0_115 : ms_okP RX0 115 4 4 (tyX4 4) false := ⟨RX4, TX4, 11, tyX4, rfl, by decide, iwX4, (ms_at 140 (by decide +kernel) rfl), rfl, tyX4_ok, nmX4, rfl, rfl, fun h => by cases h⟩
theorem fp_X0_118 : ms_okP RX0 118 4 5 (tyX4 5) false := ⟨RX4, TX4, 11, tyX4, rfl, by decide, iwX4, (ms_at 142 (by decide +kernel) rfl), rfl, tyX4_ok, nmX4, rfl, rfl, fun h => by cases h⟩
theorem fp_X0_121 : ms_okP RX0 121 4 7 (tyX4 7) false := ⟨RX4, TX4, 11, tyX4, rfl, by decide, iwX4, (ms_at 146 (by decide +kernel) rfl), rfl, tyX4_ok, nmX4, rfl, rfl, fun h => by cases h⟩
theorem fp_X0_154 : ms_okP RX0 154 4 8 (tyX4 8) false := ⟨RX4, TX4, 11, tyX4, rfl, by decide, iwX4, (ms_at 147 (by decide +kernel) rfl), rfl, tyX4_ok, nmX4, rfl, rfl, fun h => by cases h⟩
theorem fp_X0_173 : ms_okP RX0 173 4 9 (tyX4 9) false := ⟨RX4, TX4, 11, tyX4, rfl, by decide, iwX4, (ms_at 148 (by decide +kernel) rfl), rfl, tyX4_ok, nmX4, rfl, rfl, fun h => by cases h⟩
theorem fp_X0_176 : ms_okP RX0 176 4 10 (tyX4 10) false := ⟨RX4, TX4, 11, tyX4, rfl, by decide, iwX4, (ms_at 149 (by decide +kernel) rfl), rfl, tyX4_ok, nmX4, rfl, rfl, fun h => by cases h⟩
theorem fp_X1_9 : ms_okP RX1 9 1 3 (tyX1 3) true := ⟨RX1, TX1, 4, tyX1, rfl, by decide, iwX1, (ms_at 81 (by decide +kernel) rfl), rfl, tyX1_ok, nmX1, rfl, rfl, fun _ => rfl⟩
theorem fp_X1_15 : ms_okP RX1 15 1 1 (tyX1 1) false := ⟨RX1, TX1, 4, tyX1, rfl, by decide, iwX1, (ms_at 79 (by decide +kernel) rfl), rfl, tyX1_ok, nmX1, rfl, rfl, fun h => by cases h⟩
theorem fp_X1_19 : ms_okP RX1 19 1 2 (tyX1 2) false := ⟨RX1, TX1, 4, tyX1, rfl, by decide, iwX1, (ms_at 80 (by decide +kernel) rfl), rfl, tyX1_ok, nmX1, rfl, rfl, fun h => by cases h⟩
theorem fp_X1_22 : ms_okP RX1 22 1 0 (tyX1 0) false := ⟨RX1, TX1, 4, tyX1, rfl, by decide, iwX1, (ms_at 75 (by decide +kernel) rfl), rfl, tyX1_ok, nmX1, rfl, rfl, fun h => by cases h⟩
theorem fp_X2_9 : ms_okP RX2 9 2 2 (tyX2 2) true := ⟨RX2, TX2, 5, tyX2, rfl, by decide, iwX2, (ms_at 220 (by decide +kernel) rfl), rfl, tyX2_ok, nmX2, rfl, rfl, fun _ => rfl⟩
theorem fp_X2_15 : ms_okP RX2 15 2 3 (tyX2 3) true := ⟨RX2, TX2, 5, tyX2, rfl, by decide, iwX2, (ms_at 221 (by decide +kernel) rfl), rfl, tyX2_ok, nmX2, rfl, rfl, fun _ => rfl⟩
theorem fp_X2_18 : ms_okP RX2 18 2 4 (tyX2 4) true := ⟨RX2, TX2, 5, tyX2, rfl, by decide, iwX2, (ms_at 222 (by decide +kernel) rfl), rfl, tyX2_ok, nmX2, rfl, rfl, fun _ => rfl⟩
theorem fp_X2_21 : ms_okP RX2 21 2 0 (tyX2 0) false := ⟨RX2, TX2, 5, tyX2, rfl, by decide, iwX2, (ms_at 216 (by decide +kernel) rfl), rfl, tyX2_ok, nmX2, rfl, rfl, fun h => by cases h⟩
theorem fp_X2_25 : ms_okP RX2 25 2 1 (tyX2 1) false := ⟨RX2, TX2, 5, tyX2, rfl, by decide, iwX2, (ms_at 218 (by decide +kernel) rfl), rfl, tyX2_ok, nmX2, rfl, rfl, fun h => by cases h⟩
theorem fp_X3_9 : ms_okP RX3 9 3 1 (tyX3 1) true := ⟨RX3, TX3, 5, tyX3, rfl, by decide, iwX3, (ms_at 99 (by decide +kernel) rfl), rfl, tyX3_ok, nmX3, rfl, rfl, fun _ => rfl⟩
theorem fp_X3_15 : ms_okP RX3 15 3 2 (tyX3 2) true := ⟨RX3, TX3, 5, tyX3, rfl, by decide, iwX3, (ms_at 100 (by decide +kernel) rfl), rfl, tyX3_ok, nmX3, rfl, rfl, fun _ => rfl⟩
theorem fp_X3_18 : ms_okP RX3 18 3 3 (tyX3 3) true := ⟨RX3, TX3, 5, tyX3, rfl, by decide, iwX3, (ms_at 101 (by decide +kernel) rfl), rfl, tyX3_ok, nmX3, rfl, rfl, fun _ => rfl⟩
theorem fp_X3_21 : ms_okP RX3 21 3 4 (tyX3 4) true := ⟨RX3, TX3, 5, tyX3, rfl, by decide, iwX3, (ms_at 102 (by decide +kernel) rfl), rfl, tyX3_ok, nmX3, rfl, rfl, fun _ => rfl⟩
theorem fp_X3_24 : ms_okP RX3 24 3 0 (tyX3 0) true := ⟨RX3, TX3, 5, tyX3, rfl, by decide, iwX3, (ms_at 98 (by decide +kernel) rfl), rfl, tyX3_ok, nmX3, rfl, rfl, fun _ => rfl⟩
theorem fp_X4_9 : ms_okP RX4 9 4 0 (tyX4 0) false := ⟨RX4, TX4, 11, tyX4, rfl, by decide, iwX4, (ms_at 127 (by decide +kernel) rfl), rfl, tyX4_ok, nmX4, rfl, rfl, fun h => by cases h⟩
theorem fp_X4_15 : ms_okP RX4 15 4 1 (tyX4 1) false := ⟨RX4, TX4, 11, tyX4, rfl, by decide, iwX4, (ms_at 130 (by decide +kernel) rfl), rfl, tyX4_ok, nmX4, rfl, rfl, fun h => by cases h⟩
theorem fp_X4_18 : ms_okP RX4 18 4 2 (tyX4 2) false := ⟨RX4, TX4, 11, tyX4, rfl, by decide, iwX4, (ms_at 132 (by decide +kernel) rfl), rfl, tyX4_ok, nmX4, rfl, rfl, fun h => by cases h⟩
theorem fp_X4_21 : ms_okP RX4 21 4 3 (tyX4 3) false := ⟨RX4, TX4, 11, tyX4, rfl, by decide, iwX4, (ms_at 135 (by decide +kernel) rfl), rfl, tyX4_ok, nmX4, rfl, rfl, fun h => by cases h⟩
theorem fp_X4_24 : ms_okP RX4 24 4 4 (tyX4 4) false := ⟨RX4, TX4, 11, tyX4, rfl, by decide, iwX4, (ms_at 139 (by decide +kernel) rfl), rfl, tyX4_ok, nmX4, rfl, rfl, fun h => by cases h⟩
theorem fp_X4_27 : ms_okP RX4 27 4 5 (tyX4 5) false := ⟨RX4, TX4, 11, tyX4, rfl, by decide, iwX4, (ms_at 141 (by decide +kernel) rfl), rfl, tyX4_ok, nmX4, rfl, rfl, fun h => by cases h⟩
theorem fp_X4_30 : ms_okP RX4 30 4 6 (tyX4 6) false := ⟨RX4, TX4, 11, tyX4, rfl, by decide, iwX4, (ms_at 143 (by decide +kernel) rfl), rfl, tyX4_ok, nmX4, rfl, rfl, fun h => by cases h⟩
theorem fp_X4_33 : ms_okP RX4 33 4 7 (tyX4 7) false := ⟨RX4, TX4, 11, tyX4, rfl, by decide, iwX4, (ms_at 145 (by decide +kernel) rfl), rfl, tyX4_ok, nmX4, rfl, rfl, fun h => by cases h⟩
theorem fp_X6_7 : ms_okP RX6 7 6 4 (tyX6 4) false := ⟨RX6, TX6, 11, tyX6, rfl, by decide, iwX6, (ms_at 857 (by decide +kernel) rfl), rfl, tyX6_ok, nmX6, rfl, rfl, fun h => by cases h⟩
theorem fp_X6_13 : ms_okP RX6 13 6 5 (tyX6 5) false := ⟨RX6, TX6, 11, tyX6, rfl, by decide, iwX6, (ms_at 858 (by decide +kernel) rfl), rfl, tyX6_ok, nmX6, rfl, rfl, fun h => by cases h⟩
theorem fp_X6_20 : ms_okP RX6 20 6 1 (tyX6 1) false := ⟨RX6, TX6, 11, tyX6, rfl, by decide, iwX6, (ms_at 854 (by decide +kernel) rfl), rfl, tyX6_ok, nmX6, rfl, rfl, fun h => by cases h⟩
theorem fp_X6_23 : ms_okP RX6 23 6 2 (tyX6 2) false := ⟨RX6, TX6, 11, tyX6, rfl, by decide, iwX6, (ms_at 855 (by decide +kernel) rfl), rfl, tyX6_ok, nmX6, rfl, rfl, fun h => by cases h⟩
theorem fp_X6_26 : ms_okP RX6 26 6 3 (tyX6 3) false := ⟨RX6, TX6, 11, tyX6, rfl, by decide, iwX6, (ms_at 856 (by decide +kernel) rfl), rfl, tyX6_ok, nmX6, rfl, rfl, fun h => by cases h⟩
theorem fp_X6_29 : ms_okP RX6 29 6 6 (tyX6 6) false := ⟨RX6, TX6, 11, tyX6, rfl, by decide, iwX6, (ms_at 859 (by decide +kernel) rfl), rfl, tyX6_ok, nmX6, rfl, rfl, fun h => by cases h⟩
theorem fp_X6_33 : ms_okP RX6 33 6 7 (tyX6 7) false := ⟨RX6, TX6, 11, tyX6, rfl, by decide, iwX6, (ms_at 860 (by decide +kernel) rfl), rfl, tyX6_ok, nmX6, rfl, rfl, fun h => by cases h⟩
theorem fp_X6_36 : ms_okP RX6 36 6 8 (tyX6 8) false := ⟨RX6, TX6, 11, tyX6, rfl, by decide, iwX6, (ms_at 861 (by decide +kernel) rfl), rfl, tyX6_ok, nmX6, rfl, rfl, fun h => by cases h⟩
theorem fp_X6_39 : ms_okP RX6 39 6 9 (tyX6 9) false := ⟨RX6, TX6, 11, tyX6, rfl, by decide, iwX6, (ms_at 862 (by decide +kernel) rfl), rfl, tyX6_ok, nmX6, rfl, rfl, fun h => by cases h⟩
theorem fp_X6_43 : ms_okP RX6 43 6 10 (tyX6 10) false := ⟨RX6, TX6, 11, tyX6, rfl, by decide, iwX6, (ms_at 863 (by decide +kernel) rfl), rfl, tyX6_ok, nmX6, rfl, rfl, fun h => by cases h⟩
theorem fp_X6_46 : ms_okP RX6 46 6 0 (tyX6 0) false := ⟨RX6, TX6, 11, tyX6, rfl, by decide, iwX6, (ms_at 853 (by decide +kernel) rfl), rfl, tyX6_ok, nmX6, rfl, rfl, fun h => by cases h⟩
theorem nw_X5_7 : ms_okN RX5 7 1 [.int 0, .int 0, .int 0, .null] := ⟨RX1, TX1, 4, tyX1, rfl, iwX1, tyX1_ok, (ms_at 69 (by decide +kernel) rfl), (ms_at 70 (by decide +kernel) rfl), (ms_at 47 (by decide +kernel) rfl), rfl⟩
theorem nw_X5_16 : ms_okN RX5 16 3 [.null, .null, .null, .null, .null] := ⟨RX3, TX3, 5, tyX3, rfl, iwX3, tyX3_ok, (ms_at 92 (by decide +kernel) rfl), (ms_at 93 (by decide +kernel) rfl), (ms_at 48 (by decide +kernel) rfl), rfl⟩
theorem nw_X5_25 : ms_okN RX5 25 0 [.int 0, .int 0, .int 0, .int 0, .null, .null, .null, .null, .null, .null] := ⟨RX0, TX0, 10, tyX0, rfl, iwX0, tyX0_ok, (ms_at 114 (by decide +kernel) rfl), (ms_at 115 (by decide +kernel) rfl), (ms_at 49 (by decide +kernel) rfl), rfl⟩
theorem nw_X5_34 : ms_okN RX5 34 2 [.int 0, .int 0, .null, .null, .null] := ⟨RX2, TX2, 5, tyX2, rfl, iwX2, tyX2_ok, (ms_at 210 (by decide +kernel) rfl), (ms_at 211 (by decide +kernel) rfl), (ms_at 51 (by decide +kernel) rfl), rfl⟩
theorem nw_X0_18 : ms_okN RX0 18 4 [.int 0, .int 0, .int 0, .int 0, .int 0, .int 0, .int 0, .int 0, .int 0, .int 0, .int 0] := ⟨RX4, TX4, 11, tyX4, rfl, iwX4, tyX4_ok, (ms_at 120 (by decide +kernel) rfl), (ms_at 122 (by decide +kernel) rfl), (ms_at 50 (by decide +kernel) rfl), rfl⟩
theorem nw_L_8 : ms_okN RL 8 5 [.null, .null, .null, .null, .null, .null] := ⟨RX5, TX5, 6, tyX5, rfl, iwX5, tyX5_ok, (ms_at 61 (by decide +kernel) rfl), (ms_at 62 (by decide +kernel) rfl), (ms_at 46 (by decide +kernel) rfl), rfl⟩
theorem nw_L_84 : ms_okN RL 84 6 [.int 0, .int 0, .int 0, .int 0, .int 0, .int 0, .null, .null, .int 0, .null, .null] := ⟨RX6, TX6, 11, tyX6, rfl, iwX6, tyX6_ok, (ms_at 843 (by decide +kernel) rfl), (ms_at 844 (by decide +kernel) rfl), (ms_at 52 (by decide +kernel) rfl), rfl⟩
abbrev m_X0_init : ms_D := (yX0_init, cX0_init, 4, none, 2, 40, [], none)
theorem mw_X0_init : ∀ w ∈ [Cond.instanceMethod yX0_init, Cond.initialized RX0, ms_cd m_X0_init], w ∈ ms_big := ms_sub _ [117, 49, 118] (by decide +kernel) (by decide +kernel)
theorem my_X0_init : ms_okY m_X0_init 2 := ⟨by decide, by decide, by decide +kernel⟩
abbrev m_X0_clear : ms_D := (yX0_clear, cX0_clear, 2, none, 0, 0, [], none)
theorem mw_X0_clear : ∀ w ∈ [Cond.instanceMethod yX0_clear, Cond.selects RX0 yX0_clear yX0_clear, Cond.initialized RX0, ms_cd m_X0_clear], w ∈ ms_big := ms_sub _ [263, 264, 49, 265] (by decide +kernel) (by decide +kernel)
theorem my_X0_clear : ms_okY m_X0_clear 0 := ⟨by decide, by decide, by decide +kernel⟩
abbrev m_X0_copyFrom : ms_D := (yX0_copyFrom, cX0_copyFrom, 3, none, 2, 48, [], none)
theorem mw_X0_copyFrom : ∀ w ∈ [Cond.instanceMethod yX0_copyFrom, Cond.selects RX0 yX0_copyFrom yX0_copyFrom, Cond.initialized RX0, ms_cd m_X0_copyFrom], w ∈ ms_big := ms_sub _ [786, 787, 49, 788] (by decide +kernel) (by decide +kernel)
theorem my_X0_copyFrom : ms_okY m_X0_copyFrom 1 := ⟨by decide, by decide, by decide +kernel⟩
abbrev m_X0_copyWalker : ms_D := (yX0_copyWalker, cX0_copyWalker, 2, none, 1, 21, [], none)
theorem mw_X0_copyWalker : ∀ w ∈ [Cond.static yX0_copyWalker, Cond.initialized RX0, ms_cd m_X0_copyWalker], w ∈ ms_big := ms_sub _ [791, 49, 792] (by decide +kernel) (by decide +kernel)
theorem my_X0_copyWalker : ms_okY m_X0_copyWalker 2 := ⟨by decide, by decide, by decide +kernel⟩
abbrev m_X0_get : ms_D := (yX0_get, cX0_get, 3, (some (.object "StarlingSquare$Walker")), 0, 0, [], none)
theorem mw_X0_get : ∀ w ∈ [Cond.instanceMethod yX0_get, Cond.selects RX0 yX0_get yX0_get, Cond.initialized RX0, ms_cd m_X0_get], w ∈ ms_big := ms_sub _ [298, 299, 49, 300] (by decide +kernel) (by decide +kernel)
theorem my_X0_get : ms_okY m_X0_get 1 := ⟨by decide, by decide, by decide +kernel⟩
abbrev m_X0_numberOn : ms_D := (yX0_numberOn, cX0_numberOn, 2, (some .int), 0, 0, [], none)
theorem mw_X0_numberOn : ∀ w ∈ [Cond.instanceMethod yX0_numberOn, Cond.selects RX0 yX0_numberOn yX0_numberOn, Cond.initialized RX0, ms_cd m_X0_numberOn], w ∈ ms_big := ms_sub _ [339, 340, 49, 341] (by decide +kernel) (by decide +kernel)
theorem my_X0_numberOn : ms_okY m_X0_numberOn 1 := ⟨by decide, by decide, by decide +kernel⟩
abbrev m_X0_isAnyoneIn : ms_D := (yX0_isAnyoneIn, cX0_isAnyoneIn, 7, (some .boolean), 1, 23, [], none)
theorem mw_X0_isAnyoneIn : ∀ w ∈ [Cond.instanceMethod yX0_isAnyoneIn, Cond.selects RX0 yX0_isAnyoneIn yX0_isAnyoneIn, Cond.initialized RX0, ms_cd m_X0_isAnyoneIn], w ∈ ms_big := ms_sub _ [535, 536, 49, 537] (by decide +kernel) (by decide +kernel)
theorem my_X0_isAnyoneIn : ms_okY m_X0_isAnyoneIn 4 := ⟨by decide, by decide, by decide +kernel⟩
abbrev m_X0_add : ms_D := (yX0_add, cX0_add, 7, (some .int), 1, 24, [], none)
theorem mw_X0_add : ∀ w ∈ [Cond.instanceMethod yX0_add, Cond.selects RX0 yX0_add yX0_add, Cond.initialized RX0, ms_cd m_X0_add], w ∈ ms_big := ms_sub _ [645, 646, 49, 647] (by decide +kernel) (by decide +kernel)
theorem my_X0_add : ms_okY m_X0_add 4 := ⟨by decide, by decide, by decide +kernel⟩
abbrev m_X0_heatOf : ms_D := (yX0_heatOf, cX0_heatOf, 2, (some .int), 0, 0, [], none)
theorem mw_X0_heatOf : ∀ w ∈ [Cond.instanceMethod yX0_heatOf, Cond.selects RX0 yX0_heatOf yX0_heatOf, Cond.initialized RX0, ms_cd m_X0_heatOf], w ∈ ms_big := ms_sub _ [375, 376, 49, 377] (by decide +kernel) (by decide +kernel)
theorem my_X0_heatOf : ms_okY m_X0_heatOf 1 := ⟨by decide, by decide, by decide +kernel⟩
abbrev m_X0_hottest : ms_D := (yX0_hottest, cX0_hottest, 3, (some .int), 1, 21, [], none)
theorem mw_X0_hottest : ∀ w ∈ [Cond.instanceMethod yX0_hottest, Cond.selects RX0 yX0_hottest yX0_hottest, Cond.initialized RX0, ms_cd m_X0_hottest], w ∈ ms_big := ms_sub _ [371, 372, 49, 373] (by decide +kernel) (by decide +kernel)
theorem my_X0_hottest : ms_okY m_X0_hottest 0 := ⟨by decide, by decide, by decide +kernel⟩
abbrev m_X0_countOut : ms_D := (yX0_countOut, cX0_countOut, 4, (some .int), 1, 22, [], none)
theorem mw_X0_countOut : ∀ w ∈ [Cond.instanceMethod yX0_countOut, Cond.selects RX0 yX0_countOut yX0_countOut, Cond.initialized RX0, ms_cd m_X0_countOut], w ∈ ms_big := ms_sub _ [294, 295, 49, 296] (by decide +kernel) (by decide +kernel)
theorem my_X0_countOut : ms_okY m_X0_countOut 0 := ⟨by decide, by decide, by decide +kernel⟩
abbrev m_X0_countLost : ms_D := (yX0_countLost, cX0_countLost, 4, (some .int), 2, 43, [], none)
theorem mw_X0_countLost : ∀ w ∈ [Cond.instanceMethod yX0_countLost, Cond.selects RX0 yX0_countLost yX0_countLost, Cond.initialized RX0, ms_cd m_X0_countLost], w ∈ ms_big := ms_sub _ [352, 353, 49, 354] (by decide +kernel) (by decide +kernel)
theorem my_X0_countLost : ms_okY m_X0_countLost 0 := ⟨by decide, by decide, by decide +kernel⟩
abbrev m_X0_countSteps : ms_D := (yX0_countSteps, cX0_countSteps, 5, (some .int), 1, 22, [], none)
theorem mw_X0_countSteps : ∀ w ∈ [Cond.instanceMethod yX0_countSteps, Cond.selects RX0 yX0_countSteps yX0_countSteps, Cond.initialized RX0, ms_cd m_X0_countSteps], w ∈ ms_big := ms_sub _ [306, 307, 49, 308] (by decide +kernel) (by decide +kernel)
theorem my_X0_countSteps : ms_okY m_X0_countSteps 1 := ⟨by decide, by decide, by decide +kernel⟩
abbrev m_X0_walkerFigure : ms_D := (yX0_walkerFigure, cX0_walkerFigure, 3, (some .int), 2, 43, [], none)
theorem mw_X0_walkerFigure : ∀ w ∈ [Cond.instanceMethod yX0_walkerFigure, Cond.selects RX0 yX0_walkerFigure yX0_walkerFigure, Cond.initialized RX0, ms_cd m_X0_walkerFigure], w ∈ ms_big := ms_sub _ [391, 392, 49, 393] (by decide +kernel) (by decide +kernel)
theorem my_X0_walkerFigure : ms_okY m_X0_walkerFigure 2 := ⟨by decide, by decide, by decide +kernel⟩
abbrev m_X0_countRound : ms_D := (yX0_countRound, cX0_countRound, 4, (some .int), 1, 23, [], none)
theorem mw_X0_countRound : ∀ w ∈ [Cond.instanceMethod yX0_countRound, Cond.selects RX0 yX0_countRound yX0_countRound, Cond.initialized RX0, ms_cd m_X0_countRound], w ∈ ms_big := ms_sub _ [404, 405, 49, 406] (by decide +kernel) (by decide +kernel)
theorem my_X0_countRound : ms_okY m_X0_countRound 1 := ⟨by decide, by decide, by decide +kernel⟩
abbrev m_X0_countFacing : ms_D := (yX0_countFacing, cX0_countFacing, 6, (some .int), 1, 23, [], none)
theorem mw_X0_countFacing : ∀ w ∈ [Cond.instanceMethod yX0_countFacing, Cond.selects RX0 yX0_countFacing yX0_countFacing, Cond.initialized RX0, ms_cd m_X0_countFacing], w ∈ ms_big := ms_sub _ [411, 7, 49, 412] (by decide +kernel) (by decide +kernel)
theorem my_X0_countFacing : ms_okY m_X0_countFacing 2 := ⟨by decide, by decide, by decide +kernel⟩
abbrev m_X0_costOf : ms_D := (yX0_costOf, cX0_costOf, 6, (some .int), 2, 48, [], none)
theorem mw_X0_costOf : ∀ w ∈ [Cond.instanceMethod yX0_costOf, Cond.selects RX0 yX0_costOf yX0_costOf, Cond.initialized RX0, ms_cd m_X0_costOf], w ∈ ms_big := ms_sub _ [400, 401, 49, 402] (by decide +kernel) (by decide +kernel)
theorem my_X0_costOf : ms_okY m_X0_costOf 2 := ⟨by decide, by decide, by decide +kernel⟩
abbrev m_X0_bestSide : ms_D := (yX0_bestSide, cX0_bestSide, 6, (some .int), 3, 73, [], none)
theorem mw_X0_bestSide : ∀ w ∈ [Cond.instanceMethod yX0_bestSide, Cond.selects RX0 yX0_bestSide yX0_bestSide, Cond.initialized RX0, ms_cd m_X0_bestSide], w ∈ ms_big := ms_sub _ [685, 686, 49, 687] (by decide +kernel) (by decide +kernel)
theorem my_X0_bestSide : ms_okY m_X0_bestSide 1 := ⟨by decide, by decide, by decide +kernel⟩
abbrev m_X0_outAfter : ms_D := (yX0_outAfter, cX0_outAfter, 3, (some .int), 5, 120, [], none)
theorem mw_X0_outAfter : ∀ w ∈ [Cond.instanceMethod yX0_outAfter, Cond.selects RX0 yX0_outAfter yX0_outAfter, Cond.initialized RX0, ms_cd m_X0_outAfter], w ∈ ms_big := ms_sub _ [672, 673, 49, 674] (by decide +kernel) (by decide +kernel)
theorem my_X0_outAfter : ms_okY m_X0_outAfter 1 := ⟨by decide, by decide, by decide +kernel⟩
abbrev m_X0_ticksTillOut : ms_D := (yX0_ticksTillOut, cX0_ticksTillOut, 5, (some .int), 5, 120, [], none)
theorem mw_X0_ticksTillOut : ∀ w ∈ [Cond.instanceMethod yX0_ticksTillOut, Cond.selects RX0 yX0_ticksTillOut yX0_ticksTillOut, Cond.initialized RX0, ms_cd m_X0_ticksTillOut], w ∈ ms_big := ms_sub _ [798, 799, 49, 800] (by decide +kernel) (by decide +kernel)
theorem my_X0_ticksTillOut : ms_okY m_X0_ticksTillOut 2 := ⟨by decide, by decide, by decide +kernel⟩
abbrev m_X0_ticksTillJam : ms_D := (yX0_ticksTillJam, cX0_ticksTillJam, 3, (some .int), 5, 120, [], none)
theorem mw_X0_ticksTillJam : ∀ w ∈ [Cond.instanceMethod yX0_ticksTillJam, Cond.selects RX0 yX0_ticksTillJam yX0_ticksTillJam, Cond.initialized RX0, ms_cd m_X0_ticksTillJam], w ∈ ms_big := ms_sub _ [824, 825, 49, 826] (by decide +kernel) (by decide +kernel)
theorem my_X0_ticksTillJam : ms_okY m_X0_ticksTillJam 1 := ⟨by decide, by decide, by decide +kernel⟩
abbrev m_X0_isJammed : ms_D := (yX0_isJammed, cX0_isJammed, 2, (some .boolean), 1, 20, [], none)
theorem mw_X0_isJammed : ∀ w ∈ [Cond.instanceMethod yX0_isJammed, Cond.selects RX0 yX0_isJammed yX0_isJammed, Cond.initialized RX0, ms_cd m_X0_isJammed], w ∈ ms_big := ms_sub _ [323, 324, 49, 325] (by decide +kernel) (by decide +kernel)
theorem my_X0_isJammed : ms_okY m_X0_isJammed 1 := ⟨by decide, by decide, by decide +kernel⟩
abbrev m_X0_hasJam : ms_D := (yX0_hasJam, cX0_hasJam, 2, (some .boolean), 2, 41, [], none)
theorem mw_X0_hasJam : ∀ w ∈ [Cond.instanceMethod yX0_hasJam, Cond.selects RX0 yX0_hasJam yX0_hasJam, Cond.initialized RX0, ms_cd m_X0_hasJam], w ∈ ms_big := ms_sub _ [829, 19, 49, 830] (by decide +kernel) (by decide +kernel)
theorem my_X0_hasJam : ms_okY m_X0_hasJam 0 := ⟨by decide, by decide, by decide +kernel⟩
abbrev m_X0_step : ms_D := (yX0_step, cX0_step, 3, none, 4, 98, [], none)
theorem mw_X0_step : ∀ w ∈ [Cond.instanceMethod yX0_step, Cond.selects RX0 yX0_step yX0_step, Cond.initialized RX0, ms_cd m_X0_step], w ∈ ms_big := ms_sub _ [677, 12, 49, 678] (by decide +kernel) (by decide +kernel)
theorem my_X0_step : ms_okY m_X0_step 0 := ⟨by decide, by decide, by decide +kernel⟩
abbrev m_X0_aim : ms_D := (yX0_aim, cX0_aim, 3, none, 1, 23, [], none)
theorem mw_X0_aim : ∀ w ∈ [Cond.instanceMethod yX0_aim, Cond.selects RX0 yX0_aim yX0_aim, Cond.initialized RX0, ms_cd m_X0_aim], w ∈ ms_big := ms_sub _ [691, 13, 49, 692] (by decide +kernel) (by decide +kernel)
theorem my_X0_aim : ms_okY m_X0_aim 2 := ⟨by decide, by decide, by decide +kernel⟩
abbrev m_X0_claim : ms_D := (yX0_claim, cX0_claim, 4, none, 1, 22, [], none)
theorem mw_X0_claim : ∀ w ∈ [Cond.instanceMethod yX0_claim, Cond.selects RX0 yX0_claim yX0_claim, Cond.initialized RX0, ms_cd m_X0_claim], w ∈ ms_big := ms_sub _ [695, 14, 49, 696] (by decide +kernel) (by decide +kernel)
theorem my_X0_claim : ms_okY m_X0_claim 1 := ⟨by decide, by decide, by decide +kernel⟩
abbrev m_X0_goOrWait : ms_D := (yX0_goOrWait, cX0_goOrWait, 3, none, 3, 65, [], none)
theorem mw_X0_goOrWait : ∀ w ∈ [Cond.instanceMethod yX0_goOrWait, Cond.selects RX0 yX0_goOrWait yX0_goOrWait, Cond.initialized RX0, ms_cd m_X0_goOrWait], w ∈ ms_big := ms_sub _ [699, 15, 49, 700] (by decide +kernel) (by decide +kernel)
theorem my_X0_goOrWait : ms_okY m_X0_goOrWait 1 := ⟨by decide, by decide, by decide +kernel⟩
abbrev m_X0_go : ms_D := (yX0_go, cX0_go, 3, none, 2, 43, [], none)
theorem mw_X0_go : ∀ w ∈ [Cond.instanceMethod yX0_go, Cond.selects RX0 yX0_go yX0_go, Cond.initialized RX0, ms_cd m_X0_go], w ∈ ms_big := ms_sub _ [703, 16, 49, 704] (by decide +kernel) (by decide +kernel)
theorem my_X0_go : ms_okY m_X0_go 2 := ⟨by decide, by decide, by decide +kernel⟩
abbrev m_X1_init : ms_D := (yX1_init, cX1_init, 1, none, 1, 20, [], none)
theorem mw_X1_init : ∀ w ∈ [Cond.instanceMethod yX1_init, Cond.initialized RX1, ms_cd m_X1_init], w ∈ ms_big := ms_sub _ [72, 47, 73] (by decide +kernel) (by decide +kernel)
theorem my_X1_init : ms_okY m_X1_init 0 := ⟨by decide, by decide, by decide +kernel⟩
abbrev m_X1_shape : ms_D := (yX1_shape, cX1_shape, 5, none, 2, 47, [], none)
theorem mw_X1_shape : ∀ w ∈ [Cond.instanceMethod yX1_shape, Cond.selects RX1 yX1_shape yX1_shape, Cond.initialized RX1, ms_cd m_X1_shape], w ∈ ms_big := ms_sub _ [239, 240, 47, 241] (by decide +kernel) (by decide +kernel)
theorem my_X1_shape : ms_okY m_X1_shape 2 := ⟨by decide, by decide, by decide +kernel⟩
abbrev m_X1_link : ms_D := (yX1_link, cX1_link, 5, none, 1, 23, [], none)
theorem mw_X1_link : ∀ w ∈ [Cond.instanceMethod yX1_link, Cond.selects RX1 yX1_link yX1_link, Cond.initialized RX1, ms_cd m_X1_link], w ∈ ms_big := ms_sub _ [244, 1, 47, 245] (by decide +kernel) (by decide +kernel)
theorem my_X1_link : ms_okY m_X1_link 2 := ⟨by decide, by decide, by decide +kernel⟩
abbrev m_X1_has : ms_D := (yX1_has, cX1_has, 2, (some .boolean), 0, 0, [], none)
theorem mw_X1_has : ∀ w ∈ [Cond.instanceMethod yX1_has, Cond.selects RX1 yX1_has yX1_has, Cond.initialized RX1, ms_cd m_X1_has], w ∈ ms_big := ms_sub _ [251, 252, 47, 253] (by decide +kernel) (by decide +kernel)
theorem my_X1_has : ms_okY m_X1_has 1 := ⟨by decide, by decide, by decide +kernel⟩
abbrev m_X1_number : ms_D := (yX1_number, cX1_number, 4, (some .int), 0, 0, [], none)
theorem mw_X1_number : ∀ w ∈ [Cond.instanceMethod yX1_number, Cond.selects RX1 yX1_number yX1_number, Cond.initialized RX1, ms_cd m_X1_number], w ∈ ms_big := ms_sub _ [247, 248, 47, 249] (by decide +kernel) (by decide +kernel)
theorem my_X1_number : ms_okY m_X1_number 2 := ⟨by decide, by decide, by decide +kernel⟩
abbrev m_X1_next : ms_D := (yX1_next, cX1_next, 4, (some .int), 0, 0, [], none)
theorem mw_X1_next : ∀ w ∈ [Cond.instanceMethod yX1_next, Cond.selects RX1 yX1_next yX1_next, Cond.initialized RX1, ms_cd m_X1_next], w ∈ ms_big := ms_sub _ [335, 336, 47, 337] (by decide +kernel) (by decide +kernel)
theorem my_X1_next : ms_okY m_X1_next 2 := ⟨by decide, by decide, by decide +kernel⟩
abbrev m_X2_init : ms_D := (yX2_init, cX2_init, 1, none, 1, 20, [], none)
theorem mw_X2_init : ∀ w ∈ [Cond.instanceMethod yX2_init, Cond.initialized RX2, ms_cd m_X2_init], w ∈ ms_big := ms_sub _ [213, 51, 214] (by decide +kernel) (by decide +kernel)
theorem my_X2_init : ms_okY m_X2_init 0 := ⟨by decide, by decide, by decide +kernel⟩
abbrev m_X2_find : ms_D := (yX2_find, cX2_find, 3, none, 5, 114, [], none)
theorem mw_X2_find : ∀ w ∈ [Cond.instanceMethod yX2_find, Cond.selects RX2 yX2_find yX2_find, Cond.initialized RX2, ms_cd m_X2_find], w ∈ ms_big := ms_sub _ [314, 315, 51, 316] (by decide +kernel) (by decide +kernel)
theorem my_X2_find : ms_okY m_X2_find 1 := ⟨by decide, by decide, by decide +kernel⟩
abbrev m_X2_isNewOne : ms_D := (yX2_isNewOne, cX2_isNewOne, 3, (some .boolean), 2, 41, [], none)
theorem mw_X2_isNewOne : ∀ w ∈ [Cond.instanceMethod yX2_isNewOne, Cond.selects RX2 yX2_isNewOne yX2_isNewOne, Cond.initialized RX2, ms_cd m_X2_isNewOne], w ∈ ms_big := ms_sub _ [319, 2, 51, 320] (by decide +kernel) (by decide +kernel)
theorem my_X2_isNewOne : ms_okY m_X2_isNewOne 2 := ⟨by decide, by decide, by decide +kernel⟩
abbrev m_X2_gather : ms_D := (yX2_gather, cX2_gather, 5, (some .int), 4, 90, [], none)
theorem mw_X2_gather : ∀ w ∈ [Cond.instanceMethod yX2_gather, Cond.selects RX2 yX2_gather yX2_gather, Cond.initialized RX2, ms_cd m_X2_gather], w ∈ ms_big := ms_sub _ [328, 3, 51, 329] (by decide +kernel) (by decide +kernel)
theorem my_X2_gather : ms_okY m_X2_gather 2 := ⟨by decide, by decide, by decide +kernel⟩
abbrev m_X2_gatherBeside : ms_D := (yX2_gatherBeside, cX2_gatherBeside, 8, (some .int), 3, 63, [], none)
theorem mw_X2_gatherBeside : ∀ w ∈ [Cond.instanceMethod yX2_gatherBeside, Cond.selects RX2 yX2_gatherBeside yX2_gatherBeside, Cond.initialized RX2, ms_cd m_X2_gatherBeside], w ∈ ms_big := ms_sub _ [332, 4, 51, 333] (by decide +kernel) (by decide +kernel)
theorem my_X2_gatherBeside : ms_okY m_X2_gatherBeside 3 := ⟨by decide, by decide, by decide +kernel⟩
abbrev m_X2_greatest : ms_D := (yX2_greatest, cX2_greatest, 3, (some .int), 1, 21, [], none)
theorem mw_X2_greatest : ∀ w ∈ [Cond.instanceMethod yX2_greatest, Cond.selects RX2 yX2_greatest yX2_greatest, Cond.initialized RX2, ms_cd m_X2_greatest], w ∈ ms_big := ms_sub _ [364, 365, 51, 366] (by decide +kernel) (by decide +kernel)
theorem my_X2_greatest : ms_okY m_X2_greatest 0 := ⟨by decide, by decide, by decide +kernel⟩
abbrev m_X2_sizeAround : ms_D := (yX2_sizeAround, cX2_sizeAround, 3, (some .int), 0, 0, [], none)
theorem mw_X2_sizeAround : ∀ w ∈ [Cond.instanceMethod yX2_sizeAround, Cond.selects RX2 yX2_sizeAround yX2_sizeAround, Cond.initialized RX2, ms_cd m_X2_sizeAround], w ∈ ms_big := ms_sub _ [395, 396, 51, 397] (by decide +kernel) (by decide +kernel)
theorem my_X2_sizeAround : ms_okY m_X2_sizeAround 1 := ⟨by decide, by decide, by decide +kernel⟩
abbrev m_X3_init : ms_D := (yX3_init, cX3_init, 2, none, 1, 20, [], none)
theorem mw_X3_init : ∀ w ∈ [Cond.instanceMethod yX3_init, Cond.initialized RX3, ms_cd m_X3_init], w ∈ ms_big := ms_sub _ [95, 48, 96] (by decide +kernel) (by decide +kernel)
theorem my_X3_init : ms_okY m_X3_init 1 := ⟨by decide, by decide, by decide +kernel⟩
abbrev m_X3_clear : ms_D := (yX3_clear, cX3_clear, 2, none, 0, 0, [], none)
theorem mw_X3_clear : ∀ w ∈ [Cond.instanceMethod yX3_clear, Cond.selects RX3 yX3_clear yX3_clear, Cond.initialized RX3, ms_cd m_X3_clear], w ∈ ms_big := ms_sub _ [259, 260, 48, 261] (by decide +kernel) (by decide +kernel)
theorem my_X3_clear : ms_okY m_X3_clear 0 := ⟨by decide, by decide, by decide +kernel⟩
abbrev m_X3_copyFrom : ms_D := (yX3_copyFrom, cX3_copyFrom, 2, none, 1, 48, [], none)
theorem mw_X3_copyFrom : ∀ w ∈ [Cond.instanceMethod yX3_copyFrom, Cond.selects RX3 yX3_copyFrom yX3_copyFrom, Cond.initialized RX3, ms_cd m_X3_copyFrom], w ∈ ms_big := ms_sub _ [779, 780, 48, 781] (by decide +kernel) (by decide +kernel)
theorem my_X3_copyFrom : ms_okY m_X3_copyFrom 1 := ⟨by decide, by decide, by decide +kernel⟩
abbrev m_X3_isFree : ms_D := (yX3_isFree, cX3_isFree, 2, (some .boolean), 1, 21, [], none)
theorem mw_X3_isFree : ∀ w ∈ [Cond.instanceMethod yX3_isFree, Cond.selects RX3 yX3_isFree yX3_isFree, Cond.initialized RX3, ms_cd m_X3_isFree], w ∈ ms_big := ms_sub _ [422, 423, 48, 424] (by decide +kernel) (by decide +kernel)
theorem my_X3_isFree : ms_okY m_X3_isFree 1 := ⟨by decide, by decide, by decide +kernel⟩
abbrev m_X3_isMarked : ms_D := (yX3_isMarked, cX3_isMarked, 3, (some .boolean), 1, 21, [], none)
theorem mw_X3_isMarked : ∀ w ∈ [Cond.instanceMethod yX3_isMarked, Cond.selects RX3 yX3_isMarked yX3_isMarked, Cond.initialized RX3, ms_cd m_X3_isMarked], w ∈ ms_big := ms_sub _ [569, 570, 48, 571] (by decide +kernel) (by decide +kernel)
theorem my_X3_isMarked : ms_okY m_X3_isMarked 2 := ⟨by decide, by decide, by decide +kernel⟩
abbrev m_X3_distance : ms_D := (yX3_distance, cX3_distance, 3, (some .int), 1, 21, [], none)
theorem mw_X3_distance : ∀ w ∈ [Cond.instanceMethod yX3_distance, Cond.selects RX3 yX3_distance yX3_distance, Cond.initialized RX3, ms_cd m_X3_distance], w ∈ ms_big := ms_sub _ [356, 357, 48, 358] (by decide +kernel) (by decide +kernel)
theorem my_X3_distance : ms_okY m_X3_distance 2 := ⟨by decide, by decide, by decide +kernel⟩
abbrev m_X3_build : ms_D := (yX3_build, cX3_build, 3, none, 1, 21, [], none)
theorem mw_X3_build : ∀ w ∈ [Cond.instanceMethod yX3_build, Cond.selects RX3 yX3_build yX3_build, Cond.initialized RX3, ms_cd m_X3_build], w ∈ ms_big := ms_sub _ [556, 557, 48, 558] (by decide +kernel) (by decide +kernel)
theorem my_X3_build : ms_okY m_X3_build 2 := ⟨by decide, by decide, by decide +kernel⟩
abbrev m_X3_turnMark : ms_D := (yX3_turnMark, cX3_turnMark, 3, none, 1, 21, [], none)
theorem mw_X3_turnMark : ∀ w ∈ [Cond.instanceMethod yX3_turnMark, Cond.selects RX3 yX3_turnMark yX3_turnMark, Cond.initialized RX3, ms_cd m_X3_turnMark], w ∈ ms_big := ms_sub _ [592, 593, 48, 594] (by decide +kernel) (by decide +kernel)
theorem my_X3_turnMark : ms_okY m_X3_turnMark 2 := ⟨by decide, by decide, by decide +kernel⟩
abbrev m_X3_countWalls : ms_D := (yX3_countWalls, cX3_countWalls, 3, (some .int), 2, 42, [], none)
theorem mw_X3_countWalls : ∀ w ∈ [Cond.instanceMethod yX3_countWalls, Cond.selects RX3 yX3_countWalls yX3_countWalls, Cond.initialized RX3, ms_cd m_X3_countWalls], w ∈ ms_big := ms_sub _ [578, 579, 48, 580] (by decide +kernel) (by decide +kernel)
theorem my_X3_countWalls : ms_okY m_X3_countWalls 0 := ⟨by decide, by decide, by decide +kernel⟩
abbrev m_X3_countMarks : ms_D := (yX3_countMarks, cX3_countMarks, 4, (some .int), 2, 43, [], none)
theorem mw_X3_countMarks : ∀ w ∈ [Cond.instanceMethod yX3_countMarks, Cond.selects RX3 yX3_countMarks yX3_countMarks, Cond.initialized RX3, ms_cd m_X3_countMarks], w ∈ ms_big := ms_sub _ [597, 598, 48, 599] (by decide +kernel) (by decide +kernel)
theorem my_X3_countMarks : ms_okY m_X3_countMarks 1 := ⟨by decide, by decide, by decide +kernel⟩
abbrev m_X3_greatestDistance : ms_D := (yX3_greatestDistance, cX3_greatestDistance, 4, (some .int), 2, 43, [], none)
theorem mw_X3_greatestDistance : ∀ w ∈ [Cond.instanceMethod yX3_greatestDistance, Cond.selects RX3 yX3_greatestDistance yX3_greatestDistance, Cond.initialized RX3, ms_cd m_X3_greatestDistance], w ∈ ms_big := ms_sub _ [380, 381, 48, 382] (by decide +kernel) (by decide +kernel)
theorem my_X3_greatestDistance : ms_okY m_X3_greatestDistance 1 := ⟨by decide, by decide, by decide +kernel⟩
abbrev m_X3_measureAll : ms_D := (yX3_measureAll, cX3_measureAll, 2, none, 4, 93, [], none)
theorem mw_X3_measureAll : ∀ w ∈ [Cond.instanceMethod yX3_measureAll, Cond.selects RX3 yX3_measureAll yX3_measureAll, Cond.initialized RX3, ms_cd m_X3_measureAll], w ∈ ms_big := ms_sub _ [560, 561, 48, 562] (by decide +kernel) (by decide +kernel)
theorem my_X3_measureAll : ms_okY m_X3_measureAll 0 := ⟨by decide, by decide, by decide +kernel⟩
abbrev m_X3_measure : ms_D := (yX3_measure, cX3_measure, 6, none, 3, 68, [], none)
theorem mw_X3_measure : ∀ w ∈ [Cond.instanceMethod yX3_measure, Cond.selects RX3 yX3_measure yX3_measure, Cond.initialized RX3, ms_cd m_X3_measure], w ∈ ms_big := ms_sub _ [564, 565, 48, 566] (by decide +kernel) (by decide +kernel)
theorem my_X3_measure : ms_okY m_X3_measure 1 := ⟨by decide, by decide, by decide +kernel⟩
abbrev m_X3_spread : ms_D := (yX3_spread, cX3_spread, 7, (some .int), 2, 42, [], none)
theorem mw_X3_spread : ∀ w ∈ [Cond.instanceMethod yX3_spread, Cond.selects RX3 yX3_spread yX3_spread, Cond.initialized RX3, ms_cd m_X3_spread], w ∈ ms_big := ms_sub _ [574, 11, 48, 575] (by decide +kernel) (by decide +kernel)
theorem my_X3_spread : ms_okY m_X3_spread 3 := ⟨by decide, by decide, by decide +kernel⟩
abbrev m_X3_fieldOnWay : ms_D := (yX3_fieldOnWay, cX3_fieldOnWay, 7, (some .int), 3, 68, [], none)
theorem mw_X3_fieldOnWay : ∀ w ∈ [Cond.instanceMethod yX3_fieldOnWay, Cond.selects RX3 yX3_fieldOnWay yX3_fieldOnWay, Cond.initialized RX3, ms_cd m_X3_fieldOnWay], w ∈ ms_big := ms_sub _ [749, 750, 48, 751] (by decide +kernel) (by decide +kernel)
theorem my_X3_fieldOnWay : ms_okY m_X3_fieldOnWay 3 := ⟨by decide, by decide, by decide +kernel⟩
abbrev m_X3_nearer : ms_D := (yX3_nearer, cX3_nearer, 6, (some .int), 2, 43, [], none)
theorem mw_X3_nearer : ∀ w ∈ [Cond.instanceMethod yX3_nearer, Cond.selects RX3 yX3_nearer yX3_nearer, Cond.initialized RX3, ms_cd m_X3_nearer], w ∈ ms_big := ms_sub _ [754, 17, 48, 755] (by decide +kernel) (by decide +kernel)
theorem my_X3_nearer : ms_okY m_X3_nearer 2 := ⟨by decide, by decide, by decide +kernel⟩
abbrev m_X4_init : ms_D := (yX4_init, cX4_init, 1, none, 1, 20, [], none)
theorem mw_X4_init : ∀ w ∈ [Cond.instanceMethod yX4_init, Cond.initialized RX4, ms_cd m_X4_init], w ∈ ms_big := ms_sub _ [124, 50, 125] (by decide +kernel) (by decide +kernel)
theorem my_X4_init : ms_okY m_X4_init 0 := ⟨by decide, by decide, by decide +kernel⟩
abbrev m_X4_come : ms_D := (yX4_come, cX4_come, 5, none, 0, 0, [], none)
theorem mw_X4_come : ∀ w ∈ [Cond.instanceMethod yX4_come, Cond.selects RX4 yX4_come yX4_come, Cond.initialized RX4, ms_cd m_X4_come], w ∈ ms_big := ms_sub _ [650, 651, 50, 652] (by decide +kernel) (by decide +kernel)
theorem my_X4_come : ms_okY m_X4_come 4 := ⟨by decide, by decide, by decide +kernel⟩
abbrev m_X4_copyFrom : ms_D := (yX4_copyFrom, cX4_copyFrom, 2, none, 0, 0, [], none)
theorem mw_X4_copyFrom : ∀ w ∈ [Cond.instanceMethod yX4_copyFrom, Cond.selects RX4 yX4_copyFrom yX4_copyFrom, Cond.initialized RX4, ms_cd m_X4_copyFrom], w ∈ ms_big := ms_sub _ [794, 795, 50, 796] (by decide +kernel) (by decide +kernel)
theorem my_X4_copyFrom : ms_okY m_X4_copyFrom 1 := ⟨by decide, by decide, by decide +kernel⟩
abbrev m_X4_isOut : ms_D := (yX4_isOut, cX4_isOut, 1, (some .boolean), 0, 0, [], none)
theorem mw_X4_isOut : ∀ w ∈ [Cond.instanceMethod yX4_isOut, Cond.selects RX4 yX4_isOut yX4_isOut, Cond.initialized RX4, ms_cd m_X4_isOut], w ∈ ms_big := ms_sub _ [302, 303, 50, 304] (by decide +kernel) (by decide +kernel)
theorem my_X4_isOut : ms_okY m_X4_isOut 0 := ⟨by decide, by decide, by decide +kernel⟩
abbrev m_X4_isTurnAt : ms_D := (yX4_isTurnAt, cX4_isTurnAt, 2, (some .boolean), 1, 20, [], none)
theorem mw_X4_isTurnAt : ∀ w ∈ [Cond.instanceMethod yX4_isTurnAt, Cond.selects RX4 yX4_isTurnAt yX4_isTurnAt, Cond.initialized RX4, ms_cd m_X4_isTurnAt], w ∈ ms_big := ms_sub _ [680, 681, 50, 682] (by decide +kernel) (by decide +kernel)
theorem my_X4_isTurnAt : ms_okY m_X4_isTurnAt 1 := ⟨by decide, by decide, by decide +kernel⟩
abbrev m_X5_init : ms_D := (yX5_init, cX5_init, 1, none, 4, 93, [], none)
theorem mw_X5_init : ∀ w ∈ [Cond.instanceMethod yX5_init, Cond.initialized RX5, ms_cd m_X5_init], w ∈ ms_big := ms_sub _ [64, 46, 65] (by decide +kernel) (by decide +kernel)
theorem my_X5_init : ms_okY m_X5_init 0 := ⟨by decide, by decide, by decide +kernel⟩
abbrev m_X5_reset : ms_D := (yX5_reset, cX5_reset, 3, (some .int), 6, 93, [], none)
theorem mw_X5_reset : ∀ w ∈ [Cond.instanceMethod yX5_reset, Cond.selects RX5 yX5_reset yX5_reset, Cond.initialized RX5, ms_cd m_X5_reset], w ∈ ms_big := ms_sub _ [433, 434, 46, 435] (by decide +kernel) (by decide +kernel)
theorem my_X5_reset : ms_okY m_X5_reset 2 := ⟨by decide, by decide, by decide +kernel⟩
abbrev m_X5_wall : ms_D := (yX5_wall, cX5_wall, 12, (some .int), 6, 114, [], none)
theorem mw_X5_wall : ∀ w ∈ [Cond.instanceMethod yX5_wall, Cond.selects RX5 yX5_wall yX5_wall, Cond.initialized RX5, ms_cd m_X5_wall], w ∈ ms_big := ms_sub _ [510, 511, 46, 512] (by decide +kernel) (by decide +kernel)
theorem my_X5_wall : ms_okY m_X5_wall 5 := ⟨by decide, by decide, by decide +kernel⟩
abbrev m_X5_mark : ms_D := (yX5_mark, cX5_mark, 6, (some .int), 6, 93, [], none)
theorem mw_X5_mark : ∀ w ∈ [Cond.instanceMethod yX5_mark, Cond.selects RX5 yX5_mark yX5_mark, Cond.initialized RX5, ms_cd m_X5_mark], w ∈ ms_big := ms_sub _ [585, 586, 46, 587] (by decide +kernel) (by decide +kernel)
theorem my_X5_mark : ms_okY m_X5_mark 3 := ⟨by decide, by decide, by decide +kernel⟩
abbrev m_X5_set : ms_D := (yX5_set, cX5_set, 4, (some .int), 6, 90, [], none)
theorem mw_X5_set : ∀ w ∈ [Cond.instanceMethod yX5_set, Cond.selects RX5 yX5_set yX5_set, Cond.initialized RX5, ms_cd m_X5_set], w ∈ ms_big := ms_sub _ [604, 605, 46, 606] (by decide +kernel) (by decide +kernel)
theorem my_X5_set : ms_okY m_X5_set 2 := ⟨by decide, by decide, by decide +kernel⟩
abbrev m_X5_field : ms_D := (yX5_field, cX5_field, 5, (some .int), 6, 90, [], none)
theorem mw_X5_field : ∀ w ∈ [Cond.instanceMethod yX5_field, Cond.selects RX5 yX5_field yX5_field, Cond.initialized RX5, ms_cd m_X5_field], w ∈ ms_big := ms_sub _ [612, 613, 46, 614] (by decide +kernel) (by decide +kernel)
theorem my_X5_field : ms_okY m_X5_field 3 := ⟨by decide, by decide, by decide +kernel⟩
abbrev m_X5_far : ms_D := (yX5_far, cX5_far, 5, (some .int), 6, 90, [], none)
theorem mw_X5_far : ∀ w ∈ [Cond.instanceMethod yX5_far, Cond.selects RX5 yX5_far yX5_far, Cond.initialized RX5, ms_cd m_X5_far], w ∈ ms_big := ms_sub _ [620, 621, 46, 622] (by decide +kernel) (by decide +kernel)
theorem my_X5_far : ms_okY m_X5_far 3 := ⟨by decide, by decide, by decide +kernel⟩
abbrev m_X5_farthest : ms_D := (yX5_farthest, cX5_farthest, 2, (some .int), 6, 90, [], none)
theorem mw_X5_farthest : ∀ w ∈ [Cond.instanceMethod yX5_farthest, Cond.selects RX5 yX5_farthest yX5_farthest, Cond.initialized RX5, ms_cd m_X5_farthest], w ∈ ms_big := ms_sub _ [627, 628, 46, 629] (by decide +kernel) (by decide +kernel)
theorem my_X5_farthest : ms_okY m_X5_farthest 1 := ⟨by decide, by decide, by decide +kernel⟩
abbrev m_X5_walker : ms_D := (yX5_walker, cX5_walker, 8, (some .int), 6, 90, [], none)
theorem mw_X5_walker : ∀ w ∈ [Cond.instanceMethod yX5_walker, Cond.selects RX5 yX5_walker yX5_walker, Cond.initialized RX5, ms_cd m_X5_walker], w ∈ ms_big := ms_sub _ [635, 636, 46, 637] (by decide +kernel) (by decide +kernel)
theorem my_X5_walker : ms_okY m_X5_walker 5 := ⟨by decide, by decide, by decide +kernel⟩
abbrev m_X5_turnTo : ms_D := (yX5_turnTo, cX5_turnTo, 6, (some .int), 6, 90, [], none)
theorem mw_X5_turnTo : ∀ w ∈ [Cond.instanceMethod yX5_turnTo, Cond.selects RX5 yX5_turnTo yX5_turnTo, Cond.initialized RX5, ms_cd m_X5_turnTo], w ∈ ms_big := ms_sub _ [657, 658, 46, 659] (by decide +kernel) (by decide +kernel)
theorem my_X5_turnTo : ms_okY m_X5_turnTo 3 := ⟨by decide, by decide, by decide +kernel⟩
abbrev m_X5_tick : ms_D := (yX5_tick, cX5_tick, 3, (some .int), 6, 142, [], none)
theorem mw_X5_tick : ∀ w ∈ [Cond.instanceMethod yX5_tick, Cond.selects RX5 yX5_tick yX5_tick, Cond.initialized RX5, ms_cd m_X5_tick], w ∈ ms_big := ms_sub _ [667, 668, 46, 669] (by decide +kernel) (by decide +kernel)
theorem my_X5_tick : ms_okY m_X5_tick 1 := ⟨by decide, by decide, by decide +kernel⟩
abbrev m_X5_clock : ms_D := (yX5_clock, cX5_clock, 1, (some .int), 0, 0, [], none)
theorem mw_X5_clock : ∀ w ∈ [Cond.instanceMethod yX5_clock, Cond.selects RX5 yX5_clock yX5_clock, Cond.initialized RX5, ms_cd m_X5_clock], w ∈ ms_big := ms_sub _ [286, 287, 46, 288] (by decide +kernel) (by decide +kernel)
theorem my_X5_clock : ms_okY m_X5_clock 0 := ⟨by decide, by decide, by decide +kernel⟩
abbrev m_X5_many : ms_D := (yX5_many, cX5_many, 2, (some .int), 6, 136, [], none)
theorem mw_X5_many : ∀ w ∈ [Cond.instanceMethod yX5_many, Cond.selects RX5 yX5_many yX5_many, Cond.initialized RX5, ms_cd m_X5_many], w ∈ ms_big := ms_sub _ [711, 712, 46, 713] (by decide +kernel) (by decide +kernel)
theorem my_X5_many : ms_okY m_X5_many 1 := ⟨by decide, by decide, by decide +kernel⟩
abbrev m_X5_ofWalker : ms_D := (yX5_ofWalker, cX5_ofWalker, 4, (some .int), 6, 90, [], none)
theorem mw_X5_ofWalker : ∀ w ∈ [Cond.instanceMethod yX5_ofWalker, Cond.selects RX5 yX5_ofWalker yX5_ofWalker, Cond.initialized RX5, ms_cd m_X5_ofWalker], w ∈ ms_big := ms_sub _ [719, 720, 46, 721] (by decide +kernel) (by decide +kernel)
theorem my_X5_ofWalker : ms_okY m_X5_ofWalker 2 := ⟨by decide, by decide, by decide +kernel⟩
abbrev m_X5_cost : ms_D := (yX5_cost, cX5_cost, 4, (some .int), 6, 90, [], none)
theorem mw_X5_cost : ∀ w ∈ [Cond.instanceMethod yX5_cost, Cond.selects RX5 yX5_cost yX5_cost, Cond.initialized RX5, ms_cd m_X5_cost], w ∈ ms_big := ms_sub _ [727, 728, 46, 729] (by decide +kernel) (by decide +kernel)
theorem my_X5_cost : ms_okY m_X5_cost 2 := ⟨by decide, by decide, by decide +kernel⟩
abbrev m_X5_wants : ms_D := (yX5_wants, cX5_wants, 3, (some .int), 6, 98, [], none)
theorem mw_X5_wants : ∀ w ∈ [Cond.instanceMethod yX5_wants, Cond.selects RX5 yX5_wants yX5_wants, Cond.initialized RX5, ms_cd m_X5_wants], w ∈ ms_big := ms_sub _ [736, 737, 46, 738] (by decide +kernel) (by decide +kernel)
theorem my_X5_wants : ms_okY m_X5_wants 1 := ⟨by decide, by decide, by decide +kernel⟩
abbrev m_X5_way : ms_D := (yX5_way, cX5_way, 4, (some .int), 6, 94, [], none)
theorem mw_X5_way : ∀ w ∈ [Cond.instanceMethod yX5_way, Cond.selects RX5 yX5_way yX5_way, Cond.initialized RX5, ms_cd m_X5_way], w ∈ ms_big := ms_sub _ [744, 745, 46, 746] (by decide +kernel) (by decide +kernel)
theorem my_X5_way : ms_okY m_X5_way 2 := ⟨by decide, by decide, by decide +kernel⟩
abbrev m_X5_jam : ms_D := (yX5_jam, cX5_jam, 2, (some .int), 6, 136, [], none)
theorem mw_X5_jam : ∀ w ∈ [Cond.instanceMethod yX5_jam, Cond.selects RX5 yX5_jam yX5_jam, Cond.initialized RX5, ms_cd m_X5_jam], w ∈ ms_big := ms_sub _ [760, 761, 46, 762] (by decide +kernel) (by decide +kernel)
theorem my_X5_jam : ms_okY m_X5_jam 1 := ⟨by decide, by decide, by decide +kernel⟩
abbrev m_X5_meanSteps : ms_D := (yX5_meanSteps, cX5_meanSteps, 2, (some .double), 2, 46, [], none)
theorem mw_X5_meanSteps : ∀ w ∈ [Cond.instanceMethod yX5_meanSteps, Cond.selects RX5 yX5_meanSteps yX5_meanSteps, Cond.initialized RX5, ms_cd m_X5_meanSteps], w ∈ ms_big := ms_sub _ [290, 291, 46, 292] (by decide +kernel) (by decide +kernel)
theorem my_X5_meanSteps : ms_okY m_X5_meanSteps 0 := ⟨by decide, by decide, by decide +kernel⟩
abbrev m_X5_outIn : ms_D := (yX5_outIn, cX5_outIn, 3, (some .int), 6, 144, [], none)
theorem mw_X5_outIn : ∀ w ∈ [Cond.instanceMethod yX5_outIn, Cond.selects RX5 yX5_outIn yX5_outIn, Cond.initialized RX5, ms_cd m_X5_outIn], w ∈ ms_big := ms_sub _ [767, 768, 46, 769] (by decide +kernel) (by decide +kernel)
theorem my_X5_outIn : ms_okY m_X5_outIn 2 := ⟨by decide, by decide, by decide +kernel⟩
abbrev m_X5_outWith : ms_D := (yX5_outWith, cX5_outWith, 3, (some .int), 6, 142, [], none)
theorem mw_X5_outWith : ∀ w ∈ [Cond.instanceMethod yX5_outWith, Cond.selects RX5 yX5_outWith yX5_outWith, Cond.initialized RX5, ms_cd m_X5_outWith], w ∈ ms_big := ms_sub _ [805, 806, 46, 807] (by decide +kernel) (by decide +kernel)
theorem my_X5_outWith : ms_okY m_X5_outWith 2 := ⟨by decide, by decide, by decide +kernel⟩
abbrev m_X5_outBy : ms_D := (yX5_outBy, cX5_outBy, 6, (some .int), 6, 142, [], none)
theorem mw_X5_outBy : ∀ w ∈ [Cond.instanceMethod yX5_outBy, Cond.selects RX5 yX5_outBy yX5_outBy, Cond.initialized RX5, ms_cd m_X5_outBy], w ∈ ms_big := ms_sub _ [813, 814, 46, 815] (by decide +kernel) (by decide +kernel)
theorem my_X5_outBy : ms_okY m_X5_outBy 3 := ⟨by decide, by decide, by decide +kernel⟩
abbrev m_X5_jamIn : ms_D := (yX5_jamIn, cX5_jamIn, 2, (some .int), 6, 142, [], none)
theorem mw_X5_jamIn : ∀ w ∈ [Cond.instanceMethod yX5_jamIn, Cond.selects RX5 yX5_jamIn yX5_jamIn, Cond.initialized RX5, ms_cd m_X5_jamIn], w ∈ ms_big := ms_sub _ [820, 821, 46, 822] (by decide +kernel) (by decide +kernel)
theorem my_X5_jamIn : ms_okY m_X5_jamIn 1 := ⟨by decide, by decide, by decide +kernel⟩
abbrev m_X5_farWith : ms_D := (yX5_farWith, cX5_farWith, 5, (some .int), 6, 93, [], none)
theorem mw_X5_farWith : ∀ w ∈ [Cond.instanceMethod yX5_farWith, Cond.selects RX5 yX5_farWith yX5_farWith, Cond.initialized RX5, ms_cd m_X5_farWith], w ∈ ms_big := ms_sub _ [836, 837, 46, 838] (by decide +kernel) (by decide +kernel)
theorem my_X5_farWith : ms_okY m_X5_farWith 3 := ⟨by decide, by decide, by decide +kernel⟩
abbrev m_X5_digest : ms_D := (yX5_digest, cX5_digest, 4, (some .long), 6, 136, [], none)
theorem mw_X5_digest : ∀ w ∈ [Cond.instanceMethod yX5_digest, Cond.selects RX5 yX5_digest yX5_digest, Cond.initialized RX5, ms_cd m_X5_digest], w ∈ ms_big := ms_sub _ [310, 311, 46, 312] (by decide +kernel) (by decide +kernel)
theorem my_X5_digest : ms_okY m_X5_digest 0 := ⟨by decide, by decide, by decide +kernel⟩
abbrev m_X5_makeNew : ms_D := (yX5_makeNew, cX5_makeNew, 3, none, 3, 71, [], none)
theorem mw_X5_makeNew : ∀ w ∈ [Cond.instanceMethod yX5_makeNew, Cond.selects RX5 yX5_makeNew yX5_makeNew, Cond.initialized RX5, ms_cd m_X5_makeNew], w ∈ ms_big := ms_sub _ [236, 0, 46, 237] (by decide +kernel) (by decide +kernel)
theorem my_X5_makeNew : ms_okY m_X5_makeNew 2 := ⟨by decide, by decide, by decide +kernel⟩
abbrev m_X5_copyToTrial : ms_D := (yX5_copyToTrial, cX5_copyToTrial, 1, none, 3, 70, [], none)
theorem mw_X5_copyToTrial : ∀ w ∈ [Cond.instanceMethod yX5_copyToTrial, Cond.selects RX5 yX5_copyToTrial yX5_copyToTrial, Cond.initialized RX5, ms_cd m_X5_copyToTrial], w ∈ ms_big := ms_sub _ [776, 18, 46, 777] (by decide +kernel) (by decide +kernel)
theorem my_X5_copyToTrial : ms_okY m_X5_copyToTrial 0 := ⟨by decide, by decide, by decide +kernel⟩
abbrev m_X5_fieldFigure : ms_D := (yX5_fieldFigure, cX5_fieldFigure, 3, (some .int), 2, 46, [], none)
theorem mw_X5_fieldFigure : ∀ w ∈ [Cond.instanceMethod yX5_fieldFigure, Cond.selects RX5 yX5_fieldFigure yX5_fieldFigure, Cond.initialized RX5, ms_cd m_X5_fieldFigure], w ∈ ms_big := ms_sub _ [419, 9, 46, 420] (by decide +kernel) (by decide +kernel)
theorem my_X5_fieldFigure : ms_okY m_X5_fieldFigure 2 := ⟨by decide, by decide, by decide +kernel⟩
abbrev m_X5_crowdFigure : ms_D := (yX5_crowdFigure, cX5_crowdFigure, 2, (some .int), 3, 66, [], none)
theorem mw_X5_crowdFigure : ∀ w ∈ [Cond.instanceMethod yX5_crowdFigure, Cond.selects RX5 yX5_crowdFigure yX5_crowdFigure, Cond.initialized RX5, ms_cd m_X5_crowdFigure], w ∈ ms_big := ms_sub _ [349, 5, 46, 350] (by decide +kernel) (by decide +kernel)
theorem my_X5_crowdFigure : ms_okY m_X5_crowdFigure 1 := ⟨by decide, by decide, by decide +kernel⟩
abbrev m_X5_countOtherwiseFar : ms_D := (yX5_countOtherwiseFar, cX5_countOtherwiseFar, 6, (some .int), 2, 43, [], none)
theorem mw_X5_countOtherwiseFar : ∀ w ∈ [Cond.instanceMethod yX5_countOtherwiseFar, Cond.selects RX5 yX5_countOtherwiseFar yX5_countOtherwiseFar, Cond.initialized RX5, ms_cd m_X5_countOtherwiseFar], w ∈ ms_big := ms_sub _ [841, 20, 46, 842] (by decide +kernel) (by decide +kernel)
theorem my_X5_countOtherwiseFar : ms_okY m_X5_countOtherwiseFar 2 := ⟨by decide, by decide, by decide +kernel⟩
abbrev m_X5_mixWalker : ms_D := (yX5_mixWalker, cX5_mixWalker, 8, (some .long), 3, 73, [], none)
theorem mw_X5_mixWalker : ∀ w ∈ [Cond.instanceMethod yX5_mixWalker, Cond.selects RX5 yX5_mixWalker yX5_mixWalker, Cond.initialized RX5, ms_cd m_X5_mixWalker], w ∈ ms_big := ms_sub _ [387, 6, 46, 388] (by decide +kernel) (by decide +kernel)
theorem my_X5_mixWalker : ms_okY m_X5_mixWalker 2 := ⟨by decide, by decide, by decide +kernel⟩
abbrev m_X5_mixField : ms_D := (yX5_mixField, cX5_mixField, 7, (some .long), 3, 68, [], none)
theorem mw_X5_mixField : ∀ w ∈ [Cond.instanceMethod yX5_mixField, Cond.selects RX5 yX5_mixField yX5_mixField, Cond.initialized RX5, ms_cd m_X5_mixField], w ∈ ms_big := ms_sub _ [415, 8, 46, 416] (by decide +kernel) (by decide +kernel)
theorem my_X5_mixField : ms_okY m_X5_mixField 2 := ⟨by decide, by decide, by decide +kernel⟩
abbrev m_X5_mix : ms_D := (yX5_mix, cX5_mix, 3, (some .long), 0, 0, [], none)
theorem mw_X5_mix : ∀ w ∈ [Cond.static yX5_mix, Cond.initialized RX5, ms_cd m_X5_mix], w ∈ ms_big := ms_sub _ [344, 46, 345] (by decide +kernel) (by decide +kernel)
theorem my_X5_mix : ms_okY m_X5_mix 2 := ⟨by decide, by decide, by decide +kernel⟩
abbrev m_X5_isGoal : ms_D := (yX5_isGoal, cX5_isGoal, 1, (some .boolean), 0, 0, [], none)
theorem mw_X5_isGoal : ∀ w ∈ [Cond.static yX5_isGoal, Cond.initialized RX5, ms_cd m_X5_isGoal], w ∈ ms_big := ms_sub _ [360, 46, 361] (by decide +kernel) (by decide +kernel)
theorem my_X5_isGoal : ms_okY m_X5_isGoal 1 := ⟨by decide, by decide, by decide +kernel⟩
abbrev m_X5_isMood : ms_D := (yX5_isMood, cX5_isMood, 1, (some .boolean), 0, 0, [], none)
theorem mw_X5_isMood : ∀ w ∈ [Cond.static yX5_isMood, Cond.initialized RX5, ms_cd m_X5_isMood], w ∈ ms_big := ms_sub _ [639, 46, 640] (by decide +kernel) (by decide +kernel)
theorem my_X5_isMood : ms_okY m_X5_isMood 1 := ⟨by decide, by decide, by decide +kernel⟩
abbrev m_X5_isAhead : ms_D := (yX5_isAhead, cX5_isAhead, 1, (some .boolean), 0, 0, [], none)
theorem mw_X5_isAhead : ∀ w ∈ [Cond.static yX5_isAhead, Cond.initialized RX5, ms_cd m_X5_isAhead], w ∈ ms_big := ms_sub _ [771, 46, 772] (by decide +kernel) (by decide +kernel)
theorem my_X5_isAhead : ms_okY m_X5_isAhead 1 := ⟨by decide, by decide, by decide +kernel⟩
abbrev m_X6_init : ms_D := (yX6_init, cX6_init, 1, none, 1, 22, [], none)
theorem mw_X6_init : ∀ w ∈ [Cond.instanceMethod yX6_init, Cond.initialized RX6, ms_cd m_X6_init], w ∈ ms_big := ms_sub _ [846, 52, 847] (by decide +kernel) (by decide +kernel)
theorem my_X6_init : ms_okY m_X6_init 0 := ⟨by decide, by decide, by decide +kernel⟩
abbrev m_X6_make : ms_D := (yX6_make, cX6_make, 3, none, 0, 0, [], none)
theorem mw_X6_make : ∀ w ∈ [Cond.instanceMethod yX6_make, Cond.selects RX6 yX6_make yX6_make, Cond.initialized RX6, ms_cd m_X6_make], w ∈ ms_big := ms_sub _ [851, 21, 52, 852] (by decide +kernel) (by decide +kernel)
theorem my_X6_make : ms_okY m_X6_make 2 := ⟨by decide, by decide, by decide +kernel⟩
abbrev m_X6_thrown : ms_D := (yX6_thrown, cX6_thrown, 1, (some .int), 0, 0, [], none)
theorem mw_X6_thrown : ∀ w ∈ [Cond.instanceMethod yX6_thrown, Cond.selects RX6 yX6_thrown yX6_thrown, Cond.initialized RX6, ms_cd m_X6_thrown], w ∈ ms_big := ms_sub _ [889, 890, 52, 891] (by decide +kernel) (by decide +kernel)
theorem my_X6_thrown : ms_okY m_X6_thrown 0 := ⟨by decide, by decide, by decide +kernel⟩
abbrev m_X6_no : ms_D := (yX6_no, cX6_no, 2, (some .int), 0, 0, [], none)
theorem mw_X6_no : ∀ w ∈ [Cond.instanceMethod yX6_no, Cond.selects RX6 yX6_no yX6_no, Cond.initialized RX6, ms_cd m_X6_no], w ∈ ms_big := ms_sub _ [901, 22, 52, 902] (by decide +kernel) (by decide +kernel)
theorem my_X6_no : ms_okY m_X6_no 1 := ⟨by decide, by decide, by decide +kernel⟩
abbrev m_X6_ok : ms_D := (yX6_ok, cX6_ok, 2, (some .int), 0, 0, [], none)
theorem mw_X6_ok : ∀ w ∈ [Cond.instanceMethod yX6_ok, Cond.selects RX6 yX6_ok yX6_ok, Cond.initialized RX6, ms_cd m_X6_ok], w ∈ ms_big := ms_sub _ [1011, 36, 52, 1012] (by decide +kernel) (by decide +kernel)
theorem my_X6_ok : ms_okY m_X6_ok 1 := ⟨by decide, by decide, by decide +kernel⟩
abbrev m_X6_isIn : ms_D := (yX6_isIn, cX6_isIn, 3, (some .boolean), 0, 0, [], none)
theorem mw_X6_isIn : ∀ w ∈ [Cond.static yX6_isIn, Cond.initialized RX6, ms_cd m_X6_isIn], w ∈ ms_big := ms_sub _ [897, 52, 898] (by decide +kernel) (by decide +kernel)
theorem my_X6_isIn : ms_okY m_X6_isIn 3 := ⟨by decide, by decide, by decide +kernel⟩
abbrev m_X6_isField : ms_D := (yX6_isField, cX6_isField, 3, (some .boolean), 1, 22, [], none)
theorem mw_X6_isField : ∀ w ∈ [Cond.instanceMethod yX6_isField, Cond.selects RX6 yX6_isField yX6_isField, Cond.initialized RX6, ms_cd m_X6_isField], w ∈ ms_big := ms_sub _ [909, 23, 52, 910] (by decide +kernel) (by decide +kernel)
theorem my_X6_isField : ms_okY m_X6_isField 2 := ⟨by decide, by decide, by decide +kernel⟩
abbrev m_X6_isGoal : ms_D := (yX6_isGoal, cX6_isGoal, 1, (some .boolean), 1, 22, [], none)
theorem mw_X6_isGoal : ∀ w ∈ [Cond.static yX6_isGoal, Cond.initialized RX6, ms_cd m_X6_isGoal], w ∈ ms_big := ms_sub _ [922, 52, 923] (by decide +kernel) (by decide +kernel)
theorem my_X6_isGoal : ms_okY m_X6_isGoal 1 := ⟨by decide, by decide, by decide +kernel⟩
abbrev m_X6_isWalker : ms_D := (yX6_isWalker, cX6_isWalker, 2, (some .boolean), 1, 22, [], none)
theorem mw_X6_isWalker : ∀ w ∈ [Cond.instanceMethod yX6_isWalker, Cond.selects RX6 yX6_isWalker yX6_isWalker, Cond.initialized RX6, ms_cd m_X6_isWalker], w ∈ ms_big := ms_sub _ [977, 30, 52, 978] (by decide +kernel) (by decide +kernel)
theorem my_X6_isWalker : ms_okY m_X6_isWalker 1 := ⟨by decide, by decide, by decide +kernel⟩
abbrev m_X6_isOn : ms_D := (yX6_isOn, cX6_isOn, 2, (some .boolean), 2, 43, [], none)
theorem mw_X6_isOn : ∀ w ∈ [Cond.instanceMethod yX6_isOn, Cond.selects RX6 yX6_isOn yX6_isOn, Cond.initialized RX6, ms_cd m_X6_isOn], w ∈ ms_big := ms_sub _ [981, 31, 52, 982] (by decide +kernel) (by decide +kernel)
theorem my_X6_isOn : ms_okY m_X6_isOn 1 := ⟨by decide, by decide, by decide +kernel⟩
abbrev m_X6_beside : ms_D := (yX6_beside, cX6_beside, 5, (some .int), 2, 44, [], none)
theorem mw_X6_beside : ∀ w ∈ [Cond.instanceMethod yX6_beside, Cond.selects RX6 yX6_beside yX6_beside, Cond.initialized RX6, ms_cd m_X6_beside], w ∈ ms_big := ms_sub _ [957, 29, 52, 958] (by decide +kernel) (by decide +kernel)
theorem my_X6_beside : ms_okY m_X6_beside 2 := ⟨by decide, by decide, by decide +kernel⟩
abbrev m_X6_areRound : ms_D := (yX6_areRound, cX6_areRound, 3, (some .boolean), 1, 21, [], none)
theorem mw_X6_areRound : ∀ w ∈ [Cond.instanceMethod yX6_areRound, Cond.selects RX6 yX6_areRound yX6_areRound, Cond.initialized RX6, ms_cd m_X6_areRound], w ∈ ms_big := ms_sub _ [942, 27, 52, 943] (by decide +kernel) (by decide +kernel)
theorem my_X6_areRound : ms_okY m_X6_areRound 2 := ⟨by decide, by decide, by decide +kernel⟩
abbrev m_X6_walkerOn : ms_D := (yX6_walkerOn, cX6_walkerOn, 3, (some .int), 0, 0, [], none)
theorem mw_X6_walkerOn : ∀ w ∈ [Cond.instanceMethod yX6_walkerOn, Cond.selects RX6 yX6_walkerOn yX6_walkerOn, Cond.initialized RX6, ms_cd m_X6_walkerOn], w ∈ ms_big := ms_sub _ [915, 24, 52, 916] (by decide +kernel) (by decide +kernel)
theorem my_X6_walkerOn : ms_okY m_X6_walkerOn 1 := ⟨by decide, by decide, by decide +kernel⟩
abbrev m_X6_round : ms_D := (yX6_round, cX6_round, 5, (some .int), 2, 43, [], none)
theorem mw_X6_round : ∀ w ∈ [Cond.instanceMethod yX6_round, Cond.selects RX6 yX6_round yX6_round, Cond.initialized RX6, ms_cd m_X6_round], w ∈ ms_big := ms_sub _ [938, 26, 52, 939] (by decide +kernel) (by decide +kernel)
theorem my_X6_round : ms_okY m_X6_round 2 := ⟨by decide, by decide, by decide +kernel⟩
abbrev m_X6_far : ms_D := (yX6_far, cX6_far, 9, (some (.array .int)), 3, 68, [], none)
theorem mw_X6_far : ∀ w ∈ [Cond.instanceMethod yX6_far, Cond.selects RX6 yX6_far yX6_far, Cond.initialized RX6, ms_cd m_X6_far], w ∈ ms_big := ms_sub _ [953, 28, 52, 954] (by decide +kernel) (by decide +kernel)
theorem my_X6_far : ms_okY m_X6_far 1 := ⟨by decide, by decide, by decide +kernel⟩
abbrev m_X6_farAll : ms_D := (yX6_farAll, cX6_farAll, 3, (some (.array (.array .int))), 4, 96, [], none)
theorem mw_X6_farAll : ∀ w ∈ [Cond.instanceMethod yX6_farAll, Cond.selects RX6 yX6_farAll yX6_farAll, Cond.initialized RX6, ms_cd m_X6_farAll], w ∈ ms_big := ms_sub _ [989, 32, 52, 990] (by decide +kernel) (by decide +kernel)
theorem my_X6_farAll : ms_okY m_X6_farAll 0 := ⟨by decide, by decide, by decide +kernel⟩
abbrev m_X6_reset : ms_D := (yX6_reset, cX6_reset, 3, (some .int), 1, 22, [], none)
theorem mw_X6_reset : ∀ w ∈ [Cond.instanceMethod yX6_reset, Cond.selects RX6 yX6_reset yX6_reset, Cond.initialized RX6, ms_cd m_X6_reset], w ∈ ms_big := ms_sub _ [893, 894, 52, 895] (by decide +kernel) (by decide +kernel)
theorem my_X6_reset : ms_okY m_X6_reset 2 := ⟨by decide, by decide, by decide +kernel⟩
abbrev m_X6_wall : ms_D := (yX6_wall, cX6_wall, 11, (some .int), 2, 44, [], none)
theorem mw_X6_wall : ∀ w ∈ [Cond.instanceMethod yX6_wall, Cond.selects RX6 yX6_wall yX6_wall, Cond.initialized RX6, ms_cd m_X6_wall], w ∈ ms_big := ms_sub _ [904, 905, 52, 906] (by decide +kernel) (by decide +kernel)
theorem my_X6_wall : ms_okY m_X6_wall 5 := ⟨by decide, by decide, by decide +kernel⟩
abbrev m_X6_mark : ms_D := (yX6_mark, cX6_mark, 8, (some .int), 2, 44, [], none)
theorem mw_X6_mark : ∀ w ∈ [Cond.instanceMethod yX6_mark, Cond.selects RX6 yX6_mark yX6_mark, Cond.initialized RX6, ms_cd m_X6_mark], w ∈ ms_big := ms_sub _ [918, 919, 52, 920] (by decide +kernel) (by decide +kernel)
theorem my_X6_mark : ms_okY m_X6_mark 3 := ⟨by decide, by decide, by decide +kernel⟩
abbrev m_X6_set : ms_D := (yX6_set, cX6_set, 4, (some .int), 1, 22, [], none)
theorem mw_X6_set : ∀ w ∈ [Cond.instanceMethod yX6_set, Cond.selects RX6 yX6_set yX6_set, Cond.initialized RX6, ms_cd m_X6_set], w ∈ ms_big := ms_sub _ [925, 926, 52, 927] (by decide +kernel) (by decide +kernel)
theorem my_X6_set : ms_okY m_X6_set 2 := ⟨by decide, by decide, by decide +kernel⟩
abbrev m_X6_fieldNow : ms_D := (yX6_fieldNow, cX6_fieldNow, 3, (some .int), 3, 67, [], none)
theorem mw_X6_fieldNow : ∀ w ∈ [Cond.instanceMethod yX6_fieldNow, Cond.selects RX6 yX6_fieldNow yX6_fieldNow, Cond.initialized RX6, ms_cd m_X6_fieldNow], w ∈ ms_big := ms_sub _ [934, 25, 52, 935] (by decide +kernel) (by decide +kernel)
theorem my_X6_fieldNow : ms_okY m_X6_fieldNow 2 := ⟨by decide, by decide, by decide +kernel⟩
abbrev m_X6_field : ms_D := (yX6_field, cX6_field, 4, (some .int), 4, 89, [], none)
theorem mw_X6_field : ∀ w ∈ [Cond.instanceMethod yX6_field, Cond.selects RX6 yX6_field yX6_field, Cond.initialized RX6, ms_cd m_X6_field], w ∈ ms_big := ms_sub _ [929, 930, 52, 931] (by decide +kernel) (by decide +kernel)
theorem my_X6_field : ms_okY m_X6_field 3 := ⟨by decide, by decide, by decide +kernel⟩
abbrev m_X6_far_ : ms_D := (yX6_far_, cX6_far_, 4, (some .int), 4, 96, [], none)
theorem mw_X6_far_ : ∀ w ∈ [Cond.instanceMethod yX6_far_, Cond.selects RX6 yX6_far_ yX6_far_, Cond.initialized RX6, ms_cd m_X6_far_], w ∈ ms_big := ms_sub _ [948, 949, 52, 950] (by decide +kernel) (by decide +kernel)
theorem my_X6_far_ : ms_okY m_X6_far_ 3 := ⟨by decide, by decide, by decide +kernel⟩
abbrev m_X6_most : ms_D := (yX6_most, cX6_most, 6, (some .int), 1, 21, [], none)
theorem mw_X6_most : ∀ w ∈ [Cond.static yX6_most, Cond.initialized RX6, ms_cd m_X6_most], w ∈ ms_big := ms_sub _ [964, 52, 965] (by decide +kernel) (by decide +kernel)
theorem my_X6_most : ms_okY m_X6_most 1 := ⟨by decide, by decide, by decide +kernel⟩
abbrev m_X6_farthest : ms_D := (yX6_farthest, cX6_farthest, 2, (some .int), 4, 96, [], none)
theorem mw_X6_farthest : ∀ w ∈ [Cond.instanceMethod yX6_farthest, Cond.selects RX6 yX6_farthest yX6_farthest, Cond.initialized RX6, ms_cd m_X6_farthest], w ∈ ms_big := ms_sub _ [960, 961, 52, 962] (by decide +kernel) (by decide +kernel)
theorem my_X6_farthest : ms_okY m_X6_farthest 1 := ⟨by decide, by decide, by decide +kernel⟩
abbrev m_X6_walker : ms_D := (yX6_walker, cX6_walker, 8, (some .int), 2, 48, [], none)
theorem mw_X6_walker : ∀ w ∈ [Cond.instanceMethod yX6_walker, Cond.selects RX6 yX6_walker yX6_walker, Cond.initialized RX6, ms_cd m_X6_walker], w ∈ ms_big := ms_sub _ [967, 968, 52, 969] (by decide +kernel) (by decide +kernel)
theorem my_X6_walker : ms_okY m_X6_walker 5 := ⟨by decide, by decide, by decide +kernel⟩
abbrev m_X6_turnTo : ms_D := (yX6_turnTo, cX6_turnTo, 6, (some .int), 3, 64, [], none)
theorem mw_X6_turnTo : ∀ w ∈ [Cond.instanceMethod yX6_turnTo, Cond.selects RX6 yX6_turnTo yX6_turnTo, Cond.initialized RX6, ms_cd m_X6_turnTo], w ∈ ms_big := ms_sub _ [972, 973, 52, 974] (by decide +kernel) (by decide +kernel)
theorem my_X6_turnTo : ms_okY m_X6_turnTo 3 := ⟨by decide, by decide, by decide +kernel⟩
abbrev m_X6_costNow : ms_D := (yX6_costNow, cX6_costNow, 9, (some .int), 3, 68, [], none)
theorem mw_X6_costNow : ∀ w ∈ [Cond.instanceMethod yX6_costNow, Cond.selects RX6 yX6_costNow yX6_costNow, Cond.initialized RX6, ms_cd m_X6_costNow], w ∈ ms_big := ms_sub _ [1003, 35, 52, 1004] (by decide +kernel) (by decide +kernel)
theorem my_X6_costNow : ms_okY m_X6_costNow 3 := ⟨by decide, by decide, by decide +kernel⟩
abbrev m_X6_wantsNow : ms_D := (yX6_wantsNow, cX6_wantsNow, 7, (some .int), 4, 96, [], none)
theorem mw_X6_wantsNow : ∀ w ∈ [Cond.instanceMethod yX6_wantsNow, Cond.selects RX6 yX6_wantsNow yX6_wantsNow, Cond.initialized RX6, ms_cd m_X6_wantsNow], w ∈ ms_big := ms_sub _ [999, 34, 52, 1000] (by decide +kernel) (by decide +kernel)
theorem my_X6_wantsNow : ms_okY m_X6_wantsNow 2 := ⟨by decide, by decide, by decide +kernel⟩
abbrev m_X6_tickNow : ms_D := (yX6_tickNow, cX6_tickNow, 8, (some .int), 5, 122, [], none)
theorem mw_X6_tickNow : ∀ w ∈ [Cond.instanceMethod yX6_tickNow, Cond.selects RX6 yX6_tickNow yX6_tickNow, Cond.initialized RX6, ms_cd m_X6_tickNow], w ∈ ms_big := ms_sub _ [995, 33, 52, 996] (by decide +kernel) (by decide +kernel)
theorem my_X6_tickNow : ms_okY m_X6_tickNow 1 := ⟨by decide, by decide, by decide +kernel⟩
abbrev m_X6_tick : ms_D := (yX6_tick, cX6_tick, 5, (some .int), 6, 149, [], none)
theorem mw_X6_tick : ∀ w ∈ [Cond.instanceMethod yX6_tick, Cond.selects RX6 yX6_tick yX6_tick, Cond.initialized RX6, ms_cd m_X6_tick], w ∈ ms_big := ms_sub _ [984, 985, 52, 986] (by decide +kernel) (by decide +kernel)
theorem my_X6_tick : ms_okY m_X6_tick 1 := ⟨by decide, by decide, by decide +kernel⟩
abbrev m_X6_clock : ms_D := (yX6_clock, cX6_clock, 1, (some .int), 1, 21, [], none)
theorem mw_X6_clock : ∀ w ∈ [Cond.instanceMethod yX6_clock, Cond.selects RX6 yX6_clock yX6_clock, Cond.initialized RX6, ms_cd m_X6_clock], w ∈ ms_big := ms_sub _ [1006, 1007, 52, 1008] (by decide +kernel) (by decide +kernel)
theorem my_X6_clock : ms_okY m_X6_clock 0 := ⟨by decide, by decide, by decide +kernel⟩
abbrev m_X6_jams : ms_D := (yX6_jams, cX6_jams, 7, (some (.array .int)), 3, 68, [], none)
theorem mw_X6_jams : ∀ w ∈ [Cond.instanceMethod yX6_jams, Cond.selects RX6 yX6_jams yX6_jams, Cond.initialized RX6, ms_cd m_X6_jams], w ∈ ms_big := ms_sub _ [1019, 37, 52, 1020] (by decide +kernel) (by decide +kernel)
theorem my_X6_jams : ms_okY m_X6_jams 0 := ⟨by decide, by decide, by decide +kernel⟩
abbrev m_X6_count : ms_D := (yX6_count, cX6_count, 7, (some .int), 0, 0, [], none)
theorem mw_X6_count : ∀ w ∈ [Cond.static yX6_count, Cond.initialized RX6, ms_cd m_X6_count], w ∈ ms_big := ms_sub _ [1026, 52, 1027] (by decide +kernel) (by decide +kernel)
theorem my_X6_count : ms_okY m_X6_count 2 := ⟨by decide, by decide, by decide +kernel⟩
abbrev m_X6_manyNow : ms_D := (yX6_manyNow, cX6_manyNow, 6, (some .int), 3, 64, [], none)
theorem mw_X6_manyNow : ∀ w ∈ [Cond.instanceMethod yX6_manyNow, Cond.selects RX6 yX6_manyNow yX6_manyNow, Cond.initialized RX6, ms_cd m_X6_manyNow], w ∈ ms_big := ms_sub _ [1023, 38, 52, 1024] (by decide +kernel) (by decide +kernel)
theorem my_X6_manyNow : ms_okY m_X6_manyNow 3 := ⟨by decide, by decide, by decide +kernel⟩
abbrev m_X6_many : ms_D := (yX6_many, cX6_many, 2, (some .int), 5, 118, [], none)
theorem mw_X6_many : ∀ w ∈ [Cond.instanceMethod yX6_many, Cond.selects RX6 yX6_many yX6_many, Cond.initialized RX6, ms_cd m_X6_many], w ∈ ms_big := ms_sub _ [1014, 1015, 52, 1016] (by decide +kernel) (by decide +kernel)
theorem my_X6_many : ms_okY m_X6_many 1 := ⟨by decide, by decide, by decide +kernel⟩
abbrev m_X6_ofNow : ms_D := (yX6_ofNow, cX6_ofNow, 5, (some .int), 3, 64, [], none)
theorem mw_X6_ofNow : ∀ w ∈ [Cond.instanceMethod yX6_ofNow, Cond.selects RX6 yX6_ofNow yX6_ofNow, Cond.initialized RX6, ms_cd m_X6_ofNow], w ∈ ms_big := ms_sub _ [1034, 39, 52, 1035] (by decide +kernel) (by decide +kernel)
theorem my_X6_ofNow : ms_okY m_X6_ofNow 3 := ⟨by decide, by decide, by decide +kernel⟩
abbrev m_X6_ofWalker : ms_D := (yX6_ofWalker, cX6_ofWalker, 3, (some .int), 5, 118, [], none)
theorem mw_X6_ofWalker : ∀ w ∈ [Cond.instanceMethod yX6_ofWalker, Cond.selects RX6 yX6_ofWalker yX6_ofWalker, Cond.initialized RX6, ms_cd m_X6_ofWalker], w ∈ ms_big := ms_sub _ [1029, 1030, 52, 1031] (by decide +kernel) (by decide +kernel)
theorem my_X6_ofWalker : ms_okY m_X6_ofWalker 2 := ⟨by decide, by decide, by decide +kernel⟩
abbrev m_X6_farOf : ms_D := (yX6_farOf, cX6_farOf, 2, (some (.array .int)), 4, 96, [], none)
theorem mw_X6_farOf : ∀ w ∈ [Cond.instanceMethod yX6_farOf, Cond.selects RX6 yX6_farOf yX6_farOf, Cond.initialized RX6, ms_cd m_X6_farOf], w ∈ ms_big := ms_sub _ [1042, 40, 52, 1043] (by decide +kernel) (by decide +kernel)
theorem my_X6_farOf : ms_okY m_X6_farOf 1 := ⟨by decide, by decide, by decide +kernel⟩
abbrev m_X6_cost : ms_D := (yX6_cost, cX6_cost, 3, (some .int), 5, 117, [], none)
theorem mw_X6_cost : ∀ w ∈ [Cond.instanceMethod yX6_cost, Cond.selects RX6 yX6_cost yX6_cost, Cond.initialized RX6, ms_cd m_X6_cost], w ∈ ms_big := ms_sub _ [1037, 1038, 52, 1039] (by decide +kernel) (by decide +kernel)
theorem my_X6_cost : ms_okY m_X6_cost 2 := ⟨by decide, by decide, by decide +kernel⟩
abbrev m_X6_wants : ms_D := (yX6_wants, cX6_wants, 2, (some .int), 5, 122, [], none)
theorem mw_X6_wants : ∀ w ∈ [Cond.instanceMethod yX6_wants, Cond.selects RX6 yX6_wants yX6_wants, Cond.initialized RX6, ms_cd m_X6_wants], w ∈ ms_big := ms_sub _ [1045, 1046, 52, 1047] (by decide +kernel) (by decide +kernel)
theorem my_X6_wants : ms_okY m_X6_wants 1 := ⟨by decide, by decide, by decide +kernel⟩
abbrev m_X6_way : ms_D := (yX6_way, cX6_way, 7, (some .int), 5, 117, [], none)
theorem mw_X6_way : ∀ w ∈ [Cond.instanceMethod yX6_way, Cond.selects RX6 yX6_way yX6_way, Cond.initialized RX6, ms_cd m_X6_way], w ∈ ms_big := ms_sub _ [1049, 1050, 52, 1051] (by decide +kernel) (by decide +kernel)
theorem my_X6_way : ms_okY m_X6_way 2 := ⟨by decide, by decide, by decide +kernel⟩
abbrev m_X6_jamNow : ms_D := (yX6_jamNow, cX6_jamNow, 3, (some .int), 1, 26, [], none)
theorem mw_X6_jamNow : ∀ w ∈ [Cond.instanceMethod yX6_jamNow, Cond.selects RX6 yX6_jamNow yX6_jamNow, Cond.initialized RX6, ms_cd m_X6_jamNow], w ∈ ms_big := ms_sub _ [1058, 41, 52, 1059] (by decide +kernel) (by decide +kernel)
theorem my_X6_jamNow : ms_okY m_X6_jamNow 2 := ⟨by decide, by decide, by decide +kernel⟩
abbrev m_X6_jam : ms_D := (yX6_jam, cX6_jam, 2, (some .int), 4, 94, [], none)
theorem mw_X6_jam : ∀ w ∈ [Cond.instanceMethod yX6_jam, Cond.selects RX6 yX6_jam yX6_jam, Cond.initialized RX6, ms_cd m_X6_jam], w ∈ ms_big := ms_sub _ [1053, 1054, 52, 1055] (by decide +kernel) (by decide +kernel)
theorem my_X6_jam : ms_okY m_X6_jam 1 := ⟨by decide, by decide, by decide +kernel⟩
abbrev m_X6_meanSteps : ms_D := (yX6_meanSteps, cX6_meanSteps, 4, (some .double), 3, 64, [], none)
theorem mw_X6_meanSteps : ∀ w ∈ [Cond.instanceMethod yX6_meanSteps, Cond.selects RX6 yX6_meanSteps yX6_meanSteps, Cond.initialized RX6, ms_cd m_X6_meanSteps], w ∈ ms_big := ms_sub _ [1061, 1062, 52, 1063] (by decide +kernel) (by decide +kernel)
theorem my_X6_meanSteps : ms_okY m_X6_meanSteps 0 := ⟨by decide, by decide, by decide +kernel⟩
abbrev m_X6_putBy : ms_D := (yX6_putBy, cX6_putBy, 2, (some (.array (.array .int))), 1, 48, [], none)
theorem mw_X6_putBy : ∀ w ∈ [Cond.instanceMethod yX6_putBy, Cond.selects RX6 yX6_putBy yX6_putBy, Cond.initialized RX6, ms_cd m_X6_putBy], w ∈ ms_big := ms_sub _ [1070, 42, 52, 1071] (by decide +kernel) (by decide +kernel)
theorem my_X6_putBy : ms_okY m_X6_putBy 0 := ⟨by decide, by decide, by decide +kernel⟩
abbrev m_X6_putBack : ms_D := (yX6_putBack, cX6_putBack, 2, none, 0, 0, [], none)
theorem mw_X6_putBack : ∀ w ∈ [Cond.instanceMethod yX6_putBack, Cond.selects RX6 yX6_putBack yX6_putBack, Cond.initialized RX6, ms_cd m_X6_putBack], w ∈ ms_big := ms_sub _ [1074, 43, 52, 1075] (by decide +kernel) (by decide +kernel)
theorem my_X6_putBack : ms_okY m_X6_putBack 1 := ⟨by decide, by decide, by decide +kernel⟩
abbrev m_X6_outIn : ms_D := (yX6_outIn, cX6_outIn, 6, (some .int), 6, 149, [], none)
theorem mw_X6_outIn : ∀ w ∈ [Cond.instanceMethod yX6_outIn, Cond.selects RX6 yX6_outIn yX6_outIn, Cond.initialized RX6, ms_cd m_X6_outIn], w ∈ ms_big := ms_sub _ [1065, 1066, 52, 1067] (by decide +kernel) (by decide +kernel)
theorem my_X6_outIn : ms_okY m_X6_outIn 2 := ⟨by decide, by decide, by decide +kernel⟩
abbrev m_X6_outBehind : ms_D := (yX6_outBehind, cX6_outBehind, 6, (some .int), 6, 149, [], none)
theorem mw_X6_outBehind : ∀ w ∈ [Cond.instanceMethod yX6_outBehind, Cond.selects RX6 yX6_outBehind yX6_outBehind, Cond.initialized RX6, ms_cd m_X6_outBehind], w ∈ ms_big := ms_sub _ [1082, 44, 52, 1083] (by decide +kernel) (by decide +kernel)
theorem my_X6_outBehind : ms_okY m_X6_outBehind 1 := ⟨by decide, by decide, by decide +kernel⟩
abbrev m_X6_outWith : ms_D := (yX6_outWith, cX6_outWith, 5, (some .int), 7, 174, [], none)
theorem mw_X6_outWith : ∀ w ∈ [Cond.instanceMethod yX6_outWith, Cond.selects RX6 yX6_outWith yX6_outWith, Cond.initialized RX6, ms_cd m_X6_outWith], w ∈ ms_big := ms_sub _ [1077, 1078, 52, 1079] (by decide +kernel) (by decide +kernel)
theorem my_X6_outWith : ms_okY m_X6_outWith 2 := ⟨by decide, by decide, by decide +kernel⟩
abbrev m_X6_outBy : ms_D := (yX6_outBy, cX6_outBy, 7, (some .int), 7, 174, [], none)
theorem mw_X6_outBy : ∀ w ∈ [Cond.instanceMethod yX6_outBy, Cond.selects RX6 yX6_outBy yX6_outBy, Cond.initialized RX6, ms_cd m_X6_outBy], w ∈ ms_big := ms_sub _ [1085, 1086, 52, 1087] (by decide +kernel) (by decide +kernel)
theorem my_X6_outBy : ms_okY m_X6_outBy 3 := ⟨by decide, by decide, by decide +kernel⟩
abbrev m_X6_jamIn : ms_D := (yX6_jamIn, cX6_jamIn, 5, (some .int), 6, 149, [], none)
theorem mw_X6_jamIn : ∀ w ∈ [Cond.instanceMethod yX6_jamIn, Cond.selects RX6 yX6_jamIn yX6_jamIn, Cond.initialized RX6, ms_cd m_X6_jamIn], w ∈ ms_big := ms_sub _ [1089, 1090, 52, 1091] (by decide +kernel) (by decide +kernel)
theorem my_X6_jamIn : ms_okY m_X6_jamIn 1 := ⟨by decide, by decide, by decide +kernel⟩
abbrev m_X6_farWith : ms_D := (yX6_farWith, cX6_farWith, 9, (some .int), 4, 96, [], none)
theorem mw_X6_farWith : ∀ w ∈ [Cond.instanceMethod yX6_farWith, Cond.selects RX6 yX6_farWith yX6_farWith, Cond.initialized RX6, ms_cd m_X6_farWith], w ∈ ms_big := ms_sub _ [1093, 1094, 52, 1095] (by decide +kernel) (by decide +kernel)
theorem my_X6_farWith : ms_okY m_X6_farWith 3 := ⟨by decide, by decide, by decide +kernel⟩
abbrev m_X6_digest : ms_D := (yX6_digest, cX6_digest, 7, (some .long), 5, 118, [], none)
theorem mw_X6_digest : ∀ w ∈ [Cond.instanceMethod yX6_digest, Cond.selects RX6 yX6_digest yX6_digest, Cond.initialized RX6, ms_cd m_X6_digest], w ∈ ms_big := ms_sub _ [1097, 1098, 52, 1099] (by decide +kernel) (by decide +kernel)
theorem my_X6_digest : ms_okY m_X6_digest 0 := ⟨by decide, by decide, by decide +kernel⟩
abbrev m_L_reset : ms_D := (yL_reset, cL_reset, 5, (some .int), 7, 115, [(0, 10, 13, 13)], none)
theorem mw_L_reset : ∀ w ∈ [Cond.static yL_reset, Cond.initialized RL, ms_cd m_L_reset], w ∈ ms_big := ms_sub _ [429, 45, 430] (by decide +kernel) (by decide +kernel)
theorem my_L_reset : ms_okY m_L_reset 4 := ⟨by decide, by decide, by decide +kernel⟩
abbrev m_L_wall : ms_D := (yL_wall, cL_wall, 8, (some .int), 7, 145, [(0, 16, 19, 19), (0, 16, 23, 21)], none)
theorem mw_L_wall : ∀ w ∈ [Cond.static yL_wall, Cond.initialized RL, ms_cd m_L_wall], w ∈ ms_big := ms_sub _ [505, 45, 506] (by decide +kernel) (by decide +kernel)
theorem my_L_wall : ms_okY m_L_wall 7 := ⟨by decide, by decide, by decide +kernel⟩
abbrev m_L_mark : ms_D := (yL_mark, cL_mark, 6, (some .int), 7, 118, [(0, 12, 15, 19), (0, 12, 19, 21)], none)
theorem mw_L_mark : ∀ w ∈ [Cond.static yL_mark, Cond.initialized RL, ms_cd m_L_mark], w ∈ ms_big := ms_sub _ [582, 45, 583] (by decide +kernel) (by decide +kernel)
theorem my_L_mark : ms_okY m_L_mark 5 := ⟨by decide, by decide, by decide +kernel⟩
abbrev m_L_set : ms_D := (yL_set, cL_set, 5, (some .int), 7, 113, [(0, 10, 13, 13)], none)
theorem mw_L_set : ∀ w ∈ [Cond.static yL_set, Cond.initialized RL, ms_cd m_L_set], w ∈ ms_big := ms_sub _ [601, 45, 602] (by decide +kernel) (by decide +kernel)
theorem my_L_set : ms_okY m_L_set 4 := ⟨by decide, by decide, by decide +kernel⟩
abbrev m_L_field : ms_D := (yL_field, cL_field, 6, (some .int), 7, 114, [(0, 12, 15, 19), (0, 12, 19, 13)], none)
theorem mw_L_field : ∀ w ∈ [Cond.static yL_field, Cond.initialized RL, ms_cd m_L_field], w ∈ ms_big := ms_sub _ [609, 45, 610] (by decide +kernel) (by decide +kernel)
theorem my_L_field : ms_okY m_L_field 5 := ⟨by decide, by decide, by decide +kernel⟩
abbrev m_L_far : ms_D := (yL_far, cL_far, 6, (some .int), 7, 114, [(0, 12, 15, 19)], none)
theorem mw_L_far : ∀ w ∈ [Cond.static yL_far, Cond.initialized RL, ms_cd m_L_far], w ∈ ms_big := ms_sub _ [617, 45, 618] (by decide +kernel) (by decide +kernel)
theorem my_L_far : ms_okY m_L_far 5 := ⟨by decide, by decide, by decide +kernel⟩
abbrev m_L_farthest : ms_D := (yL_farthest, cL_farthest, 4, (some .int), 7, 111, [(0, 9, 12, 19)], none)
theorem mw_L_farthest : ∀ w ∈ [Cond.static yL_farthest, Cond.initialized RL, ms_cd m_L_farthest], w ∈ ms_big := ms_sub _ [624, 45, 625] (by decide +kernel) (by decide +kernel)
theorem my_L_farthest : ms_okY m_L_farthest 3 := ⟨by decide, by decide, by decide +kernel⟩
abbrev m_L_walker : ms_D := (yL_walker, cL_walker, 8, (some .int), 7, 117, [(0, 16, 19, 19), (0, 16, 23, 13), (0, 16, 27, 21)], none)
theorem mw_L_walker : ∀ w ∈ [Cond.static yL_walker, Cond.initialized RL, ms_cd m_L_walker], w ∈ ms_big := ms_sub _ [632, 45, 633] (by decide +kernel) (by decide +kernel)
theorem my_L_walker : ms_okY m_L_walker 7 := ⟨by decide, by decide, by decide +kernel⟩
abbrev m_L_turnTo : ms_D := (yL_turnTo, cL_turnTo, 6, (some .int), 7, 115, [(0, 12, 15, 19), (0, 12, 19, 13), (0, 12, 23, 21)], none)
theorem mw_L_turnTo : ∀ w ∈ [Cond.static yL_turnTo, Cond.initialized RL, ms_cd m_L_turnTo], w ∈ ms_big := ms_sub _ [654, 45, 655] (by decide +kernel) (by decide +kernel)
theorem my_L_turnTo : ms_okY m_L_turnTo 5 := ⟨by decide, by decide, by decide +kernel⟩
abbrev m_L_tick : ms_D := (yL_tick, cL_tick, 4, (some .int), 7, 164, [(0, 9, 12, 13)], none)
theorem mw_L_tick : ∀ w ∈ [Cond.static yL_tick, Cond.initialized RL, ms_cd m_L_tick], w ∈ ms_big := ms_sub _ [664, 45, 665] (by decide +kernel) (by decide +kernel)
theorem my_L_tick : ms_okY m_L_tick 3 := ⟨by decide, by decide, by decide +kernel⟩
abbrev m_L_many : ms_D := (yL_many, cL_many, 4, (some .int), 7, 157, [(0, 9, 12, 13)], none)
theorem mw_L_many : ∀ w ∈ [Cond.static yL_many, Cond.initialized RL, ms_cd m_L_many], w ∈ ms_big := ms_sub _ [708, 45, 709] (by decide +kernel) (by decide +kernel)
theorem my_L_many : ms_okY m_L_many 3 := ⟨by decide, by decide, by decide +kernel⟩
abbrev m_L_ofWalker : ms_D := (yL_ofWalker, cL_ofWalker, 5, (some .int), 7, 113, [(0, 10, 13, 19), (0, 10, 17, 13)], none)
theorem mw_L_ofWalker : ∀ w ∈ [Cond.static yL_ofWalker, Cond.initialized RL, ms_cd m_L_ofWalker], w ∈ ms_big := ms_sub _ [716, 45, 717] (by decide +kernel) (by decide +kernel)
theorem my_L_ofWalker : ms_okY m_L_ofWalker 4 := ⟨by decide, by decide, by decide +kernel⟩
abbrev m_L_cost : ms_D := (yL_cost, cL_cost, 5, (some .int), 7, 113, [(0, 10, 13, 19), (0, 10, 17, 13)], none)
theorem mw_L_cost : ∀ w ∈ [Cond.static yL_cost, Cond.initialized RL, ms_cd m_L_cost], w ∈ ms_big := ms_sub _ [724, 45, 725] (by decide +kernel) (by decide +kernel)
theorem my_L_cost : ms_okY m_L_cost 4 := ⟨by decide, by decide, by decide +kernel⟩
abbrev m_L_wants : ms_D := (yL_wants, cL_wants, 4, (some .int), 7, 120, [(0, 9, 12, 19)], none)
theorem mw_L_wants : ∀ w ∈ [Cond.static yL_wants, Cond.initialized RL, ms_cd m_L_wants], w ∈ ms_big := ms_sub _ [733, 45, 734] (by decide +kernel) (by decide +kernel)
theorem my_L_wants : ms_okY m_L_wants 3 := ⟨by decide, by decide, by decide +kernel⟩
abbrev m_L_way : ms_D := (yL_way, cL_way, 5, (some .int), 7, 117, [(0, 10, 13, 19), (0, 10, 17, 13)], none)
theorem mw_L_way : ∀ w ∈ [Cond.static yL_way, Cond.initialized RL, ms_cd m_L_way], w ∈ ms_big := ms_sub _ [741, 45, 742] (by decide +kernel) (by decide +kernel)
theorem my_L_way : ms_okY m_L_way 4 := ⟨by decide, by decide, by decide +kernel⟩
abbrev m_L_jam : ms_D := (yL_jam, cL_jam, 4, (some .int), 7, 157, [(0, 9, 12, 19)], none)
theorem mw_L_jam : ∀ w ∈ [Cond.static yL_jam, Cond.initialized RL, ms_cd m_L_jam], w ∈ ms_big := ms_sub _ [757, 45, 758] (by decide +kernel) (by decide +kernel)
theorem my_L_jam : ms_okY m_L_jam 3 := ⟨by decide, by decide, by decide +kernel⟩
abbrev m_L_outIn : ms_D := (yL_outIn, cL_outIn, 5, (some .int), 7, 166, [(0, 10, 13, 19), (0, 10, 17, 13)], none)
theorem mw_L_outIn : ∀ w ∈ [Cond.static yL_outIn, Cond.initialized RL, ms_cd m_L_outIn], w ∈ ms_big := ms_sub _ [764, 45, 765] (by decide +kernel) (by decide +kernel)
theorem my_L_outIn : ms_okY m_L_outIn 4 := ⟨by decide, by decide, by decide +kernel⟩
abbrev m_L_outWith : ms_D := (yL_outWith, cL_outWith, 5, (some .int), 7, 164, [(0, 10, 13, 13)], none)
theorem mw_L_outWith : ∀ w ∈ [Cond.static yL_outWith, Cond.initialized RL, ms_cd m_L_outWith], w ∈ ms_big := ms_sub _ [802, 45, 803] (by decide +kernel) (by decide +kernel)
theorem my_L_outWith : ms_okY m_L_outWith 4 := ⟨by decide, by decide, by decide +kernel⟩
abbrev m_L_outBy : ms_D := (yL_outBy, cL_outBy, 6, (some .int), 7, 167, [(0, 12, 15, 19), (0, 12, 19, 13), (0, 12, 23, 21)], none)
theorem mw_L_outBy : ∀ w ∈ [Cond.static yL_outBy, Cond.initialized RL, ms_cd m_L_outBy], w ∈ ms_big := ms_sub _ [810, 45, 811] (by decide +kernel) (by decide +kernel)
theorem my_L_outBy : ms_okY m_L_outBy 5 := ⟨by decide, by decide, by decide +kernel⟩
abbrev m_L_jamIn : ms_D := (yL_jamIn, cL_jamIn, 4, (some .int), 7, 163, [(0, 9, 12, 13)], none)
theorem mw_L_jamIn : ∀ w ∈ [Cond.static yL_jamIn, Cond.initialized RL, ms_cd m_L_jamIn], w ∈ ms_big := ms_sub _ [817, 45, 818] (by decide +kernel) (by decide +kernel)
theorem my_L_jamIn : ms_okY m_L_jamIn 3 := ⟨by decide, by decide, by decide +kernel⟩
abbrev m_L_farWith : ms_D := (yL_farWith, cL_farWith, 6, (some .int), 7, 117, [(0, 12, 15, 19)], none)
theorem mw_L_farWith : ∀ w ∈ [Cond.static yL_farWith, Cond.initialized RL, ms_cd m_L_farWith], w ∈ ms_big := ms_sub _ [833, 45, 834] (by decide +kernel) (by decide +kernel)
theorem my_L_farWith : ms_okY m_L_farWith 5 := ⟨by decide, by decide, by decide +kernel⟩
theorem cin_X0_42 : ms_okIN RX0 42 m_X4_init RX5 0 := ⟨by decide +kernel, mw_X4_init, rfl, my_X4_init, rfl, rfl⟩
theorem cv_X0_55 : ms_okV RX0 55 m_X0_get 0 1 := ⟨(ms_at 297 (by decide +kernel) rfl), mw_X0_get, ⟨TX0, 10, rfl⟩, my_X0_get, rfl⟩
theorem cs_X0_59 : ms_okS RX0 59 m_X0_copyWalker 2 := ⟨rfl, (ms_at 790 (by decide +kernel) rfl), mw_X0_copyWalker, my_X0_copyWalker⟩
theorem cv_X0_63 : ms_okV RX0 63 m_X4_copyFrom 4 1 := ⟨(ms_at 793 (by decide +kernel) rfl), mw_X4_copyFrom, ⟨TX4, 11, rfl⟩, my_X4_copyFrom, rfl⟩
theorem cv_X0_67 : ms_okV RX0 67 m_X1_number 1 2 := ⟨(ms_at 538 (by decide +kernel) rfl), mw_X1_number, ⟨TX1, 4, rfl⟩, my_X1_number, rfl⟩
theorem cv_X0_73 : ms_okV RX0 73 m_X0_numberOn 0 1 := ⟨(ms_at 408 (by decide +kernel) rfl), mw_X0_numberOn, ⟨TX0, 10, rfl⟩, my_X0_numberOn, rfl⟩
theorem cv_X0_77 : ms_okV RX0 77 m_X1_has 1 1 := ⟨(ms_at 648 (by decide +kernel) rfl), mw_X1_has, ⟨TX1, 4, rfl⟩, my_X1_has, rfl⟩
theorem cv_X0_81 : ms_okV RX0 81 m_X4_come 4 4 := ⟨(ms_at 649 (by decide +kernel) rfl), mw_X4_come, ⟨TX4, 11, rfl⟩, my_X4_come, rfl⟩
theorem cv_X0_88 : ms_okV RX0 88 m_X0_heatOf 0 1 := ⟨(ms_at 374 (by decide +kernel) rfl), mw_X0_heatOf, ⟨TX0, 10, rfl⟩, my_X0_heatOf, rfl⟩
theorem cv_X0_91 : ms_okV RX0 91 m_X4_isOut 4 0 := ⟨(ms_at 301 (by decide +kernel) rfl), mw_X4_isOut, ⟨TX4, 11, rfl⟩, my_X4_isOut, rfl⟩
theorem cv_X0_101 : ms_okV RX0 101 m_X3_distance 3 2 := ⟨(ms_at 355 (by decide +kernel) rfl), mw_X3_distance, ⟨TX3, 5, rfl⟩, my_X3_distance, rfl⟩
theorem cv_X0_124 : ms_okV RX0 124 m_X1_next 1 2 := ⟨(ms_at 407 (by decide +kernel) rfl), mw_X1_next, ⟨TX1, 4, rfl⟩, my_X1_next, rfl⟩
theorem cv_X0_127 : ms_okV RX0 127 m_X0_countRound 0 1 := ⟨(ms_at 403 (by decide +kernel) rfl), mw_X0_countRound, ⟨TX0, 10, rfl⟩, my_X0_countRound, rfl⟩
theorem cv_X0_130 : ms_okV RX0 130 m_X0_countFacing 0 2 := ⟨(ms_at 409 (by decide +kernel) rfl), mw_X0_countFacing, ⟨TX0, 10, rfl⟩, my_X0_countFacing, rfl⟩
theorem cv_X0_133 : ms_okV RX0 133 m_X0_costOf 0 2 := ⟨(ms_at 688 (by decide +kernel) rfl), mw_X0_costOf, ⟨TX0, 10, rfl⟩, my_X0_costOf, rfl⟩
theorem cv_X0_137 : ms_okV RX0 137 m_X0_step 0 0 := ⟨(ms_at 675 (by decide +kernel) rfl), mw_X0_step, ⟨TX0, 10, rfl⟩, my_X0_step, rfl⟩
theorem cv_X0_140 : ms_okV RX0 140 m_X0_countOut 0 0 := ⟨(ms_at 706 (by decide +kernel) rfl), mw_X0_countOut, ⟨TX0, 10, rfl⟩, my_X0_countOut, rfl⟩
theorem cv_X0_144 : ms_okV RX0 144 m_X0_hasJam 0 0 := ⟨(ms_at 827 (by decide +kernel) rfl), mw_X0_hasJam, ⟨TX0, 10, rfl⟩, my_X0_hasJam, rfl⟩
theorem cv_X0_147 : ms_okV RX0 147 m_X0_isJammed 0 1 := ⟨(ms_at 831 (by decide +kernel) rfl), mw_X0_isJammed, ⟨TX0, 10, rfl⟩, my_X0_isJammed, rfl⟩
theorem cv_X0_151 : ms_okV RX0 151 m_X4_isTurnAt 4 1 := ⟨(ms_at 679 (by decide +kernel) rfl), mw_X4_isTurnAt, ⟨TX4, 11, rfl⟩, my_X4_isTurnAt, rfl⟩
theorem cv_X0_158 : ms_okV RX0 158 m_X0_bestSide 0 1 := ⟨(ms_at 684 (by decide +kernel) rfl), mw_X0_bestSide, ⟨TX0, 10, rfl⟩, my_X0_bestSide, rfl⟩
theorem cv_X0_162 : ms_okV RX0 162 m_X0_aim 0 2 := ⟨(ms_at 689 (by decide +kernel) rfl), mw_X0_aim, ⟨TX0, 10, rfl⟩, my_X0_aim, rfl⟩
theorem cv_X0_166 : ms_okV RX0 166 m_X0_claim 0 1 := ⟨(ms_at 693 (by decide +kernel) rfl), mw_X0_claim, ⟨TX0, 10, rfl⟩, my_X0_claim, rfl⟩
theorem cv_X0_170 : ms_okV RX0 170 m_X0_goOrWait 0 1 := ⟨(ms_at 697 (by decide +kernel) rfl), mw_X0_goOrWait, ⟨TX0, 10, rfl⟩, my_X0_goOrWait, rfl⟩
theorem cv_X0_179 : ms_okV RX0 179 m_X0_go 0 2 := ⟨(ms_at 701 (by decide +kernel) rfl), mw_X0_go, ⟨TX0, 10, rfl⟩, my_X0_go, rfl⟩
theorem cv_X0_182 : ms_okV RX0 182 m_X3_isMarked 3 2 := ⟨(ms_at 705 (by decide +kernel) rfl), mw_X3_isMarked, ⟨TX3, 5, rfl⟩, my_X3_isMarked, rfl⟩
theorem cv_X1_25 : ms_okV RX1 25 m_X1_link 1 2 := ⟨(ms_at 242 (by decide +kernel) rfl), mw_X1_link, ⟨TX1, 4, rfl⟩, my_X1_link, rfl⟩
theorem cv_X1_29 : ms_okV RX1 29 m_X1_number 1 2 := ⟨(ms_at 246 (by decide +kernel) rfl), mw_X1_number, ⟨TX1, 4, rfl⟩, my_X1_number, rfl⟩
theorem cv_X1_33 : ms_okV RX1 33 m_X1_has 1 1 := ⟨(ms_at 250 (by decide +kernel) rfl), mw_X1_has, ⟨TX1, 4, rfl⟩, my_X1_has, rfl⟩
theorem cv_X2_31 : ms_okV RX2 31 m_X2_isNewOne 2 2 := ⟨(ms_at 317 (by decide +kernel) rfl), mw_X2_isNewOne, ⟨TX2, 5, rfl⟩, my_X2_isNewOne, rfl⟩
theorem cv_X2_35 : ms_okV RX2 35 m_X2_gather 2 2 := ⟨(ms_at 326 (by decide +kernel) rfl), mw_X2_gather, ⟨TX2, 5, rfl⟩, my_X2_gather, rfl⟩
theorem cv_X2_39 : ms_okV RX2 39 m_X0_get 0 1 := ⟨(ms_at 321 (by decide +kernel) rfl), mw_X0_get, ⟨TX0, 10, rfl⟩, my_X0_get, rfl⟩
theorem cv_X2_43 : ms_okV RX2 43 m_X0_isJammed 0 1 := ⟨(ms_at 322 (by decide +kernel) rfl), mw_X0_isJammed, ⟨TX0, 10, rfl⟩, my_X0_isJammed, rfl⟩
theorem cv_X2_47 : ms_okV RX2 47 m_X2_gatherBeside 2 3 := ⟨(ms_at 330 (by decide +kernel) rfl), mw_X2_gatherBeside, ⟨TX2, 5, rfl⟩, my_X2_gatherBeside, rfl⟩
theorem cv_X2_60 : ms_okV RX2 60 m_X1_next 1 2 := ⟨(ms_at 334 (by decide +kernel) rfl), mw_X1_next, ⟨TX1, 4, rfl⟩, my_X1_next, rfl⟩
theorem cv_X2_66 : ms_okV RX2 66 m_X0_numberOn 0 1 := ⟨(ms_at 338 (by decide +kernel) rfl), mw_X0_numberOn, ⟨TX0, 10, rfl⟩, my_X0_numberOn, rfl⟩
theorem cv_X3_34 : ms_okV RX3 34 m_X1_has 1 1 := ⟨(ms_at 362 (by decide +kernel) rfl), mw_X1_has, ⟨TX1, 4, rfl⟩, my_X1_has, rfl⟩
theorem csn_X3_40 : ms_okSN RX3 40 m_X5_isGoal RX5 1 := ⟨by decide +kernel, mw_X5_isGoal, my_X5_isGoal, rfl⟩
theorem cv_X3_47 : ms_okV RX3 47 m_X3_isFree 3 1 := ⟨(ms_at 567 (by decide +kernel) rfl), mw_X3_isFree, ⟨TX3, 5, rfl⟩, my_X3_isFree, rfl⟩
theorem cv_X3_50 : ms_okV RX3 50 m_X3_isMarked 3 2 := ⟨(ms_at 568 (by decide +kernel) rfl), mw_X3_isMarked, ⟨TX3, 5, rfl⟩, my_X3_isMarked, rfl⟩
theorem cv_X3_54 : ms_okV RX3 54 m_X3_distance 3 2 := ⟨(ms_at 383 (by decide +kernel) rfl), mw_X3_distance, ⟨TX3, 5, rfl⟩, my_X3_distance, rfl⟩
theorem cv_X3_63 : ms_okV RX3 63 m_X3_measure 3 1 := ⟨(ms_at 563 (by decide +kernel) rfl), mw_X3_measure, ⟨TX3, 5, rfl⟩, my_X3_measure, rfl⟩
theorem cv_X3_67 : ms_okV RX3 67 m_X3_spread 3 3 := ⟨(ms_at 572 (by decide +kernel) rfl), mw_X3_spread, ⟨TX3, 5, rfl⟩, my_X3_spread, rfl⟩
theorem cv_X3_71 : ms_okV RX3 71 m_X1_next 1 2 := ⟨(ms_at 576 (by decide +kernel) rfl), mw_X1_next, ⟨TX1, 4, rfl⟩, my_X1_next, rfl⟩
theorem cv_X3_74 : ms_okV RX3 74 m_X3_nearer 3 2 := ⟨(ms_at 752 (by decide +kernel) rfl), mw_X3_nearer, ⟨TX3, 5, rfl⟩, my_X3_nearer, rfl⟩
theorem cv_X4_36 : ms_okV RX4 36 m_X4_isOut 4 0 := ⟨(ms_at 683 (by decide +kernel) rfl), mw_X4_isOut, ⟨TX4, 11, rfl⟩, my_X4_isOut, rfl⟩
theorem cin_X5_9 : ms_okIN RX5 9 m_X1_init RX5 0 := ⟨by decide +kernel, mw_X1_init, rfl, my_X1_init, rfl, rfl⟩
theorem ci_X5_18 : ms_okI RX5 18 m_X3_init 1 := ⟨(ms_at 94 (by decide +kernel) rfl), mw_X3_init, rfl, my_X3_init, rfl, rfl⟩
theorem ci_X5_27 : ms_okI RX5 27 m_X0_init 2 := ⟨(ms_at 116 (by decide +kernel) rfl), mw_X0_init, rfl, my_X0_init, rfl, rfl⟩
theorem cin_X5_36 : ms_okIN RX5 36 m_X2_init RX5 0 := ⟨by decide +kernel, mw_X2_init, rfl, my_X2_init, rfl, rfl⟩
theorem cv_X5_47 : ms_okV RX5 47 m_X5_makeNew 5 2 := ⟨(ms_at 234 (by decide +kernel) rfl), mw_X5_makeNew, ⟨TX5, 6, rfl⟩, my_X5_makeNew, rfl⟩
theorem cv_X5_62 : ms_okV RX5 62 m_X1_number 1 2 := ⟨(ms_at 513 (by decide +kernel) rfl), mw_X1_number, ⟨TX1, 4, rfl⟩, my_X1_number, rfl⟩
theorem cv_X5_79 : ms_okV RX5 79 m_X0_isAnyoneIn 0 4 := ⟨(ms_at 534 (by decide +kernel) rfl), mw_X0_isAnyoneIn, ⟨TX0, 10, rfl⟩, my_X0_isAnyoneIn, rfl⟩
theorem cv_X5_88 : ms_okV RX5 88 m_X3_build 3 2 := ⟨(ms_at 555 (by decide +kernel) rfl), mw_X3_build, ⟨TX3, 5, rfl⟩, my_X3_build, rfl⟩
theorem cv_X5_92 : ms_okV RX5 92 m_X3_measureAll 3 0 := ⟨(ms_at 559 (by decide +kernel) rfl), mw_X3_measureAll, ⟨TX3, 5, rfl⟩, my_X3_measureAll, rfl⟩
theorem cv_X5_95 : ms_okV RX5 95 m_X3_countWalls 3 0 := ⟨(ms_at 577 (by decide +kernel) rfl), mw_X3_countWalls, ⟨TX3, 5, rfl⟩, my_X3_countWalls, rfl⟩
theorem cs_X5_99 : ms_okS RX5 99 m_X5_isGoal 1 := ⟨rfl, (ms_at 588 (by decide +kernel) rfl), mw_X5_isGoal, my_X5_isGoal⟩
theorem cv_X5_105 : ms_okV RX5 105 m_X0_numberOn 0 1 := ⟨(ms_at 425 (by decide +kernel) rfl), mw_X0_numberOn, ⟨TX0, 10, rfl⟩, my_X0_numberOn, rfl⟩
theorem cv_X5_109 : ms_okV RX5 109 m_X0_get 0 1 := ⟨(ms_at 389 (by decide +kernel) rfl), mw_X0_get, ⟨TX0, 10, rfl⟩, my_X0_get, rfl⟩
theorem cv_X5_120 : ms_okV RX5 120 m_X3_turnMark 3 2 := ⟨(ms_at 591 (by decide +kernel) rfl), mw_X3_turnMark, ⟨TX3, 5, rfl⟩, my_X3_turnMark, rfl⟩
theorem cv_X5_123 : ms_okV RX5 123 m_X3_measure 3 1 := ⟨(ms_at 595 (by decide +kernel) rfl), mw_X3_measure, ⟨TX3, 5, rfl⟩, my_X3_measure, rfl⟩
theorem cv_X5_127 : ms_okV RX5 127 m_X3_countMarks 3 1 := ⟨(ms_at 596 (by decide +kernel) rfl), mw_X3_countMarks, ⟨TX3, 5, rfl⟩, my_X3_countMarks, rfl⟩
theorem cv_X5_140 : ms_okV RX5 140 m_X5_fieldFigure 5 2 := ⟨(ms_at 417 (by decide +kernel) rfl), mw_X5_fieldFigure, ⟨TX5, 6, rfl⟩, my_X5_fieldFigure, rfl⟩
theorem cv_X5_143 : ms_okV RX5 143 m_X3_distance 3 2 := ⟨(ms_at 427 (by decide +kernel) rfl), mw_X3_distance, ⟨TX3, 5, rfl⟩, my_X3_distance, rfl⟩
theorem cv_X5_148 : ms_okV RX5 148 m_X3_greatestDistance 3 1 := ⟨(ms_at 379 (by decide +kernel) rfl), mw_X3_greatestDistance, ⟨TX3, 5, rfl⟩, my_X3_greatestDistance, rfl⟩
theorem cs_X5_151 : ms_okS RX5 151 m_X5_isMood 1 := ⟨rfl, (ms_at 638 (by decide +kernel) rfl), mw_X5_isMood, my_X5_isMood⟩
theorem cv_X5_156 : ms_okV RX5 156 m_X3_isFree 3 1 := ⟨(ms_at 421 (by decide +kernel) rfl), mw_X3_isFree, ⟨TX3, 5, rfl⟩, my_X3_isFree, rfl⟩
theorem cv_X5_159 : ms_okV RX5 159 m_X3_isMarked 3 2 := ⟨(ms_at 642 (by decide +kernel) rfl), mw_X3_isMarked, ⟨TX3, 5, rfl⟩, my_X3_isMarked, rfl⟩
theorem cv_X5_168 : ms_okV RX5 168 m_X0_add 0 4 := ⟨(ms_at 644 (by decide +kernel) rfl), mw_X0_add, ⟨TX0, 10, rfl⟩, my_X0_add, rfl⟩
theorem cv_X5_176 : ms_okV RX5 176 m_X4_isOut 4 0 := ⟨(ms_at 398 (by decide +kernel) rfl), mw_X4_isOut, ⟨TX4, 11, rfl⟩, my_X4_isOut, rfl⟩
theorem cv_X5_190 : ms_okV RX5 190 m_X0_countOut 0 0 := ⟨(ms_at 293 (by decide +kernel) rfl), mw_X0_countOut, ⟨TX0, 10, rfl⟩, my_X0_countOut, rfl⟩
theorem cv_X5_193 : ms_okV RX5 193 m_X0_outAfter 0 1 := ⟨(ms_at 671 (by decide +kernel) rfl), mw_X0_outAfter, ⟨TX0, 10, rfl⟩, my_X0_outAfter, rfl⟩
theorem cv_X5_201 : ms_okV RX5 201 m_X2_find 2 1 := ⟨(ms_at 313 (by decide +kernel) rfl), mw_X2_find, ⟨TX2, 5, rfl⟩, my_X2_find, rfl⟩
theorem cv_X5_205 : ms_okV RX5 205 m_X5_crowdFigure 5 1 := ⟨(ms_at 347 (by decide +kernel) rfl), mw_X5_crowdFigure, ⟨TX5, 6, rfl⟩, my_X5_crowdFigure, rfl⟩
theorem cv_X5_210 : ms_okV RX5 210 m_X0_walkerFigure 0 2 := ⟨(ms_at 390 (by decide +kernel) rfl), mw_X0_walkerFigure, ⟨TX0, 10, rfl⟩, my_X0_walkerFigure, rfl⟩
theorem cv_X5_218 : ms_okV RX5 218 m_X0_costOf 0 2 := ⟨(ms_at 399 (by decide +kernel) rfl), mw_X0_costOf, ⟨TX0, 10, rfl⟩, my_X0_costOf, rfl⟩
theorem cv_X5_221 : ms_okV RX5 221 m_X0_bestSide 0 1 := ⟨(ms_at 739 (by decide +kernel) rfl), mw_X0_bestSide, ⟨TX0, 10, rfl⟩, my_X0_bestSide, rfl⟩
theorem cv_X5_227 : ms_okV RX5 227 m_X3_fieldOnWay 3 3 := ⟨(ms_at 748 (by decide +kernel) rfl), mw_X3_fieldOnWay, ⟨TX3, 5, rfl⟩, my_X3_fieldOnWay, rfl⟩
theorem cv_X5_231 : ms_okV RX5 231 m_X2_sizeAround 2 1 := ⟨(ms_at 394 (by decide +kernel) rfl), mw_X2_sizeAround, ⟨TX2, 5, rfl⟩, my_X2_sizeAround, rfl⟩
theorem cv_X5_234 : ms_okV RX5 234 m_X0_countSteps 0 1 := ⟨(ms_at 305 (by decide +kernel) rfl), mw_X0_countSteps, ⟨TX0, 10, rfl⟩, my_X0_countSteps, rfl⟩
theorem cs_X5_238 : ms_okS RX5 238 m_X5_isAhead 1 := ⟨rfl, (ms_at 770 (by decide +kernel) rfl), mw_X5_isAhead, my_X5_isAhead⟩
theorem cv_X5_243 : ms_okV RX5 243 m_X5_copyToTrial 5 0 := ⟨(ms_at 774 (by decide +kernel) rfl), mw_X5_copyToTrial, ⟨TX5, 6, rfl⟩, my_X5_copyToTrial, rfl⟩
theorem cv_X5_246 : ms_okV RX5 246 m_X0_ticksTillOut 0 2 := ⟨(ms_at 797 (by decide +kernel) rfl), mw_X0_ticksTillOut, ⟨TX0, 10, rfl⟩, my_X0_ticksTillOut, rfl⟩
theorem cv_X5_251 : ms_okV RX5 251 m_X0_ticksTillJam 0 1 := ⟨(ms_at 823 (by decide +kernel) rfl), mw_X0_ticksTillJam, ⟨TX0, 10, rfl⟩, my_X0_ticksTillJam, rfl⟩
theorem cv_X5_254 : ms_okV RX5 254 m_X3_copyFrom 3 1 := ⟨(ms_at 778 (by decide +kernel) rfl), mw_X3_copyFrom, ⟨TX3, 5, rfl⟩, my_X3_copyFrom, rfl⟩
theorem cv_X5_258 : ms_okV RX5 258 m_X5_countOtherwiseFar 5 2 := ⟨(ms_at 839 (by decide +kernel) rfl), mw_X5_countOtherwiseFar, ⟨TX5, 6, rfl⟩, my_X5_countOtherwiseFar, rfl⟩
theorem cs_X5_263 : ms_okS RX5 263 m_X5_mix 2 := ⟨rfl, (ms_at 343 (by decide +kernel) rfl), mw_X5_mix, my_X5_mix⟩
theorem cv_X5_267 : ms_okV RX5 267 m_X5_mixWalker 5 2 := ⟨(ms_at 385 (by decide +kernel) rfl), mw_X5_mixWalker, ⟨TX5, 6, rfl⟩, my_X5_mixWalker, rfl⟩
theorem cv_X5_270 : ms_okV RX5 270 m_X5_mixField 5 2 := ⟨(ms_at 413 (by decide +kernel) rfl), mw_X5_mixField, ⟨TX5, 6, rfl⟩, my_X5_mixField, rfl⟩
theorem cv_X5_273 : ms_okV RX5 273 m_X1_shape 1 2 := ⟨(ms_at 238 (by decide +kernel) rfl), mw_X1_shape, ⟨TX1, 4, rfl⟩, my_X1_shape, rfl⟩
theorem cv_X5_276 : ms_okV RX5 276 m_X3_clear 3 0 := ⟨(ms_at 258 (by decide +kernel) rfl), mw_X3_clear, ⟨TX3, 5, rfl⟩, my_X3_clear, rfl⟩
theorem cv_X5_279 : ms_okV RX5 279 m_X0_clear 0 0 := ⟨(ms_at 262 (by decide +kernel) rfl), mw_X0_clear, ⟨TX0, 10, rfl⟩, my_X0_clear, rfl⟩
theorem cv_X5_280 : ms_okV RX5 280 m_X0_copyFrom 0 1 := ⟨(ms_at 785 (by decide +kernel) rfl), mw_X0_copyFrom, ⟨TX0, 10, rfl⟩, my_X0_copyFrom, rfl⟩
theorem cv_X5_282 : ms_okV RX5 282 m_X0_heatOf 0 1 := ⟨(ms_at 378 (by decide +kernel) rfl), mw_X0_heatOf, ⟨TX0, 10, rfl⟩, my_X0_heatOf, rfl⟩
theorem cv_X5_285 : ms_okV RX5 285 m_X0_countRound 0 1 := ⟨(ms_at 426 (by decide +kernel) rfl), mw_X0_countRound, ⟨TX0, 10, rfl⟩, my_X0_countRound, rfl⟩
theorem cv_X5_288 : ms_okV RX5 288 m_X0_countLost 0 0 := ⟨(ms_at 351 (by decide +kernel) rfl), mw_X0_countLost, ⟨TX0, 10, rfl⟩, my_X0_countLost, rfl⟩
theorem cv_X5_295 : ms_okV RX5 295 m_X2_greatest 2 0 := ⟨(ms_at 363 (by decide +kernel) rfl), mw_X2_greatest, ⟨TX2, 5, rfl⟩, my_X2_greatest, rfl⟩
theorem cv_X5_298 : ms_okV RX5 298 m_X0_hottest 0 0 := ⟨(ms_at 370 (by decide +kernel) rfl), mw_X0_hottest, ⟨TX0, 10, rfl⟩, my_X0_hottest, rfl⟩
theorem cv_X6_16 : ms_okV RX6 16 m_X6_make 6 2 := ⟨(ms_at 849 (by decide +kernel) rfl), mw_X6_make, ⟨TX6, 11, rfl⟩, my_X6_make, rfl⟩
theorem cs_X6_49 : ms_okS RX6 49 m_X6_isIn 3 := ⟨rfl, (ms_at 896 (by decide +kernel) rfl), mw_X6_isIn, my_X6_isIn⟩
theorem cv_X6_53 : ms_okV RX6 53 m_X6_isWalker 6 1 := ⟨(ms_at 975 (by decide +kernel) rfl), mw_X6_isWalker, ⟨TX6, 11, rfl⟩, my_X6_isWalker, rfl⟩
theorem cv_X6_57 : ms_okV RX6 57 m_X6_isField 6 2 := ⟨(ms_at 907 (by decide +kernel) rfl), mw_X6_isField, ⟨TX6, 11, rfl⟩, my_X6_isField, rfl⟩
theorem cv_X6_67 : ms_okV RX6 67 m_X6_areRound 6 2 := ⟨(ms_at 940 (by decide +kernel) rfl), mw_X6_areRound, ⟨TX6, 11, rfl⟩, my_X6_areRound, rfl⟩
theorem cv_X6_70 : ms_okV RX6 70 m_X6_beside 6 2 := ⟨(ms_at 955 (by decide +kernel) rfl), mw_X6_beside, ⟨TX6, 11, rfl⟩, my_X6_beside, rfl⟩
theorem cv_X6_75 : ms_okV RX6 75 m_X6_far 6 1 := ⟨(ms_at 951 (by decide +kernel) rfl), mw_X6_far, ⟨TX6, 11, rfl⟩, my_X6_far, rfl⟩
theorem cv_X6_79 : ms_okV RX6 79 m_X6_no 6 1 := ⟨(ms_at 899 (by decide +kernel) rfl), mw_X6_no, ⟨TX6, 11, rfl⟩, my_X6_no, rfl⟩
theorem cv_X6_88 : ms_okV RX6 88 m_X6_walkerOn 6 1 := ⟨(ms_at 913 (by decide +kernel) rfl), mw_X6_walkerOn, ⟨TX6, 11, rfl⟩, my_X6_walkerOn, rfl⟩
theorem cs_X6_91 : ms_okS RX6 91 m_X6_isGoal 1 := ⟨rfl, (ms_at 921 (by decide +kernel) rfl), mw_X6_isGoal, my_X6_isGoal⟩
theorem cv_X6_94 : ms_okV RX6 94 m_X6_round 6 2 := ⟨(ms_at 936 (by decide +kernel) rfl), mw_X6_round, ⟨TX6, 11, rfl⟩, my_X6_round, rfl⟩
theorem cv_X6_97 : ms_okV RX6 97 m_X6_fieldNow 6 2 := ⟨(ms_at 932 (by decide +kernel) rfl), mw_X6_fieldNow, ⟨TX6, 11, rfl⟩, my_X6_fieldNow, rfl⟩
theorem cs_X6_100 : ms_okS RX6 100 m_X6_most 1 := ⟨rfl, (ms_at 963 (by decide +kernel) rfl), mw_X6_most, my_X6_most⟩
theorem cv_X6_110 : ms_okV RX6 110 m_X6_isOn 6 1 := ⟨(ms_at 979 (by decide +kernel) rfl), mw_X6_isOn, ⟨TX6, 11, rfl⟩, my_X6_isOn, rfl⟩
theorem cv_X6_113 : ms_okV RX6 113 m_X6_costNow 6 3 := ⟨(ms_at 1001 (by decide +kernel) rfl), mw_X6_costNow, ⟨TX6, 11, rfl⟩, my_X6_costNow, rfl⟩
theorem cv_X6_117 : ms_okV RX6 117 m_X6_wantsNow 6 2 := ⟨(ms_at 997 (by decide +kernel) rfl), mw_X6_wantsNow, ⟨TX6, 11, rfl⟩, my_X6_wantsNow, rfl⟩
theorem cv_X6_121 : ms_okV RX6 121 m_X6_farAll 6 0 := ⟨(ms_at 987 (by decide +kernel) rfl), mw_X6_farAll, ⟨TX6, 11, rfl⟩, my_X6_farAll, rfl⟩
theorem cv_X6_125 : ms_okV RX6 125 m_X6_tickNow 6 1 := ⟨(ms_at 993 (by decide +kernel) rfl), mw_X6_tickNow, ⟨TX6, 11, rfl⟩, my_X6_tickNow, rfl⟩
theorem cv_X6_129 : ms_okV RX6 129 m_X6_ok 6 1 := ⟨(ms_at 1009 (by decide +kernel) rfl), mw_X6_ok, ⟨TX6, 11, rfl⟩, my_X6_ok, rfl⟩
theorem cs_X6_132 : ms_okS RX6 132 m_X6_count 2 := ⟨rfl, (ms_at 1025 (by decide +kernel) rfl), mw_X6_count, my_X6_count⟩
theorem cv_X6_136 : ms_okV RX6 136 m_X6_jams 6 0 := ⟨(ms_at 1017 (by decide +kernel) rfl), mw_X6_jams, ⟨TX6, 11, rfl⟩, my_X6_jams, rfl⟩
theorem cv_X6_140 : ms_okV RX6 140 m_X6_manyNow 6 3 := ⟨(ms_at 1021 (by decide +kernel) rfl), mw_X6_manyNow, ⟨TX6, 11, rfl⟩, my_X6_manyNow, rfl⟩
theorem cv_X6_144 : ms_okV RX6 144 m_X6_ofNow 6 3 := ⟨(ms_at 1032 (by decide +kernel) rfl), mw_X6_ofNow, ⟨TX6, 11, rfl⟩, my_X6_ofNow, rfl⟩
theorem cv_X6_148 : ms_okV RX6 148 m_X6_farOf 6 1 := ⟨(ms_at 1040 (by decide +kernel) rfl), mw_X6_farOf, ⟨TX6, 11, rfl⟩, my_X6_farOf, rfl⟩
theorem cv_X6_151 : ms_okV RX6 151 m_X6_jamNow 6 2 := ⟨(ms_at 1056 (by decide +kernel) rfl), mw_X6_jamNow, ⟨TX6, 11, rfl⟩, my_X6_jamNow, rfl⟩
theorem cv_X6_154 : ms_okV RX6 154 m_X6_putBy 6 0 := ⟨(ms_at 1068 (by decide +kernel) rfl), mw_X6_putBy, ⟨TX6, 11, rfl⟩, my_X6_putBy, rfl⟩
theorem cv_X6_157 : ms_okV RX6 157 m_X6_putBack 6 1 := ⟨(ms_at 1072 (by decide +kernel) rfl), mw_X6_putBack, ⟨TX6, 11, rfl⟩, my_X6_putBack, rfl⟩
theorem cv_X6_161 : ms_okV RX6 161 m_X6_outBehind 6 1 := ⟨(ms_at 1080 (by decide +kernel) rfl), mw_X6_outBehind, ⟨TX6, 11, rfl⟩, my_X6_outBehind, rfl⟩
theorem cv_L_7 : ms_okV RL 7 m_X5_reset 5 2 := ⟨(ms_at 432 (by decide +kernel) rfl), mw_X5_reset, ⟨TX5, 6, rfl⟩, my_X5_reset, rfl⟩
theorem cv_L_15 : ms_okV RL 15 m_X5_wall 5 5 := ⟨(ms_at 509 (by decide +kernel) rfl), mw_X5_wall, ⟨TX5, 6, rfl⟩, my_X5_wall, rfl⟩
theorem cv_L_23 : ms_okV RL 23 m_X5_mark 5 3 := ⟨(ms_at 584 (by decide +kernel) rfl), mw_X5_mark, ⟨TX5, 6, rfl⟩, my_X5_mark, rfl⟩
theorem cv_L_27 : ms_okV RL 27 m_X5_set 5 2 := ⟨(ms_at 603 (by decide +kernel) rfl), mw_X5_set, ⟨TX5, 6, rfl⟩, my_X5_set, rfl⟩
theorem cv_L_30 : ms_okV RL 30 m_X5_field 5 3 := ⟨(ms_at 611 (by decide +kernel) rfl), mw_X5_field, ⟨TX5, 6, rfl⟩, my_X5_field, rfl⟩
theorem cv_L_33 : ms_okV RL 33 m_X5_far 5 3 := ⟨(ms_at 619 (by decide +kernel) rfl), mw_X5_far, ⟨TX5, 6, rfl⟩, my_X5_far, rfl⟩
theorem cv_L_36 : ms_okV RL 36 m_X5_farthest 5 1 := ⟨(ms_at 626 (by decide +kernel) rfl), mw_X5_farthest, ⟨TX5, 6, rfl⟩, my_X5_farthest, rfl⟩
theorem cv_L_40 : ms_okV RL 40 m_X5_walker 5 5 := ⟨(ms_at 634 (by decide +kernel) rfl), mw_X5_walker, ⟨TX5, 6, rfl⟩, my_X5_walker, rfl⟩
theorem cv_L_44 : ms_okV RL 44 m_X5_turnTo 5 3 := ⟨(ms_at 656 (by decide +kernel) rfl), mw_X5_turnTo, ⟨TX5, 6, rfl⟩, my_X5_turnTo, rfl⟩
theorem cv_L_47 : ms_okV RL 47 m_X5_tick 5 1 := ⟨(ms_at 666 (by decide +kernel) rfl), mw_X5_tick, ⟨TX5, 6, rfl⟩, my_X5_tick, rfl⟩
theorem cv_L_50 : ms_okV RL 50 m_X5_many 5 1 := ⟨(ms_at 710 (by decide +kernel) rfl), mw_X5_many, ⟨TX5, 6, rfl⟩, my_X5_many, rfl⟩
theorem cv_L_53 : ms_okV RL 53 m_X5_ofWalker 5 2 := ⟨(ms_at 718 (by decide +kernel) rfl), mw_X5_ofWalker, ⟨TX5, 6, rfl⟩, my_X5_ofWalker, rfl⟩
theorem cv_L_56 : ms_okV RL 56 m_X5_cost 5 2 := ⟨(ms_at 726 (by decide +kernel) rfl), mw_X5_cost, ⟨TX5, 6, rfl⟩, my_X5_cost, rfl⟩
theorem cv_L_59 : ms_okV RL 59 m_X5_wants 5 1 := ⟨(ms_at 735 (by decide +kernel) rfl), mw_X5_wants, ⟨TX5, 6, rfl⟩, my_X5_wants, rfl⟩
theorem cv_L_62 : ms_okV RL 62 m_X5_way 5 2 := ⟨(ms_at 743 (by decide +kernel) rfl), mw_X5_way, ⟨TX5, 6, rfl⟩, my_X5_way, rfl⟩
theorem cv_L_65 : ms_okV RL 65 m_X5_jam 5 1 := ⟨(ms_at 759 (by decide +kernel) rfl), mw_X5_jam, ⟨TX5, 6, rfl⟩, my_X5_jam, rfl⟩
theorem cv_L_68 : ms_okV RL 68 m_X5_outIn 5 2 := ⟨(ms_at 766 (by decide +kernel) rfl), mw_X5_outIn, ⟨TX5, 6, rfl⟩, my_X5_outIn, rfl⟩
theorem cv_L_71 : ms_okV RL 71 m_X5_outWith 5 2 := ⟨(ms_at 804 (by decide +kernel) rfl), mw_X5_outWith, ⟨TX5, 6, rfl⟩, my_X5_outWith, rfl⟩
theorem cv_L_74 : ms_okV RL 74 m_X5_outBy 5 3 := ⟨(ms_at 812 (by decide +kernel) rfl), mw_X5_outBy, ⟨TX5, 6, rfl⟩, my_X5_outBy, rfl⟩
theorem cv_L_77 : ms_okV RL 77 m_X5_jamIn 5 1 := ⟨(ms_at 819 (by decide +kernel) rfl), mw_X5_jamIn, ⟨TX5, 6, rfl⟩, my_X5_jamIn, rfl⟩
theorem cv_L_80 : ms_okV RL 80 m_X5_farWith 5 3 := ⟨(ms_at 835 (by decide +kernel) rfl), mw_X5_farWith, ⟨TX5, 6, rfl⟩, my_X5_farWith, rfl⟩
theorem ci_L_83 : ms_okI RL 83 m_X5_init 0 := ⟨(ms_at 63 (by decide +kernel) rfl), mw_X5_init, rfl, my_X5_init, rfl, rfl⟩
theorem ci_L_86 : ms_okI RL 86 m_X6_init 0 := ⟨(ms_at 845 (by decide +kernel) rfl), mw_X6_init, rfl, my_X6_init, rfl, rfl⟩
theorem cs_L_87 : ms_okS RL 87 m_L_reset 4 := ⟨rfl, (ms_at 428 (by decide +kernel) rfl), mw_L_reset, my_L_reset⟩
theorem cv_L_92 : ms_okV RL 92 m_X6_reset 6 2 := ⟨(ms_at 892 (by decide +kernel) rfl), mw_X6_reset, ⟨TX6, 11, rfl⟩, my_X6_reset, rfl⟩
theorem cv_L_93 : ms_okV RL 93 m_X6_thrown 6 0 := ⟨(ms_at 888 (by decide +kernel) rfl), mw_X6_thrown, ⟨TX6, 11, rfl⟩, my_X6_thrown, rfl⟩
theorem cs_L_97 : ms_okS RL 97 m_L_wall 7 := ⟨rfl, (ms_at 504 (by decide +kernel) rfl), mw_L_wall, my_L_wall⟩
theorem cv_L_100 : ms_okV RL 100 m_X6_wall 6 5 := ⟨(ms_at 903 (by decide +kernel) rfl), mw_X6_wall, ⟨TX6, 11, rfl⟩, my_X6_wall, rfl⟩
theorem cs_L_101 : ms_okS RL 101 m_L_mark 5 := ⟨rfl, (ms_at 581 (by decide +kernel) rfl), mw_L_mark, my_L_mark⟩
theorem cv_L_104 : ms_okV RL 104 m_X6_mark 6 3 := ⟨(ms_at 917 (by decide +kernel) rfl), mw_X6_mark, ⟨TX6, 11, rfl⟩, my_X6_mark, rfl⟩
theorem cs_L_105 : ms_okS RL 105 m_L_set 4 := ⟨rfl, (ms_at 600 (by decide +kernel) rfl), mw_L_set, my_L_set⟩
theorem cv_L_107 : ms_okV RL 107 m_X6_set 6 2 := ⟨(ms_at 924 (by decide +kernel) rfl), mw_X6_set, ⟨TX6, 11, rfl⟩, my_X6_set, rfl⟩
theorem cs_L_108 : ms_okS RL 108 m_L_field 5 := ⟨rfl, (ms_at 608 (by decide +kernel) rfl), mw_L_field, my_L_field⟩
theorem cv_L_110 : ms_okV RL 110 m_X6_field 6 3 := ⟨(ms_at 928 (by decide +kernel) rfl), mw_X6_field, ⟨TX6, 11, rfl⟩, my_X6_field, rfl⟩
theorem cs_L_111 : ms_okS RL 111 m_L_far 5 := ⟨rfl, (ms_at 616 (by decide +kernel) rfl), mw_L_far, my_L_far⟩
theorem cv_L_113 : ms_okV RL 113 m_X6_far_ 6 3 := ⟨(ms_at 947 (by decide +kernel) rfl), mw_X6_far_, ⟨TX6, 11, rfl⟩, my_X6_far_, rfl⟩
theorem cs_L_114 : ms_okS RL 114 m_L_farthest 3 := ⟨rfl, (ms_at 623 (by decide +kernel) rfl), mw_L_farthest, my_L_farthest⟩
theorem cv_L_117 : ms_okV RL 117 m_X6_farthest 6 1 := ⟨(ms_at 959 (by decide +kernel) rfl), mw_X6_farthest, ⟨TX6, 11, rfl⟩, my_X6_farthest, rfl⟩
theorem cs_L_118 : ms_okS RL 118 m_L_walker 7 := ⟨rfl, (ms_at 631 (by decide +kernel) rfl), mw_L_walker, my_L_walker⟩
theorem cv_L_121 : ms_okV RL 121 m_X6_walker 6 5 := ⟨(ms_at 966 (by decide +kernel) rfl), mw_X6_walker, ⟨TX6, 11, rfl⟩, my_X6_walker, rfl⟩
theorem cs_L_122 : ms_okS RL 122 m_L_turnTo 5 := ⟨rfl, (ms_at 653 (by decide +kernel) rfl), mw_L_turnTo, my_L_turnTo⟩
theorem cv_L_124 : ms_okV RL 124 m_X6_turnTo 6 3 := ⟨(ms_at 971 (by decide +kernel) rfl), mw_X6_turnTo, ⟨TX6, 11, rfl⟩, my_X6_turnTo, rfl⟩
theorem cs_L_125 : ms_okS RL 125 m_L_tick 3 := ⟨rfl, (ms_at 663 (by decide +kernel) rfl), mw_L_tick, my_L_tick⟩
theorem cv_L_127 : ms_okV RL 127 m_X6_tick 6 1 := ⟨(ms_at 983 (by decide +kernel) rfl), mw_X6_tick, ⟨TX6, 11, rfl⟩, my_X6_tick, rfl⟩
theorem cv_L_128 : ms_okV RL 128 m_X5_clock 5 0 := ⟨(ms_at 285 (by decide +kernel) rfl), mw_X5_clock, ⟨TX5, 6, rfl⟩, my_X5_clock, rfl⟩
theorem cv_L_131 : ms_okV RL 131 m_X6_clock 6 0 := ⟨(ms_at 1005 (by decide +kernel) rfl), mw_X6_clock, ⟨TX6, 11, rfl⟩, my_X6_clock, rfl⟩
theorem cs_L_132 : ms_okS RL 132 m_L_many 3 := ⟨rfl, (ms_at 707 (by decide +kernel) rfl), mw_L_many, my_L_many⟩
theorem cv_L_134 : ms_okV RL 134 m_X6_many 6 1 := ⟨(ms_at 1013 (by decide +kernel) rfl), mw_X6_many, ⟨TX6, 11, rfl⟩, my_X6_many, rfl⟩
theorem cs_L_135 : ms_okS RL 135 m_L_ofWalker 4 := ⟨rfl, (ms_at 715 (by decide +kernel) rfl), mw_L_ofWalker, my_L_ofWalker⟩
theorem cv_L_137 : ms_okV RL 137 m_X6_ofWalker 6 2 := ⟨(ms_at 1028 (by decide +kernel) rfl), mw_X6_ofWalker, ⟨TX6, 11, rfl⟩, my_X6_ofWalker, rfl⟩
theorem cs_L_138 : ms_okS RL 138 m_L_cost 4 := ⟨rfl, (ms_at 723 (by decide +kernel) rfl), mw_L_cost, my_L_cost⟩
theorem cv_L_140 : ms_okV RL 140 m_X6_cost 6 2 := ⟨(ms_at 1036 (by decide +kernel) rfl), mw_X6_cost, ⟨TX6, 11, rfl⟩, my_X6_cost, rfl⟩
theorem cs_L_141 : ms_okS RL 141 m_L_wants 3 := ⟨rfl, (ms_at 732 (by decide +kernel) rfl), mw_L_wants, my_L_wants⟩
theorem cv_L_143 : ms_okV RL 143 m_X6_wants 6 1 := ⟨(ms_at 1044 (by decide +kernel) rfl), mw_X6_wants, ⟨TX6, 11, rfl⟩, my_X6_wants, rfl⟩
theorem cs_L_144 : ms_okS RL 144 m_L_way 4 := ⟨rfl, (ms_at 740 (by decide +kernel) rfl), mw_L_way, my_L_way⟩
theorem cv_L_146 : ms_okV RL 146 m_X6_way 6 2 := ⟨(ms_at 1048 (by decide +kernel) rfl), mw_X6_way, ⟨TX6, 11, rfl⟩, my_X6_way, rfl⟩
theorem cs_L_147 : ms_okS RL 147 m_L_jam 3 := ⟨rfl, (ms_at 756 (by decide +kernel) rfl), mw_L_jam, my_L_jam⟩
theorem cv_L_149 : ms_okV RL 149 m_X6_jam 6 1 := ⟨(ms_at 1052 (by decide +kernel) rfl), mw_X6_jam, ⟨TX6, 11, rfl⟩, my_X6_jam, rfl⟩
theorem cv_L_150 : ms_okV RL 150 m_X5_meanSteps 5 0 := ⟨(ms_at 289 (by decide +kernel) rfl), mw_X5_meanSteps, ⟨TX5, 6, rfl⟩, my_X5_meanSteps, rfl⟩
theorem cv_L_154 : ms_okV RL 154 m_X6_meanSteps 6 0 := ⟨(ms_at 1060 (by decide +kernel) rfl), mw_X6_meanSteps, ⟨TX6, 11, rfl⟩, my_X6_meanSteps, rfl⟩
theorem cs_L_155 : ms_okS RL 155 m_L_outIn 4 := ⟨rfl, (ms_at 763 (by decide +kernel) rfl), mw_L_outIn, my_L_outIn⟩
theorem cv_L_157 : ms_okV RL 157 m_X6_outIn 6 2 := ⟨(ms_at 1064 (by decide +kernel) rfl), mw_X6_outIn, ⟨TX6, 11, rfl⟩, my_X6_outIn, rfl⟩
theorem cs_L_158 : ms_okS RL 158 m_L_outWith 4 := ⟨rfl, (ms_at 801 (by decide +kernel) rfl), mw_L_outWith, my_L_outWith⟩
theorem cv_L_160 : ms_okV RL 160 m_X6_outWith 6 2 := ⟨(ms_at 1076 (by decide +kernel) rfl), mw_X6_outWith, ⟨TX6, 11, rfl⟩, my_X6_outWith, rfl⟩
theorem cs_L_161 : ms_okS RL 161 m_L_outBy 5 := ⟨rfl, (ms_at 809 (by decide +kernel) rfl), mw_L_outBy, my_L_outBy⟩
theorem cv_L_163 : ms_okV RL 163 m_X6_outBy 6 3 := ⟨(ms_at 1084 (by decide +kernel) rfl), mw_X6_outBy, ⟨TX6, 11, rfl⟩, my_X6_outBy, rfl⟩
theorem cs_L_164 : ms_okS RL 164 m_L_jamIn 3 := ⟨rfl, (ms_at 816 (by decide +kernel) rfl), mw_L_jamIn, my_L_jamIn⟩
theorem cv_L_166 : ms_okV RL 166 m_X6_jamIn 6 1 := ⟨(ms_at 1088 (by decide +kernel) rfl), mw_X6_jamIn, ⟨TX6, 11, rfl⟩, my_X6_jamIn, rfl⟩
theorem cs_L_167 : ms_okS RL 167 m_L_farWith 5 := ⟨rfl, (ms_at 832 (by decide +kernel) rfl), mw_L_farWith, my_L_farWith⟩
theorem cv_L_169 : ms_okV RL 169 m_X6_farWith 6 3 := ⟨(ms_at 1092 (by decide +kernel) rfl), mw_X6_farWith, ⟨TX6, 11, rfl⟩, my_X6_farWith, rfl⟩
theorem cv_L_170 : ms_okV RL 170 m_X5_digest 5 0 := ⟨(ms_at 309 (by decide +kernel) rfl), mw_X5_digest, ⟨TX5, 6, rfl⟩, my_X5_digest, rfl⟩
theorem cv_L_174 : ms_okV RL 174 m_X6_digest 6 0 := ⟨(ms_at 1096 (by decide +kernel) rfl), mw_X6_digest, ⟨TX6, 11, rfl⟩, my_X6_digest, rfl⟩
theorem lc_X5_261 : Cond.constantLong RX5 261 967 ∈ ms_big := (ms_at 342 (by decide +kernel) rfl)
theorem lc_X5_301 : Cond.constantLong RX5 301 31 ∈ ms_big := (ms_at 346 (by decide +kernel) rfl)
theorem lc_X6_164 : Cond.constantLong RX6 164 29977 ∈ ms_big := (ms_at 1100 (by decide +kernel) rfl)
theorem lc_X6_166 : Cond.constantLong RX6 166 31 ∈ ms_big := (ms_at 1101 (by decide +kernel) rfl)
theorem oi_X5_1 : ∀ w ∈ [Cond.methodLink RX5 1 Lib.objectInit, Cond.instanceMethod Lib.objectInit, Cond.code Lib.objectInit ⟨#[0xb1]⟩ 1 none], w ∈ ms_big := ms_sub _ [66, 67, 68] (by decide +kernel) (by decide +kernel)
theorem mm_X5_71 : ∀ w ∈ [Cond.methodLink RX5 71 Lib.Math.min.name, Cond.static Lib.Math.min.name, Cond.initialized "java/lang/Math", Cond.code Lib.Math.min.name Lib.Math.min.code 2 (some .int)], w ∈ ms_big := ms_sub _ [530, 531, 58, 532] (by decide +kernel) (by decide +kernel)
theorem mm_X5_76 : ∀ w ∈ [Cond.methodLink RX5 76 Lib.Math.max.name, Cond.static Lib.Math.max.name, Cond.initialized "java/lang/Math", Cond.code Lib.Math.max.name Lib.Math.max.code 2 (some .int)], w ∈ ms_big := ms_sub _ [533, 368, 58, 369] (by decide +kernel) (by decide +kernel)
theorem oi_X0_3 : ∀ w ∈ [Cond.methodLink RX0 3 Lib.objectInit, Cond.instanceMethod Lib.objectInit, Cond.code Lib.objectInit ⟨#[0xb1]⟩ 1 none], w ∈ ms_big := ms_sub _ [119, 67, 68] (by decide +kernel) (by decide +kernel)
theorem ac_X0_49 : ∀ w ∈ [Cond.methodLink RX0 49 arraycopyName, Cond.native arraycopyName, Cond.static arraycopyName, Cond.initialized "java/lang/System"], w ∈ ms_big := ms_sub _ [789, 784, 783, 60] (by decide +kernel) (by decide +kernel)
theorem oi_X1_3 : ∀ w ∈ [Cond.methodLink RX1 3 Lib.objectInit, Cond.instanceMethod Lib.objectInit, Cond.code Lib.objectInit ⟨#[0xb1]⟩ 1 none], w ∈ ms_big := ms_sub _ [74, 67, 68] (by decide +kernel) (by decide +kernel)
theorem oi_X2_3 : ∀ w ∈ [Cond.methodLink RX2 3 Lib.objectInit, Cond.instanceMethod Lib.objectInit, Cond.code Lib.objectInit ⟨#[0xb1]⟩ 1 none], w ∈ ms_big := ms_sub _ [215, 67, 68] (by decide +kernel) (by decide +kernel)
theorem mm_X2_70 : ∀ w ∈ [Cond.methodLink RX2 70 Lib.Math.max.name, Cond.static Lib.Math.max.name, Cond.initialized "java/lang/Math", Cond.code Lib.Math.max.name Lib.Math.max.code 2 (some .int)], w ∈ ms_big := ms_sub _ [367, 368, 58, 369] (by decide +kernel) (by decide +kernel)
theorem oi_X3_3 : ∀ w ∈ [Cond.methodLink RX3 3 Lib.objectInit, Cond.instanceMethod Lib.objectInit, Cond.code Lib.objectInit ⟨#[0xb1]⟩ 1 none], w ∈ ms_big := ms_sub _ [97, 67, 68] (by decide +kernel) (by decide +kernel)
theorem ac_X3_28 : ∀ w ∈ [Cond.methodLink RX3 28 arraycopyName, Cond.native arraycopyName, Cond.static arraycopyName, Cond.initialized "java/lang/System"], w ∈ ms_big := ms_sub _ [782, 784, 783, 60] (by decide +kernel) (by decide +kernel)
theorem mm_X3_58 : ∀ w ∈ [Cond.methodLink RX3 58 Lib.Math.max.name, Cond.static Lib.Math.max.name, Cond.initialized "java/lang/Math", Cond.code Lib.Math.max.name Lib.Math.max.code 2 (some .int)], w ∈ ms_big := ms_sub _ [384, 368, 58, 369] (by decide +kernel) (by decide +kernel)
theorem oi_X4_3 : ∀ w ∈ [Cond.methodLink RX4 3 Lib.objectInit, Cond.instanceMethod Lib.objectInit, Cond.code Lib.objectInit ⟨#[0xb1]⟩ 1 none], w ∈ ms_big := ms_sub _ [126, 67, 68] (by decide +kernel) (by decide +kernel)
theorem oi_X6_1 : ∀ w ∈ [Cond.methodLink RX6 1 Lib.objectInit, Cond.instanceMethod Lib.objectInit, Cond.code Lib.objectInit ⟨#[0xb1]⟩ 1 none], w ∈ ms_big := ms_sub _ [848, 67, 68] (by decide +kernel) (by decide +kernel)
theorem mm_X6_61 : ∀ w ∈ [Cond.methodLink RX6 61 Lib.Math.abs.name, Cond.static Lib.Math.abs.name, Cond.initialized "java/lang/Math", Cond.code Lib.Math.abs.name Lib.Math.abs.code 1 (some .int)], w ∈ ms_big := ms_sub _ [944, 945, 58, 946] (by decide +kernel) (by decide +kernel)
theorem mm_X6_82 : ∀ w ∈ [Cond.methodLink RX6 82 Lib.Math.min.name, Cond.static Lib.Math.min.name, Cond.initialized "java/lang/Math", Cond.code Lib.Math.min.name Lib.Math.min.code 2 (some .int)], w ∈ ms_big := ms_sub _ [911, 531, 58, 532] (by decide +kernel) (by decide +kernel)
theorem mm_X6_85 : ∀ w ∈ [Cond.methodLink RX6 85 Lib.Math.max.name, Cond.static Lib.Math.max.name, Cond.initialized "java/lang/Math", Cond.code Lib.Math.max.name Lib.Math.max.code 2 (some .int)], w ∈ ms_big := ms_sub _ [912, 368, 58, 369] (by decide +kernel) (by decide +kernel)
theorem ac_X6_104 : ∀ w ∈ [Cond.methodLink RX6 104 arraycopyName, Cond.native arraycopyName, Cond.static arraycopyName, Cond.initialized "java/lang/System"], w ∈ ms_big := ms_sub _ [970, 784, 783, 60] (by decide +kernel) (by decide +kernel)
theorem aw_int : Cond.arrayClass .int ∈ ms_big := (ms_at 91 (by decide +kernel) rfl)
theorem aw_boolean : Cond.arrayClass .boolean ∈ ms_big := (ms_at 887 (by decide +kernel) rfl)
theorem aw_long : Cond.arrayClass .long ∈ ms_big := (ms_at 1102 (by decide +kernel) rfl)
theorem al_X0_18 : Cond.classLink RX0 18 "StarlingSquare$Walker" ∈ ms_big := (ms_at 120 (by decide +kernel) rfl)
theorem al_X6_74 : Cond.classLink RX6 74 "[I" ∈ ms_big := (ms_at 991 (by decide +kernel) rfl)
theorem thw_X5_51_55 : ∀ w ∈ Cond.classLink RX5 51 "java/lang/IllegalArgumentException" :: Cond.initialized "java/lang/IllegalArgumentException" :: (vx_atS RX5 55 "java/lang/IllegalArgumentException" ms_names).filter goodWord, w ∈ ms_big := fun w h => by
  have h1 : ∀ w ∈ Cond.classLink RX5 51 "java/lang/IllegalArgumentException" :: Cond.initialized "java/lang/IllegalArgumentException" :: (vx_atS RX5 55 "java/lang/IllegalArgumentException" ms_names).filter goodWord, w ∈ lw_tbl ∧ goodWord w = true := by decide +kernel
  exact ms_big_in (h1 w h).1 (h1 w h).2
theorem thn_X5_51_55 : ∀ w ∈ (vx_atS RX5 55 "java/lang/IllegalArgumentException" ms_names).filter (fun w => !goodWord w), w ∈ Cond.castable "java/lang/IllegalArgumentException" "java/lang/IllegalArgumentException" :: ms_dcl.map Cond.declares := by decide +kernel
theorem thw_X5_66_70 : ∀ w ∈ Cond.classLink RX5 66 "java/lang/IndexOutOfBoundsException" :: Cond.initialized "java/lang/IndexOutOfBoundsException" :: (vx_atS RX5 70 "java/lang/IndexOutOfBoundsException" ms_names).filter goodWord, w ∈ ms_big := fun w h => by
  have h1 : ∀ w ∈ Cond.classLink RX5 66 "java/lang/IndexOutOfBoundsException" :: Cond.initialized "java/lang/IndexOutOfBoundsException" :: (vx_atS RX5 70 "java/lang/IndexOutOfBoundsException" ms_names).filter goodWord, w ∈ lw_tbl ∧ goodWord w = true := by decide +kernel
  exact ms_big_in (h1 w h).1 (h1 w h).2
theorem thn_X5_66_70 : ∀ w ∈ (vx_atS RX5 70 "java/lang/IndexOutOfBoundsException" ms_names).filter (fun w => !goodWord w), w ∈ Cond.castable "java/lang/IndexOutOfBoundsException" "java/lang/IndexOutOfBoundsException" :: ms_dcl.map Cond.declares := by decide +kernel
theorem thw_X5_83_87 : ∀ w ∈ Cond.classLink RX5 83 "java/lang/IllegalStateException" :: Cond.initialized "java/lang/IllegalStateException" :: (vx_atS RX5 87 "java/lang/IllegalStateException" ms_names).filter goodWord, w ∈ ms_big := fun w h => by
  have h1 : ∀ w ∈ Cond.classLink RX5 83 "java/lang/IllegalStateException" :: Cond.initialized "java/lang/IllegalStateException" :: (vx_atS RX5 87 "java/lang/IllegalStateException" ms_names).filter goodWord, w ∈ lw_tbl ∧ goodWord w = true := by decide +kernel
  exact ms_big_in (h1 w h).1 (h1 w h).2
theorem thn_X5_83_87 : ∀ w ∈ (vx_atS RX5 87 "java/lang/IllegalStateException" ms_names).filter (fun w => !goodWord w), w ∈ Cond.castable "java/lang/IllegalStateException" "java/lang/IllegalStateException" :: ms_dcl.map Cond.declares := by decide +kernel
theorem th_X5_51_53_55 : ms_okT RX5 51 53 55 "java/lang/IllegalArgumentException" "an edge is 2 to 14" := ⟨by decide +kernel, by decide +kernel, thw_X5_51_55, by decide +kernel, thn_X5_51_55, by decide +kernel⟩
theorem th_X5_51_130_55 : ms_okT RX5 51 130 55 "java/lang/IllegalArgumentException" "draw is 0 to 9, jam 1 to 20" := ⟨by decide +kernel, by decide +kernel, thw_X5_51_55, by decide +kernel, thn_X5_51_55, by decide +kernel⟩
theorem th_X5_51_138_55 : ms_okT RX5 51 138 55 "java/lang/IllegalArgumentException" "what is 0 to 3" := ⟨by decide +kernel, by decide +kernel, thw_X5_51_55, by decide +kernel, thn_X5_51_55, by decide +kernel⟩
theorem th_X5_51_154_55 : ms_okT RX5 51 154 55 "java/lang/IllegalArgumentException" "pace is 1 to 3, mood 0 to 9" := ⟨by decide +kernel, by decide +kernel, thw_X5_51_55, by decide +kernel, thn_X5_51_55, by decide +kernel⟩
theorem th_X5_51_174_55 : ms_okT RX5 51 174 55 "java/lang/IllegalArgumentException" "mood is 0 to 9" := ⟨by decide +kernel, by decide +kernel, thw_X5_51_55, by decide +kernel, thn_X5_51_55, by decide +kernel⟩
theorem th_X5_51_188_55 : ms_okT RX5 51 188 55 "java/lang/IllegalArgumentException" "ticks is 1 to 20" := ⟨by decide +kernel, by decide +kernel, thw_X5_51_55, by decide +kernel, thn_X5_51_55, by decide +kernel⟩
theorem th_X5_51_199_55 : ms_okT RX5 51 199 55 "java/lang/IllegalArgumentException" "what is 0 to 8" := ⟨by decide +kernel, by decide +kernel, thw_X5_51_55, by decide +kernel, thn_X5_51_55, by decide +kernel⟩
theorem th_X5_51_216_55 : ms_okT RX5 51 216 55 "java/lang/IllegalArgumentException" "side is 0 to 4" := ⟨by decide +kernel, by decide +kernel, thw_X5_51_55, by decide +kernel, thn_X5_51_55, by decide +kernel⟩
theorem th_X5_51_225_55 : ms_okT RX5 51 225 55 "java/lang/IllegalArgumentException" "k is below 0" := ⟨by decide +kernel, by decide +kernel, thw_X5_51_55, by decide +kernel, thn_X5_51_55, by decide +kernel⟩
theorem th_X5_51_241_55 : ms_okT RX5 51 241 55 "java/lang/IllegalArgumentException" "ticks is 1 to 60" := ⟨by decide +kernel, by decide +kernel, thw_X5_51_55, by decide +kernel, thn_X5_51_55, by decide +kernel⟩
theorem th_X5_51_249_55 : ms_okT RX5 51 249 55 "java/lang/IllegalArgumentException" "ticks is 1 to 60, draw 0 to 9" := ⟨by decide +kernel, by decide +kernel, thw_X5_51_55, by decide +kernel, thn_X5_51_55, by decide +kernel⟩
theorem th_X5_66_68_70 : ms_okT RX5 66 68 70 "java/lang/IndexOutOfBoundsException" "no such field" := ⟨by decide +kernel, by decide +kernel, thw_X5_66_70, by decide +kernel, thn_X5_66_70, by decide +kernel⟩
theorem th_X5_66_103_70 : ms_okT RX5 66 103 70 "java/lang/IndexOutOfBoundsException" "no such goal or field" := ⟨by decide +kernel, by decide +kernel, thw_X5_66_70, by decide +kernel, thn_X5_66_70, by decide +kernel⟩
theorem th_X5_66_146_70 : ms_okT RX5 66 146 70 "java/lang/IndexOutOfBoundsException" "no such goal" := ⟨by decide +kernel, by decide +kernel, thw_X5_66_70, by decide +kernel, thn_X5_66_70, by decide +kernel⟩
theorem th_X5_66_172_70 : ms_okT RX5 66 172 70 "java/lang/IndexOutOfBoundsException" "no such walker or goal" := ⟨by decide +kernel, by decide +kernel, thw_X5_66_70, by decide +kernel, thn_X5_66_70, by decide +kernel⟩
theorem th_X5_66_208_70 : ms_okT RX5 66 208 70 "java/lang/IndexOutOfBoundsException" "no such walker" := ⟨by decide +kernel, by decide +kernel, thw_X5_66_70, by decide +kernel, thn_X5_66_70, by decide +kernel⟩
theorem th_X5_66_214_70 : ms_okT RX5 66 214 70 "java/lang/IndexOutOfBoundsException" "no such walker, or it is out" := ⟨by decide +kernel, by decide +kernel, thw_X5_66_70, by decide +kernel, thn_X5_66_70, by decide +kernel⟩
theorem th_X5_83_85_87 : ms_okT RX5 83 85 87 "java/lang/IllegalStateException" "a walker is on it" := ⟨by decide +kernel, by decide +kernel, thw_X5_83_87, by decide +kernel, thn_X5_83_87, by decide +kernel⟩
theorem th_X5_83_118_87 : ms_okT RX5 83 118 87 "java/lang/IllegalStateException" "a walker with that goal is on it" := ⟨by decide +kernel, by decide +kernel, thw_X5_83_87, by decide +kernel, thn_X5_83_87, by decide +kernel⟩
theorem th_X5_83_166_87 : ms_okT RX5 83 166 87 "java/lang/IllegalStateException" "no walker can come there" := ⟨by decide +kernel, by decide +kernel, thw_X5_83_87, by decide +kernel, thn_X5_83_87, by decide +kernel⟩
theorem th_X5_83_183_87 : ms_okT RX5 83 183 87 "java/lang/IllegalStateException" "it is out, or at that goal" := ⟨by decide +kernel, by decide +kernel, thw_X5_83_87, by decide +kernel, thn_X5_83_87, by decide +kernel⟩
theorem hd_L_reset_0 : ms_hd m_L_reset "java/lang/IllegalArgumentException" 5 13 := by
  refine ⟨[], [], ⟨0, 10, 13, 13⟩, "java/lang/IllegalArgumentException", rfl, ?_, by decide, by decide, (ms_at 431 (by decide +kernel) rfl), rfl, by decide, rfl⟩
  exact fun z hz => by cases hz
theorem hd_L_wall_0 : ms_hd m_L_wall "java/lang/IndexOutOfBoundsException" 11 19 := by
  refine ⟨[], [⟨0, 16, 23, 21⟩], ⟨0, 16, 19, 19⟩, "java/lang/IndexOutOfBoundsException", rfl, ?_, by decide, by decide, (ms_at 507 (by decide +kernel) rfl), rfl, by decide, rfl⟩
  exact fun z hz => by cases hz
theorem hd_L_wall_1 : ms_hd m_L_wall "java/lang/IllegalStateException" 11 23 := by
  refine ⟨[⟨0, 16, 19, 19⟩], [], ⟨0, 16, 23, 21⟩, "java/lang/IllegalStateException", rfl, ?_, by decide, by decide, (ms_at 508 (by decide +kernel) rfl), rfl, by decide, rfl⟩
  exact by
    intro z hz
    simp only [List.mem_cons, List.not_mem_nil, or_false] at hz
    rcases hz with rfl
    · exact ⟨by decide, "java/lang/IndexOutOfBoundsException", (ms_at 507 (by decide +kernel) rfl), by decide +kernel⟩
theorem hd_L_mark_0 : ms_hd m_L_mark "java/lang/IndexOutOfBoundsException" 7 15 := by
  refine ⟨[], [⟨0, 12, 19, 21⟩], ⟨0, 12, 15, 19⟩, "java/lang/IndexOutOfBoundsException", rfl, ?_, by decide, by decide, (ms_at 507 (by decide +kernel) rfl), rfl, by decide, rfl⟩
  exact fun z hz => by cases hz
theorem hd_L_mark_1 : ms_hd m_L_mark "java/lang/IllegalStateException" 7 19 := by
  refine ⟨[⟨0, 12, 15, 19⟩], [], ⟨0, 12, 19, 21⟩, "java/lang/IllegalStateException", rfl, ?_, by decide, by decide, (ms_at 508 (by decide +kernel) rfl), rfl, by decide, rfl⟩
  exact by
    intro z hz
    simp only [List.mem_cons, List.not_mem_nil, or_false] at hz
    rcases hz with rfl
    · exact ⟨by decide, "java/lang/IndexOutOfBoundsException", (ms_at 507 (by decide +kernel) rfl), by decide +kernel⟩
theorem hd_L_set_0 : ms_hd m_L_set "java/lang/IllegalArgumentException" 5 13 := by
  refine ⟨[], [], ⟨0, 10, 13, 13⟩, "java/lang/IllegalArgumentException", rfl, ?_, by decide, by decide, (ms_at 431 (by decide +kernel) rfl), rfl, by decide, rfl⟩
  exact fun z hz => by cases hz
theorem hd_L_field_0 : ms_hd m_L_field "java/lang/IndexOutOfBoundsException" 7 15 := by
  refine ⟨[], [⟨0, 12, 19, 13⟩], ⟨0, 12, 15, 19⟩, "java/lang/IndexOutOfBoundsException", rfl, ?_, by decide, by decide, (ms_at 507 (by decide +kernel) rfl), rfl, by decide, rfl⟩
  exact fun z hz => by cases hz
theorem hd_L_field_1 : ms_hd m_L_field "java/lang/IllegalArgumentException" 7 19 := by
  refine ⟨[⟨0, 12, 15, 19⟩], [], ⟨0, 12, 19, 13⟩, "java/lang/IllegalArgumentException", rfl, ?_, by decide, by decide, (ms_at 431 (by decide +kernel) rfl), rfl, by decide, rfl⟩
  exact by
    intro z hz
    simp only [List.mem_cons, List.not_mem_nil, or_false] at hz
    rcases hz with rfl
    · exact ⟨by decide, "java/lang/IndexOutOfBoundsException", (ms_at 507 (by decide +kernel) rfl), by decide +kernel⟩
theorem hd_L_far_0 : ms_hd m_L_far "java/lang/IndexOutOfBoundsException" 7 15 := by
  refine ⟨[], [], ⟨0, 12, 15, 19⟩, "java/lang/IndexOutOfBoundsException", rfl, ?_, by decide, by decide, (ms_at 507 (by decide +kernel) rfl), rfl, by decide, rfl⟩
  exact fun z hz => by cases hz
theorem hd_L_farthest_0 : ms_hd m_L_farthest "java/lang/IndexOutOfBoundsException" 4 12 := by
  refine ⟨[], [], ⟨0, 9, 12, 19⟩, "java/lang/IndexOutOfBoundsException", rfl, ?_, by decide, by decide, (ms_at 507 (by decide +kernel) rfl), rfl, by decide, rfl⟩
  exact fun z hz => by cases hz
theorem hd_L_walker_0 : ms_hd m_L_walker "java/lang/IndexOutOfBoundsException" 11 19 := by
  refine ⟨[], [⟨0, 16, 23, 13⟩, ⟨0, 16, 27, 21⟩], ⟨0, 16, 19, 19⟩, "java/lang/IndexOutOfBoundsException", rfl, ?_, by decide, by decide, (ms_at 507 (by decide +kernel) rfl), rfl, by decide, rfl⟩
  exact fun z hz => by cases hz
theorem hd_L_walker_1 : ms_hd m_L_walker "java/lang/IllegalArgumentException" 11 23 := by
  refine ⟨[⟨0, 16, 19, 19⟩], [⟨0, 16, 27, 21⟩], ⟨0, 16, 23, 13⟩, "java/lang/IllegalArgumentException", rfl, ?_, by decide, by decide, (ms_at 431 (by decide +kernel) rfl), rfl, by decide, rfl⟩
  exact by
    intro z hz
    simp only [List.mem_cons, List.not_mem_nil, or_false] at hz
    rcases hz with rfl
    · exact ⟨by decide, "java/lang/IndexOutOfBoundsException", (ms_at 507 (by decide +kernel) rfl), by decide +kernel⟩
theorem hd_L_walker_2 : ms_hd m_L_walker "java/lang/IllegalStateException" 11 27 := by
  refine ⟨[⟨0, 16, 19, 19⟩, ⟨0, 16, 23, 13⟩], [], ⟨0, 16, 27, 21⟩, "java/lang/IllegalStateException", rfl, ?_, by decide, by decide, (ms_at 508 (by decide +kernel) rfl), rfl, by decide, rfl⟩
  exact by
    intro z hz
    simp only [List.mem_cons, List.not_mem_nil, or_false] at hz
    rcases hz with rfl | rfl
    · exact ⟨by decide, "java/lang/IndexOutOfBoundsException", (ms_at 507 (by decide +kernel) rfl), by decide +kernel⟩
    · exact ⟨by decide, "java/lang/IllegalArgumentException", (ms_at 431 (by decide +kernel) rfl), by decide +kernel⟩
theorem hd_L_turnTo_0 : ms_hd m_L_turnTo "java/lang/IndexOutOfBoundsException" 7 15 := by
  refine ⟨[], [⟨0, 12, 19, 13⟩, ⟨0, 12, 23, 21⟩], ⟨0, 12, 15, 19⟩, "java/lang/IndexOutOfBoundsException", rfl, ?_, by decide, by decide, (ms_at 507 (by decide +kernel) rfl), rfl, by decide, rfl⟩
  exact fun z hz => by cases hz
theorem hd_L_turnTo_1 : ms_hd m_L_turnTo "java/lang/IllegalArgumentException" 7 19 := by
  refine ⟨[⟨0, 12, 15, 19⟩], [⟨0, 12, 23, 21⟩], ⟨0, 12, 19, 13⟩, "java/lang/IllegalArgumentException", rfl, ?_, by decide, by decide, (ms_at 431 (by decide +kernel) rfl), rfl, by decide, rfl⟩
  exact by
    intro z hz
    simp only [List.mem_cons, List.not_mem_nil, or_false] at hz
    rcases hz with rfl
    · exact ⟨by decide, "java/lang/IndexOutOfBoundsException", (ms_at 507 (by decide +kernel) rfl), by decide +kernel⟩
theorem hd_L_turnTo_2 : ms_hd m_L_turnTo "java/lang/IllegalStateException" 7 23 := by
  refine ⟨[⟨0, 12, 15, 19⟩, ⟨0, 12, 19, 13⟩], [], ⟨0, 12, 23, 21⟩, "java/lang/IllegalStateException", rfl, ?_, by decide, by decide, (ms_at 508 (by decide +kernel) rfl), rfl, by decide, rfl⟩
  exact by
    intro z hz
    simp only [List.mem_cons, List.not_mem_nil, or_false] at hz
    rcases hz with rfl | rfl
    · exact ⟨by decide, "java/lang/IndexOutOfBoundsException", (ms_at 507 (by decide +kernel) rfl), by decide +kernel⟩
    · exact ⟨by decide, "java/lang/IllegalArgumentException", (ms_at 431 (by decide +kernel) rfl), by decide +kernel⟩
theorem hd_L_tick_0 : ms_hd m_L_tick "java/lang/IllegalArgumentException" 4 12 := by
  refine ⟨[], [], ⟨0, 9, 12, 13⟩, "java/lang/IllegalArgumentException", rfl, ?_, by decide, by decide, (ms_at 431 (by decide +kernel) rfl), rfl, by decide, rfl⟩
  exact fun z hz => by cases hz
theorem hd_L_many_0 : ms_hd m_L_many "java/lang/IllegalArgumentException" 4 12 := by
  refine ⟨[], [], ⟨0, 9, 12, 13⟩, "java/lang/IllegalArgumentException", rfl, ?_, by decide, by decide, (ms_at 431 (by decide +kernel) rfl), rfl, by decide, rfl⟩
  exact fun z hz => by cases hz
theorem hd_L_ofWalker_0 : ms_hd m_L_ofWalker "java/lang/IndexOutOfBoundsException" 5 13 := by
  refine ⟨[], [⟨0, 10, 17, 13⟩], ⟨0, 10, 13, 19⟩, "java/lang/IndexOutOfBoundsException", rfl, ?_, by decide, by decide, (ms_at 507 (by decide +kernel) rfl), rfl, by decide, rfl⟩
  exact fun z hz => by cases hz
theorem hd_L_ofWalker_1 : ms_hd m_L_ofWalker "java/lang/IllegalArgumentException" 5 17 := by
  refine ⟨[⟨0, 10, 13, 19⟩], [], ⟨0, 10, 17, 13⟩, "java/lang/IllegalArgumentException", rfl, ?_, by decide, by decide, (ms_at 431 (by decide +kernel) rfl), rfl, by decide, rfl⟩
  exact by
    intro z hz
    simp only [List.mem_cons, List.not_mem_nil, or_false] at hz
    rcases hz with rfl
    · exact ⟨by decide, "java/lang/IndexOutOfBoundsException", (ms_at 507 (by decide +kernel) rfl), by decide +kernel⟩
theorem hd_L_cost_0 : ms_hd m_L_cost "java/lang/IndexOutOfBoundsException" 5 13 := by
  refine ⟨[], [⟨0, 10, 17, 13⟩], ⟨0, 10, 13, 19⟩, "java/lang/IndexOutOfBoundsException", rfl, ?_, by decide, by decide, (ms_at 507 (by decide +kernel) rfl), rfl, by decide, rfl⟩
  exact fun z hz => by cases hz
theorem hd_L_cost_1 : ms_hd m_L_cost "java/lang/IllegalArgumentException" 5 17 := by
  refine ⟨[⟨0, 10, 13, 19⟩], [], ⟨0, 10, 17, 13⟩, "java/lang/IllegalArgumentException", rfl, ?_, by decide, by decide, (ms_at 431 (by decide +kernel) rfl), rfl, by decide, rfl⟩
  exact by
    intro z hz
    simp only [List.mem_cons, List.not_mem_nil, or_false] at hz
    rcases hz with rfl
    · exact ⟨by decide, "java/lang/IndexOutOfBoundsException", (ms_at 507 (by decide +kernel) rfl), by decide +kernel⟩
theorem hd_L_wants_0 : ms_hd m_L_wants "java/lang/IndexOutOfBoundsException" 4 12 := by
  refine ⟨[], [], ⟨0, 9, 12, 19⟩, "java/lang/IndexOutOfBoundsException", rfl, ?_, by decide, by decide, (ms_at 507 (by decide +kernel) rfl), rfl, by decide, rfl⟩
  exact fun z hz => by cases hz
theorem hd_L_way_0 : ms_hd m_L_way "java/lang/IndexOutOfBoundsException" 5 13 := by
  refine ⟨[], [⟨0, 10, 17, 13⟩], ⟨0, 10, 13, 19⟩, "java/lang/IndexOutOfBoundsException", rfl, ?_, by decide, by decide, (ms_at 507 (by decide +kernel) rfl), rfl, by decide, rfl⟩
  exact fun z hz => by cases hz
theorem hd_L_way_1 : ms_hd m_L_way "java/lang/IllegalArgumentException" 5 17 := by
  refine ⟨[⟨0, 10, 13, 19⟩], [], ⟨0, 10, 17, 13⟩, "java/lang/IllegalArgumentException", rfl, ?_, by decide, by decide, (ms_at 431 (by decide +kernel) rfl), rfl, by decide, rfl⟩
  exact by
    intro z hz
    simp only [List.mem_cons, List.not_mem_nil, or_false] at hz
    rcases hz with rfl
    · exact ⟨by decide, "java/lang/IndexOutOfBoundsException", (ms_at 507 (by decide +kernel) rfl), by decide +kernel⟩
theorem hd_L_jam_0 : ms_hd m_L_jam "java/lang/IndexOutOfBoundsException" 4 12 := by
  refine ⟨[], [], ⟨0, 9, 12, 19⟩, "java/lang/IndexOutOfBoundsException", rfl, ?_, by decide, by decide, (ms_at 507 (by decide +kernel) rfl), rfl, by decide, rfl⟩
  exact fun z hz => by cases hz
theorem hd_L_outIn_0 : ms_hd m_L_outIn "java/lang/IndexOutOfBoundsException" 5 13 := by
  refine ⟨[], [⟨0, 10, 17, 13⟩], ⟨0, 10, 13, 19⟩, "java/lang/IndexOutOfBoundsException", rfl, ?_, by decide, by decide, (ms_at 507 (by decide +kernel) rfl), rfl, by decide, rfl⟩
  exact fun z hz => by cases hz
theorem hd_L_outIn_1 : ms_hd m_L_outIn "java/lang/IllegalArgumentException" 5 17 := by
  refine ⟨[⟨0, 10, 13, 19⟩], [], ⟨0, 10, 17, 13⟩, "java/lang/IllegalArgumentException", rfl, ?_, by decide, by decide, (ms_at 431 (by decide +kernel) rfl), rfl, by decide, rfl⟩
  exact by
    intro z hz
    simp only [List.mem_cons, List.not_mem_nil, or_false] at hz
    rcases hz with rfl
    · exact ⟨by decide, "java/lang/IndexOutOfBoundsException", (ms_at 507 (by decide +kernel) rfl), by decide +kernel⟩
theorem hd_L_outWith_0 : ms_hd m_L_outWith "java/lang/IllegalArgumentException" 5 13 := by
  refine ⟨[], [], ⟨0, 10, 13, 13⟩, "java/lang/IllegalArgumentException", rfl, ?_, by decide, by decide, (ms_at 431 (by decide +kernel) rfl), rfl, by decide, rfl⟩
  exact fun z hz => by cases hz
theorem hd_L_outBy_0 : ms_hd m_L_outBy "java/lang/IndexOutOfBoundsException" 7 15 := by
  refine ⟨[], [⟨0, 12, 19, 13⟩, ⟨0, 12, 23, 21⟩], ⟨0, 12, 15, 19⟩, "java/lang/IndexOutOfBoundsException", rfl, ?_, by decide, by decide, (ms_at 507 (by decide +kernel) rfl), rfl, by decide, rfl⟩
  exact fun z hz => by cases hz
theorem hd_L_outBy_1 : ms_hd m_L_outBy "java/lang/IllegalArgumentException" 7 19 := by
  refine ⟨[⟨0, 12, 15, 19⟩], [⟨0, 12, 23, 21⟩], ⟨0, 12, 19, 13⟩, "java/lang/IllegalArgumentException", rfl, ?_, by decide, by decide, (ms_at 431 (by decide +kernel) rfl), rfl, by decide, rfl⟩
  exact by
    intro z hz
    simp only [List.mem_cons, List.not_mem_nil, or_false] at hz
    rcases hz with rfl
    · exact ⟨by decide, "java/lang/IndexOutOfBoundsException", (ms_at 507 (by decide +kernel) rfl), by decide +kernel⟩
theorem hd_L_outBy_2 : ms_hd m_L_outBy "java/lang/IllegalStateException" 7 23 := by
  refine ⟨[⟨0, 12, 15, 19⟩, ⟨0, 12, 19, 13⟩], [], ⟨0, 12, 23, 21⟩, "java/lang/IllegalStateException", rfl, ?_, by decide, by decide, (ms_at 508 (by decide +kernel) rfl), rfl, by decide, rfl⟩
  exact by
    intro z hz
    simp only [List.mem_cons, List.not_mem_nil, or_false] at hz
    rcases hz with rfl | rfl
    · exact ⟨by decide, "java/lang/IndexOutOfBoundsException", (ms_at 507 (by decide +kernel) rfl), by decide +kernel⟩
    · exact ⟨by decide, "java/lang/IllegalArgumentException", (ms_at 431 (by decide +kernel) rfl), by decide +kernel⟩
theorem hd_L_jamIn_0 : ms_hd m_L_jamIn "java/lang/IllegalArgumentException" 4 12 := by
  refine ⟨[], [], ⟨0, 9, 12, 13⟩, "java/lang/IllegalArgumentException", rfl, ?_, by decide, by decide, (ms_at 431 (by decide +kernel) rfl), rfl, by decide, rfl⟩
  exact fun z hz => by cases hz
theorem hd_L_farWith_0 : ms_hd m_L_farWith "java/lang/IndexOutOfBoundsException" 7 15 := by
  refine ⟨[], [], ⟨0, 12, 15, 19⟩, "java/lang/IndexOutOfBoundsException", rfl, ?_, by decide, by decide, (ms_at 507 (by decide +kernel) rfl), rfl, by decide, rfl⟩
  exact fun z hz => by cases hz
end
section
/-! THE ABSTRACT MACHINE LAYER: the kit's walks with everything that stays the same hidden: 'ms_W' says that from an abstract state (program counter, locals, stack, heap size, abstract heap, room left) the method comes to its end with P. One rule an instruction. -/
abbrev ms_E : Type := (Nat × vp_A) ⊕ (Nat × List Value)
abbrev ms_H : Type := Nat → Option ms_E
/-- what a run ends with: a value (or none), or the class of what was thrown -/
abbrev ms_Rs : Type := Option Value ⊕ String
abbrev ms_P : Type := ms_Rs → Nat → ms_H → Prop
def ms_cE (cA : Nat → ClassId) : ms_E → va_E
  | .inl x => .inl (cA x.1, x.2)
  | .inr o => .inr o
def ms_up (G : ms_H) (a : Nat) (x : ms_E) : ms_H := fun b => if b = a then some x else G b
theorem ms_up_s (G : ms_H) (a : Nat) (x : ms_E) : ms_up G a x a = some x := if_pos rfl
theorem ms_up_n (G : ms_H) {a b : Nat} (x : ms_E) (h : b ≠ a) : ms_up G a x b = G b := if_neg h
theorem ms_up_up (G : ms_H) (a : Nat) (x y : ms_E) : ms_up (ms_up G a x) a y = ms_up G a y := by
  funext b; unfold ms_up; by_cases h : b = a <;> simp [h]
theorem ms_up_id (G : ms_H) {a : Nat} {x : ms_E} (h : G a = some x) : ms_up G a x = G := by
  funext b; unfold ms_up; by_cases hb : b = a
  · subst hb; simp [h]
  · simp [hb]
theorem ms_up_co (G : ms_H) {a b : Nat} (x y : ms_E) (h : a ≠ b) : ms_up (ms_up G a x) b y = ms_up (ms_up G b y) a x := by
  funext c; unfold ms_up; by_cases h1 : c = a <;> by_cases h2 : c = b <;> simp [h1, h2]
  · subst h1; subst h2; exact absurd rfl h
  · intro h3; exact absurd h3 h
  · intro h3; exact absurd h3.symm h
def ms_wd (D : va_G) (cA : Nat → ClassId) (base : Nat) (G : ms_H) (H : Heap) : Prop := ∀ (a : Nat) (x : ms_E), G a = some x → va_at D vwCl (a, ms_cE cA x) H ∧ base ≤ a
def ms_tys (cA : Nat → ClassId) : List (ClassId × FieldType) := [(cA 0, .int), (cA 1, .boolean), (cA 2, .long), (cA 3, .object "StarlingSquare$Walker"), (cA 4, .array .int)]
def ms_sx (j : Nat) : Int32 := [1, 0, -1, 0, 1, -1, -1, 1].getD j 0
def ms_sy (j : Nat) : Int32 := [0, 1, 0, -1, 1, 1, -1, -1].getD j 0
/-- the static rows -/
def ms_st (base : Nat) (U : State) (H : Heap) : Prop :=
  (∃ t, va_Z "StarlingSquare" "STEP_X" "[I" (.ref t) (fun q => base ≤ q) U H ∧ va_T .int t 8 (fun j => .int (ms_sx j)) (fun q => base ≤ q) U H) ∧
  (∃ t, va_Z "StarlingSquare" "STEP_Y" "[I" (.ref t) (fun q => base ≤ q) U H ∧ va_T .int t 8 (fun j => .int (ms_sy j)) (fun q => base ≤ q) U H)
def ms_nw (U : State) : Prop := (∀ q ∈ ms_nM, va_Nw (.methodLinkNest q.1 q.2.1 q.2.2.1 q.2.2.2) U) ∧ ∀ q ∈ ms_nF, va_Nw (.fieldLinkNest q.1 q.2.1 q.2.2.1 q.2.2.2.1 q.2.2.2.2.1 q.2.2.2.2.2) U
/-- what a throw and a catch want beside the words -/
def ms_xs (base : Nat) (U : State) (H : Heap) : Prop := vx_Zq Bundle.tN "UNASSIGNED_STACK" Bundle.steD (fun q => base ≤ q) U H ∧ vx_Zq Bundle.tN "SUPPRESSED_SENTINEL" Bundle.listD (fun q => base ≤ q) U H ∧ (∀ q ∈ ms_strs, ∃ sa : Nat, vk_R q.1 q.2.1 q.2.2 sa U) ∧ (∀ q ∈ ms_ncs, va_Nc q.1 q.2 U) ∧ (∀ E ∈ ms_exs, ∃ c, U.vm.findClass E = some c) ∧ ∀ y ∈ ms_dcl, va_Nw (.declares y) U
def ms_SE (D : va_G) (cA : Nat → ClassId) (base : Nat) (U : State) : Prop := va_K D vwCl (ms_tys cA) U ∧ ms_st base U U.heap ∧ ms_nw U ∧ va_AO "StarlingSquare$Walker" U ∧ (Cond.arrayOver (.array .int)).before #[] U = true ∧ ms_xs base U U.heap
theorem ms_st.kept {base : Nat} {u U : State} {H H1 : Heap} (hvm : u.vm.Alike U.vm) (h : ms_st base u H) (hq : ∀ a : Nat, a < H.size → ¬ base ≤ a → H1[a]? = H[a]?) : ms_st base U H1 := by
  obtain ⟨⟨t, a1, a2⟩, t', b1, b2⟩ := h
  exact ⟨⟨t, (a1.moved hvm).kept hq, (a2.moved hvm).kept hq⟩, t', (b1.moved hvm).kept hq, (b2.moved hvm).kept hq⟩
theorem ms_SE.to {D : va_G} {cA : Nat → ClassId} {base : Nat} {s U : State} {H : Heap} {locs : List Loc} (h : ms_SE D cA base s) (hU : U.heap = H) (hW : s.WarmedH U.vm) (hS : va_S (fun q => base ≤ q) s.heap H locs) : ms_SE D cA base U := by
  obtain ⟨h1, h2, ⟨h3, h4⟩, h5, h6, h7, h8, h9, h10, h11, h12⟩ := h
  have hk : ∀ a : Nat, a < s.heap.size → ¬ base ≤ a → U.heap[a]? = s.heap[a]? := fun a ha hb => by rw [hU]; exact hS.2.1 a ha hb
  exact ⟨va_K.moved hW.alike h1, ms_st.kept hW.alike h2 hk, ⟨fun q hq => (h3 q hq).warmM hW, fun q hq => (h4 q hq).warmF hW⟩, h5.moved hW.alike, over_moved hW.alike h6, (h7.moved hW.alike).kept hk, (h8.moved hW.alike).kept hk, fun q hq => (h9 q hq).elim fun sa h => ⟨sa, h.warm hW⟩, fun q hq => (h10 q hq).moved hW.alike, fun q hq => (h11 q hq).elim fun c h => ⟨c, by rw [hW.alike.findClass]; exact h⟩, fun y hy => va_Nw.warmD hW (h12 y hy)⟩
theorem ms_SE.blind {D : va_G} {cA : Nat → ClassId} {base : Nat} {U : State} {g : JFrame} {mk : MethodId} {a : Array Value} (h : ms_SE D cA base U) : ms_SE D cA base (U.calling g mk a) := by
  obtain ⟨h1, h2, ⟨h3, h4⟩, h5, h6, h7, h8, h9, h10, h11, h12⟩ := h
  exact ⟨va_K.moved (u := U) (U := U.calling g mk a) (Vm.Alike.refl U.vm) h1, ms_st.kept (u := U) (U := U.calling g mk a) (Vm.Alike.refl U.vm) h2 (fun _ _ _ => rfl), ⟨fun q hq => (h3 q hq).same rfl rfl, fun q hq => (h4 q hq).same rfl rfl⟩, va_AO.moved (u := U) (U := U.calling g mk a) (Vm.Alike.refl U.vm) h5, over_moved (u := U) (E := U.calling g mk a) (Vm.Alike.refl U.vm) h6, vx_Zq.moved (u := U) (U := U.calling g mk a) (Vm.Alike.refl U.vm) h7, vx_Zq.moved (u := U) (U := U.calling g mk a) (Vm.Alike.refl U.vm) h8, fun q hq => (h9 q hq).elim fun sa h => ⟨sa, vk_R.same (u := U) (U := U.calling g mk a) rfl h⟩, fun q hq => va_Nc.moved (u := U) (U := U.calling g mk a) (Vm.Alike.refl U.vm) (h10 q hq), h11, fun y hy => (h12 y hy).same rfl rfl⟩
def ms_R (d : ms_D) (mc ms : Nat) : Room := { frames := d.2.2.2.2.1, cells := mc, slots := ms, locals := d.2.2.2.2.2.1 }
def ms_sc (o : Option (Nat × Nat × (Nat → Int32))) (base : Nat) (s : State) : Prop := match o with
  | none => True
  | some q => va_X q.1 q.2.1 q.2.2 s s.heap ∧ q.1 < s.heap.size ∧ ¬ base ≤ q.1
/-- what stays the same in a method's walk -/
def ms_FX (d : ms_D) (p : Program) (l : Launch) (s : State) (m : MethodId) (args : Array Value) (meth : Method) (c : Code) (D : va_G) (cA : Nat → ClassId) (base : Nat) : Prop :=
  p.tables.exec = Jvm.exec ∧ c.code = d.2.1 ∧ meth.sig.returnType = d.2.2.2.1 ∧ c.maxLocals = d.2.2.1 ∧ meth.locks = false ∧ s.vm.findClass d.1.cls = some m.cls ∧ meth.name = d.1.name ∧ (∀ w ∈ ms_big, w.before args s = true) ∧ ms_SE D cA base s ∧ l.flags = flags0 ∧ c.exceptionTable.toList = tableOf d.2.2.2.2.2.2.1 ∧ base ≤ s.heap.size ∧ ms_sc d.2.2.2.2.2.2.2 base s
def ms_Qc (D : va_G) (cA : Nat → ClassId) (base : Nat) (P : ms_P) : Array Value → State → Outcome → State → Prop := fun _ st oc t => ∃ (v : Option Value) (G' : ms_H), oc = .returned v ∧ P (.inl v) t.heap.size G' ∧ ms_wd D cA base G' t.heap ∧ va_F (fun q => base ≤ q) st t
def ms_XC (D : va_G) (cA : Nat → ClassId) (base : Nat) (P : ms_P) : String → State → State → Prop := fun E st t => ∃ G' : ms_H, P (.inr E) t.heap.size G' ∧ ms_wd D cA base G' t.heap ∧ va_F (fun q => base ≤ q) st t
def ms_T (x : Bool) (D : va_G) (cA : Nat → ClassId) (base : Nat) (P : ms_P) (below : List Frame) (args : Array Value) (s : State) (mc ms : Nat) : State → Prop := match x with
  | false => MQ below (ms_Qc D cA base P) args s mc ms (fun q => base ≤ q)
  | true => vx_MQ below (ms_Qc D cA base P) (ms_XC D cA base P) args s mc ms (fun q => base ≤ q)
def ms_W (x : Bool) (d : ms_D) (P : ms_P) (pc : Nat) (lv : List (Nat × Value)) (st : List Value) (n : Nat) (G : ms_H) (kr zr : Nat) : Prop :=
  ∀ (mc ms : Nat) (p : Program) (l : Launch) (e : Env) (s : State) (m : MethodId) (args : Array Value) (below : List Frame) (meth : Method) (c : Code) (D : va_G) (cA : Nat → ClassId) (base : Nat) (H : Heap) (locs : List Loc) (cells slots : Nat) (ls : Array Slot),
    ms_FX d p l s m args meth c D cA base → cells + kr ≤ mc → slots + zr ≤ ms → H.size = n → ms_wd D cA base G H → va_S (fun q => base ≤ q) s.heap H locs → lv_has ls d.2.2.1 lv →
    W p l e (ms_R d mc ms) s m args below meth c H locs cells slots (ms_T x D cA base P below args s mc ms) (F0 m pc ls st)
theorem ms_FX.exec {d : ms_D} {p : Program} {l : Launch} {s : State} {m : MethodId} {args : Array Value} {meth : Method} {c : Code} {D : va_G} {cA : Nat → ClassId} {base : Nat} (F : ms_FX d p l s m args meth c D cA base) : p.tables.exec = Jvm.exec := F.1
theorem ms_FX.code {d : ms_D} {p : Program} {l : Launch} {s : State} {m : MethodId} {args : Array Value} {meth : Method} {c : Code} {D : va_G} {cA : Nat → ClassId} {base : Nat} (F : ms_FX d p l s m args meth c D cA base) : c.code = d.2.1 := F.2.1
theorem ms_FX.K {d : ms_D} {p : Program} {l : Launch} {s : State} {m : MethodId} {args : Array Value} {meth : Method} {c : Code} {D : va_G} {cA : Nat → ClassId} {base : Nat} (F : ms_FX d p l s m args meth c D cA base) : va_K D vwCl (ms_tys cA) s := F.2.2.2.2.2.2.2.2.1.1
theorem ms_FX.own {d : ms_D} {p : Program} {l : Launch} {s : State} {m : MethodId} {args : Array Value} {meth : Method} {c : Code} {D : va_G} {cA : Nat → ClassId} {base : Nat} (F : ms_FX d p l s m args meth c D cA base) : s.vm.findClass d.1.cls = some m.cls := F.2.2.2.2.2.1
theorem ms_FX.big {d : ms_D} {p : Program} {l : Launch} {s : State} {m : MethodId} {args : Array Value} {meth : Method} {c : Code} {D : va_G} {cA : Nat → ClassId} {base : Nat} (F : ms_FX d p l s m args meth c D cA base) : ∀ w ∈ ms_big, w.before args s = true := F.2.2.2.2.2.2.2.1
theorem ms_FX.SE {d : ms_D} {p : Program} {l : Launch} {s : State} {m : MethodId} {args : Array Value} {meth : Method} {c : Code} {D : va_G} {cA : Nat → ClassId} {base : Nat} (F : ms_FX d p l s m args meth c D cA base) : ms_SE D cA base s := F.2.2.2.2.2.2.2.2.1
theorem ms_FX.low {d : ms_D} {p : Program} {l : Launch} {s : State} {m : MethodId} {args : Array Value} {meth : Method} {c : Code} {D : va_G} {cA : Nat → ClassId} {base : Nat} (F : ms_FX d p l s m args meth c D cA base) : base ≤ s.heap.size := F.2.2.2.2.2.2.2.2.2.2.2.1
theorem ms_wd.P1 {D : va_G} {cA : Nat → ClassId} {base : Nat} {G : ms_H} {H : Heap} (h : ms_wd D cA base G H) {a : Nat} {x : ms_E} (ha : G a = some x) : va_P D vwCl [(a, ms_cE cA x)] H := by
  intro k q hq
  match k, hq with
  | 0, hq => cases hq; exact (h a x ha).1
  | k + 1, hq => simp at hq
theorem ms_wd.set {D : va_G} {cA : Nat → ClassId} {base : Nat} {G : ms_H} {H H1 : Heap} (h : ms_wd D cA base G H) {a : Nat} {x y : ms_E} (ha : G a = some x) (he : va_at D vwCl (a, ms_cE cA y) H1) (oq : ∀ q : Nat, q ≠ a → H1[q]? = H[q]?) : ms_wd D cA base (ms_up G a y) H1 := by
  intro b z hz
  by_cases hb : b = a
  · subst hb
    rw [ms_up_s] at hz
    cases hz
    exact ⟨he, (h _ _ ha).2⟩
  · rw [ms_up_n _ _ hb] at hz
    exact ⟨(h b z hz).1.kept (oq b hb), (h b z hz).2⟩
theorem ms_wd.new {D : va_G} {cA : Nat → ClassId} {base n : Nat} {G : ms_H} {H H1 : Heap} (h : ms_wd D cA base G H) {y : ms_E} (hn : H.size = n) (hb : base ≤ n) (he : va_at D vwCl (n, ms_cE cA y) H1) (oq : ∀ q : Nat, q < n → H1[q]? = H[q]?) : ms_wd D cA base (ms_up G n y) H1 := by
  intro b z hz
  by_cases h9 : b = n
  · subst h9
    rw [ms_up_s] at hz
    cases hz
    exact ⟨he, hb⟩
  · rw [ms_up_n _ _ h9] at hz
    have h1 := (h b z hz).1
    have h2 : b < n := by rw [← hn]; exact va_at.lt h1
    exact ⟨h1.kept (oq b h2), (h b z hz).2⟩
theorem ms_wd.fresh {D : va_G} {cA : Nat → ClassId} {base : Nat} {G : ms_H} {H : Heap} (h : ms_wd D cA base G H) {a : Nat} (ha : H.size ≤ a) : G a = none := by
  cases hx : G a with
  | none => rfl
  | some x => exact absurd (va_at.lt (h a x hx).1) (Nat.not_lt.mpr ha)
section MS
variable {x : Bool} {d : ms_D} {P : ms_P} {pc : Nat} {lv : List (Nat × Value)} {st : List Value} {n : Nat} {G : ms_H} {kr zr : Nat}
theorem ms_W.room {k2 z2 : Nat} (h : ms_W x d P pc lv st n G k2 z2) (h1 : k2 ≤ kr) (h2 : z2 ≤ zr) : ms_W x d P pc lv st n G kr zr := by
  intro mc ms p l e s m args below meth c D cA base H locs cells slots ls F c1 c2
  exact h mc ms p l e s m args below meth c D cA base H locs cells slots ls F (by omega) (by omega)
theorem ms_W.sub {lv2 : List (Nat × Value)} (h : ms_W x d P pc lv2 st n G kr zr) (ks : List Nat) (hl : lv_pick lv ks = lv2) : ms_W x d P pc lv st n G kr zr := by
  intro mc ms p l e s m args below meth c D cA base H locs cells slots ls F c1 c2 c3 c4 c5 c6
  exact h mc ms p l e s m args below meth c D cA base H locs cells slots ls F c1 c2 c3 c4 c5 (lv_sub c6 ks hl)
theorem ms_iaload {a N : Nat} {i : Int32} {f : Nat → Int32} (hdg : decode d.2.1 pc = .ok (.iaload, 1)) (ha : G a = some (.inl (0, N, .inl f))) (hin : vp_in i N) (k : ms_W x d P (pc + 1) lv (.int (f i.toNatClampNeg) :: st) n G kr zr) : ms_W x d P pc lv (.int i :: .ref a :: st) n G kr zr := by
  intro mc ms p l e s m args below meth c D cA base H locs cells slots ls F c1 c2 c3 c4 c5 c6
  exact va_iald F.exec F.code F.K (c4.P1 ha) 0 0 rfl rfl hin hdg (k mc ms p l e s m args below meth c D cA base H locs cells slots ls F c1 c2 c3 c4 c5 c6)
theorem ms_zaload {a N : Nat} {i : Int32} {f : Nat → Int32} (hdg : decode d.2.1 pc = .ok (.baload, 1)) (ha : G a = some (.inl (1, N, .inl f))) (hin : vp_in i N) (k : ms_W x d P (pc + 1) lv (.int (f i.toNatClampNeg) :: st) n G kr zr) : ms_W x d P pc lv (.int i :: .ref a :: st) n G kr zr := by
  intro mc ms p l e s m args below meth c D cA base H locs cells slots ls F c1 c2 c3 c4 c5 c6
  exact va_zald F.exec F.code F.K (c4.P1 ha) 0 1 rfl rfl hin hdg (k mc ms p l e s m args below meth c D cA base H locs cells slots ls F c1 c2 c3 c4 c5 c6)
theorem ms_laload {a N : Nat} {i : Int32} {f : Nat → Int64} (hdg : decode d.2.1 pc = .ok (.laload, 1)) (ha : G a = some (.inl (2, N, .inr (.inl f)))) (hin : vp_in i N) (k : ms_W x d P (pc + 1) lv (.long (f i.toNatClampNeg) :: st) n G kr zr) : ms_W x d P pc lv (.int i :: .ref a :: st) n G kr zr := by
  intro mc ms p l e s m args below meth c D cA base H locs cells slots ls F c1 c2 c3 c4 c5 c6
  exact va_lald F.exec F.code F.K (c4.P1 ha) 0 2 rfl rfl hin hdg (k mc ms p l e s m args below meth c D cA base H locs cells slots ls F c1 c2 c3 c4 c5 c6)
theorem ms_aaload {a N : Nat} {i : Int32} {f : Nat → Option Nat} (hdg : decode d.2.1 pc = .ok (.aaload, 1)) (ha : G a = some (.inl (3, N, .inr (.inr (.inr (.inr f)))))) (hin : vp_in i N) (k : ms_W x d P (pc + 1) lv (va_rf (f i.toNatClampNeg) :: st) n G kr zr) : ms_W x d P pc lv (.int i :: .ref a :: st) n G kr zr := by
  intro mc ms p l e s m args below meth c D cA base H locs cells slots ls F c1 c2 c3 c4 c5 c6
  exact va_aldq F.exec F.code F.K (c4.P1 ha) 0 3 rfl rfl hin hdg (k mc ms p l e s m args below meth c D cA base H locs cells slots ls F c1 c2 c3 c4 c5 c6)
theorem ms_alen {a : Nat} {kd : Nat} {y : vp_A} {v : Int32} {ty : ClassId → ClassId × FieldType} (hdg : decode d.2.1 pc = .ok (.arraylength, 1)) (ha : G a = some (.inl (kd, y))) (hk : kd < 5) (hv : Int32.ofNat y.1 = v) (k : ms_W x d P (pc + 1) lv (.int v :: st) n G kr zr) : ms_W x d P pc lv (.ref a :: st) n G kr zr := by
  intro mc ms p l e s m args below meth c D cA base H locs cells slots ls F c1 c2 c3 c4 c5 c6
  have hty : ∃ ty, (ms_tys cA)[kd]? = some (cA kd, ty) := by
    match kd, hk with
    | 0, _ => exact ⟨_, rfl⟩
    | 1, _ => exact ⟨_, rfl⟩
    | 2, _ => exact ⟨_, rfl⟩
    | 3, _ => exact ⟨_, rfl⟩
    | 4, _ => exact ⟨_, rfl⟩
  obtain ⟨ty, hty⟩ := hty
  exact va_alen F.exec F.code F.K (c4.P1 ha) 0 kd rfl hty hv hdg (k mc ms p l e s m args below meth c D cA base H locs cells slots ls F c1 c2 c3 c4 c5 c6)
theorem ms_iastore {a N : Nat} {i v : Int32} {f : Nat → Int32} (hdg : decode d.2.1 pc = .ok (.iastore, 1)) (ha : G a = some (.inl (0, N, .inl f))) (hin : vp_in i N) (k : ms_W x d P (pc + 1) lv st n (ms_up G a (.inl (0, N, .inl (upd f i.toNatClampNeg v)))) kr zr) : ms_W x d P pc lv (.int v :: .int i :: .ref a :: st) n G kr zr := by
  intro mc ms p l e s m args below meth c D cA base H locs cells slots ls F c1 c2 c3 c4 c5 c6
  have hb := (c4 a _ ha).2
  refine W.iast F.exec F.code (c4.P1 ha 0 _ rfl) ((F.K.2 0 _ rfl).1 N (fun j => .int (f j))) (fun q => by cases q) (by show ¬ (i < 0 ∨ (arrV _ _ _).slots.size ≤ _); rw [arrV_size]; exact hin) rfl rfl hdg fun H1 h9 z oq => ?_
  refine k mc ms p l e s m args below meth c D cA base H1 _ cells slots ls F c1 c2 (z.trans c3) (c4.set ha ?_ oq) (c5.put z oq hb) c6
  show H1[a]? = some (vp_cell _ _)
  rw [h9]
  rw [vp_cell_i, vp_cell_i, arrV_store]
  congr 2
  funext q
  by_cases hq : q = i.toNatClampNeg
  · subst hq
    simp [updV, upd]
  · simp [updV, upd, hq]
end MS
end
section
/-! THE RULES, one an instruction; and the block rule: a stretch of loads, stores and arithmetic in one step -/
def ms_get (lv : List (Nat × Value)) (i : Nat) : Option Value := (lv.find? (fun q => q.1 == i)).map (fun q => q.2)
theorem ms_get_at {ls : Array Slot} {nL : Nat} {lv : List (Nat × Value)} {i : Nat} {v : Value} (h : lv_has ls nL lv) (hg : ms_get lv i = some v) : ls[i]? = some (.val v) := by
  unfold ms_get at hg
  rw [Option.map_eq_some_iff] at hg
  obtain ⟨q, h1, h2⟩ := hg
  have h3 := List.mem_of_find?_eq_some h1
  have h4 := List.find?_some h1
  have h5 : q.1 = i := by simpa using h4
  rw [← h5, ← h2]
  exact h.2.2 q h3
abbrev ms_s1 (lv : List (Nat × Value)) (i : Nat) (v : Value) : List (Nat × Value) := (i, v) :: lv.filter (fun q => !(q.1 == i) && !(q.1 + 1 == i && q.2.category == 2))
abbrev ms_s2 (lv : List (Nat × Value)) (i : Nat) (v : Value) : List (Nat × Value) := (i, v) :: lv.filter (fun q => !(q.1 == i) && (!(q.1 == i + 1) && !(q.1 + 1 == i && q.2.category == 2)))
def ms_ldI (lv : List (Nat × Value)) (st : List Value) (i : Nat) : Option (List (Nat × Value) × List Value) := match ms_get lv i with
  | some (.int v) => some (lv, .int v :: st)
  | _ => none
def ms_ldL (lv : List (Nat × Value)) (st : List Value) (i : Nat) : Option (List (Nat × Value) × List Value) := match ms_get lv i with
  | some (.long v) => some (lv, .long v :: st)
  | _ => none
def ms_ldA (lv : List (Nat × Value)) (st : List Value) (i : Nat) : Option (List (Nat × Value) × List Value) := match ms_get lv i with
  | some (.ref v) => some (lv, .ref v :: st)
  | some .null => some (lv, .null :: st)
  | _ => none
def ms_stI (mL : Nat) (lv : List (Nat × Value)) (i : Nat) (st : List Value) : Option (List (Nat × Value) × List Value) := match st with
  | .int v :: r => if i < mL then some (ms_s1 lv i (.int v), r) else none
  | _ => none
def ms_stL (mL : Nat) (lv : List (Nat × Value)) (i : Nat) (st : List Value) : Option (List (Nat × Value) × List Value) := match st with
  | .long v :: r => if i + 1 < mL then some (ms_s2 lv i (.long v), r) else none
  | _ => none
def ms_stA (mL : Nat) (lv : List (Nat × Value)) (i : Nat) (st : List Value) : Option (List (Nat × Value) × List Value) := match st with
  | .ref v :: r => if i < mL then some (ms_s1 lv i (.ref v), r) else none
  | .null :: r => if i < mL then some (ms_s1 lv i .null, r) else none
  | _ => none
def ms_b2 (lv : List (Nat × Value)) (f : Int32 → Int32 → Int32) (st : List Value) : Option (List (Nat × Value) × List Value) := match st with
  | .int y :: .int z :: r => some (lv, .int (f z y) :: r)
  | _ => none
def ms_b2L (lv : List (Nat × Value)) (f : Int64 → Int64 → Int64) (st : List Value) : Option (List (Nat × Value) × List Value) := match st with
  | .long y :: .long z :: r => some (lv, .long (f z y) :: r)
  | _ => none
def ms_inc (mL : Nat) (lv : List (Nat × Value)) (st : List Value) (i : Nat) (k : Int) : Option (List (Nat × Value) × List Value) := match ms_get lv i with
  | some (.int v) => if i < mL then some (ms_s1 lv i (.int (v + Int32.ofInt k)), st) else none
  | _ => none
def ms_dup (lv : List (Nat × Value)) (st : List Value) : Option (List (Nat × Value) × List Value) := match st with
  | v :: r => if v.category = 1 then some (lv, v :: v :: r) else none
  | _ => none
def ms_pop (lv : List (Nat × Value)) (st : List Value) : Option (List (Nat × Value) × List Value) := match st with
  | v :: r => if v.category = 1 then some (lv, r) else none
  | _ => none
def ms_dup2 (lv : List (Nat × Value)) (st : List Value) : Option (List (Nat × Value) × List Value) := match st with
  | v :: w :: r => if v.category = 1 ∧ w.category = 1 then some (lv, v :: w :: v :: w :: r) else none
  | _ => none
def ms_dupx (lv : List (Nat × Value)) (st : List Value) : Option (List (Nat × Value) × List Value) := match st with
  | v :: w :: r => if v.category = 1 ∧ w.category = 1 then some (lv, v :: w :: v :: r) else none
  | _ => none
def ms_i2l (lv : List (Nat × Value)) (st : List Value) : Option (List (Nat × Value) × List Value) := match st with
  | .int v :: r => some (lv, .long v.toInt64 :: r)
  | _ => none
def ms_neg (lv : List (Nat × Value)) (st : List Value) : Option (List (Nat × Value) × List Value) := match st with
  | .int v :: r => some (lv, .int (-v) :: r)
  | _ => none
theorem pr_iconst {x : Bool} {d : ms_D} {P : ms_P} {pc : Nat} {lv lv' : List (Nat × Value)} {st st' : List Value} {n : Nat} {G : ms_H} {kr zr : Nat} {j : Int} (hdg : decode d.2.1 pc = .ok (.iconst j, 1)) (h : some (lv, Value.int (Int32.ofInt j) :: st) = some (lv', st')) (k : ms_W x d P (pc + 1) lv' st' n G kr zr) : ms_W x d P pc lv st n G kr zr := by
  cases h
  intro mc ms p l e s m args below meth c D cA base H locs cells slots ls F c1 c2 c3 c4 c5 c6
  exact lv_iconst F.exec F.code hdg rfl (k mc ms p l e s m args below meth c D cA base H locs cells slots ls F c1 c2 c3 c4 c5 c6)
theorem pr_bipush {x : Bool} {d : ms_D} {P : ms_P} {pc : Nat} {lv lv' : List (Nat × Value)} {st st' : List Value} {n : Nat} {G : ms_H} {kr zr : Nat} {j : Int} (hdg : decode d.2.1 pc = .ok (.bipush j, 2)) (h : some (lv, Value.int ((Int8.ofInt j).toInt32) :: st) = some (lv', st')) (k : ms_W x d P (pc + 2) lv' st' n G kr zr) : ms_W x d P pc lv st n G kr zr := by
  cases h
  intro mc ms p l e s m args below meth c D cA base H locs cells slots ls F c1 c2 c3 c4 c5 c6
  exact lv_bipush F.exec F.code hdg rfl (k mc ms p l e s m args below meth c D cA base H locs cells slots ls F c1 c2 c3 c4 c5 c6)
theorem pr_sipush {x : Bool} {d : ms_D} {P : ms_P} {pc : Nat} {lv lv' : List (Nat × Value)} {st st' : List Value} {n : Nat} {G : ms_H} {kr zr : Nat} {j : Int} (hdg : decode d.2.1 pc = .ok (.sipush j, 3)) (h : some (lv, Value.int ((Int16.ofInt j).toInt32) :: st) = some (lv', st')) (k : ms_W x d P (pc + 3) lv' st' n G kr zr) : ms_W x d P pc lv st n G kr zr := by
  cases h
  intro mc ms p l e s m args below meth c D cA base H locs cells slots ls F c1 c2 c3 c4 c5 c6
  exact lv_sipush F.exec F.code hdg rfl (k mc ms p l e s m args below meth c D cA base H locs cells slots ls F c1 c2 c3 c4 c5 c6)
theorem pr_null {x : Bool} {d : ms_D} {P : ms_P} {pc : Nat} {lv lv' : List (Nat × Value)} {st st' : List Value} {n : Nat} {G : ms_H} {kr zr : Nat} (hdg : decode d.2.1 pc = .ok (.aconst_null, 1)) (h : some (lv, Value.null :: st) = some (lv', st')) (k : ms_W x d P (pc + 1) lv' st' n G kr zr) : ms_W x d P pc lv st n G kr zr := by
  cases h
  intro mc ms p l e s m args below meth c D cA base H locs cells slots ls F c1 c2 c3 c4 c5 c6
  exact lv_null F.exec F.code hdg (k mc ms p l e s m args below meth c D cA base H locs cells slots ls F c1 c2 c3 c4 c5 c6)
theorem pr_iload_n {x : Bool} {d : ms_D} {P : ms_P} {pc : Nat} {lv lv' : List (Nat × Value)} {st st' : List Value} {n : Nat} {G : ms_H} {kr zr : Nat} {j : Fin 4} (hdg : decode d.2.1 pc = .ok (.iload_n j, 1)) (h : ms_ldI lv st (j : Nat) = some (lv', st')) (k : ms_W x d P (pc + 1) lv' st' n G kr zr) : ms_W x d P pc lv st n G kr zr := by
  unfold ms_ldI at h
  split at h
  · next v hv =>
    cases h
    intro mc ms p l e s m args below meth c D cA base H locs cells slots ls F c1 c2 c3 c4 c5 c6
    exact lv_iload_n F.exec F.code hdg rfl (ms_get_at c6 hv) (k mc ms p l e s m args below meth c D cA base H locs cells slots ls F c1 c2 c3 c4 c5 c6)
  · cases h
theorem pr_iload {x : Bool} {d : ms_D} {P : ms_P} {pc : Nat} {lv lv' : List (Nat × Value)} {st st' : List Value} {n : Nat} {G : ms_H} {kr zr : Nat} {j : Nat} (hdg : decode d.2.1 pc = .ok (.iload j, 2)) (h : ms_ldI lv st j = some (lv', st')) (k : ms_W x d P (pc + 2) lv' st' n G kr zr) : ms_W x d P pc lv st n G kr zr := by
  unfold ms_ldI at h
  split at h
  · next v hv =>
    cases h
    intro mc ms p l e s m args below meth c D cA base H locs cells slots ls F c1 c2 c3 c4 c5 c6
    exact lv_iload F.exec F.code hdg (ms_get_at c6 hv) (k mc ms p l e s m args below meth c D cA base H locs cells slots ls F c1 c2 c3 c4 c5 c6)
  · cases h
theorem pr_lload_n {x : Bool} {d : ms_D} {P : ms_P} {pc : Nat} {lv lv' : List (Nat × Value)} {st st' : List Value} {n : Nat} {G : ms_H} {kr zr : Nat} {j : Fin 4} (hdg : decode d.2.1 pc = .ok (.lload_n j, 1)) (h : ms_ldL lv st (j : Nat) = some (lv', st')) (k : ms_W x d P (pc + 1) lv' st' n G kr zr) : ms_W x d P pc lv st n G kr zr := by
  unfold ms_ldL at h
  split at h
  · next v hv =>
    cases h
    intro mc ms p l e s m args below meth c D cA base H locs cells slots ls F c1 c2 c3 c4 c5 c6
    exact lv_lload_n F.exec F.code hdg rfl (ms_get_at c6 hv) (k mc ms p l e s m args below meth c D cA base H locs cells slots ls F c1 c2 c3 c4 c5 c6)
  · cases h
theorem pr_lload {x : Bool} {d : ms_D} {P : ms_P} {pc : Nat} {lv lv' : List (Nat × Value)} {st st' : List Value} {n : Nat} {G : ms_H} {kr zr : Nat} {j : Nat} (hdg : decode d.2.1 pc = .ok (.lload j, 2)) (h : ms_ldL lv st j = some (lv', st')) (k : ms_W x d P (pc + 2) lv' st' n G kr zr) : ms_W x d P pc lv st n G kr zr := by
  unfold ms_ldL at h
  split at h
  · next v hv =>
    cases h
    intro mc ms p l e s m args below meth c D cA base H locs cells slots ls F c1 c2 c3 c4 c5 c6
    exact lv_lload F.exec F.code hdg (ms_get_at c6 hv) (k mc ms p l e s m args below meth c D cA base H locs cells slots ls F c1 c2 c3 c4 c5 c6)
  · cases h
theorem pr_aload_n {x : Bool} {d : ms_D} {P : ms_P} {pc : Nat} {lv lv' : List (Nat × Value)} {st st' : List Value} {n : Nat} {G : ms_H} {kr zr : Nat} {j : Fin 4} (hdg : decode d.2.1 pc = .ok (.aload_n j, 1)) (h : ms_ldA lv st (j : Nat) = some (lv', st')) (k : ms_W x d P (pc + 1) lv' st' n G kr zr) : ms_W x d P pc lv st n G kr zr := by
  unfold ms_ldA at h
  split at h
  · next v hv =>
    cases h
    intro mc ms p l e s m args below meth c D cA base H locs cells slots ls F c1 c2 c3 c4 c5 c6
    exact lv_aload_n F.exec F.code hdg rfl (ms_get_at c6 hv) (k mc ms p l e s m args below meth c D cA base H locs cells slots ls F c1 c2 c3 c4 c5 c6)
  · next hv =>
    cases h
    intro mc ms p l e s m args below meth c D cA base H locs cells slots ls F c1 c2 c3 c4 c5 c6
    exact lv_aload_nN F.exec F.code hdg rfl (ms_get_at c6 hv) (k mc ms p l e s m args below meth c D cA base H locs cells slots ls F c1 c2 c3 c4 c5 c6)
  · cases h
theorem pr_aload {x : Bool} {d : ms_D} {P : ms_P} {pc : Nat} {lv lv' : List (Nat × Value)} {st st' : List Value} {n : Nat} {G : ms_H} {kr zr : Nat} {j : Nat} (hdg : decode d.2.1 pc = .ok (.aload j, 2)) (h : ms_ldA lv st j = some (lv', st')) (k : ms_W x d P (pc + 2) lv' st' n G kr zr) : ms_W x d P pc lv st n G kr zr := by
  unfold ms_ldA at h
  split at h
  · next v hv =>
    cases h
    intro mc ms p l e s m args below meth c D cA base H locs cells slots ls F c1 c2 c3 c4 c5 c6
    exact lv_aload F.exec F.code hdg (ms_get_at c6 hv) (k mc ms p l e s m args below meth c D cA base H locs cells slots ls F c1 c2 c3 c4 c5 c6)
  · next hv =>
    cases h
    intro mc ms p l e s m args below meth c D cA base H locs cells slots ls F c1 c2 c3 c4 c5 c6
    exact lv_aloadN F.exec F.code hdg (ms_get_at c6 hv) (k mc ms p l e s m args below meth c D cA base H locs cells slots ls F c1 c2 c3 c4 c5 c6)
  · cases h
theorem pr_istore_n {x : Bool} {d : ms_D} {P : ms_P} {pc : Nat} {lv lv' : List (Nat × Value)} {st st' : List Value} {n : Nat} {G : ms_H} {kr zr : Nat} {j : Fin 4} (hdg : decode d.2.1 pc = .ok (.istore_n j, 1)) (h : ms_stI d.2.2.1 lv (j : Nat) st = some (lv', st')) (k : ms_W x d P (pc + 1) lv' st' n G kr zr) : ms_W x d P pc lv st n G kr zr := by
  unfold ms_stI at h
  split at h
  · next v r =>
    split at h
    · next hi =>
      cases h
      intro mc ms p l e s m args below meth c D cA base H locs cells slots ls F c1 c2 c3 c4 c5 c6
      exact lv_istore_n F.exec F.code hdg rfl c6 hi rfl (fun ls9 hl9 => (k mc ms p l e s m args below meth c D cA base H locs cells slots ls9 F c1 c2 c3 c4 c5 hl9))
    · cases h
  · cases h
theorem pr_istore {x : Bool} {d : ms_D} {P : ms_P} {pc : Nat} {lv lv' : List (Nat × Value)} {st st' : List Value} {n : Nat} {G : ms_H} {kr zr : Nat} {j : Nat} (hdg : decode d.2.1 pc = .ok (.istore j, 2)) (h : ms_stI d.2.2.1 lv j st = some (lv', st')) (k : ms_W x d P (pc + 2) lv' st' n G kr zr) : ms_W x d P pc lv st n G kr zr := by
  unfold ms_stI at h
  split at h
  · next v r =>
    split at h
    · next hi =>
      cases h
      intro mc ms p l e s m args below meth c D cA base H locs cells slots ls F c1 c2 c3 c4 c5 c6
      exact lv_istore F.exec F.code hdg c6 hi rfl (fun ls9 hl9 => (k mc ms p l e s m args below meth c D cA base H locs cells slots ls9 F c1 c2 c3 c4 c5 hl9))
    · cases h
  · cases h
theorem pr_lstore_n {x : Bool} {d : ms_D} {P : ms_P} {pc : Nat} {lv lv' : List (Nat × Value)} {st st' : List Value} {n : Nat} {G : ms_H} {kr zr : Nat} {j : Fin 4} (hdg : decode d.2.1 pc = .ok (.lstore_n j, 1)) (h : ms_stL d.2.2.1 lv (j : Nat) st = some (lv', st')) (k : ms_W x d P (pc + 1) lv' st' n G kr zr) : ms_W x d P pc lv st n G kr zr := by
  unfold ms_stL at h
  split at h
  · next v r =>
    split at h
    · next hi =>
      cases h
      intro mc ms p l e s m args below meth c D cA base H locs cells slots ls F c1 c2 c3 c4 c5 c6
      exact lv_lstore_n F.exec F.code hdg rfl c6 hi rfl (fun ls9 hl9 => (k mc ms p l e s m args below meth c D cA base H locs cells slots ls9 F c1 c2 c3 c4 c5 hl9))
    · cases h
  · cases h
theorem pr_lstore {x : Bool} {d : ms_D} {P : ms_P} {pc : Nat} {lv lv' : List (Nat × Value)} {st st' : List Value} {n : Nat} {G : ms_H} {kr zr : Nat} {j : Nat} (hdg : decode d.2.1 pc = .ok (.lstore j, 2)) (h : ms_stL d.2.2.1 lv j st = some (lv', st')) (k : ms_W x d P (pc + 2) lv' st' n G kr zr) : ms_W x d P pc lv st n G kr zr := by
  unfold ms_stL at h
  split at h
  · next v r =>
    split at h
    · next hi =>
      cases h
      intro mc ms p l e s m args below meth c D cA base H locs cells slots ls F c1 c2 c3 c4 c5 c6
      exact lv_lstore F.exec F.code hdg c6 hi rfl (fun ls9 hl9 => (k mc ms p l e s m args below meth c D cA base H locs cells slots ls9 F c1 c2 c3 c4 c5 hl9))
    · cases h
  · cases h
theorem pr_astore_n {x : Bool} {d : ms_D} {P : ms_P} {pc : Nat} {lv lv' : List (Nat × Value)} {st st' : List Value} {n : Nat} {G : ms_H} {kr zr : Nat} {j : Fin 4} (hdg : decode d.2.1 pc = .ok (.astore_n j, 1)) (h : ms_stA d.2.2.1 lv (j : Nat) st = some (lv', st')) (k : ms_W x d P (pc + 1) lv' st' n G kr zr) : ms_W x d P pc lv st n G kr zr := by
  unfold ms_stA at h
  split at h
  · next v r =>
    split at h
    · next hi =>
      cases h
      intro mc ms p l e s m args below meth c D cA base H locs cells slots ls F c1 c2 c3 c4 c5 c6
      exact lv_astore_n F.exec F.code hdg rfl c6 hi rfl (fun ls9 hl9 => (k mc ms p l e s m args below meth c D cA base H locs cells slots ls9 F c1 c2 c3 c4 c5 hl9))
    · cases h
  · next r =>
    split at h
    · next hi =>
      cases h
      intro mc ms p l e s m args below meth c D cA base H locs cells slots ls F c1 c2 c3 c4 c5 c6
      exact lv_astore_nN F.exec F.code hdg rfl c6 hi rfl (fun ls9 hl9 => (k mc ms p l e s m args below meth c D cA base H locs cells slots ls9 F c1 c2 c3 c4 c5 hl9))
    · cases h
  · cases h
theorem pr_astore {x : Bool} {d : ms_D} {P : ms_P} {pc : Nat} {lv lv' : List (Nat × Value)} {st st' : List Value} {n : Nat} {G : ms_H} {kr zr : Nat} {j : Nat} (hdg : decode d.2.1 pc = .ok (.astore j, 2)) (h : ms_stA d.2.2.1 lv j st = some (lv', st')) (k : ms_W x d P (pc + 2) lv' st' n G kr zr) : ms_W x d P pc lv st n G kr zr := by
  unfold ms_stA at h
  split at h
  · next v r =>
    split at h
    · next hi =>
      cases h
      intro mc ms p l e s m args below meth c D cA base H locs cells slots ls F c1 c2 c3 c4 c5 c6
      exact lv_astore F.exec F.code hdg c6 hi rfl (fun ls9 hl9 => (k mc ms p l e s m args below meth c D cA base H locs cells slots ls9 F c1 c2 c3 c4 c5 hl9))
    · cases h
  · next r =>
    split at h
    · next hi =>
      cases h
      intro mc ms p l e s m args below meth c D cA base H locs cells slots ls F c1 c2 c3 c4 c5 c6
      exact lv_astoreN F.exec F.code hdg c6 hi rfl (fun ls9 hl9 => (k mc ms p l e s m args below meth c D cA base H locs cells slots ls9 F c1 c2 c3 c4 c5 hl9))
    · cases h
  · cases h
theorem pr_iadd {x : Bool} {d : ms_D} {P : ms_P} {pc : Nat} {lv lv' : List (Nat × Value)} {st st' : List Value} {n : Nat} {G : ms_H} {kr zr : Nat} (hdg : decode d.2.1 pc = .ok (.iadd, 1)) (h : ms_b2 lv (· + ·) st = some (lv', st')) (k : ms_W x d P (pc + 1) lv' st' n G kr zr) : ms_W x d P pc lv st n G kr zr := by
  unfold ms_b2 at h
  split at h
  · cases h
    intro mc ms p l e s m args below meth c D cA base H locs cells slots ls F c1 c2 c3 c4 c5 c6
    exact lv_iadd F.exec F.code hdg (k mc ms p l e s m args below meth c D cA base H locs cells slots ls F c1 c2 c3 c4 c5 c6)
  · cases h
theorem pr_isub {x : Bool} {d : ms_D} {P : ms_P} {pc : Nat} {lv lv' : List (Nat × Value)} {st st' : List Value} {n : Nat} {G : ms_H} {kr zr : Nat} (hdg : decode d.2.1 pc = .ok (.isub, 1)) (h : ms_b2 lv (· - ·) st = some (lv', st')) (k : ms_W x d P (pc + 1) lv' st' n G kr zr) : ms_W x d P pc lv st n G kr zr := by
  unfold ms_b2 at h
  split at h
  · cases h
    intro mc ms p l e s m args below meth c D cA base H locs cells slots ls F c1 c2 c3 c4 c5 c6
    exact lv_isub F.exec F.code hdg (k mc ms p l e s m args below meth c D cA base H locs cells slots ls F c1 c2 c3 c4 c5 c6)
  · cases h
theorem pr_imul {x : Bool} {d : ms_D} {P : ms_P} {pc : Nat} {lv lv' : List (Nat × Value)} {st st' : List Value} {n : Nat} {G : ms_H} {kr zr : Nat} (hdg : decode d.2.1 pc = .ok (.imul, 1)) (h : ms_b2 lv (· * ·) st = some (lv', st')) (k : ms_W x d P (pc + 1) lv' st' n G kr zr) : ms_W x d P pc lv st n G kr zr := by
  unfold ms_b2 at h
  split at h
  · cases h
    intro mc ms p l e s m args below meth c D cA base H locs cells slots ls F c1 c2 c3 c4 c5 c6
    exact lv_imul F.exec F.code hdg (k mc ms p l e s m args below meth c D cA base H locs cells slots ls F c1 c2 c3 c4 c5 c6)
  · cases h
theorem pr_iand {x : Bool} {d : ms_D} {P : ms_P} {pc : Nat} {lv lv' : List (Nat × Value)} {st st' : List Value} {n : Nat} {G : ms_H} {kr zr : Nat} (hdg : decode d.2.1 pc = .ok (.iand, 1)) (h : ms_b2 lv (· &&& ·) st = some (lv', st')) (k : ms_W x d P (pc + 1) lv' st' n G kr zr) : ms_W x d P pc lv st n G kr zr := by
  unfold ms_b2 at h
  split at h
  · cases h
    intro mc ms p l e s m args below meth c D cA base H locs cells slots ls F c1 c2 c3 c4 c5 c6
    exact lv_iand F.exec F.code hdg (k mc ms p l e s m args below meth c D cA base H locs cells slots ls F c1 c2 c3 c4 c5 c6)
  · cases h
theorem pr_ixor {x : Bool} {d : ms_D} {P : ms_P} {pc : Nat} {lv lv' : List (Nat × Value)} {st st' : List Value} {n : Nat} {G : ms_H} {kr zr : Nat} (hdg : decode d.2.1 pc = .ok (.ixor, 1)) (h : ms_b2 lv (· ^^^ ·) st = some (lv', st')) (k : ms_W x d P (pc + 1) lv' st' n G kr zr) : ms_W x d P pc lv st n G kr zr := by
  unfold ms_b2 at h
  split at h
  · cases h
    intro mc ms p l e s m args below meth c D cA base H locs cells slots ls F c1 c2 c3 c4 c5 c6
    exact lv_ixor F.exec F.code hdg (k mc ms p l e s m args below meth c D cA base H locs cells slots ls F c1 c2 c3 c4 c5 c6)
  · cases h
theorem pr_ishl {x : Bool} {d : ms_D} {P : ms_P} {pc : Nat} {lv lv' : List (Nat × Value)} {st st' : List Value} {n : Nat} {G : ms_H} {kr zr : Nat} (hdg : decode d.2.1 pc = .ok (.ishl, 1)) (h : ms_b2 lv (fun a b => a <<< (b &&& 31)) st = some (lv', st')) (k : ms_W x d P (pc + 1) lv' st' n G kr zr) : ms_W x d P pc lv st n G kr zr := by
  unfold ms_b2 at h
  split at h
  · cases h
    intro mc ms p l e s m args below meth c D cA base H locs cells slots ls F c1 c2 c3 c4 c5 c6
    exact lv_ishl F.exec F.code hdg (k mc ms p l e s m args below meth c D cA base H locs cells slots ls F c1 c2 c3 c4 c5 c6)
  · cases h
theorem pr_ladd {x : Bool} {d : ms_D} {P : ms_P} {pc : Nat} {lv lv' : List (Nat × Value)} {st st' : List Value} {n : Nat} {G : ms_H} {kr zr : Nat} (hdg : decode d.2.1 pc = .ok (.ladd, 1)) (h : ms_b2L lv (· + ·) st = some (lv', st')) (k : ms_W x d P (pc + 1) lv' st' n G kr zr) : ms_W x d P pc lv st n G kr zr := by
  unfold ms_b2L at h
  split at h
  · cases h
    intro mc ms p l e s m args below meth c D cA base H locs cells slots ls F c1 c2 c3 c4 c5 c6
    exact lv_ladd F.exec F.code hdg (k mc ms p l e s m args below meth c D cA base H locs cells slots ls F c1 c2 c3 c4 c5 c6)
  · cases h
theorem pr_lmul {x : Bool} {d : ms_D} {P : ms_P} {pc : Nat} {lv lv' : List (Nat × Value)} {st st' : List Value} {n : Nat} {G : ms_H} {kr zr : Nat} (hdg : decode d.2.1 pc = .ok (.lmul, 1)) (h : ms_b2L lv (· * ·) st = some (lv', st')) (k : ms_W x d P (pc + 1) lv' st' n G kr zr) : ms_W x d P pc lv st n G kr zr := by
  unfold ms_b2L at h
  split at h
  · cases h
    intro mc ms p l e s m args below meth c D cA base H locs cells slots ls F c1 c2 c3 c4 c5 c6
    exact lv_lmul F.exec F.code hdg (k mc ms p l e s m args below meth c D cA base H locs cells slots ls F c1 c2 c3 c4 c5 c6)
  · cases h
theorem pr_iinc {x : Bool} {d : ms_D} {P : ms_P} {pc : Nat} {lv lv' : List (Nat × Value)} {st st' : List Value} {n : Nat} {G : ms_H} {kr zr : Nat} {j : Nat} {i : Int} (hdg : decode d.2.1 pc = .ok (.iinc j i, 3)) (h : ms_inc d.2.2.1 lv st j i = some (lv', st')) (k : ms_W x d P (pc + 3) lv' st' n G kr zr) : ms_W x d P pc lv st n G kr zr := by
  unfold ms_inc at h
  split at h
  · next v hv =>
    split at h
    · next hi =>
      cases h
      intro mc ms p l e s m args below meth c D cA base H locs cells slots ls F c1 c2 c3 c4 c5 c6
      have hv2 := hv
      unfold ms_get at hv2
      rw [Option.map_eq_some_iff] at hv2
      obtain ⟨q, h1, h2⟩ := hv2
      have h4 := List.find?_some h1
      have h5 : q.1 = j := by simpa using h4
      obtain ⟨kk, hkk⟩ := List.getElem?_of_mem (List.mem_of_find?_eq_some h1)
      exact lv_iinc F.exec F.code hdg c6 (k := kk) (by rw [hkk, ← h5, ← h2]) rfl hi rfl (fun ls9 hl9 => (k mc ms p l e s m args below meth c D cA base H locs cells slots ls9 F c1 c2 c3 c4 c5 hl9))
    · cases h
  · cases h
theorem pr_dup {x : Bool} {d : ms_D} {P : ms_P} {pc : Nat} {lv lv' : List (Nat × Value)} {st st' : List Value} {n : Nat} {G : ms_H} {kr zr : Nat} (hdg : decode d.2.1 pc = .ok (.dup, 1)) (h : ms_dup lv st = some (lv', st')) (k : ms_W x d P (pc + 1) lv' st' n G kr zr) : ms_W x d P pc lv st n G kr zr := by
  unfold ms_dup at h
  split at h
  · split at h
    · next hc =>
      cases h
      intro mc ms p l e s m args below meth c D cA base H locs cells slots ls F c1 c2 c3 c4 c5 c6
      exact lv_dup F.exec F.code hdg hc (k mc ms p l e s m args below meth c D cA base H locs cells slots ls F c1 c2 c3 c4 c5 c6)
    · cases h
  · cases h
theorem pr_pop {x : Bool} {d : ms_D} {P : ms_P} {pc : Nat} {lv lv' : List (Nat × Value)} {st st' : List Value} {n : Nat} {G : ms_H} {kr zr : Nat} (hdg : decode d.2.1 pc = .ok (.pop, 1)) (h : ms_pop lv st = some (lv', st')) (k : ms_W x d P (pc + 1) lv' st' n G kr zr) : ms_W x d P pc lv st n G kr zr := by
  unfold ms_pop at h
  split at h
  · split at h
    · next hc =>
      cases h
      intro mc ms p l e s m args below meth c D cA base H locs cells slots ls F c1 c2 c3 c4 c5 c6
      exact lv_pop F.exec F.code hdg hc (k mc ms p l e s m args below meth c D cA base H locs cells slots ls F c1 c2 c3 c4 c5 c6)
    · cases h
  · cases h
theorem pr_dup2 {x : Bool} {d : ms_D} {P : ms_P} {pc : Nat} {lv lv' : List (Nat × Value)} {st st' : List Value} {n : Nat} {G : ms_H} {kr zr : Nat} (hdg : decode d.2.1 pc = .ok (.dup2, 1)) (h : ms_dup2 lv st = some (lv', st')) (k : ms_W x d P (pc + 1) lv' st' n G kr zr) : ms_W x d P pc lv st n G kr zr := by
  unfold ms_dup2 at h
  split at h
  · split at h
    · next hc =>
      cases h
      intro mc ms p l e s m args below meth c D cA base H locs cells slots ls F c1 c2 c3 c4 c5 c6
      exact lv_dup2_11 F.exec F.code hdg hc.1 hc.2 (k mc ms p l e s m args below meth c D cA base H locs cells slots ls F c1 c2 c3 c4 c5 c6)
    · cases h
  · cases h
theorem pr_dup_x1 {x : Bool} {d : ms_D} {P : ms_P} {pc : Nat} {lv lv' : List (Nat × Value)} {st st' : List Value} {n : Nat} {G : ms_H} {kr zr : Nat} (hdg : decode d.2.1 pc = .ok (.dup_x1, 1)) (h : ms_dupx lv st = some (lv', st')) (k : ms_W x d P (pc + 1) lv' st' n G kr zr) : ms_W x d P pc lv st n G kr zr := by
  unfold ms_dupx at h
  split at h
  · split at h
    · next hc =>
      cases h
      intro mc ms p l e s m args below meth c D cA base H locs cells slots ls F c1 c2 c3 c4 c5 c6
      exact lv_dup_x1 F.exec F.code hdg hc.1 hc.2 (k mc ms p l e s m args below meth c D cA base H locs cells slots ls F c1 c2 c3 c4 c5 c6)
    · cases h
  · cases h
theorem pr_i2l {x : Bool} {d : ms_D} {P : ms_P} {pc : Nat} {lv lv' : List (Nat × Value)} {st st' : List Value} {n : Nat} {G : ms_H} {kr zr : Nat} (hdg : decode d.2.1 pc = .ok (.i2l, 1)) (h : ms_i2l lv st = some (lv', st')) (k : ms_W x d P (pc + 1) lv' st' n G kr zr) : ms_W x d P pc lv st n G kr zr := by
  unfold ms_i2l at h
  split at h
  · cases h
    intro mc ms p l e s m args below meth c D cA base H locs cells slots ls F c1 c2 c3 c4 c5 c6
    exact lv_i2l F.exec F.code hdg rfl (k mc ms p l e s m args below meth c D cA base H locs cells slots ls F c1 c2 c3 c4 c5 c6)
  · cases h
theorem pr_ineg {x : Bool} {d : ms_D} {P : ms_P} {pc : Nat} {lv lv' : List (Nat × Value)} {st st' : List Value} {n : Nat} {G : ms_H} {kr zr : Nat} (hdg : decode d.2.1 pc = .ok (.ineg, 1)) (h : ms_neg lv st = some (lv', st')) (k : ms_W x d P (pc + 1) lv' st' n G kr zr) : ms_W x d P pc lv st n G kr zr := by
  unfold ms_neg at h
  split at h
  · cases h
    intro mc ms p l e s m args below meth c D cA base H locs cells slots ls F c1 c2 c3 c4 c5 c6
    exact lv_ineg F.exec F.code hdg (k mc ms p l e s m args below meth c D cA base H locs cells slots ls F c1 c2 c3 c4 c5 c6)
  · cases h
/-- what a plain instruction does to locals and stack -/
def ms_ps (mL : Nat) (lv : List (Nat × Value)) (st : List Value) (q : Instr × Nat) : Option (List (Nat × Value) × List Value) := match q with
  | (.iconst j, 1) => some (lv, .int (Int32.ofInt j) :: st)
  | (.bipush j, 2) => some (lv, .int ((Int8.ofInt j).toInt32) :: st)
  | (.sipush j, 3) => some (lv, .int ((Int16.ofInt j).toInt32) :: st)
  | (.aconst_null, 1) => some (lv, .null :: st)
  | (.iload_n j, 1) => ms_ldI lv st (j : Nat)
  | (.iload j, 2) => ms_ldI lv st j
  | (.lload_n j, 1) => ms_ldL lv st (j : Nat)
  | (.lload j, 2) => ms_ldL lv st j
  | (.aload_n j, 1) => ms_ldA lv st (j : Nat)
  | (.aload j, 2) => ms_ldA lv st j
  | (.istore_n j, 1) => ms_stI mL lv (j : Nat) st
  | (.istore j, 2) => ms_stI mL lv j st
  | (.lstore_n j, 1) => ms_stL mL lv (j : Nat) st
  | (.lstore j, 2) => ms_stL mL lv j st
  | (.astore_n j, 1) => ms_stA mL lv (j : Nat) st
  | (.astore j, 2) => ms_stA mL lv j st
  | (.iadd, 1) => ms_b2 lv (· + ·) st
  | (.isub, 1) => ms_b2 lv (· - ·) st
  | (.imul, 1) => ms_b2 lv (· * ·) st
  | (.iand, 1) => ms_b2 lv (· &&& ·) st
  | (.ixor, 1) => ms_b2 lv (· ^^^ ·) st
  | (.ishl, 1) => ms_b2 lv (fun a b => a <<< (b &&& 31)) st
  | (.ladd, 1) => ms_b2L lv (· + ·) st
  | (.lmul, 1) => ms_b2L lv (· * ·) st
  | (.iinc j i, 3) => ms_inc mL lv st j i
  | (.dup, 1) => ms_dup lv st
  | (.pop, 1) => ms_pop lv st
  | (.dup2, 1) => ms_dup2 lv st
  | (.dup_x1, 1) => ms_dupx lv st
  | (.i2l, 1) => ms_i2l lv st
  | (.ineg, 1) => ms_neg lv st
  | _ => none
theorem ms_ps1 {x : Bool} {d : ms_D} {P : ms_P} {pc : Nat} {lv lv' : List (Nat × Value)} {st st' : List Value} {n : Nat} {G : ms_H} {kr zr : Nat} {q : Instr × Nat} (hdg : decode d.2.1 pc = .ok q) (h : ms_ps d.2.2.1 lv st q = some (lv', st')) (k : ms_W x d P (pc + q.2) lv' st' n G kr zr) : ms_W x d P pc lv st n G kr zr := by
  unfold ms_ps at h
  split at h
  · exact pr_iconst hdg h k
  · exact pr_bipush hdg h k
  · exact pr_sipush hdg h k
  · exact pr_null hdg h k
  · exact pr_iload_n hdg h k
  · exact pr_iload hdg h k
  · exact pr_lload_n hdg h k
  · exact pr_lload hdg h k
  · exact pr_aload_n hdg h k
  · exact pr_aload hdg h k
  · exact pr_istore_n hdg h k
  · exact pr_istore hdg h k
  · exact pr_lstore_n hdg h k
  · exact pr_lstore hdg h k
  · exact pr_astore_n hdg h k
  · exact pr_astore hdg h k
  · exact pr_iadd hdg h k
  · exact pr_isub hdg h k
  · exact pr_imul hdg h k
  · exact pr_iand hdg h k
  · exact pr_ixor hdg h k
  · exact pr_ishl hdg h k
  · exact pr_ladd hdg h k
  · exact pr_lmul hdg h k
  · exact pr_iinc hdg h k
  · exact pr_dup hdg h k
  · exact pr_pop hdg h k
  · exact pr_dup2 hdg h k
  · exact pr_dup_x1 hdg h k
  · exact pr_i2l hdg h k
  · exact pr_ineg hdg h k
  · cases h
def ms_pr (mL : Nat) : List (Instr × Nat) → List (Nat × Value) → List Value → Option (List (Nat × Value) × List Value)
  | [], lv, st => some (lv, st)
  | q :: r, lv, st => match ms_ps mL lv st q with
    | some z => ms_pr mL r z.1 z.2
    | none => none
def ms_de (cc : ByteArray) : Nat → List (Instr × Nat) → Prop
  | _, [] => True
  | pc, q :: r => decode cc pc = .ok q ∧ ms_de cc (pc + q.2) r
def ms_ln : List (Instr × Nat) → Nat
  | [] => 0
  | q :: r => q.2 + ms_ln r
theorem ms_run {x : Bool} {d : ms_D} {P : ms_P} {n : Nat} {G : ms_H} {kr zr : Nat} : ∀ (is : List (Instr × Nat)) {pc pc' : Nat} {lv lv' : List (Nat × Value)} {st st' : List Value} (_ : ms_de d.2.1 pc is) (_ : pc + ms_ln is = pc') (_ : ms_pr d.2.2.1 is lv st = some (lv', st')) (_ : ms_W x d P pc' lv' st' n G kr zr), ms_W x d P pc lv st n G kr zr
  | [], pc, pc', lv, lv', st, st', _, hl, hr, k => by
    cases hr
    rw [← hl] at k
    exact k
  | q :: r, pc, pc', lv, lv', st, st', hd, hl, hr, k => by
    unfold ms_pr at hr
    split at hr
    · next z hz =>
      refine ms_ps1 hd.1 (lv' := z.1) (st' := z.2) hz (ms_run r hd.2 ?_ hr k)
      rw [← hl]
      show pc + q.2 + ms_ln r = pc + (q.2 + ms_ln r)
      omega
    · cases hr
end
section
/-! branches -/
theorem ms_if_eq {x : Bool} {d : ms_D} {P : ms_P} {pc : Nat} {lv : List (Nat × Value)} {st : List Value} {n : Nat} {G : ms_H} {kr zr : Nat} {y : Int32} {off : Int} {tgt : Nat} (hdg : decode d.2.1 pc = .ok (.ifCond .eq off, 3)) (ht : (pc : Int) + off = (tgt : Int)) (kt : y = 0 → ms_W x d P tgt lv st n G kr zr) (kf : ¬ y = 0 → ms_W x d P (pc + 3) lv st n G kr zr) : ms_W x d P pc lv (.int y :: st) n G kr zr := by
  intro mc ms p l e s m args below meth c D cA base H locs cells slots ls F c1 c2 c3 c4 c5 c6
  exact lv_if_eq F.exec F.code hdg ht (fun h9 => (kt h9 mc ms p l e s m args below meth c D cA base H locs cells slots ls F c1 c2 c3 c4 c5 c6)) (fun h9 => (kf h9 mc ms p l e s m args below meth c D cA base H locs cells slots ls F c1 c2 c3 c4 c5 c6))
theorem ms_if_ne {x : Bool} {d : ms_D} {P : ms_P} {pc : Nat} {lv : List (Nat × Value)} {st : List Value} {n : Nat} {G : ms_H} {kr zr : Nat} {y : Int32} {off : Int} {tgt : Nat} (hdg : decode d.2.1 pc = .ok (.ifCond .ne off, 3)) (ht : (pc : Int) + off = (tgt : Int)) (kt : ¬ y = 0 → ms_W x d P tgt lv st n G kr zr) (kf : y = 0 → ms_W x d P (pc + 3) lv st n G kr zr) : ms_W x d P pc lv (.int y :: st) n G kr zr := by
  intro mc ms p l e s m args below meth c D cA base H locs cells slots ls F c1 c2 c3 c4 c5 c6
  exact lv_if_ne F.exec F.code hdg ht (fun h9 => (kt h9 mc ms p l e s m args below meth c D cA base H locs cells slots ls F c1 c2 c3 c4 c5 c6)) (fun h9 => (kf h9 mc ms p l e s m args below meth c D cA base H locs cells slots ls F c1 c2 c3 c4 c5 c6))
theorem ms_if_lt {x : Bool} {d : ms_D} {P : ms_P} {pc : Nat} {lv : List (Nat × Value)} {st : List Value} {n : Nat} {G : ms_H} {kr zr : Nat} {y : Int32} {off : Int} {tgt : Nat} (hdg : decode d.2.1 pc = .ok (.ifCond .lt off, 3)) (ht : (pc : Int) + off = (tgt : Int)) (kt : y < 0 → ms_W x d P tgt lv st n G kr zr) (kf : ¬ y < 0 → ms_W x d P (pc + 3) lv st n G kr zr) : ms_W x d P pc lv (.int y :: st) n G kr zr := by
  intro mc ms p l e s m args below meth c D cA base H locs cells slots ls F c1 c2 c3 c4 c5 c6
  exact lv_if_lt F.exec F.code hdg ht (fun h9 => (kt h9 mc ms p l e s m args below meth c D cA base H locs cells slots ls F c1 c2 c3 c4 c5 c6)) (fun h9 => (kf h9 mc ms p l e s m args below meth c D cA base H locs cells slots ls F c1 c2 c3 c4 c5 c6))
theorem ms_if_ge {x : Bool} {d : ms_D} {P : ms_P} {pc : Nat} {lv : List (Nat × Value)} {st : List Value} {n : Nat} {G : ms_H} {kr zr : Nat} {y : Int32} {off : Int} {tgt : Nat} (hdg : decode d.2.1 pc = .ok (.ifCond .ge off, 3)) (ht : (pc : Int) + off = (tgt : Int)) (kt : 0 ≤ y → ms_W x d P tgt lv st n G kr zr) (kf : ¬ 0 ≤ y → ms_W x d P (pc + 3) lv st n G kr zr) : ms_W x d P pc lv (.int y :: st) n G kr zr := by
  intro mc ms p l e s m args below meth c D cA base H locs cells slots ls F c1 c2 c3 c4 c5 c6
  exact lv_if_ge F.exec F.code hdg ht (fun h9 => (kt h9 mc ms p l e s m args below meth c D cA base H locs cells slots ls F c1 c2 c3 c4 c5 c6)) (fun h9 => (kf h9 mc ms p l e s m args below meth c D cA base H locs cells slots ls F c1 c2 c3 c4 c5 c6))
theorem ms_if_gt {x : Bool} {d : ms_D} {P : ms_P} {pc : Nat} {lv : List (Nat × Value)} {st : List Value} {n : Nat} {G : ms_H} {kr zr : Nat} {y : Int32} {off : Int} {tgt : Nat} (hdg : decode d.2.1 pc = .ok (.ifCond .gt off, 3)) (ht : (pc : Int) + off = (tgt : Int)) (kt : 0 < y → ms_W x d P tgt lv st n G kr zr) (kf : ¬ 0 < y → ms_W x d P (pc + 3) lv st n G kr zr) : ms_W x d P pc lv (.int y :: st) n G kr zr := by
  intro mc ms p l e s m args below meth c D cA base H locs cells slots ls F c1 c2 c3 c4 c5 c6
  exact lv_if_gt F.exec F.code hdg ht (fun h9 => (kt h9 mc ms p l e s m args below meth c D cA base H locs cells slots ls F c1 c2 c3 c4 c5 c6)) (fun h9 => (kf h9 mc ms p l e s m args below meth c D cA base H locs cells slots ls F c1 c2 c3 c4 c5 c6))
theorem ms_if_le {x : Bool} {d : ms_D} {P : ms_P} {pc : Nat} {lv : List (Nat × Value)} {st : List Value} {n : Nat} {G : ms_H} {kr zr : Nat} {y : Int32} {off : Int} {tgt : Nat} (hdg : decode d.2.1 pc = .ok (.ifCond .le off, 3)) (ht : (pc : Int) + off = (tgt : Int)) (kt : y ≤ 0 → ms_W x d P tgt lv st n G kr zr) (kf : ¬ y ≤ 0 → ms_W x d P (pc + 3) lv st n G kr zr) : ms_W x d P pc lv (.int y :: st) n G kr zr := by
  intro mc ms p l e s m args below meth c D cA base H locs cells slots ls F c1 c2 c3 c4 c5 c6
  exact lv_if_le F.exec F.code hdg ht (fun h9 => (kt h9 mc ms p l e s m args below meth c D cA base H locs cells slots ls F c1 c2 c3 c4 c5 c6)) (fun h9 => (kf h9 mc ms p l e s m args below meth c D cA base H locs cells slots ls F c1 c2 c3 c4 c5 c6))
theorem ms_icmp_eq {x : Bool} {d : ms_D} {P : ms_P} {pc : Nat} {lv : List (Nat × Value)} {st : List Value} {n : Nat} {G : ms_H} {kr zr : Nat} {y z : Int32} {off : Int} {tgt : Nat} (hdg : decode d.2.1 pc = .ok (.if_icmp .eq off, 3)) (ht : (pc : Int) + off = (tgt : Int)) (kt : z = y → ms_W x d P tgt lv st n G kr zr) (kf : ¬ z = y → ms_W x d P (pc + 3) lv st n G kr zr) : ms_W x d P pc lv (.int y :: .int z :: st) n G kr zr := by
  intro mc ms p l e s m args below meth c D cA base H locs cells slots ls F c1 c2 c3 c4 c5 c6
  exact lv_icmp_eq F.exec F.code hdg ht (fun h9 => (kt h9 mc ms p l e s m args below meth c D cA base H locs cells slots ls F c1 c2 c3 c4 c5 c6)) (fun h9 => (kf h9 mc ms p l e s m args below meth c D cA base H locs cells slots ls F c1 c2 c3 c4 c5 c6))
theorem ms_icmp_ne {x : Bool} {d : ms_D} {P : ms_P} {pc : Nat} {lv : List (Nat × Value)} {st : List Value} {n : Nat} {G : ms_H} {kr zr : Nat} {y z : Int32} {off : Int} {tgt : Nat} (hdg : decode d.2.1 pc = .ok (.if_icmp .ne off, 3)) (ht : (pc : Int) + off = (tgt : Int)) (kt : ¬ z = y → ms_W x d P tgt lv st n G kr zr) (kf : z = y → ms_W x d P (pc + 3) lv st n G kr zr) : ms_W x d P pc lv (.int y :: .int z :: st) n G kr zr := by
  intro mc ms p l e s m args below meth c D cA base H locs cells slots ls F c1 c2 c3 c4 c5 c6
  exact lv_icmp_ne F.exec F.code hdg ht (fun h9 => (kt h9 mc ms p l e s m args below meth c D cA base H locs cells slots ls F c1 c2 c3 c4 c5 c6)) (fun h9 => (kf h9 mc ms p l e s m args below meth c D cA base H locs cells slots ls F c1 c2 c3 c4 c5 c6))
theorem ms_icmp_lt {x : Bool} {d : ms_D} {P : ms_P} {pc : Nat} {lv : List (Nat × Value)} {st : List Value} {n : Nat} {G : ms_H} {kr zr : Nat} {y z : Int32} {off : Int} {tgt : Nat} (hdg : decode d.2.1 pc = .ok (.if_icmp .lt off, 3)) (ht : (pc : Int) + off = (tgt : Int)) (kt : z < y → ms_W x d P tgt lv st n G kr zr) (kf : ¬ z < y → ms_W x d P (pc + 3) lv st n G kr zr) : ms_W x d P pc lv (.int y :: .int z :: st) n G kr zr := by
  intro mc ms p l e s m args below meth c D cA base H locs cells slots ls F c1 c2 c3 c4 c5 c6
  exact lv_icmp_lt F.exec F.code hdg ht (fun h9 => (kt h9 mc ms p l e s m args below meth c D cA base H locs cells slots ls F c1 c2 c3 c4 c5 c6)) (fun h9 => (kf h9 mc ms p l e s m args below meth c D cA base H locs cells slots ls F c1 c2 c3 c4 c5 c6))
theorem ms_icmp_ge {x : Bool} {d : ms_D} {P : ms_P} {pc : Nat} {lv : List (Nat × Value)} {st : List Value} {n : Nat} {G : ms_H} {kr zr : Nat} {y z : Int32} {off : Int} {tgt : Nat} (hdg : decode d.2.1 pc = .ok (.if_icmp .ge off, 3)) (ht : (pc : Int) + off = (tgt : Int)) (kt : y ≤ z → ms_W x d P tgt lv st n G kr zr) (kf : ¬ y ≤ z → ms_W x d P (pc + 3) lv st n G kr zr) : ms_W x d P pc lv (.int y :: .int z :: st) n G kr zr := by
  intro mc ms p l e s m args below meth c D cA base H locs cells slots ls F c1 c2 c3 c4 c5 c6
  exact lv_icmp_ge F.exec F.code hdg ht (fun h9 => (kt h9 mc ms p l e s m args below meth c D cA base H locs cells slots ls F c1 c2 c3 c4 c5 c6)) (fun h9 => (kf h9 mc ms p l e s m args below meth c D cA base H locs cells slots ls F c1 c2 c3 c4 c5 c6))
theorem ms_icmp_gt {x : Bool} {d : ms_D} {P : ms_P} {pc : Nat} {lv : List (Nat × Value)} {st : List Value} {n : Nat} {G : ms_H} {kr zr : Nat} {y z : Int32} {off : Int} {tgt : Nat} (hdg : decode d.2.1 pc = .ok (.if_icmp .gt off, 3)) (ht : (pc : Int) + off = (tgt : Int)) (kt : y < z → ms_W x d P tgt lv st n G kr zr) (kf : ¬ y < z → ms_W x d P (pc + 3) lv st n G kr zr) : ms_W x d P pc lv (.int y :: .int z :: st) n G kr zr := by
  intro mc ms p l e s m args below meth c D cA base H locs cells slots ls F c1 c2 c3 c4 c5 c6
  exact lv_icmp_gt F.exec F.code hdg ht (fun h9 => (kt h9 mc ms p l e s m args below meth c D cA base H locs cells slots ls F c1 c2 c3 c4 c5 c6)) (fun h9 => (kf h9 mc ms p l e s m args below meth c D cA base H locs cells slots ls F c1 c2 c3 c4 c5 c6))
theorem ms_icmp_le {x : Bool} {d : ms_D} {P : ms_P} {pc : Nat} {lv : List (Nat × Value)} {st : List Value} {n : Nat} {G : ms_H} {kr zr : Nat} {y z : Int32} {off : Int} {tgt : Nat} (hdg : decode d.2.1 pc = .ok (.if_icmp .le off, 3)) (ht : (pc : Int) + off = (tgt : Int)) (kt : z ≤ y → ms_W x d P tgt lv st n G kr zr) (kf : ¬ z ≤ y → ms_W x d P (pc + 3) lv st n G kr zr) : ms_W x d P pc lv (.int y :: .int z :: st) n G kr zr := by
  intro mc ms p l e s m args below meth c D cA base H locs cells slots ls F c1 c2 c3 c4 c5 c6
  exact lv_icmp_le F.exec F.code hdg ht (fun h9 => (kt h9 mc ms p l e s m args below meth c D cA base H locs cells slots ls F c1 c2 c3 c4 c5 c6)) (fun h9 => (kf h9 mc ms p l e s m args below meth c D cA base H locs cells slots ls F c1 c2 c3 c4 c5 c6))
theorem ms_goto {x : Bool} {d : ms_D} {P : ms_P} {pc : Nat} {lv : List (Nat × Value)} {st : List Value} {n : Nat} {G : ms_H} {kr zr : Nat} {off : Int} {tgt : Nat} (hdg : decode d.2.1 pc = .ok (.goto off, 3)) (ht : (pc : Int) + off = (tgt : Int)) (k : ms_W x d P tgt lv st n G kr zr) : ms_W x d P pc lv st n G kr zr := by
  intro mc ms p l e s m args below meth c D cA base H locs cells slots ls F c1 c2 c3 c4 c5 c6
  exact lv_goto F.exec F.code hdg ht (k mc ms p l e s m args below meth c D cA base H locs cells slots ls F c1 c2 c3 c4 c5 c6)
theorem ms_ifnull {x : Bool} {d : ms_D} {P : ms_P} {pc : Nat} {lv : List (Nat × Value)} {st : List Value} {n : Nat} {G : ms_H} {kr zr : Nat} {y : Nat} {off : Int} (hdg : decode d.2.1 pc = .ok (.ifnull off, 3)) (k : ms_W x d P (pc + 3) lv st n G kr zr) : ms_W x d P pc lv (.ref y :: st) n G kr zr := by
  intro mc ms p l e s m args below meth c D cA base H locs cells slots ls F c1 c2 c3 c4 c5 c6
  exact lv_ifnull F.exec F.code hdg (k mc ms p l e s m args below meth c D cA base H locs cells slots ls F c1 c2 c3 c4 c5 c6)
theorem ms_ifnullN {x : Bool} {d : ms_D} {P : ms_P} {pc : Nat} {lv : List (Nat × Value)} {st : List Value} {n : Nat} {G : ms_H} {kr zr : Nat} {off : Int} {tgt : Nat} (hdg : decode d.2.1 pc = .ok (.ifnull off, 3)) (ht : (pc : Int) + off = (tgt : Int)) (k : ms_W x d P tgt lv st n G kr zr) : ms_W x d P pc lv (.null :: st) n G kr zr := by
  intro mc ms p l e s m args below meth c D cA base H locs cells slots ls F c1 c2 c3 c4 c5 c6
  exact lv_ifnullN F.exec F.code hdg ht (k mc ms p l e s m args below meth c D cA base H locs cells slots ls F c1 c2 c3 c4 c5 c6)
theorem ms_ifnonnull {x : Bool} {d : ms_D} {P : ms_P} {pc : Nat} {lv : List (Nat × Value)} {st : List Value} {n : Nat} {G : ms_H} {kr zr : Nat} {y : Nat} {off : Int} {tgt : Nat} (hdg : decode d.2.1 pc = .ok (.ifnonnull off, 3)) (ht : (pc : Int) + off = (tgt : Int)) (k : ms_W x d P tgt lv st n G kr zr) : ms_W x d P pc lv (.ref y :: st) n G kr zr := by
  intro mc ms p l e s m args below meth c D cA base H locs cells slots ls F c1 c2 c3 c4 c5 c6
  exact lv_ifnonnull F.exec F.code hdg ht (k mc ms p l e s m args below meth c D cA base H locs cells slots ls F c1 c2 c3 c4 c5 c6)
theorem ms_ifnonnullN {x : Bool} {d : ms_D} {P : ms_P} {pc : Nat} {lv : List (Nat × Value)} {st : List Value} {n : Nat} {G : ms_H} {kr zr : Nat} {off : Int} (hdg : decode d.2.1 pc = .ok (.ifnonnull off, 3)) (k : ms_W x d P (pc + 3) lv st n G kr zr) : ms_W x d P pc lv (.null :: st) n G kr zr := by
  intro mc ms p l e s m args below meth c D cA base H locs cells slots ls F c1 c2 c3 c4 c5 c6
  exact lv_ifnonnullN F.exec F.code hdg (k mc ms p l e s m args below meth c D cA base H locs cells slots ls F c1 c2 c3 c4 c5 c6)
theorem ms_idiv {x : Bool} {d : ms_D} {P : ms_P} {pc : Nat} {lv : List (Nat × Value)} {st : List Value} {n : Nat} {G : ms_H} {kr zr : Nat} {y z : Int32} (hdg : decode d.2.1 pc = .ok (.idiv, 1)) (hne : ¬ y = 0) (k : ms_W x d P (pc + 1) lv (.int (z / y) :: st) n G kr zr) : ms_W x d P pc lv (.int y :: .int z :: st) n G kr zr := by
  intro mc ms p l e s m args below meth c D cA base H locs cells slots ls F c1 c2 c3 c4 c5 c6
  exact lv_idiv F.exec F.code hdg hne (k mc ms p l e s m args below meth c D cA base H locs cells slots ls F c1 c2 c3 c4 c5 c6)
theorem ms_irem {x : Bool} {d : ms_D} {P : ms_P} {pc : Nat} {lv : List (Nat × Value)} {st : List Value} {n : Nat} {G : ms_H} {kr zr : Nat} {y z : Int32} (hdg : decode d.2.1 pc = .ok (.irem, 1)) (hne : ¬ y = 0) (k : ms_W x d P (pc + 1) lv (.int (z - z / y * y) :: st) n G kr zr) : ms_W x d P pc lv (.int y :: .int z :: st) n G kr zr := by
  intro mc ms p l e s m args below meth c D cA base H locs cells slots ls F c1 c2 c3 c4 c5 c6
  exact lv_irem F.exec F.code hdg hne (k mc ms p l e s m args below meth c D cA base H locs cells slots ls F c1 c2 c3 c4 c5 c6)
theorem ms_lcmp {x : Bool} {d : ms_D} {P : ms_P} {pc : Nat} {lv : List (Nat × Value)} {st : List Value} {n : Nat} {G : ms_H} {kr zr : Nat} {y z : Int64} (hdg : decode d.2.1 pc = .ok (.lcmp, 1)) (k : ms_W x d P (pc + 1) lv (.int (lg_cmp z y) :: st) n G kr zr) : ms_W x d P pc lv (.long y :: .long z :: st) n G kr zr := by
  intro mc ms p l e s m args below meth c D cA base H locs cells slots ls F c1 c2 c3 c4 c5 c6
  exact W.lcmp F.exec F.code hdg (k mc ms p l e s m args below meth c D cA base H locs cells slots ls F c1 c2 c3 c4 c5 c6)
theorem ms_i2d {x : Bool} {d : ms_D} {P : ms_P} {pc : Nat} {lv : List (Nat × Value)} {st : List Value} {n : Nat} {G : ms_H} {kr zr : Nat} {y : Int32} (hdg : decode d.2.1 pc = .ok (.i2d, 1)) (k : ms_W x d P (pc + 1) lv (.double (FP.i2d y) :: st) n G kr zr) : ms_W x d P pc lv (.int y :: st) n G kr zr := by
  intro mc ms p l e s m args below meth c D cA base H locs cells slots ls F c1 c2 c3 c4 c5 c6
  exact lv_i2d F.exec F.code hdg (k mc ms p l e s m args below meth c D cA base H locs cells slots ls F c1 c2 c3 c4 c5 c6)
theorem ms_ddiv {x : Bool} {d : ms_D} {P : ms_P} {pc : Nat} {lv : List (Nat × Value)} {st : List Value} {n : Nat} {G : ms_H} {kr zr : Nat} {y z : UInt64} (hdg : decode d.2.1 pc = .ok (.ddiv, 1)) (hne : vf_n64 (FP.ddiv z y)) (k : ms_W x d P (pc + 1) lv (.double (FP.ddiv z y) :: st) n G kr zr) : ms_W x d P pc lv (.double y :: .double z :: st) n G kr zr := by
  intro mc ms p l e s m args below meth c D cA base H locs cells slots ls F c1 c2 c3 c4 c5 c6
  exact lv_ddiv F.exec F.code hdg hne (k mc ms p l e s m args below meth c D cA base H locs cells slots ls F c1 c2 c3 c4 c5 c6)
theorem ms_dconst0 {x : Bool} {d : ms_D} {P : ms_P} {pc : Nat} {lv : List (Nat × Value)} {st : List Value} {n : Nat} {G : ms_H} {kr zr : Nat} (hdg : decode d.2.1 pc = .ok (.dconst 0, 1)) (k : ms_W x d P (pc + 1) lv (.double 0 :: st) n G kr zr) : ms_W x d P pc lv st n G kr zr := by
  intro mc ms p l e s m args below meth c D cA base H locs cells slots ls F c1 c2 c3 c4 c5 c6
  exact lv_dconst0 F.exec F.code hdg (k mc ms p l e s m args below meth c D cA base H locs cells slots ls F c1 c2 c3 c4 c5 c6)
theorem ms_ldc2 {x : Bool} {d : ms_D} {P : ms_P} {pc : Nat} {lv : List (Nat × Value)} {st : List Value} {n : Nat} {G : ms_H} {kr zr : Nat} {j : Nat} {v : Int64} (hdg : decode d.2.1 pc = .ok (.ldc2_w j, 3)) (hc : Cond.constantLong d.1.cls j v ∈ ms_big) (k : ms_W x d P (pc + 3) lv (.long v :: st) n G kr zr) : ms_W x d P pc lv st n G kr zr := by
  intro mc ms p l e s m args below meth c D cA base H locs cells slots ls F c1 c2 c3 c4 c5 c6
  exact lv_ldc2 F.exec F.code F.own (F.big _ hc) hdg (k mc ms p l e s m args below meth c D cA base H locs cells slots ls F c1 c2 c3 c4 c5 c6)
theorem ms_tabOut {x : Bool} {d : ms_D} {P : ms_P} {pc : Nat} {lv : List (Nat × Value)} {st : List Value} {n : Nat} {G : ms_H} {kr zr : Nat} {dflt lo hi : Int} {offs : Array Int} {len : Nat} {y : Int32} {tgt : Nat} (hdg : decode d.2.1 pc = .ok (.tableswitch dflt lo hi offs, len)) (h : y.toInt < lo ∨ hi < y.toInt) (ht : (pc : Int) + dflt = (tgt : Int)) (k : ms_W x d P tgt lv st n G kr zr) : ms_W x d P pc lv (.int y :: st) n G kr zr := by
  intro mc ms p l e s m args below meth c D cA base H locs cells slots ls F c1 c2 c3 c4 c5 c6
  exact lv_tableOut F.exec F.code hdg h ht (k mc ms p l e s m args below meth c D cA base H locs cells slots ls F c1 c2 c3 c4 c5 c6)
theorem ms_tabIn {x : Bool} {d : ms_D} {P : ms_P} {pc : Nat} {lv : List (Nat × Value)} {st : List Value} {n : Nat} {G : ms_H} {kr zr : Nat} {dflt lo hi : Int} {offs : Array Int} {len : Nat} {y : Int32} {off : Int} {tgt : Nat} (hdg : decode d.2.1 pc = .ok (.tableswitch dflt lo hi offs, len)) (h1 : ¬ y.toInt < lo) (h2 : ¬ hi < y.toInt) (ho : offs[(y.toInt - lo).toNat]? = some off) (ht : (pc : Int) + off = (tgt : Int)) (k : ms_W x d P tgt lv st n G kr zr) : ms_W x d P pc lv (.int y :: st) n G kr zr := by
  intro mc ms p l e s m args below meth c D cA base H locs cells slots ls F c1 c2 c3 c4 c5 c6
  exact lv_tableIn F.exec F.code hdg h1 h2 ho ht (k mc ms p l e s m args below meth c D cA base H locs cells slots ls F c1 c2 c3 c4 c5 c6)
theorem ms_lookup {x : Bool} {d : ms_D} {P : ms_P} {pc : Nat} {lv : List (Nat × Value)} {st : List Value} {n : Nat} {G : ms_H} {kr zr : Nat} {dflt : Int} {ps : Array (Int × Int)} {len : Nat} {y : Int32} {off : Int} {tgt : Nat} (hdg : decode d.2.1 pc = .ok (.lookupswitch dflt ps, len)) (hp : (ps.toList.zip (ps.toList.drop 1)).all (fun (a, next) => a.1 < next.1) = true) (ho : Op.lookupswitch.offset ps.toList dflt y.toInt = off) (ht : (pc : Int) + off = (tgt : Int)) (k : ms_W x d P tgt lv st n G kr zr) : ms_W x d P pc lv (.int y :: st) n G kr zr := by
  intro mc ms p l e s m args below meth c D cA base H locs cells slots ls F c1 c2 c3 c4 c5 c6
  exact lv_lookup F.exec F.code hdg hp ho ht (k mc ms p l e s m args below meth c D cA base H locs cells slots ls F c1 c2 c3 c4 c5 c6)
/-! fields -/
theorem ms_getf {x : Bool} {d : ms_D} {P : ms_P} {pc : Nat} {lv : List (Nat × Value)} {st : List Value} {n : Nat} {G : ms_H} {kr zr : Nat} {a ci i j : Nat} {fs : List Value} {v : Value} (hdg : decode d.2.1 pc = .ok (.getfield i, 3)) (ok : ms_okF d.1.cls i ci j) (ha : G a = some (.inr (ci, fs))) (hv : fs[j]? = some v) (k : ms_W x d P (pc + 3) lv (v :: st) n G kr zr) : ms_W x d P pc lv (.ref a :: st) n G kr zr := by
  obtain ⟨C, T, N, o1, o2, o3, o4, o5⟩ := ok
  intro mc ms p l e s m args below meth c D cA base H locs cells slots ls F c1 c2 c3 c4 c5 c6
  exact va_get (C := C) (T := T) (N := N) (ref := C) F.exec F.code F.big o3 F.own F.K (c4.P1 ha) 0 rfl o1 j o2 (F.big _ o4) (fun y hy => by rw [← o5]; exact hy) hv hdg (k mc ms p l e s m args below meth c D cA base H locs cells slots ls F c1 c2 c3 c4 c5 c6)
theorem ms_getN {x : Bool} {d : ms_D} {P : ms_P} {pc : Nat} {lv : List (Nat × Value)} {st : List Value} {n : Nat} {G : ms_H} {kr zr : Nat} {a i j ci : Nat} {fs : List Value} {v : Value} {host : String} (hdg : decode d.2.1 pc = .ok (.getfield i, 3)) (ok : ∃ (C : String) (T : u_T) (N : Nat), vwCl[ci]? = some (C, T, N) ∧ j < N ∧ (∀ w ∈ u_ws C T N, w ∈ ms_big) ∧ (d.1.cls, i, C, (T j).2.1, (T j).2.2.1, host) ∈ ms_nF ∧ (T j).1 = C) (ha : G a = some (.inr (ci, fs))) (hv : fs[j]? = some v) (k : ms_W x d P (pc + 3) lv (v :: st) n G kr zr) : ms_W x d P pc lv (.ref a :: st) n G kr zr := by
  obtain ⟨C, T, N, o1, o2, o3, o4, o5⟩ := ok
  intro mc ms p l e s m args below meth c D cA base H locs cells slots ls F c1 c2 c3 c4 c5 c6
  exact va_getN (C := C) (T := T) (N := N) (ref := C) (host := host) F.exec F.code F.big o3 F.own F.K (c4.P1 ha) 0 rfl o1 j o2 ((F.SE.2.2.1.2 _ o4).use rfl) (fun y hy => by rw [← o5]; exact hy) hv hdg (k mc ms p l e s m args below meth c D cA base H locs cells slots ls F c1 c2 c3 c4 c5 c6)
theorem ms_putf {x : Bool} {d : ms_D} {P : ms_P} {pc : Nat} {lv : List (Nat × Value)} {st : List Value} {n : Nat} {G : ms_H} {kr zr : Nat} {a ci i j : Nat} {fs : List Value} {v : Value} {ty : FieldType} (hdg : decode d.2.1 pc = .ok (.putfield i, 3)) (ok : ms_okP d.1.cls i ci j ty false) (ha : G a = some (.inr (ci, fs))) (hl : j < fs.length) (hn : narrow ty v = v) (hfit : fits ty v = true) (k : ms_W x d P (pc + 3) lv st n (ms_up G a (.inr (ci, fs.set j v))) kr zr) : ms_W x d P pc lv (v :: .ref a :: st) n G kr zr := by
  obtain ⟨C, T, N, t0, o1, o2, o3, o4, o5, o6, o7, o8, o9, -⟩ := ok
  intro mc ms p l e s m args below meth c D cA base H locs cells slots ls F c1 c2 c3 c4 c5 c6
  have hap := va_apart (own := d.1.cls) F.big o3 t0 o6 o7 F.K o1
  obtain ⟨r, h1, cell, q1, q2, q3, q4⟩ := (c4 a _ ha).1
  have hr : r = (C, T, N) := Option.some.inj (h1.symm.trans o1)
  subst hr
  obtain ⟨hS, hfc, kC, hkC, hkind⟩ := F.K.1 ci _ o1
  obtain ⟨cf, kf, fi, f, hi, hsl⟩ := hS j o2
  have hlay := F.big _ (o3 _ (u_in_lay o2))
  unfold u_lay at hlay
  rw [if_neg (by rw [o8]; decide)] at hlay
  have hst := (u_facts hfc hkC (u_lays F.big o3 o2) hi).1
  have h6 := u_store hfc hkC hkind hlay hi (by rw [o6 j o2, o9]) hn hfit
  refine W.putK F.exec F.code (f := f) ⟨F.own, F.big _ o4, ⟨_, _, _, (by rw [o5] at hi; exact hi)⟩, hst⟩ (by rw [q2]; exact h6) q1 q3 (by rw [hsl]; exact k2_hasslot (q4 j o2)) rfl rfl hdg fun H1 e1 e2 e3 => ?_
  rw [hsl] at e1 ⊢
  exact k mc ms p l e s m args below meth c D cA base H1 _ cells slots ls F c1 c2 (e2.trans c3) (c4.set ha ⟨_, o1, t_OB.to (V := updV (vp_V fs) j v) ⟨_, e1, q2, q3, t_set q4 hap o2 v⟩ (fun z _ => vp_updV_set hl v z)⟩ e3) (c5.put e2 e3 (c4 a _ ha).2) c6
theorem ms_putF {x : Bool} {d : ms_D} {P : ms_P} {pc : Nat} {lv : List (Nat × Value)} {st : List Value} {n : Nat} {G : ms_H} {kr zr : Nat} {a ci i j : Nat} {fs : List Value} {v : Value} {ty : FieldType} (hdg : decode d.2.1 pc = .ok (.putfield i, 3)) (ok : ms_okP d.1.cls i ci j ty true) (hini : d.1.name = "<init>") (ha : G a = some (.inr (ci, fs))) (hl : j < fs.length) (hn : narrow ty v = v) (hfit : fits ty v = true) (k : ms_W x d P (pc + 3) lv st n (ms_up G a (.inr (ci, fs.set j v))) kr zr) : ms_W x d P pc lv (v :: .ref a :: st) n G kr zr := by
  obtain ⟨C, T, N, t0, o1, o2, o3, o4, o5, o6, o7, o8, o9, o10⟩ := ok
  intro mc ms p l e s m args below meth c D cA base H locs cells slots ls F c1 c2 c3 c4 c5 c6
  have hap := va_apart (own := d.1.cls) F.big o3 t0 o6 o7 F.K o1
  obtain ⟨r, h1, cell, q1, q2, q3, q4⟩ := (c4 a _ ha).1
  have hr : r = (C, T, N) := Option.some.inj (h1.symm.trans o1)
  subst hr
  obtain ⟨hS, hfc, kC, hkC, hkind⟩ := F.K.1 ci _ o1
  obtain ⟨cf, kf, fi, f, hi, hsl⟩ := hS j o2
  have hlay := F.big _ (o3 _ (u_in_lay o2))
  unfold u_lay at hlay
  rw [if_pos o8] at hlay
  have hst := (u_facts hfc hkC (u_lays F.big o3 o2) hi).1
  have hcf : m.cls = cf := by
    obtain ⟨_, _, c', _, _, _, -, -, hf', -, -, -, hown2, -⟩ := Cond.laysFinal_spec hlay
    have e1 : c' = cf := by have := hi.symm.trans hf'; simp at this; exact this.1.symm
    rw [o5, o10 rfl] at hown2
    rw [← e1]; exact Option.some.inj (F.own.symm.trans hown2)
  have h6 := u_fits hfc hkC hkind (Or.inr hlay) hi (by rw [o6 j o2, o9]) hn hfit
  refine W.putFinK F.exec F.code F.own (F.big _ o4) (by rw [o5] at hi; exact hi) hst hcf (F.2.2.2.2.2.2.1.trans hini) (by rw [q2]; exact h6) q1 q3 (by rw [hsl]; exact k2_hasslot (q4 j o2)) rfl rfl hdg fun H1 e1 e2 e3 => ?_
  rw [hsl] at e1 ⊢
  exact k mc ms p l e s m args below meth c D cA base H1 _ cells slots ls F c1 c2 (e2.trans c3) (c4.set ha ⟨_, o1, t_OB.to (V := updV (vp_V fs) j v) ⟨_, e1, q2, q3, t_set q4 hap o2 v⟩ (fun z _ => vp_updV_set hl v z)⟩ e3) (c5.put e2 e3 (c4 a _ ha).2) c6
/-! new -/
theorem ms_new {x : Bool} {d : ms_D} {P : ms_P} {pc : Nat} {lv : List (Nat × Value)} {st : List Value} {n : Nat} {G : ms_H} {kr zr : Nat} {i ci : Nat} {fs : List Value} (hdg : decode d.2.1 pc = .ok (.new i, 3)) (ok : ms_okN d.1.cls i ci fs) (k : ms_W x d P (pc + 3) lv (.ref n :: st) (n + 1) (ms_up G n (.inr (ci, fs))) kr zr) : ms_W x d P pc lv st n G (1 + kr) (fs.length + zr) := by
  obtain ⟨C, T, N, t0, o1, o2, o3, o4, o5, o6, o7⟩ := ok
  intro mc ms p l e s m args below meth c D cA base H locs cells slots ls F c1 c2 c3 c4 c5 c6
  have hlen : fs.length = N := by rw [o7]; simp
  have hKn := F.K.1 ci _ o1
  refine W.newcK F.exec F.code F.own (F.big _ o4) (F.big _ o5) (F.big _ o6) rfl hdg (show cells + 1 ≤ mc by omega) (show slots + N ≤ ms by omega) hKn.2.1 c3 fun H1 kC hkC e1 z1 b1 => ?_
  refine k mc ms p l e s m args below meth c D cA base H1 locs (cells + 1) (slots + N) ls F (by omega) (by omega) z1 (c4.new c3 (by have := F.low; have := c5.1; omega) ⟨_, o1, (u_born t0 F.big o2 hKn hkC e1 o3).to (fun z hz => ?_)⟩ b1) ⟨by have := c5.1; omega, fun q h1 h2 => (b1 q (by have := c5.1; omega)).trans (c5.2.1 q h1 h2), c5.2.2⟩ c6
  rw [o7]
  simp [vp_V, hz]
theorem ms_newI {x : Bool} {d : ms_D} {P : ms_P} {pc : Nat} {lv : List (Nat × Value)} {st : List Value} {n : Nat} {G : ms_H} {kr zr : Nat} {v : Int32} {N : Nat} (hdg : decode d.2.1 pc = .ok (.newarray .int, 2)) (hw : Cond.arrayClass .int ∈ ms_big) (h0 : ¬ v < 0) (hN : v.toNatClampNeg = N) (hb : N * 4 ≤ 536870912) (k : ms_W x d P (pc + 2) lv (.ref n :: st) (n + 1) (ms_up G n (.inl (0, N, .inl (fun _ => 0)))) kr zr) : ms_W x d P pc lv (.int v :: st) n G (1 + kr) (N + zr) := by
  intro mc ms p l e s m args below meth c D cA base H locs cells slots ls F c1 c2 c3 c4 c5 c6
  refine va_newaK (atype := .int) F.exec F.code (F.big _ hw) rfl hdg rfl h0 hN hb (show cells + 1 ≤ mc by omega) (show slots + N ≤ ms by omega) c3 fun H1 cB e1 z1 b1 hAr hNm => ?_
  have hcB : cB = cA 0 := Option.some.inj (hNm.symm.trans (F.K.2 0 _ rfl).2)
  subst hcB
  exact k mc ms p l e s m args below meth c D cA base H1 locs (cells + 1) (slots + N) ls F (by omega) (by omega) z1 (c4.new c3 (by have := F.low; have := c5.1; omega) e1 b1) ⟨by have := c5.1; omega, fun q h1 h2 => (b1 q (by have := c5.1; omega)).trans (c5.2.1 q h1 h2), c5.2.2⟩ c6
theorem ms_newZ {x : Bool} {d : ms_D} {P : ms_P} {pc : Nat} {lv : List (Nat × Value)} {st : List Value} {n : Nat} {G : ms_H} {kr zr : Nat} {v : Int32} {N : Nat} (hdg : decode d.2.1 pc = .ok (.newarray .boolean, 2)) (hw : Cond.arrayClass .boolean ∈ ms_big) (h0 : ¬ v < 0) (hN : v.toNatClampNeg = N) (hb : N * 1 ≤ 536870912) (k : ms_W x d P (pc + 2) lv (.ref n :: st) (n + 1) (ms_up G n (.inl (1, N, .inl (fun _ => 0)))) kr zr) : ms_W x d P pc lv (.int v :: st) n G (1 + kr) (N + zr) := by
  intro mc ms p l e s m args below meth c D cA base H locs cells slots ls F c1 c2 c3 c4 c5 c6
  refine va_newaK (atype := .boolean) F.exec F.code (F.big _ hw) rfl hdg rfl h0 hN hb (show cells + 1 ≤ mc by omega) (show slots + N ≤ ms by omega) c3 fun H1 cB e1 z1 b1 hAr hNm => ?_
  have hcB : cB = cA 1 := Option.some.inj (hNm.symm.trans (F.K.2 1 _ rfl).2)
  subst hcB
  exact k mc ms p l e s m args below meth c D cA base H1 locs (cells + 1) (slots + N) ls F (by omega) (by omega) z1 (c4.new c3 (by have := F.low; have := c5.1; omega) e1 b1) ⟨by have := c5.1; omega, fun q h1 h2 => (b1 q (by have := c5.1; omega)).trans (c5.2.1 q h1 h2), c5.2.2⟩ c6
theorem ms_newL {x : Bool} {d : ms_D} {P : ms_P} {pc : Nat} {lv : List (Nat × Value)} {st : List Value} {n : Nat} {G : ms_H} {kr zr : Nat} {v : Int32} {N : Nat} (hdg : decode d.2.1 pc = .ok (.newarray .long, 2)) (hw : Cond.arrayClass .long ∈ ms_big) (h0 : ¬ v < 0) (hN : v.toNatClampNeg = N) (hb : N * 8 ≤ 536870912) (k : ms_W x d P (pc + 2) lv (.ref n :: st) (n + 1) (ms_up G n (.inl (2, N, .inr (.inl (fun _ => 0))))) kr zr) : ms_W x d P pc lv (.int v :: st) n G (1 + kr) (N + zr) := by
  intro mc ms p l e s m args below meth c D cA base H locs cells slots ls F c1 c2 c3 c4 c5 c6
  refine va_newaK (atype := .long) F.exec F.code (F.big _ hw) rfl hdg rfl h0 hN hb (show cells + 1 ≤ mc by omega) (show slots + N ≤ ms by omega) c3 fun H1 cB e1 z1 b1 hAr hNm => ?_
  have hcB : cB = cA 2 := Option.some.inj (hNm.symm.trans (F.K.2 2 _ rfl).2)
  subst hcB
  exact k mc ms p l e s m args below meth c D cA base H1 locs (cells + 1) (slots + N) ls F (by omega) (by omega) z1 (c4.new c3 (by have := F.low; have := c5.1; omega) e1 b1) ⟨by have := c5.1; omega, fun q h1 h2 => (b1 q (by have := c5.1; omega)).trans (c5.2.1 q h1 h2), c5.2.2⟩ c6
/-! stores into rows -/
theorem ms_zastore {x : Bool} {d : ms_D} {P : ms_P} {pc : Nat} {lv : List (Nat × Value)} {st : List Value} {n : Nat} {G : ms_H} {kr zr : Nat} {a N : Nat} {i v : Int32} {f : Nat → Int32} (hdg : decode d.2.1 pc = .ok (.bastore, 1)) (ha : G a = some (.inl (1, N, .inl f))) (hin : vp_in i N) (k : ms_W x d P (pc + 1) lv st n (ms_up G a (.inl (1, N, .inl (upd f i.toNatClampNeg (vp_nar .boolean v))))) kr zr) : ms_W x d P pc lv (.int v :: .int i :: .ref a :: st) n G kr zr := by
  intro mc ms p l e s m args below meth c D cA base H locs cells slots ls F c1 c2 c3 c4 c5 c6
  have hb := (c4 a _ ha).2
  refine W.zast F.exec F.code (c4.P1 ha 0 _ rfl) ((F.K.2 1 _ rfl).1 N (fun j => .int (f j))) (fun q => by cases q) (by show ¬ (i < 0 ∨ (arrV _ _ _).slots.size ≤ _); rw [arrV_size]; exact hin) rfl rfl hdg fun H1 h9 z oq => ?_
  refine k mc ms p l e s m args below meth c D cA base H1 _ cells slots ls F c1 c2 (z.trans c3) (c4.set ha ?_ oq) (c5.put z oq hb) c6
  show H1[a]? = some (vp_cell _ _)
  rw [h9]
  rw [vp_cell_i, vp_cell_i, arrV_store]
  congr 2
  funext q
  by_cases hq : q = i.toNatClampNeg
  · subst hq
    simp [updV, upd, vp_nar]
    try rfl
  · simp [updV, upd, hq]
theorem ms_lastore {x : Bool} {d : ms_D} {P : ms_P} {pc : Nat} {lv : List (Nat × Value)} {st : List Value} {n : Nat} {G : ms_H} {kr zr : Nat} {a N : Nat} {i : Int32} {v : Int64} {f : Nat → Int64} (hdg : decode d.2.1 pc = .ok (.lastore, 1)) (ha : G a = some (.inl (2, N, .inr (.inl f)))) (hin : vp_in i N) (k : ms_W x d P (pc + 1) lv st n (ms_up G a (.inl (2, N, .inr (.inl (vp_updL f i.toNatClampNeg v))))) kr zr) : ms_W x d P pc lv (.long v :: .int i :: .ref a :: st) n G kr zr := by
  intro mc ms p l e s m args below meth c D cA base H locs cells slots ls F c1 c2 c3 c4 c5 c6
  have hb := (c4 a _ ha).2
  refine W.last F.exec F.code (c4.P1 ha 0 _ rfl) ((F.K.2 2 _ rfl).1 N (fun j => .long (f j))) (fun q => by cases q) (by show ¬ (i < 0 ∨ (arrV _ _ _).slots.size ≤ _); rw [arrV_size]; exact hin) rfl rfl hdg fun H1 h9 z oq => ?_
  refine k mc ms p l e s m args below meth c D cA base H1 _ cells slots ls F c1 c2 (z.trans c3) (c4.set ha ?_ oq) (c5.put z oq hb) c6
  show H1[a]? = some (vp_cell _ _)
  rw [h9]
  rw [vp_cell_l, vp_cell_l, arrV_store]
  congr 2
  funext q
  by_cases hq : q = i.toNatClampNeg
  · subst hq
    simp [updV, vp_updL]
  · simp [updV, vp_updL, hq]
theorem ms_aastore {x : Bool} {d : ms_D} {P : ms_P} {pc : Nat} {lv : List (Nat × Value)} {st : List Value} {n : Nat} {G : ms_H} {kr zr : Nat} {a N b : Nat} {i : Int32} {fs : List Value} {f : Nat → Option Nat} (hdg : decode d.2.1 pc = .ok (.aastore, 1)) (ha : G a = some (.inl (3, N, .inr (.inr (.inr (.inr f)))))) (hb : G b = some (.inr (4, fs))) (hin : vp_in i N) (k : ms_W x d P (pc + 1) lv st n (ms_up G a (.inl (3, N, .inr (.inr (.inr (.inr (va_up f i.toNatClampNeg (some b)))))))) kr zr) : ms_W x d P pc lv (.ref b :: .int i :: .ref a :: st) n G kr zr := by
  intro mc ms p l e s m args below meth c D cA base H locs cells slots ls F c1 c2 c3 c4 c5 c6
  have hba := (c4 a _ ha).2
  have hlt : i.toNatClampNeg < N := Nat.not_le.mp fun q => hin (Or.inr q)
  have h0 : ¬ i < 0 := fun q => hin (Or.inl q)
  obtain ⟨r', hr', cellV, g1, g2, g3, -⟩ := (c4 b _ hb).1
  have hr9 : r' = (RX4, TX4, 11) := Option.some.inj (hr'.symm.trans rfl)
  have hcls := (F.K.1 4 _ rfl).2
  obtain ⟨kA, comp, k1, k2, k3, -⟩ := (F.K.2 3 _ rfl).2
  have hcomp : comp = D.1 4 := Option.some.inj (k3.symm.trans hcls.1)
  subst hcomp
  obtain ⟨kC, hkC, -⟩ := hcls.2
  refine W.aast F.exec F.code (c4.P1 ha 0 _ rfl) (fun q h => by cases h) (fun h => by cases h) k1 k2 rfl hkC ⟨h0, by show _ < (arrV _ _ _).slots.size; rw [arrV_size]; exact hlt⟩ g1 (fun q h => by rw [g3] at h; cases h) (by rw [g2]; exact hkC) (by rw [g2]; exact va_assign hcls) rfl rfl hdg fun H1 h9 z oq => ?_
  refine k mc ms p l e s m args below meth c D cA base H1 _ cells slots ls F c1 c2 (z.trans c3) (c4.set ha ?_ oq) (c5.put z oq hba) c6
  show H1[a]? = some (vp_cell _ _)
  rw [h9]
  rw [vp_cell_q, vp_cell_q, arrV_store]
  congr 2
  funext q
  by_cases hq : q = i.toNatClampNeg
  · subst hq
    simp [updV, va_up, va_rf]
  · simp [updV, va_up, hq]
end
section
/-! contracts, calls, entries, ends -/
def ms_Pc (D : va_G) (cA : Nat → ClassId) (base : Nat) (a : List Value) (n : Nat) (G : ms_H) : Array Value → State → Prop := va_Pc a (fun U => U.heap.size = n ∧ ms_wd D cA base G U.heap ∧ ms_SE D cA base U ∧ base ≤ n)
/-- a method that never throws: its contract over the whole abstract heap -/
def ms_M (d : ms_D) (a : List Value) (n : Nat) (G : ms_H) (kr zr : Nat) (P : ms_P) : Prop := ∀ (l : Launch), l.flags = flags0 → ∀ (D : va_G) (cA : Nat → ClassId) (base : Nat), Met l d.1 (ms_ws d) (ms_R d kr zr) (ms_Pc D cA base a n G) (ms_Qc D cA base P) kr zr (fun q => base ≤ q)
/-- one that may throw -/
def ms_X (d : ms_D) (a : List Value) (n : Nat) (G : ms_H) (kr zr : Nat) (P : ms_P) : Prop := ∀ (l : Launch), l.flags = flags0 → ∀ (D : va_G) (cA : Nat → ClassId) (base : Nat), vx_Met l d.1 (ms_ws d) (ms_R d kr zr) (ms_Pc D cA base a n G) (ms_Qc D cA base P) (ms_XC D cA base P) kr zr (fun q => base ≤ q)
theorem ms_Pc.blind {D : va_G} {cA : Nat → ClassId} {base : Nat} {a : List Value} {n : Nat} {G : ms_H} : FrameBlind (ms_Pc D cA base a n G) := by
  intro v U g mk h
  obtain ⟨h0, h1, h2, h3, h4⟩ := h
  exact ⟨h0, h1, h2, h3.blind, h4⟩
theorem ms_entry {x : Bool} {d : ms_D} {a : List Value} {n : Nat} {G : ms_H} {kr zr : Nat} {P : ms_P} (hlen : (lg_sl a).length ≤ d.2.2.1) (h : ms_W x d P 0 (lv_args 0 a) [] n G kr zr) {p : Program} {l : Launch} {e : Env} {s s₁ : State} {m : MethodId} {args : Array Value} {below : List Frame} {meth : Method} {c : Code} {D : va_G} {cA : Nat → ClassId} {base : Nat} (hl : l.flags = flags0)
    (B : BodyLoose p l d.1 (headSpec (ms_ws d) (ms_R d kr zr)) d.2.1 d.2.2.1 d.2.2.2.1 e s m args below meth c s₁) (hml : c.maxLocals = d.2.2.1) (ht : c.exceptionTable.toList = tableOf d.2.2.2.2.2.2.1) (hs : d.2.2.2.2.2.2.2 = none) (hv : ms_Pc D cA base a n G args s) :
    W p l e (ms_R d kr zr) s m args below meth c s.heap [] 0 0 (ms_T x D cA base P below args s kr zr) (entryFrame m args d.2.2.1) := by
  obtain ⟨rfl, hsz, hP, hSE, hlow⟩ := hv
  have hts := atoms_spec (ws := ms_ws d) B.pre
  have hl9 := lv_entry a (n := d.2.2.1) hlen
  rw [lg_entry_eq]
  exact h kr zr p l e s m _ below meth c D cA base s.heap [] 0 0 _ ⟨B.exec, B.bytes, B.returns, hml, B.notSynchronized, findClass_of_methodNamed B.named, (name_of_methodNamed B.named B.method).1, fun w hw => hts w (List.mem_cons_of_mem _ hw), hSE, hl, ht, by rw [hsz]; exact hlow, by rw [hs]; trivial⟩ (by omega) (by omega) hsz hP va_S.rf hl9
theorem ms_M.of {d : ms_D} {a : List Value} {n : Nat} {G : ms_H} {kr zr : Nat} {P : ms_P} (hy : plainName d.1.cls = true) (hlen : (lg_sl a).length ≤ d.2.2.1) (h : ms_W false d P 0 (lv_args 0 a) [] n G kr zr) (hh : d.2.2.2.2.2.2.1 = [] := by rfl) (hs : d.2.2.2.2.2.2.2 = none := by rfl) : ms_M d a n G kr zr P := by
  intro l hl D cA base
  refine Met.ofW (cc := d.2.1) (maxL := d.2.2.1) (ret := d.2.2.2.1) hy (by unfold ms_ws; rw [ms_cd_nil hh]) ?_
  intro p e s m args below meth c s₁ B hml hv
  have ht : c.exceptionTable.toList = tableOf d.2.2.2.2.2.2.1 := by
    obtain ⟨meth9, c9, h1, h2, -, -, -, -, h7, -⟩ := Cond.code_spec B.named (atoms_spec (ws := ms_ws d) B.pre _ (by unfold ms_ws; rw [ms_cd_nil hh]; exact List.mem_cons_self))
    cases Option.some.inj (h1.symm.trans B.method)
    cases Option.some.inj (h2.symm.trans (Stand.of_body B).code)
    rw [Array.isEmpty_iff.mp h7, hh]
    rfl
  exact ms_entry (x := false) hlen h hl B hml ht hs hv
theorem ms_X.of {d : ms_D} {a : List Value} {n : Nat} {G : ms_H} {kr zr : Nat} {P : ms_P} (hy : plainName d.1.cls = true) (hlen : (lg_sl a).length ≤ d.2.2.1) (h : ms_W true d P 0 (lv_args 0 a) [] n G kr zr) (hh : d.2.2.2.2.2.2.1 = [] := by rfl) (hs : d.2.2.2.2.2.2.2 = none := by rfl) : ms_X d a n G kr zr P := by
  intro l hl D cA base
  refine vx_ofW (cc := d.2.1) (maxL := d.2.2.1) (ret := d.2.2.2.1) hy (by unfold ms_ws; rw [ms_cd_nil hh]) ?_
  intro p e s m args below meth c s₁ B hml ht hv
  exact ms_entry (x := true) hlen h hl B hml (by rw [hh]; exact List.eq_nil_iff_forall_not_mem.mpr (fun z hz => ht z hz)) hs hv
/-- one with handlers -/
theorem ms_X.ofH {d : ms_D} {a : List Value} {n : Nat} {G : ms_H} {kr zr : Nat} {P : ms_P} (hy : plainName d.1.cls = true) (hlen : (lg_sl a).length ≤ d.2.2.1) (hh : ¬ d.2.2.2.2.2.2.1 = []) (h : ms_W true d P 0 (lv_args 0 a) [] n G kr zr) (hs : d.2.2.2.2.2.2.2 = none := by rfl) : ms_X d a n G kr zr P := by
  intro l hl D cA base
  refine vx_ofWH (cc := d.2.1) (maxL := d.2.2.1) (ret := d.2.2.2.1) (hh := d.2.2.2.2.2.2.1) hy (by unfold ms_ws; rw [ms_cd_cons hh]) ?_
  intro p e s m args below meth c s₁ B hml hv
  exact ms_entry (x := true) hlen h hl B hml (vx_table B (atoms_spec (ws := ms_ws d) B.pre _ (by unfold ms_ws; rw [ms_cd_cons hh]; exact List.mem_cons_self))) hs hv
theorem ms_M.mono {d : ms_D} {a : List Value} {n : Nat} {G : ms_H} {kr zr : Nat} {P P2 : ms_P} (h : ms_M d a n G kr zr P) (hP : ∀ v n1 G1, P (.inl v) n1 G1 → P2 (.inl v) n1 G1) : ms_M d a n G kr zr P2 := by
  intro l hl D cA base
  have h1 := h l hl D cA base
  intro p e a1 a2 a3 s m args below a4 a5 a6 a7
  obtain ⟨t, o, b1, b2, b3, ⟨⟨v, G1, c1, c2, c3⟩, b5⟩⟩ := h1 p e a1 a2 a3 s m args below a4 a5 a6 a7
  exact ⟨t, o, b1, b2, b3, ⟨⟨v, G1, c1, hP _ _ _ c2, c3⟩, b5⟩⟩
theorem ms_after {p : Program} {l : Launch} {e : Env} {R : Room} {s : State} {m : MethodId} {args a : Array Value} {below : List Frame} {meth : Method} {c : Code} {H H0 : Heap} {locs : List Loc} {cells slots mc ms pc : Nat} {Q : State → Prop} {ls : Array Slot} {rest st0 : List Value} {D : va_G} {cA : Nat → ClassId} {base : Nat} {P' : ms_P}
    (hr : va_Run p l e R s m args below meth c H locs cells slots mc ms (F0 m pc ls st0) rest (ms_Qc D cA base P' a) (fun q => base ≤ q)) (hS : va_S (fun q => base ≤ q) H0 H locs)
    (kk : ∀ (v : Option Value) (G1 : ms_H) (H1 : Heap) (locs1 : List Loc), P' (.inl v) H1.size G1 → ms_wd D cA base G1 H1 → va_S (fun q => base ≤ q) H0 H1 locs1 → W p l e R s m args below meth c H1 locs1 (cells + mc) (slots + ms) Q (F0 m (pc + 3) ls (v.toList ++ rest))) : W p l e R s m args below meth c H locs cells slots Q (F0 m pc ls st0) := by
  intro T hT X
  obtain ⟨v, st₀, t, T', L, h0, X', hL, e1, e2, ⟨v', G1, hv, hp, hw, hz, hk⟩, st⟩ := hr T hT X
  cases hv
  rw [h0] at hz hk
  obtain ⟨t2, a1, b1⟩ := kk v G1 T'.heap (locs ++ L) (by rw [e1]; exact hp) (by rw [e1]; exact hw)
    ⟨Nat.le_trans hS.1 (by rw [e1]; exact hz), fun q h1 h2 => by rw [e1, hk q (Nat.lt_of_lt_of_le h1 hS.1) h2]; exact hS.2.1 q h1 h2, fun q hq => by
      rcases List.mem_append.mp hq with h | h
      · exact hS.2.2 q h
      · exact hL q h⟩ T' rfl X'
  exact ⟨t2, st t2 a1, b1⟩
theorem ms_good {ws : List Cond} (h : ∀ w ∈ ws, w ∈ ms_big) : GoodIn ms_big ws := fun w hw => ⟨h w hw, good_of_word (ms_big_good w (h w hw))⟩
theorem ms_callV {x : Bool} {d : ms_D} {P : ms_P} {pc : Nat} {lv : List (Nat × Value)} {st : List Value} {n : Nat} {G : ms_H} {kr zr : Nat} {d' : ms_D} {P' : ms_P} {b ci i kc zc n9 : Nat} {As stk fs : List Value} (hdg : decode d.2.1 pc = .ok (.invokevirtual i, 3)) (hM : ms_M d' (.ref b :: As) n G kc zc P') (ok : ms_okV d.1.cls i d' ci n9) (hb : G b = some (.inr (ci, fs))) (hn : As.length = n9) (hR : ms_okR d d') (hst : stk = As.reverse ++ .ref b :: st) (hW : (st.map fun v => v.category).sum ≤ 8)
    (k : ∀ (v : Option Value) (n1 : Nat) (G1 : ms_H), P' (.inl v) n1 G1 → ms_W x d P (pc + 3) lv (v.toList ++ st) n1 G1 kr zr) : ms_W x d P pc lv stk n G (kc + kr) (zc + zr) := by
  intro mc ms p l e s m args below meth c D cA base H locs cells slots ls F c1 c2 c3 c4 c5 c6
  obtain ⟨o1, o2, ⟨T9, N9, o3⟩, o4, o5⟩ := ok
  have hws9 : ms_ws d' = .code d'.1 d'.2.1 d'.2.2.1 d'.2.2.2.1 :: ms_big := by unfold ms_ws; rw [ms_cd_nil o5]
  have hl : l.flags = flags0 := F.2.2.2.2.2.2.2.2.2.1
  refine ms_after (P' := P') (va_runV (As := As) (rest := st) (C := d'.1.cls) (b := b) ⟨F.exec, F.code, F.2.2.2.1, F.own, F.big⟩ (hM l hl D cA base) (cwV n9 F.big (ms_good ?_) hws9 rfl rfl ⟨rfl, o4.1, o4.2.1, o4.2.2⟩ hR) ⟨ms_Pc.blind, va_recv F.K (c4.P1 hb) o3 (q0 := 0) rfl, fun U hU hW9 => ⟨rfl, by rw [hU]; exact c3, by rw [hU]; exact c4, F.SE.to hU hW9 c5, by have := F.low; have := c5.1; omega⟩⟩ rfl hn c6.1 hst (by show 2 * 0 + _ ≤ 8; omega) hdg ⟨by show cells + kc ≤ mc; omega, by show slots + zc ≤ ms; omega⟩) c5 ?_
  · intro w hw
    unfold wsV ms_ws at hw
    rcases List.mem_append.mp hw with h | h
    · rcases List.mem_cons.mp h with h | h
      · rw [h]; exact o1
      · exact o2 w (by simp only [List.mem_cons] at h ⊢; rcases h with h | h | h | h <;> simp [h] <;> cases h)
    · rcases List.mem_cons.mp h with h | h
      · exact o2 w (by rw [h]; simp)
      · exact h
  · intro v G1 H1 locs1 hp hw hS
    exact k v H1.size G1 hp mc ms p l e s m args below meth c D cA base H1 locs1 (cells + kc) (slots + zc) ls F (by omega) (by omega) rfl hw hS c6
theorem ms_callS {x : Bool} {d : ms_D} {P : ms_P} {pc : Nat} {lv : List (Nat × Value)} {st : List Value} {n : Nat} {G : ms_H} {kr zr : Nat} {d' : ms_D} {P' : ms_P} {i kc zc n9 : Nat} {As stk : List Value} (hdg : decode d.2.1 pc = .ok (.invokestatic i, 3)) (hM : ms_M d' As n G kc zc P') (ok : ms_okS d.1.cls i d' n9) (hn : As.length = n9) (hR : ms_okR d d') (hst : stk = As.reverse ++ st) (hW : (st.map fun v => v.category).sum ≤ 8)
    (k : ∀ (v : Option Value) (n1 : Nat) (G1 : ms_H), P' (.inl v) n1 G1 → ms_W x d P (pc + 3) lv (v.toList ++ st) n1 G1 kr zr) (hh : d'.2.2.2.2.2.2.1 = [] := by rfl) : ms_W x d P pc lv stk n G (kc + kr) (zc + zr) := by
  intro mc ms p l e s m args below meth c D cA base H locs cells slots ls F c1 c2 c3 c4 c5 c6
  obtain ⟨o0, o1, o2, o4⟩ := ok
  have hws9 : ms_ws d' = .code d'.1 d'.2.1 d'.2.2.1 d'.2.2.2.1 :: ms_big := by unfold ms_ws; rw [ms_cd_nil hh]
  have hl : l.flags = flags0 := F.2.2.2.2.2.2.2.2.2.1
  refine ms_after (P' := P') (va_runS (As := As) (rest := st) ⟨F.exec, F.code, F.2.2.2.1, F.own, F.big⟩ (hM l hl D cA base) (cwS n9 F.big (ms_good ?_) hws9 rfl rfl ⟨o0, o4.1, o4.2.1, o4.2.2⟩ hR) ⟨ms_Pc.blind, fun U hU hW9 => ⟨rfl, by rw [hU]; exact c3, by rw [hU]; exact c4, F.SE.to hU hW9 c5, by have := F.low; have := c5.1; omega⟩⟩ rfl hn c6.1 hst (by show 2 * 0 + _ ≤ 8; omega) hdg ⟨by show cells + kc ≤ mc; omega, by show slots + zc ≤ ms; omega⟩) c5 ?_
  · intro w hw
    unfold wsS ms_ws at hw
    rcases List.mem_append.mp hw with h | h
    · rcases List.mem_cons.mp h with h | h
      · rw [h]; exact o1
      · exact o2 w (by simp only [List.mem_cons] at h ⊢; rcases h with h | h | h <;> simp [h] <;> cases h)
    · rcases List.mem_cons.mp h with h | h
      · exact o2 w (by rw [h]; simp)
      · exact h
  · intro v G1 H1 locs1 hp hw hS
    exact k v H1.size G1 hp mc ms p l e s m args below meth c D cA base H1 locs1 (cells + kc) (slots + zc) ls F (by omega) (by omega) rfl hw hS c6
theorem ms_callSN {x : Bool} {d : ms_D} {P : ms_P} {pc : Nat} {lv : List (Nat × Value)} {st : List Value} {n : Nat} {G : ms_H} {kr zr : Nat} {d' : ms_D} {P' : ms_P} {host : String} {i kc zc n9 : Nat} {As stk : List Value} (hdg : decode d.2.1 pc = .ok (.invokestatic i, 3)) (hM : ms_M d' As n G kc zc P') (ok : ms_okSN d.1.cls i d' host n9) (hn : As.length = n9) (hR : ms_okR d d') (hst : stk = As.reverse ++ st) (hW : (st.map fun v => v.category).sum ≤ 8)
    (k : ∀ (v : Option Value) (n1 : Nat) (G1 : ms_H), P' (.inl v) n1 G1 → ms_W x d P (pc + 3) lv (v.toList ++ st) n1 G1 kr zr) : ms_W x d P pc lv stk n G (kc + kr) (zc + zr) := by
  intro mc ms p l e s m args below meth c D cA base H locs cells slots ls F c1 c2 c3 c4 c5 c6
  obtain ⟨o1, o2, o4, o5⟩ := ok
  have hws9 : ms_ws d' = .code d'.1 d'.2.1 d'.2.2.1 d'.2.2.2.1 :: ms_big := by unfold ms_ws; rw [ms_cd_nil o5]
  have hl : l.flags = flags0 := F.2.2.2.2.2.2.2.2.2.1
  refine ms_after (P' := P') (va_runSN (As := As) (rest := st) (host := host) (own := d.1.cls) ⟨F.exec, F.code, F.2.2.2.1, F.own, F.big⟩ (hM l hl D cA base) ⟨va_cnB n9 F.big (ms_good ?_) hws9 rfl rfl (F.SE.2.2.1.1 _ o1) (F.big _ (o2 _ (by simp))) ⟨o4.1, o4.2.1, o4.2.2⟩ hR, F.big _ (o2 _ (by simp)), trivial⟩ ⟨ms_Pc.blind, fun U hU hW9 => ⟨rfl, by rw [hU]; exact c3, by rw [hU]; exact c4, F.SE.to hU hW9 c5, by have := F.low; have := c5.1; omega⟩⟩ rfl hn c6.1 hst (by show 2 * 0 + _ ≤ 8; omega) hdg ⟨by show cells + kc ≤ mc; omega, by show slots + zc ≤ ms; omega⟩) c5 ?_
  · intro w hw
    rcases List.mem_cons.mp hw with h | h
    · exact o2 w (by rw [h]; simp)
    · exact h
  · intro v G1 H1 locs1 hp hw hS
    exact k v H1.size G1 hp mc ms p l e s m args below meth c D cA base H1 locs1 (cells + kc) (slots + zc) ls F (by omega) (by omega) rfl hw hS c6
/-! ends -/
theorem ms_T.up {x : Bool} {p : Program} {l : Launch} {e : Env} {R : Room} {s : State} {m : MethodId} {args : Array Value} {below : List Frame} {meth : Method} {c : Code} {H : Heap} {locs : List Loc} {cells slots mc ms : Nat} {g : JFrame} {D : va_G} {cA : Nat → ClassId} {base : Nat} {P : ms_P} (h : W p l e R s m args below meth c H locs cells slots (MQ below (ms_Qc D cA base P) args s mc ms (fun q => base ≤ q)) g) : W p l e R s m args below meth c H locs cells slots (ms_T x D cA base P below args s mc ms) g := by
  cases x
  · exact h
  · exact vx_ret h
theorem ms_reti {x : Bool} {d : ms_D} {P : ms_P} {pc : Nat} {lv : List (Nat × Value)} {st : List Value} {n : Nat} {G : ms_H} {kr zr : Nat} {v : Int32} {ty : FieldType} (hdg : decode d.2.1 pc = .ok (.ireturn, 1)) (hr : d.2.2.2.1 = some ty) (hn : narrow ty (.int v) = .int v) (k : P (.inl (some (.int v))) n G) : ms_W x d P pc lv [.int v] n G kr zr := by
  intro mc ms p l e s m args below meth c D cA base H locs cells slots ls F c1 c2 c3 c4 c5 c6
  refine ms_T.up (W.widen (k := mc) (n := ms) (by omega) (by omega) ?_)
  exact W.zret (v := v) (ty := ty) F.exec F.code (F.2.2.1.trans hr) hn (fun t ht hW => ⟨some (.int v), G, rfl, by rw [ht, c3]; exact k, by rw [ht]; exact c4, c5.F ht⟩) c5.2.2 hdg F.2.2.2.2.1
theorem ms_retl {x : Bool} {d : ms_D} {P : ms_P} {pc : Nat} {lv : List (Nat × Value)} {st : List Value} {n : Nat} {G : ms_H} {kr zr : Nat} {v : Int64} (hdg : decode d.2.1 pc = .ok (.lreturn, 1)) (hr : d.2.2.2.1 = some .long) (k : P (.inl (some (.long v))) n G) : ms_W x d P pc lv [.long v] n G kr zr := by
  intro mc ms p l e s m args below meth c D cA base H locs cells slots ls F c1 c2 c3 c4 c5 c6
  refine ms_T.up (W.widen (k := mc) (n := ms) (by omega) (by omega) ?_)
  exact W.lret (v := v) F.exec F.code (F.2.2.1.trans hr) (fun t ht hW => ⟨some (.long v), G, rfl, by rw [ht, c3]; exact k, by rw [ht]; exact c4, c5.F ht⟩) c5.2.2 hdg F.2.2.2.2.1
theorem ms_retd {x : Bool} {d : ms_D} {P : ms_P} {pc : Nat} {lv : List (Nat × Value)} {st : List Value} {n : Nat} {G : ms_H} {kr zr : Nat} {v : UInt64} (hdg : decode d.2.1 pc = .ok (.dreturn, 1)) (hr : d.2.2.2.1 = some .double) (k : P (.inl (some (.double v))) n G) : ms_W x d P pc lv [.double v] n G kr zr := by
  intro mc ms p l e s m args below meth c D cA base H locs cells slots ls F c1 c2 c3 c4 c5 c6
  refine ms_T.up (W.widen (k := mc) (n := ms) (by omega) (by omega) ?_)
  exact W.dret (v := v) F.exec F.code (F.2.2.1.trans hr) (fun t ht hW => ⟨some (.double v), G, rfl, by rw [ht, c3]; exact k, by rw [ht]; exact c4, c5.F ht⟩) c5.2.2 hdg F.2.2.2.2.1
theorem ms_retv {x : Bool} {d : ms_D} {P : ms_P} {pc : Nat} {lv : List (Nat × Value)} {st : List Value} {n : Nat} {G : ms_H} {kr zr : Nat} (hdg : decode d.2.1 pc = .ok (.return_, 1)) (hr : d.2.2.2.1 = none) (k : P (.inl none) n G) : ms_W x d P pc lv [] n G kr zr := by
  intro mc ms p l e s m args below meth c D cA base H locs cells slots ls F c1 c2 c3 c4 c5 c6
  refine ms_T.up (W.widen (k := mc) (n := ms) (by omega) (by omega) ?_)
  exact W.vret F.exec F.code (F.2.2.1.trans hr) (fun t ht hW => ⟨none, G, rfl, by rw [ht, c3]; exact k, by rw [ht]; exact c4, c5.F ht⟩) c5.2.2 hdg F.2.2.2.2.1
theorem ms_reta {x : Bool} {d : ms_D} {P : ms_P} {pc : Nat} {lv : List (Nat × Value)} {st : List Value} {n : Nat} {G : ms_H} {kr zr : Nat} {v : Value} {rt : FieldType} (hdg : decode d.2.1 pc = .ok (.areturn, 1)) (hr : d.2.2.2.1 = some rt) (hrt : (∃ n, rt = .object n) ∨ ∃ t, rt = .array t) (hv : v = .null ∨ ∃ a, v = .ref a) (k : P (.inl (some v)) n G) : ms_W x d P pc lv [v] n G kr zr := by
  intro mc ms p l e s m args below meth c D cA base H locs cells slots ls F c1 c2 c3 c4 c5 c6
  refine ms_T.up (W.widen (k := mc) (n := ms) (by omega) (by omega) ?_)
  exact W.aret (v := v) F.exec F.code (F.2.2.1.trans hr) hrt hv (fun t ht hW => ⟨some v, G, rfl, by rw [ht, c3]; exact k, by rw [ht]; exact c4, c5.F ht⟩) c5.2.2 hdg F.2.2.2.2.1
theorem ms_max {x : Bool} {d : ms_D} {P : ms_P} {pc : Nat} {lv : List (Nat × Value)} {st : List Value} {n : Nat} {G : ms_H} {kr zr : Nat} {i : Nat} {y z : Int32} (hdg : decode d.2.1 pc = .ok (.invokestatic i, 3)) (hw : ∀ w ∈ [Cond.methodLink d.1.cls i Lib.Math.max.name, Cond.static Lib.Math.max.name, Cond.initialized "java/lang/Math", Cond.code Lib.Math.max.name Lib.Math.max.code 2 (some .int)], w ∈ ms_big) (hR : 1 ≤ d.2.2.2.2.1 ∧ 8 + 13 ≤ d.2.2.2.2.2.1) (hW : (st.map fun v => v.category).sum ≤ 8) (k : ms_W x d P (pc + 3) lv (.int (if z < y then y else z) :: st) n G kr zr) : ms_W x d P pc lv (.int y :: .int z :: st) n G kr zr := by
  intro mc ms p l e s m args below meth c D cA base H locs cells slots ls F c1 c2 c3 c4 c5 c6
  exact va_mmax F.exec F.code (F.2.2.2.1.trans c6.1.symm) F.own (F.big _ (hw _ (by simp))) (F.big _ (hw _ (by simp))) (F.big _ (hw _ (by simp))) (F.big _ (hw _ (by simp))) (show 1 ≤ d.2.2.2.2.1 from hR.1) (show _ ≤ d.2.2.2.2.2.1 by have := hR.2; omega) (show cells ≤ mc by omega) (show slots ≤ ms by omega) hdg (k mc ms p l e s m args below meth c D cA base H locs cells slots ls F c1 c2 c3 c4 c5 c6)
theorem ms_min {x : Bool} {d : ms_D} {P : ms_P} {pc : Nat} {lv : List (Nat × Value)} {st : List Value} {n : Nat} {G : ms_H} {kr zr : Nat} {i : Nat} {y z : Int32} (hdg : decode d.2.1 pc = .ok (.invokestatic i, 3)) (hw : ∀ w ∈ [Cond.methodLink d.1.cls i Lib.Math.min.name, Cond.static Lib.Math.min.name, Cond.initialized "java/lang/Math", Cond.code Lib.Math.min.name Lib.Math.min.code 2 (some .int)], w ∈ ms_big) (hR : 1 ≤ d.2.2.2.2.1 ∧ 8 + 13 ≤ d.2.2.2.2.2.1) (hW : (st.map fun v => v.category).sum ≤ 8) (k : ms_W x d P (pc + 3) lv (.int (if y < z then y else z) :: st) n G kr zr) : ms_W x d P pc lv (.int y :: .int z :: st) n G kr zr := by
  intro mc ms p l e s m args below meth c D cA base H locs cells slots ls F c1 c2 c3 c4 c5 c6
  exact va_mmin F.exec F.code (F.2.2.2.1.trans c6.1.symm) F.own (F.big _ (hw _ (by simp))) (F.big _ (hw _ (by simp))) (F.big _ (hw _ (by simp))) (F.big _ (hw _ (by simp))) (show 1 ≤ d.2.2.2.2.1 from hR.1) (show _ ≤ d.2.2.2.2.2.1 by have := hR.2; omega) (show cells ≤ mc by omega) (show slots ≤ ms by omega) hdg (k mc ms p l e s m args below meth c D cA base H locs cells slots ls F c1 c2 c3 c4 c5 c6)
theorem ms_abs {x : Bool} {d : ms_D} {P : ms_P} {pc : Nat} {lv : List (Nat × Value)} {st : List Value} {n : Nat} {G : ms_H} {kr zr : Nat} {i : Nat} {z : Int32} (hdg : decode d.2.1 pc = .ok (.invokestatic i, 3)) (hw : ∀ w ∈ [Cond.methodLink d.1.cls i Lib.Math.abs.name, Cond.static Lib.Math.abs.name, Cond.initialized "java/lang/Math", Cond.code Lib.Math.abs.name Lib.Math.abs.code 1 (some .int)], w ∈ ms_big) (hR : 1 ≤ d.2.2.2.2.1 ∧ 8 + 13 ≤ d.2.2.2.2.2.1) (hW : (st.map fun v => v.category).sum ≤ 8) (k : ms_W x d P (pc + 3) lv (.int (if 0 ≤ z then z else 0 - z) :: st) n G kr zr) : ms_W x d P pc lv (.int z :: st) n G kr zr := by
  intro mc ms p l e s m args below meth c D cA base H locs cells slots ls F c1 c2 c3 c4 c5 c6
  exact va_mabs F.exec F.code (F.2.2.2.1.trans c6.1.symm) F.own (F.big _ (hw _ (by simp))) (F.big _ (hw _ (by simp))) (F.big _ (hw _ (by simp))) (F.big _ (hw _ (by simp))) (show 1 ≤ d.2.2.2.2.1 from hR.1) (show _ ≤ d.2.2.2.2.2.1 by have := hR.2; omega) (show cells ≤ mc by omega) (show slots ≤ ms by omega) hdg (k mc ms p l e s m args below meth c D cA base H locs cells slots ls F c1 c2 c3 c4 c5 c6)
/-! answers that are one value, one heap -/
def ms_p1 (v : Option Value) (n : Nat) (G : ms_H) : ms_P := fun r n1 G1 => r = .inl v ∧ n1 = n ∧ G1 = G
theorem ms_callVp {x : Bool} {d : ms_D} {P : ms_P} {pc : Nat} {lv : List (Nat × Value)} {st : List Value} {n : Nat} {G : ms_H} {kr zr : Nat} {d' : ms_D} {b ci i n9 n1 : Nat} {As stk fs : List Value} {v : Option Value} {G1 : ms_H} (hdg : decode d.2.1 pc = .ok (.invokevirtual i, 3)) (hM : ms_M d' (.ref b :: As) n G 0 0 (ms_p1 v n1 G1)) (ok : ms_okV d.1.cls i d' ci n9) (hb : G b = some (.inr (ci, fs))) (hn : As.length = n9) (hR : ms_okR d d') (hst : stk = As.reverse ++ .ref b :: st) (hW : (st.map fun v => v.category).sum ≤ 8)
    (k : ms_W x d P (pc + 3) lv (v.toList ++ st) n1 G1 kr zr) : ms_W x d P pc lv stk n G kr zr := by
  have h := ms_callV (kr := kr) (zr := zr) hdg hM ok hb hn hR hst hW (P := P) (x := x) (lv := lv) (fun w m1 K1 hp => by obtain ⟨h1, rfl, rfl⟩ := hp; cases h1; exact k)
  simpa using h
theorem ms_callSp {x : Bool} {d : ms_D} {P : ms_P} {pc : Nat} {lv : List (Nat × Value)} {st : List Value} {n : Nat} {G : ms_H} {kr zr : Nat} {d' : ms_D} {i n9 n1 : Nat} {As stk : List Value} {v : Option Value} {G1 : ms_H} (hdg : decode d.2.1 pc = .ok (.invokestatic i, 3)) (hM : ms_M d' As n G 0 0 (ms_p1 v n1 G1)) (ok : ms_okS d.1.cls i d' n9) (hn : As.length = n9) (hR : ms_okR d d') (hst : stk = As.reverse ++ st) (hW : (st.map fun v => v.category).sum ≤ 8)
    (k : ms_W x d P (pc + 3) lv (v.toList ++ st) n1 G1 kr zr) (hh : d'.2.2.2.2.2.2.1 = [] := by rfl) : ms_W x d P pc lv stk n G kr zr := by
  have h := ms_callS (hh := hh) (kr := kr) (zr := zr) hdg hM ok hn hR hst hW (P := P) (x := x) (lv := lv) (fun w m1 K1 hp => by obtain ⟨h1, rfl, rfl⟩ := hp; cases h1; exact k)
  simpa using h
theorem ms_callSNp {x : Bool} {d : ms_D} {P : ms_P} {pc : Nat} {lv : List (Nat × Value)} {st : List Value} {n : Nat} {G : ms_H} {kr zr : Nat} {d' : ms_D} {i n9 n1 : Nat} {As stk : List Value} {host : String} {v : Option Value} {G1 : ms_H} (hdg : decode d.2.1 pc = .ok (.invokestatic i, 3)) (hM : ms_M d' As n G 0 0 (ms_p1 v n1 G1)) (ok : ms_okSN d.1.cls i d' host n9) (hn : As.length = n9) (hR : ms_okR d d') (hst : stk = As.reverse ++ st) (hW : (st.map fun v => v.category).sum ≤ 8)
    (k : ms_W x d P (pc + 3) lv (v.toList ++ st) n1 G1 kr zr) : ms_W x d P pc lv stk n G kr zr := by
  have h := ms_callSN (kr := kr) (zr := zr) hdg hM ok hn hR hst hW (P := P) (x := x) (lv := lv) (fun w m1 K1 hp => by obtain ⟨h1, rfl, rfl⟩ := hp; cases h1; exact k)
  simpa using h
theorem ms_callV0 {x : Bool} {d : ms_D} {P : ms_P} {pc : Nat} {lv : List (Nat × Value)} {st : List Value} {n : Nat} {G : ms_H} {kr zr : Nat} {d' : ms_D} {P' : ms_P} {b ci i n9 : Nat} {As stk fs : List Value} (hdg : decode d.2.1 pc = .ok (.invokevirtual i, 3)) (hM : ms_M d' (.ref b :: As) n G 0 0 P') (ok : ms_okV d.1.cls i d' ci n9) (hb : G b = some (.inr (ci, fs))) (hn : As.length = n9) (hR : ms_okR d d') (hst : stk = As.reverse ++ .ref b :: st) (hW : (st.map fun v => v.category).sum ≤ 8)
    (k : ∀ (v : Option Value) (n1 : Nat) (G1 : ms_H), P' (.inl v) n1 G1 → ms_W x d P (pc + 3) lv (v.toList ++ st) n1 G1 kr zr) : ms_W x d P pc lv stk n G kr zr := by
  have h := ms_callV (kr := kr) (zr := zr) hdg hM ok hb hn hR hst hW (P := P) (x := x) (lv := lv) k
  simpa using h
theorem ms_deN {cc : ByteArray} {pc : Nat} : ms_de cc pc [] := trivial
theorem ms_deC {cc : ByteArray} {pc : Nat} {q : Instr × Nat} {r : List (Instr × Nat)} (h : decode cc pc = .ok q) (hr : ms_de cc (pc + q.2) r) : ms_de cc pc (q :: r) := ⟨h, hr⟩
abbrev ms_b (p : Prop) [Decidable p] : Int32 := if p then 1 else 0
end
section
/-! further rules: constructors, arraycopy, static rows, rows of references, doubles, the script, throws and catches -/
theorem ms_objInit {x : Bool} {d : ms_D} {P : ms_P} {pc : Nat} {lv : List (Nat × Value)} {st : List Value} {n : Nat} {G : ms_H} {kr zr : Nat} {a i : Nat} (hdg : decode d.2.1 pc = .ok (.invokespecial i, 3)) (hw : ∀ w ∈ [Cond.methodLink d.1.cls i Lib.objectInit, Cond.instanceMethod Lib.objectInit, Cond.code Lib.objectInit ⟨#[0xb1]⟩ 1 none], w ∈ ms_big) (hR : 1 ≤ d.2.2.2.2.1 ∧ 8 + 12 ≤ d.2.2.2.2.2.1) (hW : (st.map fun v => v.category).sum ≤ 8) (k : ms_W x d P (pc + 3) lv st n G kr zr) : ms_W x d P pc lv (.ref a :: st) n G kr zr := by
  intro mc ms p l e s m args below meth c D cA base H locs cells slots ls F c1 c2 c3 c4 c5 c6
  exact W.objInit F.exec F.code F.own (F.big _ (hw _ (by simp))) (F.big _ (hw _ (by simp))) (F.big _ (hw _ (by simp))) rfl (c6.1.trans F.2.2.2.1.symm) rfl hdg hR.1 (by have := hR.2; show 2 * 0 + _ + 12 ≤ d.2.2.2.2.2.1; omega) (k mc ms p l e s m args below meth c D cA base H locs cells slots ls F c1 c2 c3 c4 c5 c6)
theorem ms_callI {x : Bool} {d : ms_D} {P : ms_P} {pc : Nat} {lv : List (Nat × Value)} {st : List Value} {n : Nat} {G : ms_H} {kr zr : Nat} {d' : ms_D} {P' : ms_P} {b i kc zc n9 : Nat} {As stk : List Value} (hdg : decode d.2.1 pc = .ok (.invokespecial i, 3)) (hM : ms_M d' (.ref b :: As) n G kc zc P') (ok : ms_okI d.1.cls i d' n9) (hn : As.length = n9) (hR : ms_okR d d') (hst : stk = As.reverse ++ .ref b :: st) (hW : (st.map fun v => v.category).sum ≤ 8)
    (k : ∀ (v : Option Value) (n1 : Nat) (G1 : ms_H), P' (.inl v) n1 G1 → ms_W x d P (pc + 3) lv (v.toList ++ st) n1 G1 kr zr) : ms_W x d P pc lv stk n G (kc + kr) (zc + zr) := by
  intro mc ms p l e s m args below meth c D cA base H locs cells slots ls F c1 c2 c3 c4 c5 c6
  obtain ⟨o1, o2, o3, o4, o5, o6⟩ := ok
  have hws9 : ms_ws d' = .code d'.1 d'.2.1 d'.2.2.1 none :: ms_big := by unfold ms_ws; rw [ms_cd_nil o5, o6]
  have hl : l.flags = flags0 := F.2.2.2.2.2.2.2.2.2.1
  refine ms_after (P' := P') (va_runI (As := As) (rest := st) (b := b) ⟨F.exec, F.code, F.2.2.2.1, F.own, F.big⟩ (hM l hl D cA base) (cwI n9 F.big (ms_good ?_) hws9 rfl rfl (F.big _ (o2 _ (by simp))) (F.big _ o1) (F.big _ (o2 _ (by simp))) o3 ⟨o4.1, o4.2.1, o4.2.2⟩ hR) ⟨ms_Pc.blind, fun U hU hW9 => ⟨rfl, by rw [hU]; exact c3, by rw [hU]; exact c4, F.SE.to hU hW9 c5, by have := F.low; have := c5.1; omega⟩⟩ rfl hn c6.1 hst (by show 2 * 0 + _ ≤ 8; omega) hdg ⟨by show cells + kc ≤ mc; omega, by show slots + zc ≤ ms; omega⟩) c5 ?_
  · intro w hw
    rcases List.mem_cons.mp hw with h | h
    · exact o2 w (by rw [h]; simp)
    · exact h
  · intro v G1 H1 locs1 hp hw hS
    exact k v H1.size G1 hp mc ms p l e s m args below meth c D cA base H1 locs1 (cells + kc) (slots + zc) ls F (by omega) (by omega) rfl hw hS c6
theorem ms_callIN {x : Bool} {d : ms_D} {P : ms_P} {pc : Nat} {lv : List (Nat × Value)} {st : List Value} {n : Nat} {G : ms_H} {kr zr : Nat} {d' : ms_D} {P' : ms_P} {host : String} {b i kc zc n9 : Nat} {As stk : List Value} (hdg : decode d.2.1 pc = .ok (.invokespecial i, 3)) (hM : ms_M d' (.ref b :: As) n G kc zc P') (ok : ms_okIN d.1.cls i d' host n9) (hn : As.length = n9) (hR : ms_okR d d') (hst : stk = As.reverse ++ .ref b :: st) (hW : (st.map fun v => v.category).sum ≤ 8)
    (k : ∀ (v : Option Value) (n1 : Nat) (G1 : ms_H), P' (.inl v) n1 G1 → ms_W x d P (pc + 3) lv (v.toList ++ st) n1 G1 kr zr) : ms_W x d P pc lv stk n G (kc + kr) (zc + zr) := by
  intro mc ms p l e s m args below meth c D cA base H locs cells slots ls F c1 c2 c3 c4 c5 c6
  obtain ⟨o1, o2, o3, o4, o5, o6⟩ := ok
  have hws9 : ms_ws d' = .code d'.1 d'.2.1 d'.2.2.1 none :: ms_big := by unfold ms_ws; rw [ms_cd_nil o5, o6]
  have hl : l.flags = flags0 := F.2.2.2.2.2.2.2.2.2.1
  refine ms_after (P' := P') (va_runIN (As := As) (rest := st) (b := b) (host := host) (own := d.1.cls) ⟨F.exec, F.code, F.2.2.2.1, F.own, F.big⟩ (hM l hl D cA base) ⟨va_cnB n9 F.big (ms_good ?_) hws9 rfl rfl (F.SE.2.2.1.1 _ o1) (F.big _ (o2 _ (by simp))) ⟨o4.1, o4.2.1, o4.2.2⟩ hR, o3, F.big _ (o2 _ (by simp))⟩ ⟨ms_Pc.blind, fun U hU hW9 => ⟨rfl, by rw [hU]; exact c3, by rw [hU]; exact c4, F.SE.to hU hW9 c5, by have := F.low; have := c5.1; omega⟩⟩ rfl hn c6.1 hst (by show 2 * 0 + _ ≤ 8; omega) hdg ⟨by show cells + kc ≤ mc; omega, by show slots + zc ≤ ms; omega⟩) c5 ?_
  · intro w hw
    rcases List.mem_cons.mp hw with h | h
    · exact o2 w (by rw [h]; simp)
    · exact h
  · intro v G1 H1 locs1 hp hw hS
    exact k v H1.size G1 hp mc ms p l e s m args below meth c D cA base H1 locs1 (cells + kc) (slots + zc) ls F (by omega) (by omega) rfl hw hS c6
theorem ms_copyI {x : Bool} {d : ms_D} {P : ms_P} {pc : Nat} {lv : List (Nat × Value)} {st : List Value} {n : Nat} {G : ms_H} {kr zr : Nat} {i a0 a n0 n1 : Nat} {f g : Nat → Int32} {sp dp z : Int32} (hdg : decode d.2.1 pc = .ok (.invokestatic i, 3)) (hw : ∀ w ∈ [Cond.methodLink d.1.cls i arraycopyName, Cond.native arraycopyName, Cond.static arraycopyName, Cond.initialized "java/lang/System"], w ∈ ms_big) (ha0 : G a0 = some (.inl (0, n0, .inl f))) (ha : G a = some (.inl (0, n1, .inl g)))
    (h1 : ¬ sp < 0) (h2 : ¬ dp < 0) (h3 : ¬ z < 0) (h4 : sp.toNatClampNeg + z.toNatClampNeg ≤ n0) (h5 : dp.toNatClampNeg + z.toNatClampNeg ≤ n1) (hR : 1 ≤ d.2.2.2.2.1 ∧ 8 + (nativeFrameWords "java/lang/System" "arraycopy" 5 + 11) ≤ d.2.2.2.2.2.1) (hW : (st.map fun v => v.category).sum ≤ 8)
    (k : ms_W x d P (pc + 3) lv st n (ms_up G a (.inl (0, n1, .inl (va_cpy f g sp.toNatClampNeg dp.toNatClampNeg z.toNatClampNeg)))) kr zr) : ms_W x d P pc lv (.int z :: .int dp :: .ref a :: .int sp :: .ref a0 :: st) n G kr zr := by
  intro mc ms p l e s m args below meth c D cA base H locs cells slots ls F c1 c2 c3 c4 c5 c6
  have nn : ∀ z : Int32, ¬ z < 0 → z.toInt = (z.toNatClampNeg : Int) := by
    intro z hz
    have hz0 : (0 : Int) ≤ z.toInt := by
      have := Int32.not_lt.mp hz
      simpa using Int32.le_iff_toInt_le.mp this
    show z.toInt = ((z.toInt.toNat : Nat) : Int)
    omega
  intro T hT X
  have hc0 : H[a0]? = some (vp_cell (cA 0) (n0, .inl f)) := c4.P1 ha0 0 _ rfl
  have hc1 : H[a]? = some (vp_cell (cA 0) (n1, .inl g)) := c4.P1 ha 0 _ rfl
  obtain ⟨-, k0, hk0, cm0, hkk0⟩ := (F.K.2 0 _ rfl).1 n0 (fun j => .int (f j))
  obtain ⟨-, k1, hk1, cm1, hkk1⟩ := (F.K.2 0 _ rfl).1 n1 (fun j => .int (g j))
  obtain ⟨vm', X', step⟩ := X.arraycopy F.exec F.own (F.big _ (hw _ (by simp))) (F.big _ (hw _ (by simp))) (F.big _ (hw _ (by simp))) (F.big _ (hw _ (by simp))) (src := a0) (dst := a) (cs := vp_cell (cA 0) (n0, .inl f)) (cd := vp_cell (cA 0) (n1, .inl g)) (srcPos := sp) (destPos := dp) (n := z) (by rw [hT]; exact hc0) (by rw [hT]; exact hc1)
    (fun _ h => by cases h) (fun _ h => by cases h) (fun h => by cases h) (fun h => by cases h) hk0 hk1 hkk0 hkk1 (by simp [refKind]) h1 h2 h3
    (by rw [nn sp h1, nn z h3]; show ¬ _ > ((arrV (cA 0) n0 (fun j => .int (f j))).slots.size : Int); rw [arrV_size]; omega)
    (by rw [nn dp h2, nn z h3]; show ¬ _ > ((arrV (cA 0) n1 (fun j => .int (g j))).slots.size : Int); rw [arrV_size]; omega)
    (fun vm₁ _ i hi => by
      have e : (vp_cell (cA 0) (n0, .inl f)).slots.getD (sp.toNatClampNeg + i) .null = .int (f (sp.toNatClampNeg + i)) := by
        show (arrV (cA 0) n0 (fun j => .int (f j))).slots.getD _ _ = _
        rw [Array.getD_eq_getD_getElem?, arrV_read _ _ (by omega)]
        rfl
      refine ⟨?_, ?_⟩
      · rw [e]
        rfl
      · rw [e]
        exact trivial)
    (g := F0 m pc ls (.int z :: .int dp :: .ref a :: .int sp :: .ref a0 :: st)) rfl (c6.1.trans F.2.2.2.1.symm) (rest := st) rfl (by rw [F.code]; exact hdg) hR.1 (by have := hR.2; show 2 * 0 + _ + _ ≤ d.2.2.2.2.2.1; omega)
  have e1 : copied (vp_cell (cA 0) (n0, .inl f)) (vp_cell (cA 0) (n1, .inl g)) sp dp z = vp_cell (cA 0) (n1, .inl (va_cpy f g sp.toNatClampNeg dp.toNatClampNeg z.toNatClampNeg)) := va_copied (fun z => .int z) (cA 0) (cA 0) f g h4
  rw [e1] at X' step
  have hl : a < H.size := (Array.getElem?_eq_some_iff.mp hc1).1
  have hheap : ((T.setVm vm').setCell a (vp_cell (cA 0) (n1, .inl (va_cpy f g sp.toNatClampNeg dp.toNatClampNeg z.toNatClampNeg)))).heap = H.setIfInBounds a (vp_cell (cA 0) (n1, .inl (va_cpy f g sp.toNatClampNeg dp.toNatClampNeg z.toNatClampNeg))) := by rw [← hT]; rfl
  have oq : ∀ q : Nat, q ≠ a → (H.setIfInBounds a (vp_cell (cA 0) (n1, .inl (va_cpy f g sp.toNatClampNeg dp.toNatClampNeg z.toNatClampNeg))))[q]? = H[q]? := fun q hq => by simp [Array.getElem?_setIfInBounds, Ne.symm hq]
  have hba := (c4 a _ ha).2
  obtain ⟨t, a1, b1⟩ := k mc ms p l e s m args below meth c D cA base _ _ cells slots ls F c1 c2 (by rw [Array.size_setIfInBounds]; exact c3) (c4.set ha (show (H.setIfInBounds a _)[a]? = some _ by simp [Array.getElem?_setIfInBounds, hl]; rfl) oq) ⟨by simp; exact c5.1, fun q g1 g2 => by
      rw [oq q (fun e => g2 (by rw [e]; exact hba))]
      exact c5.2.1 q g1 g2, fun q hq => by
      rcases List.mem_append.mp hq with h | h
      · exact c5.2.2 q h
      · obtain ⟨z, -, hz⟩ := List.mem_map.mp h
        rw [← hz]
        exact hba⟩ c6 _ hheap X'
  exact ⟨t, step t a1, b1⟩
theorem ms_stepX {x : Bool} {d : ms_D} {P : ms_P} {pc : Nat} {lv : List (Nat × Value)} {st : List Value} {n : Nat} {G : ms_H} {kr zr : Nat} {j : Nat} {kk : Int32} (h0 : decode d.2.1 pc = .ok (.getstatic 37, 3)) (h1 : decode d.2.1 (pc + 3) = .ok (.iload j, 2)) (h2 : decode d.2.1 (pc + 5) = .ok (.iaload, 1)) (hown : d.1.cls = "StarlingSquare$Grid") (hg : ms_get lv j = some (.int kk)) (hin : vp_in kk 8) (k : ms_W x d P (pc + 6) lv (.int (ms_sx kk.toNatClampNeg) :: st) n G kr zr) : ms_W x d P pc lv st n G kr zr := by
  intro mc ms p l e s m args below meth c D cA base H locs cells slots ls F c1 c2 c3 c4 c5 c6
  obtain ⟨t, hZ, hT⟩ := F.SE.2.1.1
  have hnw := F.SE.2.2.1.2 ("StarlingSquare$Grid", 37, "StarlingSquare", "STEP_X", "[I", "StarlingSquare") (by decide +kernel)
  refine va_getsN F.exec F.code (own := "StarlingSquare$Grid") (ref := "StarlingSquare") (host := "StarlingSquare") hZ c5 (by have := F.own; rwa [hown] at this) (va_tabs rfl rfl hnw) (fun y h => h) h0 ?_
  refine lv_iload F.exec F.code h1 (ms_get_at c6 hg) ?_
  exact va_ti F.exec F.code hT c5 hin rfl h2 (k mc ms p l e s m args below meth c D cA base H locs cells slots ls F c1 c2 c3 c4 c5 c6)
theorem ms_stepY {x : Bool} {d : ms_D} {P : ms_P} {pc : Nat} {lv : List (Nat × Value)} {st : List Value} {n : Nat} {G : ms_H} {kr zr : Nat} {j : Nat} {kk : Int32} (h0 : decode d.2.1 pc = .ok (.getstatic 40, 3)) (h1 : decode d.2.1 (pc + 3) = .ok (.iload j, 2)) (h2 : decode d.2.1 (pc + 5) = .ok (.iaload, 1)) (hown : d.1.cls = "StarlingSquare$Grid") (hg : ms_get lv j = some (.int kk)) (hin : vp_in kk 8) (k : ms_W x d P (pc + 6) lv (.int (ms_sy kk.toNatClampNeg) :: st) n G kr zr) : ms_W x d P pc lv st n G kr zr := by
  intro mc ms p l e s m args below meth c D cA base H locs cells slots ls F c1 c2 c3 c4 c5 c6
  obtain ⟨t, hZ, hT⟩ := F.SE.2.1.2
  have hnw := F.SE.2.2.1.2 ("StarlingSquare$Grid", 40, "StarlingSquare", "STEP_Y", "[I", "StarlingSquare") (by decide +kernel)
  refine va_getsN F.exec F.code (own := "StarlingSquare$Grid") (ref := "StarlingSquare") (host := "StarlingSquare") hZ c5 (by have := F.own; rwa [hown] at this) (va_tabs rfl rfl hnw) (fun y h => h) h0 ?_
  refine lv_iload F.exec F.code h1 (ms_get_at c6 hg) ?_
  exact va_ti F.exec F.code hT c5 hin rfl h2 (k mc ms p l e s m args below meth c D cA base H locs cells slots ls F c1 c2 c3 c4 c5 c6)
theorem ms_aaloadA {x : Bool} {d : ms_D} {P : ms_P} {pc : Nat} {lv : List (Nat × Value)} {st : List Value} {n : Nat} {G : ms_H} {kr zr : Nat} {a N : Nat} {i : Int32} {f : Nat → Option Nat} (hdg : decode d.2.1 pc = .ok (.aaload, 1)) (ha : G a = some (.inl (4, N, .inr (.inr (.inr (.inr f)))))) (hin : vp_in i N) (k : ms_W x d P (pc + 1) lv (va_rf (f i.toNatClampNeg) :: st) n G kr zr) : ms_W x d P pc lv (.int i :: .ref a :: st) n G kr zr := by
  intro mc ms p l e s m args below meth c D cA base H locs cells slots ls F c1 c2 c3 c4 c5 c6
  have hlt : i.toNatClampNeg < N := Nat.not_le.mp fun q => hin (Or.inr q)
  exact W.aald (v := va_rf (f i.toNatClampNeg)) (ty := .array .int) F.exec F.code (c4.P1 ha 0 _ rfl) ((F.K.2 4 _ rfl).1 N (fun j => va_rf (f j))) rfl (fun q => by cases q) (by show ¬ (i < 0 ∨ (arrV _ _ _).slots.size ≤ _); rw [arrV_size]; exact hin) (by show (arrV _ _ _).slots[_]? = _; rw [arrV_read _ _ hlt]) rfl rfl hdg (k mc ms p l e s m args below meth c D cA base H locs cells slots ls F c1 c2 c3 c4 c5 c6)
theorem ms_newQ {x : Bool} {d : ms_D} {P : ms_P} {pc : Nat} {lv : List (Nat × Value)} {st : List Value} {n : Nat} {G : ms_H} {kr zr : Nat} {i : Nat} {v : Int32} {N : Nat} (hdg : decode d.2.1 pc = .ok (.anewarray i, 3)) (hw : Cond.classLink d.1.cls i "StarlingSquare$Walker" ∈ ms_big) (h0 : ¬ v < 0) (hN : v.toNatClampNeg = N) (hb : N * 4 ≤ 536870912) (k : ms_W x d P (pc + 3) lv (.ref n :: st) (n + 1) (ms_up G n (.inl (3, N, .inr (.inr (.inr (.inr (fun _ => none))))))) kr zr) : ms_W x d P pc lv (.int v :: st) n G (1 + kr) (N + zr) := by
  intro mc ms p l e s m args below meth c D cA base H locs cells slots ls F c1 c2 c3 c4 c5 c6
  subst hN
  refine W.anew F.exec F.code F.own (F.big _ hw) (va_AO.use F.SE.2.2.2.1) rfl hdg rfl h0 hb (show cells + 1 ≤ mc by omega) (show slots + v.toNatClampNeg ≤ ms by omega) fun cB kA comp f1 f2 f3 f4 => ?_
  obtain ⟨kA9, comp9, g1, g2, g3, g4⟩ := (F.K.2 3 _ rfl).2
  have hcB : cB = cA 3 := Option.some.inj (f1.symm.trans g4)
  subst hcB
  generalize hH1 : H.push ({ cls := cA 3, slots := Array.replicate v.toNatClampNeg .null, vm := .none } : Cell) = H1
  have z1 : H1.size = n + 1 := by rw [← hH1, Array.size_push, c3]
  have e1 : H1[n]? = some (arrV (cA 3) v.toNatClampNeg (fun _ => .null)) := by rw [← hH1, ← c3, Array.getElem?_push_size, ← arrV_new]
  have b1 : ∀ q : Nat, q < n → H1[q]? = H[q]? := fun q hq => by rw [← hH1, Array.getElem?_push, if_neg (by rw [c3]; omega)]
  rw [c3]
  exact k mc ms p l e s m args below meth c D cA base H1 locs (cells + 1) (slots + v.toNatClampNeg) ls F (by omega) (by omega) z1 (c4.new c3 (by have := F.low; have := c5.1; omega) e1 b1) ⟨by have := c5.1; omega, fun q h1 h2 => (b1 q (by have := c5.1; omega)).trans (c5.2.1 q h1 h2), c5.2.2⟩ c6
theorem ms_newA {x : Bool} {d : ms_D} {P : ms_P} {pc : Nat} {lv : List (Nat × Value)} {st : List Value} {n : Nat} {G : ms_H} {kr zr : Nat} {i : Nat} {v : Int32} {N : Nat} (hdg : decode d.2.1 pc = .ok (.anewarray i, 3)) (hw : Cond.classLink d.1.cls i "[I" ∈ ms_big) (h0 : ¬ v < 0) (hN : v.toNatClampNeg = N) (hb : N * 4 ≤ 536870912) (k : ms_W x d P (pc + 3) lv (.ref n :: st) (n + 1) (ms_up G n (.inl (4, N, .inr (.inr (.inr (.inr (fun _ => none))))))) kr zr) : ms_W x d P pc lv (.int v :: st) n G (1 + kr) (N + zr) := by
  intro mc ms p l e s m args below meth c D cA base H locs cells slots ls F c1 c2 c3 c4 c5 c6
  subst hN
  refine W.anewA (t := .int) F.exec F.code F.own (F.big _ hw) (over_moved (u := s) (E := s) (Vm.Alike.refl s.vm) F.SE.2.2.2.2.1) rfl hdg rfl h0 hb (show cells + 1 ≤ mc by omega) (show slots + v.toNatClampNeg ≤ ms by omega) fun cB kA comp f1 f2 f3 f4 => ?_
  have hcB : cB = cA 4 := Option.some.inj (f1.symm.trans (F.K.2 4 _ rfl).2)
  subst hcB
  generalize hH1 : H.push ({ cls := cA 4, slots := Array.replicate v.toNatClampNeg .null, vm := .none } : Cell) = H1
  have z1 : H1.size = n + 1 := by rw [← hH1, Array.size_push, c3]
  have e1 : H1[n]? = some (arrV (cA 4) v.toNatClampNeg (fun _ => .null)) := by rw [← hH1, ← c3, Array.getElem?_push_size, ← arrV_new]
  have b1 : ∀ q : Nat, q < n → H1[q]? = H[q]? := fun q hq => by rw [← hH1, Array.getElem?_push, if_neg (by rw [c3]; omega)]
  rw [c3]
  exact k mc ms p l e s m args below meth c D cA base H1 locs (cells + 1) (slots + v.toNatClampNeg) ls F (by omega) (by omega) z1 (c4.new c3 (by have := F.low; have := c5.1; omega) e1 b1) ⟨by have := c5.1; omega, fun q h1 h2 => (b1 q (by have := c5.1; omega)).trans (c5.2.1 q h1 h2), c5.2.2⟩ c6
theorem ms_aastoreA {x : Bool} {d : ms_D} {P : ms_P} {pc : Nat} {lv : List (Nat × Value)} {st : List Value} {n : Nat} {G : ms_H} {kr zr : Nat} {a N b M : Nat} {i : Int32} {g : Nat → Int32} {f : Nat → Option Nat} (hdg : decode d.2.1 pc = .ok (.aastore, 1)) (ha : G a = some (.inl (4, N, .inr (.inr (.inr (.inr f)))))) (hb : G b = some (.inl (0, M, .inl g))) (hin : vp_in i N) (k : ms_W x d P (pc + 1) lv st n (ms_up G a (.inl (4, N, .inr (.inr (.inr (.inr (va_up f i.toNatClampNeg (some b)))))))) kr zr) : ms_W x d P pc lv (.ref b :: .int i :: .ref a :: st) n G kr zr := by
  intro mc ms p l e s m args below meth c D cA base H locs cells slots ls F c1 c2 c3 c4 c5 c6
  have hba := (c4 a _ ha).2
  have hlt : i.toNatClampNeg < N := Nat.not_le.mp fun q => hin (Or.inr q)
  have h0 : ¬ i < 0 := fun q => hin (Or.inl q)
  have hcb : H[b]? = some (vp_cell (cA 0) (M, .inl g)) := c4.P1 hb 0 _ rfl
  obtain ⟨comp, cB, kA, hcomp, -, hkA, hkind, hname⟩ := arrayOverA_spec (t := .int) (args := #[]) F.SE.2.2.2.2.1
  have hcB : cB = cA 4 := Option.some.inj (hname.symm.trans (F.K.2 4 _ rfl).2)
  subst hcB
  have hcm : comp = cA 0 := Option.some.inj (hcomp.symm.trans (F.K.2 0 _ rfl).2)
  subst hcm
  obtain ⟨kC, hkC, -⟩ := Vm.findClass_spec hcomp
  refine W.aast F.exec F.code (c4.P1 ha 0 _ rfl) (fun q h => by cases h) (fun h => by cases h) hkA hkind rfl hkC ⟨h0, by show _ < (arrV _ _ _).slots.size; rw [arrV_size]; exact hlt⟩ hcb (fun q h => by cases h) hkC (ms_asg _ _) rfl rfl hdg fun H1 h9 z oq => ?_
  refine k mc ms p l e s m args below meth c D cA base H1 _ cells slots ls F c1 c2 (z.trans c3) (c4.set ha ?_ oq) (c5.put z oq hba) c6
  show H1[a]? = some (vp_cell _ _)
  rw [h9]
  rw [vp_cell_q, vp_cell_q, arrV_store]
  congr 2
  funext q
  by_cases hq : q = i.toNatClampNeg
  · subst hq
    simp [updV, va_up, va_rf]
  · simp [updV, va_up, hq]
theorem ms_dload {x : Bool} {d : ms_D} {P : ms_P} {pc : Nat} {lv : List (Nat × Value)} {st : List Value} {n : Nat} {G : ms_H} {kr zr : Nat} {i : Nat} {y : UInt64} (hdg : decode d.2.1 pc = .ok (.dload i, 2)) (hg : ms_get lv i = some (.double y)) (k : ms_W x d P (pc + 2) lv (.double y :: st) n G kr zr) : ms_W x d P pc lv st n G kr zr := by
  intro mc ms p l e s m args below meth c D cA base H locs cells slots ls F c1 c2 c3 c4 c5 c6
  exact lv_dload F.exec F.code hdg (ms_get_at c6 hg) (k mc ms p l e s m args below meth c D cA base H locs cells slots ls F c1 c2 c3 c4 c5 c6)
theorem ms_dstore {x : Bool} {d : ms_D} {P : ms_P} {pc : Nat} {lv : List (Nat × Value)} {st : List Value} {n : Nat} {G : ms_H} {kr zr : Nat} {i : Nat} {y : UInt64} {lv' : List (Nat × Value)} (hdg : decode d.2.1 pc = .ok (.dstore i, 2)) (hn : i + 1 < d.2.2.1) (hl : ms_s2 lv i (.double y) = lv') (k : ms_W x d P (pc + 2) lv' st n G kr zr) : ms_W x d P pc lv (.double y :: st) n G kr zr := by
  intro mc ms p l e s m args below meth c D cA base H locs cells slots ls F c1 c2 c3 c4 c5 c6
  exact lv_dstore F.exec F.code hdg c6 hn hl (fun ls9 hl9 => k mc ms p l e s m args below meth c D cA base H locs cells slots ls9 F c1 c2 c3 c4 c5 hl9)
theorem ms_dcmp {x : Bool} {d : ms_D} {P : ms_P} {pc : Nat} {lv : List (Nat × Value)} {st : List Value} {n : Nat} {G : ms_H} {kr zr : Nat} {y z : UInt64} {op : CmpOp} (hdg : decode d.2.1 pc = .ok (.dcmp op, 1)) (k : ms_W x d P (pc + 1) lv (.int (Op.cmpValue (FP.dcmp z y) op) :: st) n G kr zr) : ms_W x d P pc lv (.double y :: .double z :: st) n G kr zr := by
  intro mc ms p l e s m args below meth c D cA base H locs cells slots ls F c1 c2 c3 c4 c5 c6
  exact lv_dcmp F.exec F.code hdg (k mc ms p l e s m args below meth c D cA base H locs cells slots ls F c1 c2 c3 c4 c5 c6)
theorem ms_sld {x : Bool} {d : ms_D} {P : ms_P} {pc : Nat} {lv : List (Nat × Value)} {st : List Value} {n : Nat} {G : ms_H} {kr zr : Nat} {b L : Nat} {xs : Nat → Int32} {i : Int32} (hdg : decode d.2.1 pc = .ok (.iaload, 1)) (hs : d.2.2.2.2.2.2.2 = some (b, L, xs)) (hin : vp_in i L) (k : ms_W x d P (pc + 1) lv (.int (xs i.toNatClampNeg) :: st) n G kr zr) : ms_W x d P pc lv (.int i :: .ref b :: st) n G kr zr := by
  intro mc ms p l e s m args below meth c D cA base H locs cells slots ls F c1 c2 c3 c4 c5 c6
  have h := F.2.2.2.2.2.2.2.2.2.2.2.2
  rw [hs] at h
  exact va_sld F.exec F.code h.1 h.2.1 h.2.2 c5 hin hdg (k mc ms p l e s m args below meth c D cA base H locs cells slots ls F c1 c2 c3 c4 c5 c6)
theorem ms_slen {x : Bool} {d : ms_D} {P : ms_P} {pc : Nat} {lv : List (Nat × Value)} {st : List Value} {n : Nat} {G : ms_H} {kr zr : Nat} {b L : Nat} {xs : Nat → Int32} (hdg : decode d.2.1 pc = .ok (.arraylength, 1)) (hs : d.2.2.2.2.2.2.2 = some (b, L, xs)) (k : ms_W x d P (pc + 1) lv (.int (nI L) :: st) n G kr zr) : ms_W x d P pc lv (.ref b :: st) n G kr zr := by
  intro mc ms p l e s m args below meth c D cA base H locs cells slots ls F c1 c2 c3 c4 c5 c6
  have h := F.2.2.2.2.2.2.2.2.2.2.2.2
  rw [hs] at h
  exact va_slen F.exec F.code h.1 h.2.1 h.2.2 c5 hdg (k mc ms p l e s m args below meth c D cA base H locs cells slots ls F c1 c2 c3 c4 c5 c6)
/-! throws and catches -/
theorem ms_throw {d : ms_D} {P : ms_P} {pc : Nat} {lv : List (Nat × Value)} {st : List Value} {n : Nat} {G : ms_H} {kr zr : Nat} {ik is ic : Nat} {E text : String} (d0 : decode d.2.1 pc = .ok (.new ik, 3)) (d3 : decode d.2.1 (pc + 3) = .ok (.dup, 1)) (d4 : decode d.2.1 (pc + 4) = .ok (.ldc is, 2)) (d6 : decode d.2.1 (pc + 6) = .ok (.invokespecial ic, 3)) (d9 : decode d.2.1 (pc + 9) = .ok (.athrow, 1)) (ok : ms_okT d.1.cls ik is ic E text) (hR : 6 ≤ d.2.2.2.2.1 ∧ 8 + 82 ≤ d.2.2.2.2.2.1) (hW : (st.map fun v => v.category).sum ≤ 8) (hk : 1 ≤ kr) (hz : 6 ≤ zr) (k : ∀ n1, n ≤ n1 → P (.inr E) n1 G) (hh : d.2.2.2.2.2.2.1 = [] := by rfl) : ms_W true d P pc lv st n G kr zr := by
  intro mc ms p l e s m args below meth c D cA base H locs cells slots ls F c1 c2 c3 c4 c5 c6
  obtain ⟨o1, o2, o3, o4, o5, o6⟩ := ok
  obtain ⟨x1, x2, x3, -, x5, x6⟩ := F.SE.2.2.2.2.2
  have o9 : ∀ w ∈ Cond.classLink d.1.cls ik E :: Cond.initialized E :: vx_atS d.1.cls ic E ms_names, w ∈ ms_big ∨ (w = Cond.castable E E ∨ ∃ y ∈ ms_dcl, w = Cond.declares y) := by
    intro w hw
    by_cases g : goodWord w = true
    · refine Or.inl (o3 w ?_)
      simp only [List.mem_cons, List.mem_filter] at hw ⊢
      rcases hw with h | h | h
      · exact Or.inl h
      · exact Or.inr (Or.inl h)
      · exact Or.inr (Or.inr ⟨h, g⟩)
    · simp only [List.mem_cons] at hw
      rcases hw with h | h | h
      · exact Or.inl (o3 w (by simp [h]))
      · exact Or.inl (o3 w (by simp [h]))
      · have := o5 w (List.mem_filter.mpr ⟨h, by simp [g]⟩)
        rcases List.mem_cons.mp this with h9 | h9
        · exact Or.inr (Or.inl h9)
        · obtain ⟨y, hy, h9⟩ := List.mem_map.mp h9
          exact Or.inr (Or.inr ⟨y, hy, h9.symm⟩)
  obtain ⟨sa, hsa⟩ := x3 _ o4
  have hl : l.flags = flags0 := F.2.2.2.2.2.2.2.2.2.1
  have ht : c.exceptionTable.toList = [] := by
    have h9 := F.2.2.2.2.2.2.2.2.2.2.1
    rw [hh] at h9
    exact h9
  refine vx_throwS (names := ms_names) F.exec F.code (by unfold Launch.stackTraces; rw [hl]; decide +kernel) F.own o1 o2 (F.big _ (o3 _ (by simp))) (F.big _ (o3 _ (by simp))) hsa (fun w hw => (o9 w (by simp [hw])).elim (fun h => F.big _ h) (fun h => h.elim (fun h => by rw [h]; exact ms_cas (x5 _ o6)) (fun h => by obtain ⟨y, hy, rfl⟩ := h; exact va_tabs rfl rfl (x6 y hy)))) (fun w hw => (o9 w hw).elim (fun h => by unfold vx_ot; rw [ms_big_good w h, Bool.or_true]) (fun h => h.elim (fun h => by rw [h]; rfl) (fun h => by obtain ⟨y, -, rfl⟩ := h; rfl))) x1 x2 c5 (c6.1.trans F.2.2.2.1.symm) d0 d3 d4 d6 d9 (fun z hz => by rw [ht] at hz; cases hz) (by show 2 + 3 < d.2.2.2.2.1; have := hR.1; omega) (by show _ + (13 * 3 + 43) ≤ d.2.2.2.2.2.1; have := hR.2; omega) (by show cells + 1 ≤ mc; omega) (by show slots + 6 ≤ ms; omega) F.2.2.2.2.1 (fun t h1 h2 h3 => ⟨G, k _ (by rw [← c3]; exact h2), fun b z hz => ⟨(c4 b z hz).1.kept (h3 b (va_at.lt (c4 b z hz).1)), (c4 b z hz).2⟩, Nat.le_trans c5.1 h2, fun q g1 g2 => (h3 q (Nat.lt_of_lt_of_le g1 c5.1)).trans (c5.2.1 q g1 g2)⟩) c5.2.2 (by show cells + 1 ≤ mc; omega) (by show slots + 6 ≤ ms; omega)
theorem ms_afterX {p : Program} {l : Launch} {e : Env} {R : Room} {s : State} {m : MethodId} {args a : Array Value} {below : List Frame} {meth : Method} {c : Code} {H H0 : Heap} {locs : List Loc} {cells slots mc ms pc : Nat} {Q : State → Prop} {ls : Array Slot} {rest st0 : List Value} {D : va_G} {cA : Nat → ClassId} {base : Nat} {P' : ms_P}
    (hr : vx_Run p l e R s m args below meth c H locs cells slots mc ms (F0 m pc ls st0) rest (ms_Qc D cA base P' a) (ms_XC D cA base P') (fun q => base ≤ q)) (hS : va_S (fun q => base ≤ q) H0 H locs)
    (kk : ∀ (v : Option Value) (G1 : ms_H) (H1 : Heap) (locs1 : List Loc), P' (.inl v) H1.size G1 → ms_wd D cA base G1 H1 → va_S (fun q => base ≤ q) H0 H1 locs1 → W p l e R s m args below meth c H1 locs1 (cells + mc) (slots + ms) Q (F0 m (pc + 3) ls (v.toList ++ rest)))
    (kx : ∀ (E : String) (G1 : ms_H) (H1 : Heap) (locs1 : List Loc) (q : Addr) (ce : Cell), P' (.inr E) H1.size G1 → ms_wd D cA base G1 H1 → va_S (fun q => base ≤ q) H0 H1 locs1 → H1[q]? = some ce → ce.vm = .none → s.vm.findClass E = some ce.cls → vx_W p l e R s m args below meth c H1 locs1 (cells + mc) (slots + ms) Q (F0 m pc ls rest) q) : W p l e R s m args below meth c H locs cells slots Q (F0 m pc ls st0) := by
  intro T hT X
  have key : ∀ (st₀ t T' : State) (L : List Loc), st₀.heap = H → T'.heap = t.heap → (∀ q ∈ L, base ≤ q.base) → va_F (fun q => base ≤ q) st₀ t → va_S (fun q => base ≤ q) H0 T'.heap (locs ++ L) := by
    intro st₀ t T' L h0 e1 hL hF
    obtain ⟨hz, hk⟩ := hF
    rw [h0] at hz hk
    exact ⟨Nat.le_trans hS.1 (by rw [e1]; exact hz), fun q h1 h2 => by rw [e1, hk q (Nat.lt_of_lt_of_le h1 hS.1) h2]; exact hS.2.1 q h1 h2, fun q hq => by
      rcases List.mem_append.mp hq with h | h
      · exact hS.2.2 q h
      · exact hL q h⟩
  rcases hr T hT X with ⟨v, st₀, t, T', L, h0, X', hL, e1, e2, ⟨v', G1, hv, hp, hw, hF⟩, st⟩ | ⟨q, st₀, t, T', L, E, ce, h0, X', hL, e1, e2, ⟨G1, hp, hw, hF⟩, hce, hcv, hcl, st⟩
  · cases hv
    obtain ⟨t2, a1, b1⟩ := kk v G1 T'.heap (locs ++ L) (by rw [e1]; exact hp) (by rw [e1]; exact hw) (key st₀ t T' L h0 e1 hL hF) T' rfl X'
    exact ⟨t2, st t2 a1, b1⟩
  · obtain ⟨t2, a1, b1⟩ := kx E G1 T'.heap (locs ++ L) q ce (by rw [e1]; exact hp) (by rw [e1]; exact hw) (key st₀ t T' L h0 e1 hL hF) (by rw [e1]; exact hce) hcv hcl T' rfl X'
    exact ⟨t2, st.trans a1, b1⟩
/-- a call inside a try -/
theorem ms_callVX {x : Bool} {d : ms_D} {P : ms_P} {pc : Nat} {lv : List (Nat × Value)} {st : List Value} {n : Nat} {G : ms_H} {kr zr : Nat} {d' : ms_D} {P' : ms_P} {b ci i kc zc n9 : Nat} {As stk fs : List Value} (hdg : decode d.2.1 pc = .ok (.invokevirtual i, 3)) (hM : ms_X d' (.ref b :: As) n G kc zc P') (ok : ms_okV d.1.cls i d' ci n9) (hb : G b = some (.inr (ci, fs))) (hn : As.length = n9) (hR : ms_okR d d') (hst : stk = As.reverse ++ .ref b :: st) (hW : (st.map fun v => v.category).sum ≤ 8)
    (k : ∀ (v : Option Value) (n1 : Nat) (G1 : ms_H), P' (.inl v) n1 G1 → ms_W x d P (pc + 3) lv (v.toList ++ st) n1 G1 kr zr)
    (kx : ∀ (E : String) (n1 : Nat) (G1 : ms_H) (q : Nat), P' (.inr E) n1 G1 → ∃ hpc : Nat, ms_hd d E pc hpc ∧ ms_W x d P hpc lv [.ref q] n1 G1 kr zr) : ms_W x d P pc lv stk n G (kc + kr) (zc + zr) := by
  intro mc ms p l e s m args below meth c D cA base H locs cells slots ls F c1 c2 c3 c4 c5 c6
  obtain ⟨o1, o2, ⟨T9, N9, o3⟩, o4, o5⟩ := ok
  have hws9 : ms_ws d' = .code d'.1 d'.2.1 d'.2.2.1 d'.2.2.2.1 :: ms_big := by unfold ms_ws; rw [ms_cd_nil o5]
  have hl : l.flags = flags0 := F.2.2.2.2.2.2.2.2.2.1
  refine ms_afterX (P' := P') (vx_runV (As := As) (rest := st) (C := d'.1.cls) (b := b) ⟨F.exec, F.code, F.2.2.2.1, F.own, F.big⟩ (hM l hl D cA base) (cwV n9 F.big (ms_good ?_) hws9 rfl rfl ⟨rfl, o4.1, o4.2.1, o4.2.2⟩ hR) ⟨ms_Pc.blind, va_recv F.K (c4.P1 hb) o3 (q0 := 0) rfl, fun U hU hW9 => ⟨rfl, by rw [hU]; exact c3, by rw [hU]; exact c4, F.SE.to hU hW9 c5, by have := F.low; have := c5.1; omega⟩⟩ rfl hn c6.1 hst (by show 2 * 0 + _ ≤ 8; omega) hdg ⟨by show cells + kc ≤ mc; omega, by show slots + zc ≤ ms; omega⟩) c5 ?_ ?_
  · intro w hw
    unfold wsV ms_ws at hw
    rcases List.mem_append.mp hw with h | h
    · rcases List.mem_cons.mp h with h | h
      · rw [h]; exact o1
      · exact o2 w (by simp only [List.mem_cons] at h ⊢; rcases h with h | h | h | h <;> simp [h] <;> cases h)
    · rcases List.mem_cons.mp h with h | h
      · exact o2 w (by rw [h]; simp)
      · exact h
  · intro v G1 H1 locs1 hp hw hS
    exact k v H1.size G1 hp mc ms p l e s m args below meth c D cA base H1 locs1 (cells + kc) (slots + zc) ls F (by omega) (by omega) rfl hw hS c6
  · intro E G1 H1 locs1 q ce hp hw hS hce hcv hcl
    obtain ⟨hpc, ⟨pre, suf, z, name, t1, t2, t3, t4, t5, t6, t8, t7⟩, hk⟩ := kx E H1.size G1 q hp
    subst t7
    subst t6
    exact vx_catch F.own pre z suf (F.2.2.2.2.2.2.2.2.2.2.1.trans t1) (fun y hy => Or.inr ⟨(t2 y hy).1, (t2 y hy).2.elim fun nm h => ⟨nm, F.big _ h.1, F.SE.2.2.2.2.2.2.2.2.1 _ h.2⟩⟩) t3 t4 (F.big _ t5) (ms_cas (F.SE.2.2.2.2.2.2.2.2.2.1 _ t8)) hce hcv hcl (hk mc ms p l e s m args below meth c D cA base H1 locs1 (cells + kc) (slots + zc) ls F (by omega) (by omega) rfl hw hS c6)
/-- a static call of a method with handlers, that throws nothing -/
theorem ms_callSX {x : Bool} {d : ms_D} {P : ms_P} {pc : Nat} {lv : List (Nat × Value)} {st : List Value} {n : Nat} {G : ms_H} {kr zr : Nat} {d' : ms_D} {P' : ms_P} {i kc zc n9 : Nat} {As stk : List Value} (hdg : decode d.2.1 pc = .ok (.invokestatic i, 3)) (hM : ms_X d' As n G kc zc P') (ok : ms_okS d.1.cls i d' n9) (hh : ¬ d'.2.2.2.2.2.2.1 = []) (hn : As.length = n9) (hR : ms_okR d d') (hst : stk = As.reverse ++ st) (hW : (st.map fun v => v.category).sum ≤ 8)
    (k : ∀ (v : Option Value) (n1 : Nat) (G1 : ms_H), P' (.inl v) n1 G1 → ms_W x d P (pc + 3) lv (v.toList ++ st) n1 G1 kr zr) (kx : ∀ (E : String) (n1 : Nat) (G1 : ms_H), ¬ P' (.inr E) n1 G1) : ms_W x d P pc lv stk n G (kc + kr) (zc + zr) := by
  intro mc ms p l e s m args below meth c D cA base H locs cells slots ls F c1 c2 c3 c4 c5 c6
  obtain ⟨o0, o1, o2, o4⟩ := ok
  have hws9 : ms_ws d' = .codeWith d'.1 d'.2.1 d'.2.2.1 d'.2.2.2.1 d'.2.2.2.2.2.2.1 :: ms_big := by unfold ms_ws; rw [ms_cd_cons hh]
  have hl : l.flags = flags0 := F.2.2.2.2.2.2.2.2.2.1
  refine ms_afterX (P' := P') (vx_runSX (hh := d'.2.2.2.2.2.2.1) (As := As) (rest := st) ⟨F.exec, F.code, F.2.2.2.1, F.own, F.big⟩ (hM l hl D cA base) (vx_cwSW n9 F.big (ms_good ?_) hws9 rfl rfl ⟨o4.1, o4.2.1, o4.2.2⟩ hR) ⟨ms_Pc.blind, fun U hU hW9 => ⟨rfl, by rw [hU]; exact c3, by rw [hU]; exact c4, F.SE.to hU hW9 c5, by have := F.low; have := c5.1; omega⟩⟩ rfl hn c6.1 hst (by show 2 * 0 + _ ≤ 8; omega) hdg ⟨by show cells + kc ≤ mc; omega, by show slots + zc ≤ ms; omega⟩) c5 ?_ ?_
  · intro w hw
    unfold va_wsS ms_ws at hw
    rcases List.mem_append.mp hw with h | h
    · rcases List.mem_cons.mp h with h | h
      · rw [h]; exact o1
      · exact o2 w (by simp only [List.mem_cons] at h ⊢; rcases h with h | h | h <;> simp [h, o0] <;> cases h)
    · rcases List.mem_cons.mp h with h | h
      · exact o2 w (by rw [h]; simp)
      · exact h
  · intro v G1 H1 locs1 hp hw hS
    exact k v H1.size G1 hp mc ms p l e s m args below meth c D cA base H1 locs1 (cells + kc) (slots + zc) ls F (by omega) (by omega) rfl hw hS c6
  · intro E G1 H1 locs1 q ce hp hw hS hce hcv hcl
    exact absurd hp (kx E H1.size G1)
end

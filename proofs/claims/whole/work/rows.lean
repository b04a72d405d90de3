section
/-! ===== BEGIN words of one list among another's, by their places ===== -/
theorem goodIn_r {big : List Cond} (ws : List Cond) (ps : List Nat) (hp : ws = ps.filterMap (fun i => big[i]?)) (h : ws.all goodWord = true) : GoodIn big ws := by
  intro w hw
  have h1 := List.all_eq_true.mp h w hw
  rw [hp] at hw
  obtain ⟨i, -, hi⟩ := List.mem_filterMap.mp hw
  have hm : w ∈ big := by first | exact List.mem_of_getElem? hi | exact List.getElem?_mem hi
  exact ⟨hm, good_of_word h1⟩
theorem goodIn_app {big a b : List Cond} (ha : GoodIn big a) (hb : GoodIn big b) : GoodIn big (a ++ b) := fun w h => (List.mem_append.mp h).elim (ha w) (hb w)
theorem goodIn_ca {big a b : List Cond} {c : Cond} (ha : GoodIn big (c :: a)) (hb : GoodIn big b) : GoodIn big (c :: (a ++ b)) := fun w h => (List.mem_cons.mp h).elim (fun e => ha w (List.mem_cons.mpr (Or.inl e))) (fun h => (List.mem_append.mp h).elim (fun h => ha w (List.mem_cons.mpr (Or.inr h))) (hb w))
theorem goodIn_sub {big ws : List Cond} (hm : ∀ w ∈ ws, w ∈ big) (h : ws.all goodWord = true) : GoodIn big ws := fun w hw => ⟨hm w hw, good_of_word (List.all_eq_true.mp h w hw)⟩
/-! ===== END ===== -/

/-! ===== BEGIN exceptions that leave a method, and their catching by the caller (launches without stack traces) ===== -/
section VXA
/-! The laws vx_back, vx_callV, vx_callS, vx_callSW, vx_throw0, vx_throwS follow proofs of the library, with one case more: JvmDerived/Free/Laws.lean (Back.of_free), Shelf42/LK1.lean (callV, callS), Shelf/KitTraced.lean (throwNew0V, throwNewS). -/
/-- where a method has thrown q: the class by its name, the cell, what was written, the world -/
def vx_T (XC : String → State → State → Prop) (st : State) (q : Addr) (t : State) (mc ms : Nat) (free : Addr → Prop) : Prop :=
  ∃ (E : String) (ce : Cell) (L : List Loc), XC E st t ∧ t.heap[q]? = some ce ∧ ce.vm = .none ∧ st.vm.findClass E = some ce.cls ∧ st.WarmedH t.vm ∧ st.sameButNew ({ t with vm := st.vm } : State) L mc ms ∧ ∀ z ∈ L, free z.base
def vx_Q (Qc : Array Value → State → Outcome → State → Prop) (XC : String → State → State → Prop) (mc ms : Nat) (free : Addr → Prop) : Array Value → State → Outcome → State → Prop := fun a st o t =>
  (Qc a st o t ∧ ∃ L, FrameEnd st o t L mc ms ∧ ∀ q ∈ L, free q.base) ∨ ∃ q, o = .threw q ∧ vx_T XC st q t mc ms free
/-- a callee that returns or throws -/
def vx_Met (l : Launch) (y : MethodName) (ws : List Cond) (rm : Room) (Pc : Array Value → State → Prop) (Qc : Array Value → State → Outcome → State → Prop) (XC : String → State → State → Prop) (mc ms : Nat) (free : Addr → Prop) : Prop :=
  MetFree l y (headSpec ws rm) Pc (fun _ _ _ _ _ => True) (vx_Q Qc XC mc ms free)
def vx_Post (XC : String → State → State → Prop) (mc ms : Nat) (free : Addr → Prop) : Pt → Array Value → Addr → Pt → Prop := fun A a q B =>
  ∃ (g : JFrame) (mk : MethodId) (t : State) (L : List Loc) (E : String) (ce : Cell), B.U.heap = t.heap ∧ B.U.vm = t.vm ∧ XC E (A.U.calling g mk a) t ∧ t.heap[q]? = some ce ∧ ce.vm = .none ∧ A.U.vm.findClass E = some ce.cls ∧ B.locs = A.locs ++ L ∧ (∀ z ∈ L, free z.base) ∧ B.cells = A.cells + mc ∧ B.slots = A.slots + ms
def vx_Back (l : Launch) (R : Room) (p : Program) (e : Env) (below : List Frame) (s : State) (sargs : Array Value) (y : MethodName) (len W9 : Nat)
    (Pre : Pt → Array Value → Prop) (Post : Pt → Array Value → Option Value → Pt → Prop) (PostX : Pt → Array Value → Addr → Pt → Prop) : Prop :=
  ∀ (m : MethodId) (meth : Method) (c : Code) (A : Pt) (g : JFrame) (ig : Instr) (mk : MethodId) (a : Array Value),
    Stand p l e R s m sargs below meth c A.U A.locs A.cells A.slots → g.method = m → g.locals.size = c.maxLocals → decode c.code g.pc = .ok (ig, len) →
    2 * g.monitorRoom + (g.stack.map fun v => v.category).sum ≤ W9 → A.U.methodNamed? y = some mk → Pre A a →
    (∃ (v : Option Value) (B : Pt), Stand p l e R s m sargs below meth c B.U B.locs B.cells B.slots ∧ Post A a v B ∧
      Steps p.tables e below (doInvoke e (A.U.setTop g) [] mk a).1 (B.U.setTop { g with pc := g.pc + len, stack := v.toList ++ g.stack })) ∨
    (∃ (q : Addr) (B : Pt), Stand p l e R s m sargs below meth c B.U B.locs B.cells B.slots ∧ PostX A a q B ∧
      Steps p.tables e below (doInvoke e (A.U.setTop g) [] mk a).1 ((B.U.setTop g).pushFrame (.throwing q)))
section Payer
variable {l : Launch} {R : Room} {p : Program} {e : Env} {below : List Frame} {s : State} {sargs : Array Value} {y : MethodName} {len W9 : Nat}
theorem vx_back {ws : List Cond} {rm : Room} {Pc : Array Value → State → Prop} {Qc : Array Value → State → Outcome → State → Prop} {XC : String → State → State → Prop} {mc ms : Nat} {free : Addr → Prop} {bytes : ByteArray} {maxL : Nat} {ret : Option FieldType}
    (hM : vx_Met l y ws rm Pc Qc XC mc ms free) (hblind : FrameBlind Pc) (hrc : rm.cells = mc) (hrs : rm.slots = ms)
    (hframes : rm.frames + 1 ≤ R.frames) (hlocals : W9 + (maxL + 11) + rm.locals ≤ R.locals)
    (hws : ∀ w ∈ ws, ∀ a' U, s.WarmedH U.vm → w.before a' U = true) (hcode : Cond.code y bytes maxL ret ∈ ws) (hinit : ∀ a' U, s.WarmedH U.vm → (Cond.initialized y.cls).before a' U = true) :
    vx_Back l R p e below s sargs y len W9 (PreOf R mc ms Pc) (PostOf Qc mc ms free) (vx_Post XC mc ms free) := by
  intro m meth c A g ig mk a X hg hsize hdg hW hn hp
  have h1 : (headSpec ws rm).pre.before a A.U = true := atoms_intro fun w hw => hws w hw _ _ X.warmed
  have h2 : (Cond.code y bytes maxL ret).before a A.U = true := hws _ hcode _ _ X.warmed
  have h3 : (Cond.initialized y.cls).before a A.U = true := hinit _ _ X.warmed
  have h4 : A.cells + (headSpec ws rm).room.cells ≤ R.cells := by rw [show (headSpec ws rm).room.cells = mc from hrc]; exact hp.1
  have h5 : A.slots + (headSpec ws rm).room.slots ≤ R.slots := by rw [show (headSpec ws rm).room.slots = ms from hrs]; exact hp.2.1
  have hPc : Pc a (A.U.calling g mk a) := hblind _ _ _ _ hp.2.2
  obtain ⟨U, Ls, c0, s0⟩ := A
  dsimp only [Pt.U, Pt.locs, Pt.cells, Pt.slots] at h1 h2 h3 h4 h5 X hn hPc ⊢
  obtain ⟨methY, cY, hmY, hcY, -, hlY, -, -, -, -⟩ := Cond.code_spec hn h2
  obtain ⟨kY, hkY, -⟩ := className_of_methodNamed hn
  have hinitY : kY.init = .initialized := Cond.initialized_spec (findClass_of_methodNamed hn) hkY h3
  have h : At U g.method c below := by rw [hg]; exact X.here
  have hlocals9 : W9 + (maxL + 11) + (headSpec ws rm).room.locals ≤ R.locals := hlocals
  have happ : (headSpec ws rm).appliesLoose y e.platform (U.calling g mk a) = true :=
    Spec.appliesLoose_calling (g := g) h hdg hn hkY hinitY
      (X.room_calling (g := g) (R' := (headSpec ws rm).room) hsize hmY hcY hframes (by rw [hlY]; omega) h4 h5) h1
  obtain ⟨mid, hmid⟩ := h.above
  have hfr : (U.setTop g).frames = (.java g :: mid) ++ below := by rw [State.frames_setTop' g h.top, hmid]; rfl
  obtain ⟨o, s₂, hsteps, -, hend, hq⟩ := Steps.callFree hM p X.admits X.cas X.clock (acts := []) hfr happ hPc trivial
  have hq' : vx_Q Qc XC mc ms free a (U.calling g mk a) o s₂ := hq
  rw [State.frames_setTop' g h.top] at hend
  obtain ⟨g₀, hg0⟩ := Option.isSome_iff_exists.mp h.top
  obtain ⟨r, hr⟩ := State.topJava?_eq_some.mp hg0
  have hr' : (({ U with heap := s₂.heap, slotsUsed := s₂.slotsUsed } : State).setVm s₂.vm).frames = .java g₀ :: r := hr
  rcases hq' with ⟨hqc, L, hfe, hL⟩ | ⟨q, rfl, E, ce, L, hx, hce, hcv, hcl, hW₂, hsm, hL⟩
  · obtain ⟨⟨v, rfl⟩, hW₂, e2, q2, q3, q4, q5, q6⟩ := id hfe
    have e3 : s₂ = ({ (U.calling g mk a).setFrames s₂.frames with heap := s₂.heap, slotsUsed := s₂.slotsUsed } : State).setVm s₂.vm := by
      have : s₂ = ({ s₂ with vm := (U.calling g mk a).vm } : State).setVm s₂.vm := rfl
      rw [e2] at this
      exact this
    obtain ⟨c₂, i₂, len₂, hc₂, hd₂, hf₂⟩ := hend
    have hW' : U.WarmedH s₂.vm := hW₂
    have hcc : c₂ = c := by
      have h1 : s₂.code? g.method = U.code? g.method := by
        rw [State.code?_eq, State.code?_eq, hW'.alike.method?]
      exact Option.some.inj (hc₂.symm.trans (h1.trans h.code))
    subst hcc
    have hlen : len₂ = len := by rw [hdg] at hd₂; cases hd₂; rfl
    subst hlen
    have hs₂ : s₂ = (({ U with heap := s₂.heap, slotsUsed := s₂.slotsUsed } : State).setVm s₂.vm).setTop { g with pc := g.pc + len₂, stack := v.toList ++ g.stack } := by
      refine e3.trans ?_
      rw [hf₂, State.calling_eq h.top, State.setFrames_setFrames, State.setTop_of_frames _ hr', hr]
      rfl
    have hsame : U.sameButNew ({ U with heap := s₂.heap, slotsUsed := s₂.slotsUsed } : State) L mc ms := by
      refine ⟨?_, q2, q3, q4, q5, q6⟩
      obtain ⟨t, ht, -⟩ := State.frames_cons hr
      show ({ U with heap := s₂.heap, slotsUsed := s₂.slotsUsed } : State) = { U.setFrames U.frames with heap := s₂.heap, slotsUsed := s₂.slotsUsed }
      rw [State.setFrames_self ht]
    subst hg
    refine Or.inl ⟨v, ⟨(({ U with heap := s₂.heap, slotsUsed := s₂.slotsUsed } : State).setVm s₂.vm), Ls ++ L, c0 + mc, s0 + ms⟩,
      ⟨X.admits, X.cas, X.clock, X.frames, X.room, X.hears, X.method, X.code, (X.here.setHeapUsed s₂.heap s₂.slotsUsed).setVm hW'.alike, X.tail, State.WarmedH.trans X.warmed hW', X.limits, X.bytes, X.same.trans (hsame.setVm s.vm)⟩,
      ⟨g, mk, s₂, L, rfl, rfl, hqc, rfl, hL, rfl, rfl⟩, ?_⟩
    show Steps p.tables e below _ ((({ U with heap := s₂.heap, slotsUsed := s₂.slotsUsed } : State).setVm s₂.vm).setTop { g with pc := g.pc + len₂, stack := v.toList ++ g.stack })
    rw [← hs₂]
    exact hsteps
  · obtain ⟨e2, q2, q3, q4, q5, q6⟩ := id hsm
    have e3 : s₂ = ({ (U.calling g mk a).setFrames s₂.frames with heap := s₂.heap, slotsUsed := s₂.slotsUsed } : State).setVm s₂.vm := by
      have : s₂ = ({ s₂ with vm := (U.calling g mk a).vm } : State).setVm s₂.vm := rfl
      rw [e2] at this
      exact this
    have hf₂ : s₂.frames = .throwing q :: .java g :: U.frames.tail := hend
    have hW' : U.WarmedH s₂.vm := hW₂
    have hs₂ : s₂ = ((({ U with heap := s₂.heap, slotsUsed := s₂.slotsUsed } : State).setVm s₂.vm).setTop g).pushFrame (.throwing q) := by
      refine e3.trans ?_
      rw [hf₂, State.calling_eq h.top, State.setFrames_setFrames, State.pushFrame, State.frames_setTop _ hr', State.setTop_of_frames _ hr', State.setFrames_setFrames, hr]
      rfl
    have hsame : U.sameButNew ({ U with heap := s₂.heap, slotsUsed := s₂.slotsUsed } : State) L mc ms := by
      refine ⟨?_, q2, q3, q4, q5, q6⟩
      obtain ⟨t, ht, -⟩ := State.frames_cons hr
      show ({ U with heap := s₂.heap, slotsUsed := s₂.slotsUsed } : State) = { U.setFrames U.frames with heap := s₂.heap, slotsUsed := s₂.slotsUsed }
      rw [State.setFrames_self ht]
    subst hg
    refine Or.inr ⟨q, ⟨(({ U with heap := s₂.heap, slotsUsed := s₂.slotsUsed } : State).setVm s₂.vm), Ls ++ L, c0 + mc, s0 + ms⟩,
      ⟨X.admits, X.cas, X.clock, X.frames, X.room, X.hears, X.method, X.code, (X.here.setHeapUsed s₂.heap s₂.slotsUsed).setVm hW'.alike, X.tail, State.WarmedH.trans X.warmed hW', X.limits, X.bytes, X.same.trans (hsame.setVm s.vm)⟩,
      ⟨g, mk, s₂, L, E, ce, rfl, rfl, hx, hce, hcv, hcl, rfl, hL, rfl, rfl⟩, ?_⟩
    show Steps p.tables e below _ (((({ U with heap := s₂.heap, slotsUsed := s₂.slotsUsed } : State).setVm s₂.vm).setTop g).pushFrame (.throwing q))
    rw [← hs₂]
    exact hsteps
end Payer
section Calls
variable {p : Program} {l : Launch} {e : Env} {R : Room} {s : State} {m : MethodId} {args : Array Value} {below : List Frame} {meth : Method} {c : Code} {T : State} {locs : List Loc} {cells slots : Nat}
theorem vx_callV (X : Stand p l e R s m args below meth c T locs cells slots) (hexec : p.tables.exec = Jvm.exec) {own C : String} {index : Nat} {y : MethodName} {bytes : ByteArray} {maxL : Nat} {ret : Option FieldType}
    (hown : s.vm.findClass own = some m.cls) (hlink : (Cond.methodLink own index y).before args s = true) (hinst : (Cond.instanceMethod y).before args s = true) (hsel : (Cond.selects C y y).before args s = true)
    (hcode : (Cond.code y bytes maxL ret).before args s = true) (hy : y.cls ≠ "java/lang/invoke/MethodHandle" ∧ y.cls ≠ "java/lang/invoke/VarHandle")
    {W9 : Nat} {Pre : Pt → Array Value → Prop} {Post : Pt → Array Value → Option Value → Pt → Prop} {PostX : Pt → Array Value → Addr → Pt → Prop} (hK : vx_Back l R p e below s args y 3 W9 Pre Post PostX)
    {b : Addr} {cellB : Cell} (hcell : T.heap[b]? = some cellB) (hobj : cellB.vm.isStatics = false) (hcls : s.vm.findClass C = some cellB.cls)
    {g : JFrame} (hg : g.method = m) (hsize : g.locals.size = c.maxLocals) {argsL rest : List Value} (hlen : ∀ sig, parseMethodDescriptor y.desc = some sig → argsL.length = sig.parameters.length)
    (hstack : g.stack = argsL.reverse ++ .ref b :: rest) (hW : 2 * g.monitorRoom + (rest.map fun v => v.category).sum ≤ W9) (hdg : decode c.code g.pc = .ok (.invokevirtual index, 3))
    (hpre : ∀ vm₁, s.WarmedH vm₁ → Pre ⟨T.setVm vm₁, locs, cells, slots⟩ (Value.ref b :: argsL).toArray) :
    (∃ (v : Option Value) (vm₁ : Vm) (B : Pt), s.WarmedH vm₁ ∧ Stand p l e R s m args below meth c B.U B.locs B.cells B.slots ∧ Post ⟨T.setVm vm₁, locs, cells, slots⟩ (Value.ref b :: argsL).toArray v B ∧
      ∀ target, Steps p.tables e below (B.U.setTop { g with pc := g.pc + 3, stack := v.toList ++ rest }) target → Steps p.tables e below (T.setTop g) target) ∨
    (∃ (q : Addr) (vm₁ : Vm) (B : Pt), s.WarmedH vm₁ ∧ Stand p l e R s m args below meth c B.U B.locs B.cells B.slots ∧ PostX ⟨T.setVm vm₁, locs, cells, slots⟩ (Value.ref b :: argsL).toArray q B ∧
      Steps p.tables e below (T.setTop g) ((B.U.setTop { g with stack := rest }).pushFrame (.throwing q))) := by
  obtain ⟨mk, methM, hnamed, hmethM, hstM, habM⟩ := Cond.instanceMethod_spec hinst
  obtain ⟨methM', cM, hmethM', -, -, -, -, -, -, hsigM⟩ := Cond.code_spec hnamed hcode
  cases hmethM.symm.trans hmethM'
  obtain ⟨c2, r2, m2, q1, q2, q3, q4, kP, hkP, hkPi⟩ := Cond.selects_spec hsel
  cases hcls.symm.trans q1
  cases (State.methodFound?_of_named hnamed hy).symm.trans q2
  cases hnamed.symm.trans q3
  have hselP : selectMethod e.platform s.vm cellB.cls mk = .method mk := by rw [Launch.admits_selectMethod X.admits]; exact q4
  obtain ⟨vm₁, X₁, hstep₁⟩ := X.invokevirtual hexec hown hlink hnamed hmethM hstM hkP hkPi hy (a := b) (cell := cellB) hcell
    (fun z h => by rw [h] at hobj; cases hobj) hselP hmethM habM hkP hkPi (g := g) hg (argsL := argsL) (rest := rest) (hlen _ hsigM) hstack hdg
  rcases hK m meth c ⟨T.setVm vm₁, locs, cells, slots⟩ { g with stack := rest } (.invokevirtual index) mk (Value.ref b :: argsL).toArray X₁ hg hsize hdg hW (X₁.named hnamed) (hpre vm₁ X₁.warmed) with ⟨v, B, X', hpost, hsteps⟩ | ⟨q, B, X', hpost, hsteps⟩
  · exact Or.inl ⟨v, vm₁, B, X₁.warmed, X', hpost, fun target h => hstep₁ _ fun acts => by rw [doInvoke_state]; exact hsteps.trans h⟩
  · exact Or.inr ⟨q, vm₁, B, X₁.warmed, X', hpost, hstep₁ _ fun acts => by rw [doInvoke_state]; exact hsteps⟩
theorem vx_callS (X : Stand p l e R s m args below meth c T locs cells slots) (hexec : p.tables.exec = Jvm.exec) {own : String} {index : Nat} {y : MethodName} {bytes : ByteArray} {maxL : Nat} {ret : Option FieldType}
    (hown : s.vm.findClass own = some m.cls) (hlink : (Cond.methodLink own index y).before args s = true) (hstat : (Cond.static y).before args s = true) (hinit : (Cond.initialized y.cls).before args s = true)
    (hcode : (Cond.code y bytes maxL ret).before args s = true) (hy : y.cls ≠ "java/lang/invoke/MethodHandle" ∧ y.cls ≠ "java/lang/invoke/VarHandle")
    {W9 : Nat} {Pre : Pt → Array Value → Prop} {Post : Pt → Array Value → Option Value → Pt → Prop} {PostX : Pt → Array Value → Addr → Pt → Prop} (hK : vx_Back l R p e below s args y 3 W9 Pre Post PostX)
    {g : JFrame} (hg : g.method = m) (hsize : g.locals.size = c.maxLocals) {argsL rest : List Value} (hlen : ∀ sig, parseMethodDescriptor y.desc = some sig → argsL.length = sig.parameters.length)
    (hstack : g.stack = argsL.reverse ++ rest) (hW : 2 * g.monitorRoom + (rest.map fun v => v.category).sum ≤ W9) (hdg : decode c.code g.pc = .ok (.invokestatic index, 3))
    (hpre : ∀ vm₁, s.WarmedH vm₁ → Pre ⟨T.setVm vm₁, locs, cells, slots⟩ argsL.toArray) :
    (∃ (v : Option Value) (vm₁ : Vm) (B : Pt), s.WarmedH vm₁ ∧ Stand p l e R s m args below meth c B.U B.locs B.cells B.slots ∧ Post ⟨T.setVm vm₁, locs, cells, slots⟩ argsL.toArray v B ∧
      ∀ target, Steps p.tables e below (B.U.setTop { g with pc := g.pc + 3, stack := v.toList ++ rest }) target → Steps p.tables e below (T.setTop g) target) ∨
    (∃ (q : Addr) (vm₁ : Vm) (B : Pt), s.WarmedH vm₁ ∧ Stand p l e R s m args below meth c B.U B.locs B.cells B.slots ∧ PostX ⟨T.setVm vm₁, locs, cells, slots⟩ argsL.toArray q B ∧
      Steps p.tables e below (T.setTop g) ((B.U.setTop { g with stack := rest }).pushFrame (.throwing q))) := by
  obtain ⟨mk, hnamed⟩ := Cond.code_named hcode
  obtain ⟨methM, cM, hmethM, -, -, -, -, -, -, hsigM⟩ := Cond.code_spec hnamed hcode
  have hstatic : methM.isStatic = true := Cond.static_spec hnamed hmethM hstat
  obtain ⟨kP, hkP, -⟩ := className_of_methodNamed hnamed
  have hinitP : kP.init = .initialized := Cond.initialized_spec (findClass_of_methodNamed hnamed) hkP hinit
  obtain ⟨vm₁, X₁, hstep₁⟩ := X.invokestatic hexec hown hlink hnamed hmethM hstatic hkP hinitP hy (g := g) hg (argsL := argsL) (rest := rest) (hlen _ hsigM) hstack hdg
  rcases hK m meth c ⟨T.setVm vm₁, locs, cells, slots⟩ { g with stack := rest } (.invokestatic index) mk argsL.toArray X₁ hg hsize hdg hW (X₁.named hnamed) (hpre vm₁ X₁.warmed) with ⟨v, B, X', hpost, hsteps⟩ | ⟨q, B, X', hpost, hsteps⟩
  · exact Or.inl ⟨v, vm₁, B, X₁.warmed, X', hpost, fun target h => hstep₁ _ fun acts => by rw [doInvoke_state]; exact hsteps.trans h⟩
  · exact Or.inr ⟨q, vm₁, B, X₁.warmed, X', hpost, hstep₁ _ fun acts => by rw [doInvoke_state]; exact hsteps⟩
end Calls
theorem vx_cls {s : State} {T : State} {vm₁ : Vm} {E : String} {k : ClassId} (hW : s.WarmedH vm₁) (h : (T.setVm vm₁).vm.findClass E = some k) : s.vm.findClass E = some k := by
  have h1 : vm₁.findClass E = some k := h
  rw [hW.alike.findClass] at h1
  exact h1
/-- the method's frame g, with q thrown over it -/
def vx_W (p : Program) (l : Launch) (e : Env) (R : Room) (s : State) (m : MethodId) (args : Array Value) (below : List Frame) (meth : Method) (c : Code) (H : Heap) (locs : List Loc) (cells slots : Nat) (Q : State → Prop) (g : JFrame) (q : Addr) : Prop :=
  ∀ T : State, T.heap = H → Stand p l e R s m args below meth c T locs cells slots → ∃ t, Steps p.tables e below ((T.setTop g).pushFrame (.throwing q)) t ∧ Q t
def vx_Run (p : Program) (l : Launch) (e : Env) (R : Room) (s : State) (m : MethodId) (args : Array Value) (below : List Frame) (meth : Method) (c : Code) (H : Heap) (locs : List Loc) (cells slots mc ms : Nat) (g : JFrame) (rest : List Value) (Qa : State → Outcome → State → Prop) (XC : String → State → State → Prop) (free : Addr → Prop) : Prop :=
  ∀ T : State, T.heap = H → Stand p l e R s m args below meth c T locs cells slots →
    (∃ (v : Option Value) (st₀ t T' : State) (L : List Loc), st₀.heap = H ∧ Stand p l e R s m args below meth c T' (locs ++ L) (cells + mc) (slots + ms) ∧ (∀ q ∈ L, free q.base) ∧ T'.heap = t.heap ∧ T'.vm = t.vm ∧ Qa st₀ (.returned v) t ∧
      Goes p e below T g T' { g with pc := g.pc + 3, stack := v.toList ++ rest }) ∨
    (∃ (q : Addr) (st₀ t T' : State) (L : List Loc) (E : String) (ce : Cell), st₀.heap = H ∧ Stand p l e R s m args below meth c T' (locs ++ L) (cells + mc) (slots + ms) ∧ (∀ z ∈ L, free z.base) ∧ T'.heap = t.heap ∧ T'.vm = t.vm ∧ XC E st₀ t ∧ t.heap[q]? = some ce ∧ ce.vm = .none ∧ s.vm.findClass E = some ce.cls ∧
      Steps p.tables e below (T.setTop g) ((T'.setTop { g with stack := rest }).pushFrame (.throwing q)))
def vx_X {S : Type} (px : S → Prop) (B : String → S → State → Prop) (A : Nat → Prop) : String → State → State → Prop := fun E st t => ∃ u : S, px u ∧ B E u t ∧ va_F A st t
section Runs
variable {p : Program} {l : Launch} {e : Env} {R : Room} {s : State} {m : MethodId} {args : Array Value} {below : List Frame} {meth : Method} {c : Code} {H : Heap} {locs : List Loc} {cells slots : Nat}
variable {y : MethodName} {bytes cc : ByteArray} {maxL nL mc ms n index : Nat} {ret : Option FieldType} {ws : List Cond} {rm : Room} {Pc : Array Value → State → Prop} {Qc : Array Value → State → Outcome → State → Prop} {XC : String → State → State → Prop} {free : Addr → Prop} {Ts : List Cond} {own C : String} {b : Addr} {As rest : List Value} {g : JFrame}
theorem vx_callBack (cb : CallB R s args own index y bytes maxL ret ws rm mc ms n) (hM : vx_Met l y ws rm Pc Qc XC mc ms free) (hbl : FrameBlind Pc) : vx_Back l R p e below s args y 3 8 (PreOf R mc ms Pc) (PostOf Qc mc ms free) (vx_Post XC mc ms free) := by
  obtain ⟨hrc, hrs, hfr, hlo, hws, hcw, -, hini, -⟩ := cb
  exact vx_back (bytes := bytes) (maxL := maxL) (ret := ret) hM hbl hrc hrs hfr hlo hws hcw (fun a' U hW => word_at hW (Or.inl (by first | rfl | simp [Cond.onTables, Cond.keeps, Cond.steady])) hini)
theorem vx_runV (S : CallFix p m c cc nL s args Ts own) (hM : vx_Met l y ws rm Pc Qc XC mc ms free) (cw : CallW R s args own C index y bytes maxL ret ws rm mc ms n) (hp : PreV s H C b Pc As)
    (hg : g.method = m) (hn : As.length = n) (hsize : g.locals.size = nL) (hstack : g.stack = As.reverse ++ .ref b :: rest) (hW : 2 * g.monitorRoom + (rest.map fun v => v.category).sum ≤ 8) (hdg : decode cc g.pc = .ok (.invokevirtual index, 3)) (hf : cells + mc ≤ R.cells ∧ slots + ms ≤ R.slots) :
    vx_Run p l e R s m args below meth c H locs cells slots mc ms g rest (Qc (Value.ref b :: As).toArray) XC free := by
  have hK : vx_Back l R p e below s args y 3 8 (PreOf R mc ms Pc) (PostOf Qc mc ms free) (vx_Post XC mc ms free) := vx_callBack cw.1 hM hp.1
  obtain ⟨⟨-, -, -, -, -, -, hcode, -, hy, hlen, hl⟩, hin, hse⟩ := cw
  obtain ⟨hx, hb, hml, ho, -⟩ := S
  obtain ⟨-, ⟨cellB, hcB, hoB, hclB⟩, hPc⟩ := hp
  intro T hT X
  rcases vx_callV X hx (C := C) (bytes := bytes) (maxL := maxL) (ret := ret) ho hl hin hse hcode hy hK (by rw [hT]; exact hcB) hoB hclB hg (hsize.trans hml.symm) (argsL := As) (rest := rest) (fun sig h => hn.trans (hlen sig h)) hstack hW (by rw [hb]; exact hdg)
    (fun vm₁ hW₁ => ⟨hf.1, hf.2, hPc (T.setVm vm₁) hT hW₁⟩) with ⟨v, vm₁, ⟨U', l2, c2, s2⟩, hW₁, X', ⟨g', mk, t, L, e1, e2, hq, h1, hL, h2, h3⟩, st⟩ | ⟨q, vm₁, ⟨U', l2, c2, s2⟩, hW₁, X', ⟨g', mk, t, L, E, ce, e1, e2, hq, hce, hcv, hcl, h1, hL, h2, h3⟩, st⟩
  · dsimp only [Pt.U, Pt.locs, Pt.cells, Pt.slots] at X' e1 e2 h1 h2 h3 st
    subst h1; subst h2; subst h3
    exact Or.inl ⟨v, (T.setVm vm₁).calling g' mk (Value.ref b :: As).toArray, t, U', L, hT, X', hL, e1, e2, hq, st⟩
  · dsimp only [Pt.U, Pt.locs, Pt.cells, Pt.slots] at X' e1 e2 h1 h2 h3 st hcl
    subst h1; subst h2; subst h3
    exact Or.inr ⟨q, (T.setVm vm₁).calling g' mk (Value.ref b :: As).toArray, t, U', L, E, ce, hT, X', hL, e1, e2, hq, hce, hcv, vx_cls hW₁ hcl, st⟩
theorem vx_runS (S : CallFix p m c cc nL s args Ts own) (hM : vx_Met l y ws rm Pc Qc XC mc ms free) (cw : CallB R s args own index y bytes maxL ret ws rm mc ms n ∧ (Cond.static y).before args s = true) (hp : PreS s H Pc As)
    (hg : g.method = m) (hn : As.length = n) (hsize : g.locals.size = nL) (hstack : g.stack = As.reverse ++ rest) (hW : 2 * g.monitorRoom + (rest.map fun v => v.category).sum ≤ 8) (hdg : decode cc g.pc = .ok (.invokestatic index, 3)) (hf : cells + mc ≤ R.cells ∧ slots + ms ≤ R.slots) :
    vx_Run p l e R s m args below meth c H locs cells slots mc ms g rest (Qc As.toArray) XC free := by
  have hK : vx_Back l R p e below s args y 3 8 (PreOf R mc ms Pc) (PostOf Qc mc ms free) (vx_Post XC mc ms free) := vx_callBack cw.1 hM hp.1
  obtain ⟨⟨-, -, -, -, -, -, hcode, hini, hy, hlen, hl⟩, hstt⟩ := cw
  obtain ⟨hx, hb, hml, ho, -⟩ := S
  intro T hT X
  rcases vx_callS X hx (bytes := bytes) (maxL := maxL) (ret := ret) ho hl hstt hini hcode hy hK hg (hsize.trans hml.symm) (argsL := As) (rest := rest) (fun sig h => hn.trans (hlen sig h)) hstack hW (by rw [hb]; exact hdg)
    (fun vm₁ hW₁ => ⟨hf.1, hf.2, hp.2 (T.setVm vm₁) hT hW₁⟩) with ⟨v, vm₁, ⟨U', l2, c2, s2⟩, hW₁, X', ⟨g', mk, t, L, e1, e2, hq, h1, hL, h2, h3⟩, st⟩ | ⟨q, vm₁, ⟨U', l2, c2, s2⟩, hW₁, X', ⟨g', mk, t, L, E, ce, e1, e2, hq, hce, hcv, hcl, h1, hL, h2, h3⟩, st⟩
  · dsimp only [Pt.U, Pt.locs, Pt.cells, Pt.slots] at X' e1 e2 h1 h2 h3 st
    subst h1; subst h2; subst h3
    exact Or.inl ⟨v, (T.setVm vm₁).calling g' mk As.toArray, t, U', L, hT, X', hL, e1, e2, hq, st⟩
  · dsimp only [Pt.U, Pt.locs, Pt.cells, Pt.slots] at X' e1 e2 h1 h2 h3 st hcl
    subst h1; subst h2; subst h3
    exact Or.inr ⟨q, (T.setVm vm₁).calling g' mk As.toArray, t, U', L, E, ce, hT, X', hL, e1, e2, hq, hce, hcv, vx_cls hW₁ hcl, st⟩
end Runs
section Rows
variable {p : Program} {l : Launch} {e : Env} {R : Room} {s : State} {m : MethodId} {args : Array Value} {below : List Frame} {meth : Method} {c : Code} {H : Heap} {locs : List Loc} {cells slots : Nat} {Q : State → Prop}
variable {mc ms : Nat} {free : Addr → Prop} {A0 A1 : Nat → Prop} {H0 : Heap} {a : Array Value} {pc : Nat} {ls : Array Slot} {st0 rest : List Value}
theorem vx_keep {st₀ t T' : State} {L : List Loc} (h0 : st₀.heap = H) (e1 : T'.heap = t.heap) (hS : va_S A0 H0 H locs) (hA : ∀ q, q < H.size → A1 q → A0 q) (hf : ∀ q, free q → A0 q) (hL : ∀ q ∈ L, free q.base) (hF : va_F A1 st₀ t) :
    H.size ≤ T'.heap.size ∧ (∀ q : Nat, q < H.size → ¬ A1 q → T'.heap[q]? = H[q]?) ∧ va_S A0 H0 T'.heap (locs ++ L) := by
  obtain ⟨hz, hk⟩ := hF
  rw [h0] at hz hk
  exact ⟨by rw [e1]; exact hz, fun q h1 h2 => by rw [e1]; exact hk q h1 h2,
    ⟨Nat.le_trans hS.1 (by rw [e1]; exact hz), fun q h1 h2 => by rw [e1, hk q (Nat.lt_of_lt_of_le h1 hS.1) (fun z => h2 (hA q (Nat.lt_of_lt_of_le h1 hS.1) z))]; exact hS.2.1 q h1 h2, fun q hq => by
      rcases List.mem_append.mp hq with h | h
      · exact hS.2.2 q h
      · exact hf _ (hL q h)⟩⟩
theorem vx_calli {S SX : Type} {post : Int32 → S → Prop} {px : SX → Prop} {B : S → State → Prop} {BX : String → SX → State → Prop} {AX : Nat → Prop} (hr : vx_Run p l e R s m args below meth c H locs cells slots mc ms (F0 m pc ls st0) rest (va_Qi post B A1 a) (vx_X px BX AX) free) (hS : va_S A0 H0 H locs) (hA : ∀ q, q < H.size → A1 q → A0 q) (hf : ∀ q, free q → A0 q) (hAX : ∀ q, q < H.size → AX q → A0 q)
    (kx : ∀ (E : String) (ce : Cell) (q9 : Addr) (u : SX) (t : State) (H1 : Heap) (locs1 : List Loc), t.heap = H1 → s.vm.Alike t.vm → px u → BX E u t → H.size ≤ H1.size → (∀ q : Nat, q < H.size → ¬ AX q → H1[q]? = H[q]?) → va_S A0 H0 H1 locs1 → H1[q9]? = some ce → ce.vm = .none → s.vm.findClass E = some ce.cls → vx_W p l e R s m args below meth c H1 locs1 (cells + mc) (slots + ms) Q (F0 m pc ls rest) q9)
    (kk : ∀ (r : Int32) (u : S) (t : State) (H1 : Heap) (locs1 : List Loc), t.heap = H1 → s.vm.Alike t.vm → post r u → B u t → H.size ≤ H1.size → (∀ q : Nat, q < H.size → ¬ A1 q → H1[q]? = H[q]?) → va_S A0 H0 H1 locs1 → W p l e R s m args below meth c H1 locs1 (cells + mc) (slots + ms) Q (F0 m (pc + 3) ls (.int r :: rest))) : W p l e R s m args below meth c H locs cells slots Q (F0 m pc ls st0) := by
  intro T hT X
  rcases hr T hT X with ⟨v, st₀, t, T', L, h0, X', hL, e1, e2, ⟨⟨r, u, hv, hp, hb⟩, hF⟩, st⟩ | ⟨q, st₀, t, T', L, E, ce, h0, X', hL, e1, e2, ⟨u, hp, hb, hF⟩, hce, hcv, hcl, st⟩
  · cases hv
    obtain ⟨k1, k2, k3⟩ := vx_keep h0 e1 hS hA hf hL hF
    obtain ⟨t2, a1, b1⟩ := kk r u t T'.heap (locs ++ L) e1.symm (by rw [← e2]; exact X'.warmed.alike) hp hb k1 k2 k3 T' rfl X'
    exact ⟨t2, st t2 a1, b1⟩
  · obtain ⟨k1, k2, k3⟩ := vx_keep h0 e1 hS hAX hf hL hF
    obtain ⟨t2, a1, b1⟩ := kx E ce q u t T'.heap (locs ++ L) e1.symm (by rw [← e2]; exact X'.warmed.alike) hp hb k1 k2 k3 (by rw [e1]; exact hce) hcv hcl T' rfl X'
    exact ⟨t2, st.trans a1, b1⟩
theorem vx_calll {S SX : Type} {post : Int64 → S → Prop} {px : SX → Prop} {B : S → State → Prop} {BX : String → SX → State → Prop} {AX : Nat → Prop} (hr : vx_Run p l e R s m args below meth c H locs cells slots mc ms (F0 m pc ls st0) rest (va_Ql post B A1 a) (vx_X px BX AX) free) (hS : va_S A0 H0 H locs) (hA : ∀ q, q < H.size → A1 q → A0 q) (hf : ∀ q, free q → A0 q) (hAX : ∀ q, q < H.size → AX q → A0 q)
    (kx : ∀ (E : String) (ce : Cell) (q9 : Addr) (u : SX) (t : State) (H1 : Heap) (locs1 : List Loc), t.heap = H1 → s.vm.Alike t.vm → px u → BX E u t → H.size ≤ H1.size → (∀ q : Nat, q < H.size → ¬ AX q → H1[q]? = H[q]?) → va_S A0 H0 H1 locs1 → H1[q9]? = some ce → ce.vm = .none → s.vm.findClass E = some ce.cls → vx_W p l e R s m args below meth c H1 locs1 (cells + mc) (slots + ms) Q (F0 m pc ls rest) q9)
    (kk : ∀ (r : Int64) (u : S) (t : State) (H1 : Heap) (locs1 : List Loc), t.heap = H1 → s.vm.Alike t.vm → post r u → B u t → H.size ≤ H1.size → (∀ q : Nat, q < H.size → ¬ A1 q → H1[q]? = H[q]?) → va_S A0 H0 H1 locs1 → W p l e R s m args below meth c H1 locs1 (cells + mc) (slots + ms) Q (F0 m (pc + 3) ls (.long r :: rest))) : W p l e R s m args below meth c H locs cells slots Q (F0 m pc ls st0) := by
  intro T hT X
  rcases hr T hT X with ⟨v, st₀, t, T', L, h0, X', hL, e1, e2, ⟨⟨r, u, hv, hp, hb⟩, hF⟩, st⟩ | ⟨q, st₀, t, T', L, E, ce, h0, X', hL, e1, e2, ⟨u, hp, hb, hF⟩, hce, hcv, hcl, st⟩
  · cases hv
    obtain ⟨k1, k2, k3⟩ := vx_keep h0 e1 hS hA hf hL hF
    obtain ⟨t2, a1, b1⟩ := kk r u t T'.heap (locs ++ L) e1.symm (by rw [← e2]; exact X'.warmed.alike) hp hb k1 k2 k3 T' rfl X'
    exact ⟨t2, st t2 a1, b1⟩
  · obtain ⟨k1, k2, k3⟩ := vx_keep h0 e1 hS hAX hf hL hF
    obtain ⟨t2, a1, b1⟩ := kx E ce q u t T'.heap (locs ++ L) e1.symm (by rw [← e2]; exact X'.warmed.alike) hp hb k1 k2 k3 (by rw [e1]; exact hce) hcv hcl T' rfl X'
    exact ⟨t2, st.trans a1, b1⟩
theorem vx_callf {S SX : Type} {post : UInt32 → S → Prop} {px : SX → Prop} {B : S → State → Prop} {BX : String → SX → State → Prop} {AX : Nat → Prop} (hr : vx_Run p l e R s m args below meth c H locs cells slots mc ms (F0 m pc ls st0) rest (va_Qf post B A1 a) (vx_X px BX AX) free) (hS : va_S A0 H0 H locs) (hA : ∀ q, q < H.size → A1 q → A0 q) (hf : ∀ q, free q → A0 q) (hAX : ∀ q, q < H.size → AX q → A0 q)
    (kx : ∀ (E : String) (ce : Cell) (q9 : Addr) (u : SX) (t : State) (H1 : Heap) (locs1 : List Loc), t.heap = H1 → s.vm.Alike t.vm → px u → BX E u t → H.size ≤ H1.size → (∀ q : Nat, q < H.size → ¬ AX q → H1[q]? = H[q]?) → va_S A0 H0 H1 locs1 → H1[q9]? = some ce → ce.vm = .none → s.vm.findClass E = some ce.cls → vx_W p l e R s m args below meth c H1 locs1 (cells + mc) (slots + ms) Q (F0 m pc ls rest) q9)
    (kk : ∀ (r : UInt32) (u : S) (t : State) (H1 : Heap) (locs1 : List Loc), t.heap = H1 → s.vm.Alike t.vm → post r u → B u t → H.size ≤ H1.size → (∀ q : Nat, q < H.size → ¬ A1 q → H1[q]? = H[q]?) → va_S A0 H0 H1 locs1 → W p l e R s m args below meth c H1 locs1 (cells + mc) (slots + ms) Q (F0 m (pc + 3) ls (.float r :: rest))) : W p l e R s m args below meth c H locs cells slots Q (F0 m pc ls st0) := by
  intro T hT X
  rcases hr T hT X with ⟨v, st₀, t, T', L, h0, X', hL, e1, e2, ⟨⟨r, u, hv, hp, hb⟩, hF⟩, st⟩ | ⟨q, st₀, t, T', L, E, ce, h0, X', hL, e1, e2, ⟨u, hp, hb, hF⟩, hce, hcv, hcl, st⟩
  · cases hv
    obtain ⟨k1, k2, k3⟩ := vx_keep h0 e1 hS hA hf hL hF
    obtain ⟨t2, a1, b1⟩ := kk r u t T'.heap (locs ++ L) e1.symm (by rw [← e2]; exact X'.warmed.alike) hp hb k1 k2 k3 T' rfl X'
    exact ⟨t2, st t2 a1, b1⟩
  · obtain ⟨k1, k2, k3⟩ := vx_keep h0 e1 hS hAX hf hL hF
    obtain ⟨t2, a1, b1⟩ := kx E ce q u t T'.heap (locs ++ L) e1.symm (by rw [← e2]; exact X'.warmed.alike) hp hb k1 k2 k3 (by rw [e1]; exact hce) hcv hcl T' rfl X'
    exact ⟨t2, st.trans a1, b1⟩
theorem vx_calld {S SX : Type} {post : UInt64 → S → Prop} {px : SX → Prop} {B : S → State → Prop} {BX : String → SX → State → Prop} {AX : Nat → Prop} (hr : vx_Run p l e R s m args below meth c H locs cells slots mc ms (F0 m pc ls st0) rest (va_Qd post B A1 a) (vx_X px BX AX) free) (hS : va_S A0 H0 H locs) (hA : ∀ q, q < H.size → A1 q → A0 q) (hf : ∀ q, free q → A0 q) (hAX : ∀ q, q < H.size → AX q → A0 q)
    (kx : ∀ (E : String) (ce : Cell) (q9 : Addr) (u : SX) (t : State) (H1 : Heap) (locs1 : List Loc), t.heap = H1 → s.vm.Alike t.vm → px u → BX E u t → H.size ≤ H1.size → (∀ q : Nat, q < H.size → ¬ AX q → H1[q]? = H[q]?) → va_S A0 H0 H1 locs1 → H1[q9]? = some ce → ce.vm = .none → s.vm.findClass E = some ce.cls → vx_W p l e R s m args below meth c H1 locs1 (cells + mc) (slots + ms) Q (F0 m pc ls rest) q9)
    (kk : ∀ (r : UInt64) (u : S) (t : State) (H1 : Heap) (locs1 : List Loc), t.heap = H1 → s.vm.Alike t.vm → post r u → B u t → H.size ≤ H1.size → (∀ q : Nat, q < H.size → ¬ A1 q → H1[q]? = H[q]?) → va_S A0 H0 H1 locs1 → W p l e R s m args below meth c H1 locs1 (cells + mc) (slots + ms) Q (F0 m (pc + 3) ls (.double r :: rest))) : W p l e R s m args below meth c H locs cells slots Q (F0 m pc ls st0) := by
  intro T hT X
  rcases hr T hT X with ⟨v, st₀, t, T', L, h0, X', hL, e1, e2, ⟨⟨r, u, hv, hp, hb⟩, hF⟩, st⟩ | ⟨q, st₀, t, T', L, E, ce, h0, X', hL, e1, e2, ⟨u, hp, hb, hF⟩, hce, hcv, hcl, st⟩
  · cases hv
    obtain ⟨k1, k2, k3⟩ := vx_keep h0 e1 hS hA hf hL hF
    obtain ⟨t2, a1, b1⟩ := kk r u t T'.heap (locs ++ L) e1.symm (by rw [← e2]; exact X'.warmed.alike) hp hb k1 k2 k3 T' rfl X'
    exact ⟨t2, st t2 a1, b1⟩
  · obtain ⟨k1, k2, k3⟩ := vx_keep h0 e1 hS hAX hf hL hF
    obtain ⟨t2, a1, b1⟩ := kx E ce q u t T'.heap (locs ++ L) e1.symm (by rw [← e2]; exact X'.warmed.alike) hp hb k1 k2 k3 (by rw [e1]; exact hce) hcv hcl T' rfl X'
    exact ⟨t2, st.trans a1, b1⟩
theorem vx_callv {S SX : Type} {post : S → Prop} {px : SX → Prop} {B : S → State → Prop} {BX : String → SX → State → Prop} {AX : Nat → Prop} (hr : vx_Run p l e R s m args below meth c H locs cells slots mc ms (F0 m pc ls st0) rest (va_Qv post B A1 a) (vx_X px BX AX) free) (hS : va_S A0 H0 H locs) (hA : ∀ q, q < H.size → A1 q → A0 q) (hf : ∀ q, free q → A0 q) (hAX : ∀ q, q < H.size → AX q → A0 q)
    (kx : ∀ (E : String) (ce : Cell) (q9 : Addr) (u : SX) (t : State) (H1 : Heap) (locs1 : List Loc), t.heap = H1 → s.vm.Alike t.vm → px u → BX E u t → H.size ≤ H1.size → (∀ q : Nat, q < H.size → ¬ AX q → H1[q]? = H[q]?) → va_S A0 H0 H1 locs1 → H1[q9]? = some ce → ce.vm = .none → s.vm.findClass E = some ce.cls → vx_W p l e R s m args below meth c H1 locs1 (cells + mc) (slots + ms) Q (F0 m pc ls rest) q9)
    (kk : ∀ (u : S) (t : State) (H1 : Heap) (locs1 : List Loc), t.heap = H1 → s.vm.Alike t.vm → post u → B u t → H.size ≤ H1.size → (∀ q : Nat, q < H.size → ¬ A1 q → H1[q]? = H[q]?) → va_S A0 H0 H1 locs1 → W p l e R s m args below meth c H1 locs1 (cells + mc) (slots + ms) Q (F0 m (pc + 3) ls (rest))) : W p l e R s m args below meth c H locs cells slots Q (F0 m pc ls st0) := by
  intro T hT X
  rcases hr T hT X with ⟨v, st₀, t, T', L, h0, X', hL, e1, e2, ⟨⟨u, hv, hp, hb⟩, hF⟩, st⟩ | ⟨q, st₀, t, T', L, E, ce, h0, X', hL, e1, e2, ⟨u, hp, hb, hF⟩, hce, hcv, hcl, st⟩
  · cases hv
    obtain ⟨k1, k2, k3⟩ := vx_keep h0 e1 hS hA hf hL hF
    obtain ⟨t2, a1, b1⟩ := kk u t T'.heap (locs ++ L) e1.symm (by rw [← e2]; exact X'.warmed.alike) hp hb k1 k2 k3 T' rfl X'
    exact ⟨t2, st t2 a1, b1⟩
  · obtain ⟨k1, k2, k3⟩ := vx_keep h0 e1 hS hAX hf hL hF
    obtain ⟨t2, a1, b1⟩ := kx E ce q u t T'.heap (locs ++ L) e1.symm (by rw [← e2]; exact X'.warmed.alike) hp hb k1 k2 k3 (by rw [e1]; exact hce) hcv hcl T' rfl X'
    exact ⟨t2, st.trans a1, b1⟩
/-- caught by the row x of this method's table; the rows ahead don't take it -/
theorem vx_catch {own name : String} {E : String} {ce : Cell} {q : Addr} (hown : s.vm.findClass own = some m.cls) (pre : List ExceptionTableEntry) (x : ExceptionTableEntry) (suf : List ExceptionTableEntry) (hsplit : c.exceptionTable.toList = pre ++ x :: suf)
    (hpass : ∀ z ∈ pre, covers z pc = false ∨ (z.catchType ≠ 0 ∧ ∃ nm : String, (Cond.classLink own z.catchType nm).before args s = true ∧ va_Nc E nm s)) (hx : covers x pc = true) (h0 : x.catchType ≠ 0)
    (hlink : (Cond.classLink own x.catchType name).before args s = true) (hcast : (Cond.castable E name).before args s = true) (hcell : H[q]? = some ce) (hv : ce.vm = .none) (hcl : s.vm.findClass E = some ce.cls)
    (kk : W p l e R s m args below meth c H locs cells slots Q (F0 m x.handlerPc ls [.ref q])) : vx_W p l e R s m args below meth c H locs cells slots Q (F0 m pc ls rest) q := by
  intro T hT X
  have hpl : e.platform.magicAccessors = ({} : Platform).magicAccessors := by rw [X.admits.platform]
  obtain ⟨c3, c4, hc3, hc4, hasg⟩ := Cond.castable_spec hcast
  cases Option.some.inj (hc3.symm.trans hcl)
  obtain ⟨c5, hc5, hcl5⟩ := Cond.classLink_spec hown hlink e.platform hpl
  cases Option.some.inj (hc4.symm.trans hc5)
  obtain ⟨vm', X', st⟩ := X.thenCaughtThrough q (g := F0 m pc ls rest) rfl (Steps.refl _) (by rw [hT]; exact hcell) (by rw [hv]; rfl) (by obtain ⟨k9, h9, -⟩ := Vm.findClass_spec hcl; exact ⟨k9, h9⟩) pre x suf hsplit
    (fun z hz => by
      rcases hpass z hz with h | ⟨hz0, nm, hl1, hn1⟩
      · exact Or.inl h
      · obtain ⟨c6, hc6, hcl6⟩ := Cond.classLink_spec hown hl1 e.platform hpl
        obtain ⟨a8, b8, h1, h2, h3⟩ := hn1
        cases Option.some.inj (h1.symm.trans hcl)
        cases Option.some.inj (h2.symm.trans hc6)
        exact Or.inr ⟨hz0, _, hcl6, h3⟩) hx (Or.inr ⟨h0, c4, hcl5, hasg⟩)
  obtain ⟨t, a1, b1⟩ := kk (T.setVm vm') hT X'
  exact ⟨t, st.trans a1, b1⟩
end Rows
section Ends
variable {p : Program} {l : Launch} {e : Env} {R : Room} {s : State} {m : MethodId} {args : Array Value} {below : List Frame} {meth : Method} {c : Code} {H : Heap} {locs : List Loc} {cells slots : Nat} {Q : State → Prop}
variable {mc ms : Nat} {free : Addr → Prop} {A0 A1 : Nat → Prop} {H0 : Heap} {a : Array Value} {ls : Array Slot} {st0 rest : List Value}
variable {Qc : Array Value → State → Outcome → State → Prop} {XC : String → State → State → Prop}
/-- what a body that may throw owes at its end -/
def vx_MQ (below : List Frame) (Qc : Array Value → State → Outcome → State → Prop) (XC : String → State → State → Prop) (a : Array Value) (s : State) (mc ms : Nat) (free : Addr → Prop) : State → Prop := fun t =>
  ∃ o, t.status = .running ∧ Ended t below o ∧ vx_Q Qc XC mc ms free a s o t
theorem vx_ret {g : JFrame} {mc ms : Nat} (k : W p l e R s m args below meth c H locs cells slots (MQ below Qc args s mc ms free) g) : W p l e R s m args below meth c H locs cells slots (vx_MQ below Qc XC args s mc ms free) g := by
  intro T hT X
  obtain ⟨t, a1, o, b1, b2, b3, b4⟩ := k T hT X
  exact ⟨t, a1, o, b1, b2, Or.inl ⟨b3, b4⟩⟩
/-- not caught here: it goes on to the caller -/
theorem vx_widen {g : JFrame} {q : Addr} {k n : Nat} (h1 : cells ≤ k) (h2 : slots ≤ n) (kk : vx_W p l e R s m args below meth c H locs k n Q g q) : vx_W p l e R s m args below meth c H locs cells slots Q g q := fun T hT X => kk T hT (stand_widen X h1 h2)
theorem vx_out {pc : Nat} {E : String} {ce : Cell} {q : Addr} {mc ms : Nat} (hout : ∀ x ∈ c.exceptionTable.toList, covers x pc = false) (hlocks : meth.locks = false) (hcell : H[q]? = some ce) (hv : ce.vm = .none) (hcl : s.vm.findClass E = some ce.cls)
    (hx : ∀ t : State, t.heap = H → s.vm.Alike t.vm → XC E s t) (hf : ∀ z ∈ locs, free z.base) (hc : cells ≤ mc) (hs : slots ≤ ms) :
    vx_W p l e R s m args below meth c H locs cells slots (vx_MQ below Qc XC args s mc ms free) (F0 m pc ls rest) q := by
  intro T hT X
  obtain ⟨st1, hrun, hend, hW, hsm⟩ := X.leaveThrown q (g := F0 m pc ls rest) rfl rfl rfl hout hlocks
  have hcell9 : (T.setFrames (.throwing q :: below)).heap[q]? = some ce := by
    show T.heap[q]? = some ce
    rw [hT]; exact hcell
  exact ⟨_, st1, .threw q, hrun, hend, Or.inr ⟨q, rfl, E, ce, locs, hx _ hT hW.alike, hcell9, hv, hcl, hW, hsm.mono hc hs, hf⟩⟩
theorem vx_frame {U : State} {k n : Nat} (h : s.sameButNew ({ U with vm := s.vm } : State) locs k n) : s.heap.size ≤ U.heap.size ∧ ∀ q : Nat, q < s.heap.size → (∀ z ∈ locs, z.base ≠ q) → U.heap[q]? = s.heap[q]? := by
  obtain ⟨-, h2, -, -, -, h6⟩ := h
  refine ⟨h2, fun q hq hz => ?_⟩
  obtain ⟨c9, e1, e2, e3, e4⟩ := h6 q _ (Array.getElem?_eq_getElem hq)
  have hs : c9.slots = (s.heap[q]).slots := Array.ext_getElem? fun i => e4 i fun hm => hz _ hm rfl
  have h9 : c9 = s.heap[q] := by
    rw [hs] at e2
    exact e2
  have e5 : U.heap[q]? = some c9 := e1
  rw [e5, h9, Array.getElem?_eq_getElem hq]
/-- the words of a throw but the four that speak of the heap -/
def vx_no (w : Cond) : Bool := decide (w ≠ .isRef (.static Bundle.tN "UNASSIGNED_STACK" Bundle.steD)) && decide (w ≠ .isRef (.static Bundle.tN "SUPPRESSED_SENTINEL" Bundle.listD)) && decide (w ≠ .laysStatic Bundle.tN "UNASSIGNED_STACK" Bundle.steD) && decide (w ≠ .laysStatic Bundle.tN "SUPPRESSED_SENTINEL" Bundle.listD)
def vx_at0 (own : String) (ic : Nat) (X : String) (names : List String) : List Cond := (Bundle.ownAtoms0 own ic X names).filter vx_no
def vx_atS (own : String) (ic : Nat) (X : String) (names : List String) : List Cond := (Bundle.ownAtoms own ic X names).filter vx_no
/-- a word that the tables alone decide, or a good one -/
def vx_ot (w : Cond) : Bool := w.onTables || goodWord w
theorem vx_ot_at {args a' : Array Value} {s U : State} {w : Cond} (hW : s.WarmedH U.vm) (hvm : s.vm = U.vm) (hg : vx_ot w = true) (h : w.before args s = true) : w.before a' U = true := by
  simp only [vx_ot, Bool.or_eq_true] at hg
  rcases hg with hg | hg
  · exact va_tabs hg hvm h
  · exact word_at hW (good_of_word hg) h
/-- a list's words: the good ones out of the method's own list, the others by premises of their own -/
theorem vx_hat {args : Array Value} {s : State} {L B : List Cond} (h1 : ∀ w ∈ L.filter goodWord, w.before args s = true) (h2 : ∀ w ∈ L.filter (fun w => !goodWord w), w ∈ B) (h3 : ∀ w ∈ B, w.before args s = true) : ∀ w ∈ L, w.before args s = true := by
  intro w hw
  by_cases g : goodWord w = true
  · exact h1 w (List.mem_filter.mpr ⟨hw, g⟩)
  · refine h3 w (h2 w (List.mem_filter.mpr ⟨hw, ?_⟩))
    show (!goodWord w) = true
    cases hgw : goodWord w
    · rfl
    · exact absurd hgw g
theorem vx_c {args : Array Value} {s : State} {w : Cond} {B : List Cond} (h : w.before args s = true) (t : ∀ w ∈ B, w.before args s = true) : ∀ w' ∈ w :: B, w'.before args s = true := fun w' h' => (List.mem_cons.mp h').elim (fun e => by rw [e]; exact h) (t w')
theorem vx_n {args : Array Value} {s : State} : ∀ w ∈ ([] : List Cond), w.before args s = true := fun _ h => nomatch h
theorem vx_own {args : Array Value} {s : State} {L : List Cond} (h1 : ∀ w ∈ L.filter vx_no, w.before args s = true)
    (hU : (Cond.isRef (.static Bundle.tN "UNASSIGNED_STACK" Bundle.steD)).before args s = true) (hN : (Cond.isRef (.static Bundle.tN "SUPPRESSED_SENTINEL" Bundle.listD)).before args s = true)
    (lU : (Cond.laysStatic Bundle.tN "UNASSIGNED_STACK" Bundle.steD).before args s = true) (lN : (Cond.laysStatic Bundle.tN "SUPPRESSED_SENTINEL" Bundle.listD).before args s = true) : ∀ w ∈ L, w.before args s = true := by
  intro w hw
  by_cases e1 : w = .isRef (.static Bundle.tN "UNASSIGNED_STACK" Bundle.steD)
  · rw [e1]; exact hU
  · by_cases e2 : w = .isRef (.static Bundle.tN "SUPPRESSED_SENTINEL" Bundle.listD)
    · rw [e2]; exact hN
    · by_cases e3 : w = .laysStatic Bundle.tN "UNASSIGNED_STACK" Bundle.steD
      · rw [e3]; exact lU
      · by_cases e4 : w = .laysStatic Bundle.tN "SUPPRESSED_SENTINEL" Bundle.listD
        · rw [e4]; exact lN
        · exact h1 w (List.mem_filter.mpr ⟨hw, by unfold vx_no; rw [decide_eq_true e1, decide_eq_true e2, decide_eq_true e3, decide_eq_true e4]; rfl⟩)
/-- where a static field lies, its class's statics cell in H -/
def vx_L (C n d : String) (A : Nat → Prop) (U : State) (H : Heap) : Prop := ∃ (c : ClassId) (k : Class) (i : Nat) (f : Field) (a : Nat) (cell : Cell), U.vm.findClass C = some c ∧ U.fieldFound? C n d = some (c, k, i, f) ∧ f.isStatic = true ∧ k.statics = some a ∧ H[a]? = some cell ∧ cell.vm.isStatics = true ∧ cell.cls = c ∧ f.slot < cell.slots.size ∧ k.staticTypes[f.slot]? = some f.type ∧ ¬ A a
theorem vx_L.moved {C n d : String} {A : Nat → Prop} {u U : State} {H : Heap} (hvm : u.vm.Alike U.vm) (h : vx_L C n d A u H) : vx_L C n d A U H := by
  obtain ⟨c, k, i, f, a, cell, h1, h2, h3, h4, h5, h6, h7, h8, h9, h10⟩ := h
  obtain ⟨k', hi', he⟩ := State.fieldFound?_setVm hvm h2
  exact ⟨c, k', i, f, a, cell, by rw [hvm.findClass]; exact h1, hi', h3, by rw [he]; exact h4, h5, h6, h7, h8, by rw [he]; exact h9, h10⟩
theorem vx_L.kept {C n d : String} {A : Nat → Prop} {U : State} {H H1 : Heap} (h : vx_L C n d A U H) (hq : ∀ a : Nat, a < H.size → ¬ A a → H1[a]? = H[a]?) : vx_L C n d A U H1 := by
  obtain ⟨c, k, i, f, a, cell, h1, h2, h3, h4, h5, h6, h7, h8, h9, h10⟩ := h
  exact ⟨c, k, i, f, a, cell, h1, h2, h3, h4, by rw [hq a (Array.getElem?_eq_some_iff.mp h5).1 h10]; exact h5, h6, h7, h8, h9, h10⟩
theorem vx_L.narrow {C n d : String} {A B : Nat → Prop} {U : State} {H : Heap} (h : vx_L C n d A U H) (hAB : ∀ q, B q → A q) : vx_L C n d B U H := by
  obtain ⟨c, k, i, f, a, cell, h1, h2, h3, h4, h5, h6, h7, h8, h9, h10⟩ := h
  exact ⟨c, k, i, f, a, cell, h1, h2, h3, h4, h5, h6, h7, h8, h9, fun z => h10 (hAB _ z)⟩
theorem vx_L.word {C n d : String} {A : Nat → Prop} {s : State} {args : Array Value} (h : vx_L C n d A s s.heap) : (Cond.laysStatic C n d).before args s = true := by
  obtain ⟨c, k, i, f, a, cell, h1, h2, h3, h4, h5, h6, h7, h8, h9, -⟩ := h
  show (Cond.laysStatic C n d).holds args s none s [] = true
  exact Cond.laysStatic_of h1 h2 h3 h4 h5 h6 h7 h8 h9
/-- .. and what it holds: null or some reference -/
def vx_Zq (C n d : String) (A : Nat → Prop) (U : State) (H : Heap) : Prop := va_Zq C n d A U H ∧ vx_L C n d A U H
theorem vx_Zq.moved {C n d : String} {A : Nat → Prop} {u U : State} {H : Heap} (hvm : u.vm.Alike U.vm) (h : vx_Zq C n d A u H) : vx_Zq C n d A U H := ⟨va_Zq.moved hvm h.1, vx_L.moved hvm h.2⟩
theorem vx_Zq.kept {C n d : String} {A : Nat → Prop} {U : State} {H H1 : Heap} (h : vx_Zq C n d A U H) (hq : ∀ a : Nat, a < H.size → ¬ A a → H1[a]? = H[a]?) : vx_Zq C n d A U H1 := ⟨va_Zq.kept h.1 hq, vx_L.kept h.2 hq⟩
theorem vx_Zq.narrow {C n d : String} {A B : Nat → Prop} {U : State} {H : Heap} (h : vx_Zq C n d A U H) (hAB : ∀ q, B q → A q) : vx_Zq C n d B U H := ⟨va_Zq.narrow h.1 hAB, vx_L.narrow h.2 hAB⟩
theorem vx_Zqof {args : Array Value} {s : State} {C n d : String} {A : Nat → Prop} (hl : (Cond.laysStatic C n d).before args s = true) (hini : (Cond.initialized C).before args s = true) (h : (Cond.isRef (.static C n d)).before args s = true) (hA : ∀ a : Nat, a < s.heap.size → ¬ A a) : vx_Zq C n d A s s.heap := by
  refine ⟨va_Zqof hl hini h hA, ?_⟩
  obtain ⟨c, k, i, f, a, cell, h1, h2, h3, h4, h5, h6, h7, h8, h9⟩ := Cond.laysStatic_spec hl
  exact ⟨c, k, i, f, a, cell, h1, h2, h3, h4, h5, h6, h7, h8, h9, hA a (Array.getElem?_eq_some_iff.mp h5).1⟩
theorem vx_isRef {C n d : String} {v : Value} {A : Nat → Prop} {s : State} {args : Array Value} (h : va_Z C n d v A s s.heap) (hv : v.isRef = true) : (Cond.isRef (.static C n d)).before args s = true := by
  obtain ⟨cf, kf, fi, f, a, cell, h1, h2, h3, h4, h5, h6, h7, -⟩ := h
  have he : (Term.static C n d).eval args s none [] s = some v := by
    simp [Term.eval, State.fieldNamed?, h1, h2, h4, h5, h6, h7]
  simp only [Cond.before, Cond.holds, Cond.value, he]
  cases v <;> simp_all [Value.isRef]
theorem vx_isRefq {C n d : String} {A : Nat → Prop} {s : State} {args : Array Value} (h : va_Zq C n d A s s.heap) : (Cond.isRef (.static C n d)).before args s = true := by
  rcases h with h | ⟨t, h⟩
  · exact vx_isRef h rfl
  · exact vx_isRef h rfl
/-- the same frame, seen from here: as if the method were called anew in this heap -/
theorem vx_rebase {T : State} (X : Stand p l e R s m args below meth c T locs cells slots) {R' : Room} (hf : R'.frames ≤ R.frames) (hl : R'.locals ≤ R.locals) (hc : cells + R'.cells ≤ R.cells) (hs : slots + R'.slots ≤ R.slots) :
    Stand p l e R' ((T.setVm s.vm).setFrames (.invoking m args :: below)) m args below meth c T [] 0 0 := by
  have htop : (T.setVm s.vm).topJava?.isSome := X.here.top
  have hF : ((T.setVm s.vm).setFrames (.invoking m args :: below)).frames = .invoking m args :: below := State.frames_setFrames _ (State.cur_lt_of_top htop)
  obtain ⟨g₀, hg0⟩ := Option.isSome_iff_exists.mp htop
  obtain ⟨r, hr⟩ := State.topJava?_eq_some.mp hg0
  have hl9 : e.platform.stackLimits (T.setVm s.vm).me = e.platform.stackLimits s.me := X.limits
  have hb9 : (T.setVm s.vm).me.stackBytes = s.me.stackBytes := X.bytes
  refine ⟨X.admits, X.cas, X.clock, hF, ?_, X.hears, X.method, X.code, X.here, X.tail, X.warmed, ?_, ?_, ?_⟩
  · have h := X.room
    have hU : ((T.setVm s.vm).setFrames (.invoking m args :: below)).localsInUse = s.localsInUse := by
      rw [State.localsInUse_invoking hF (meth := meth) (c := c) X.method X.code, State.localsInUse_invoking X.frames X.method X.code]
    simp only [State.hasRoom, Bool.and_eq_true, decide_eq_true_eq] at h ⊢
    obtain ⟨⟨⟨⟨h1, h2, h3, h4, h5, h6⟩, h7⟩, h8⟩, h9⟩ := h
    rw [X.frames, List.length_cons] at h2 h3
    have q1 := X.heapSize
    have q2 := X.used
    simp only [hF, hU, List.length_cons, State.stackLimits_setFrames, State.stackBytes_setFrames, hl9, hb9]
    refine ⟨⟨⟨⟨by omega, by omega, by omega, by omega, by omega, h6⟩, ?_⟩, ?_⟩, X.book⟩
    · show T.heap.size + R'.cells ≤ e.platform.maxCells
      omega
    · show T.slotsUsed + R'.slots ≤ e.platform.maxSlots
      omega
  · rw [State.stackLimits_setFrames]; rfl
  · rw [State.stackBytes_setFrames]; rfl
  · refine ⟨?_, Nat.le_refl _, Nat.le_refl _, ?_, ?_, fun a c9 h9 => ⟨c9, h9, rfl, rfl, fun _ _ => rfl⟩⟩
    · obtain ⟨t, ht, -⟩ := State.frames_cons hr
      show T.setVm s.vm = { ((T.setVm s.vm).setFrames (.invoking m args :: below)).setFrames (T.setVm s.vm).frames with heap := T.heap, slotsUsed := T.slotsUsed }
      rw [State.setFrames_setFrames, State.setFrames_self ht]
      rfl
    · show T.slotsUsed = T.slotsUsed + ((T.heap.toList.drop T.heap.size).map (·.slots.size)).sum
      rw [List.drop_eq_nil_of_le (Nat.le_of_eq Array.length_toList)]
      rfl
    · show ((T.heap.toList.drop T.heap.size).map (·.slots.size)).sum ≤ 0
      rw [List.drop_eq_nil_of_le (Nat.le_of_eq Array.length_toList)]
      exact Nat.le_refl _
/-- 'throw new E()': new; dup; invokespecial; athrow -/
theorem vx_throw0 {cc : ByteArray} {pc : Nat} (hexec : p.tables.exec = Jvm.exec) (hb : c.code = cc) (hl : l.stackTraces = false) {own cls : String} {names : List String} {ik ic mc ms : Nat} {A : Nat → Prop}
    (hown : s.vm.findClass own = some m.cls) (hcls : Bundle.fit cls = true) (hnames : ∀ n ∈ names, Bundle.fit n = true)
    (hk : (Cond.classLink own ik cls).before args s = true) (hini : (Cond.initialized cls).before args s = true) (hat : ∀ w ∈ vx_at0 own ic cls names, w.before args s = true)
    (hgood : ∀ w ∈ Cond.classLink own ik cls :: Cond.initialized cls :: vx_at0 own ic cls names, vx_ot w = true)
    (hU : vx_Zq Bundle.tN "UNASSIGNED_STACK" Bundle.steD A s s.heap) (hN : vx_Zq Bundle.tN "SUPPRESSED_SENTINEL" Bundle.listD A s s.heap) (hS : va_S A s.heap H locs) (hsize : ls.size = c.maxLocals)
    (d0 : decode cc pc = .ok (.new ik, 3)) (d3 : decode cc (pc + 3) = .ok (.dup, 1)) (d4 : decode cc (pc + 4) = .ok (.invokespecial ic, 3)) (d7 : decode cc (pc + 7) = .ok (.athrow, 1))
    (hout : ∀ x ∈ c.exceptionTable.toList, covers x (pc + 7) = false)
    (hRframes : names.length + 3 < R.frames) (hRlocals : (rest.map fun v => v.category).sum + (13 * (names.length + 1) + 42) ≤ R.locals) (hRcells : cells + 1 ≤ R.cells) (hRslots : slots + 6 ≤ R.slots) (hlocks : meth.locks = false)
    (hx : ∀ t : State, s.vm.Alike t.vm → H.size ≤ t.heap.size → (∀ q : Nat, q < H.size → t.heap[q]? = H[q]?) → XC cls s t)
    (hf : ∀ z ∈ locs, free z.base) (hc : cells + 1 ≤ mc) (hs : slots + 6 ≤ ms) :
    W p l e R s m args below meth c H locs cells slots (vx_MQ below Qc XC args s mc ms free) (F0 m pc ls rest) := by
  intro T hT X
  have htr : e.platform.stackTraces = false := (show e.platform.stackTraces = l.stackTraces by rw [X.admits.platform]).trans hl
  have Y := vx_rebase X (R' := { frames := R.frames, locals := R.locals, cells := 1, slots := 6 }) (Nat.le_refl _) (Nat.le_refl _) hRcells hRslots
  obtain ⟨s', hA⟩ : ∃ z, z = (T.setVm s.vm).setFrames (.invoking m args :: below) := ⟨_, rfl⟩
  rw [← hA] at Y
  have hvm : s'.vm = s.vm := by rw [hA]; rfl
  have hhp : s'.heap = H := by rw [hA]; exact hT
  have hW0 : s.WarmedH s'.vm := by rw [hvm]; exact State.WarmedH.refl s
  have hat' : ∀ w ∈ vx_at0 own ic cls names, w.before args s' = true := fun w hw => vx_ot_at hW0 hvm.symm (hgood w (List.mem_cons_of_mem _ (List.mem_cons_of_mem _ hw))) (hat w hw)
  have hk' : (Cond.classLink own ik cls).before args s' = true := vx_ot_at hW0 hvm.symm (hgood _ List.mem_cons_self) hk
  have hini' : (Cond.initialized cls).before args s' = true := vx_ot_at hW0 hvm.symm (hgood _ (List.mem_cons_of_mem _ List.mem_cons_self)) hini
  have hU' : vx_Zq Bundle.tN "UNASSIGNED_STACK" Bundle.steD A s' s'.heap := by rw [hhp]; exact vx_Zq.moved hW0.alike (hU.kept hS.2.1)
  have hN' : vx_Zq Bundle.tN "SUPPRESSED_SENTINEL" Bundle.listD A s' s'.heap := by rw [hhp]; exact vx_Zq.moved hW0.alike (hN.kept hS.2.1)
  have h : ∀ w ∈ Bundle.ownAtoms0 own ic cls names, w.before args s' = true := vx_own hat' (vx_isRefq hU'.1) (vx_isRefq hN'.1) hU'.2.word hN'.2.word
  have hown' : s'.vm.findClass own = some m.cls := by rw [hvm]; exact hown
  have hins : (Cond.instantiable cls 6).before args s' = true := h _ (by simp [Bundle.ownAtoms0])
  obtain ⟨vm₁, cX, kX, hfX, hkX, -, -, X₁, st1⟩ := Y.newCold hexec (own := own) (C := cls) (index := ik) (n := 6) hown' hk' hins hini'
    (g := F0 m pc ls rest) rfl (by rw [hb]; exact d0) (Nat.le_refl _) (Nat.le_refl _)
  generalize hT1 : (T.setVm vm₁).pushCell { cls := cX, slots := kX.instanceTypes.map defaultValue, vm := .none } = T1 at X₁ st1
  have hcat : (Value.ref T.heap.size).category = 1 := rfl
  have hcellA : T1.heap[T.heap.size]? = some (freshCell cX kX) := by rw [← hT1]; exact State.heap_pushCell_size _ _
  have d3' : decode c.code (pc + 3) = .ok (.dup, 1) := by rw [hb]; exact d3
  obtain ⟨U, hsteps, hrun, hend, hW, hsame, ce, hce, hO⟩ := X₁.ctorThrow0 hexec htr (own := own) (cls := cls) (names := names) (ic := ic) hown' hcls hnames h (fun x hx => nomatch hx) hfX hkX hcellA (by rw [hhp, hT]; exact Nat.le_refl _)
    (g := { method := m, pc := pc + 4, locals := ls, stack := .ref T.heap.size :: .ref T.heap.size :: rest, locked := none }) rfl hsize rfl rfl (rest := rest) rfl
    (by rw [hb]; exact d4) (by rw [hb]; exact d7) hout hRframes (by simp only [List.map_cons, List.sum_cons, hcat]; omega) hlocks
  obtain ⟨f1, f2⟩ := vx_frame hsame
  rw [hhp] at f1 f2
  have hWs : s.WarmedH U.vm := State.WarmedH.trans hW0 hW
  have hcl : s.vm.findClass cls = some ce.cls := by
    have h9 := hO.cls
    rw [hvm] at h9
    exact h9
  have hall : s.sameButNew ({ U with vm := s.vm } : State) locs mc ms := by
    subst hA
    obtain ⟨e1, e2⟩ := hsame
    rw [State.setFrames_setFrames] at e1
    have h2 : (T.setVm s.vm).sameButNew ({ U with vm := s.vm } : State) [] (0 + 1) (0 + 6) := ⟨e1, e2⟩
    have h3 := X.same.trans h2
    rw [List.append_nil] at h3
    exact h3.mono hc hs
  refine ⟨U, ?_, .threw T.heap.size, hrun, hend, Or.inr ⟨T.heap.size, rfl, cls, ce, locs, hx U hWs.alike f1 (fun q hq => f2 q hq (fun z hz => nomatch hz)), hce, hO.vm, hcl, hWs, hall, hf⟩⟩
  refine st1 _ ?_
  show Steps p.tables e below (T1.setTop { method := m, pc := pc + 3, locals := ls, stack := .ref T.heap.size :: rest, locked := none }) _
  jvm_step X₁.here [X₁.here.top, hexec, d3', Value.category]
  exact hsteps
/-- 'throw new E("text")': new; dup; ldc; invokespecial; athrow -/
theorem vx_throwS {cc : ByteArray} {pc : Nat} (hexec : p.tables.exec = Jvm.exec) (hb : c.code = cc) (hl : l.stackTraces = false) {own cls text : String} {names : List String} {ik is ic mc ms sa : Nat} {A : Nat → Prop}
    (hown : s.vm.findClass own = some m.cls) (hcls : Bundle.fit cls = true) (hnames : ∀ n ∈ names, Bundle.fit n = true)
    (hk : (Cond.classLink own ik cls).before args s = true) (hini : (Cond.initialized cls).before args s = true) (hstr : vk_R own is text sa s) (hat : ∀ w ∈ vx_atS own ic cls names, w.before args s = true)
    (hgood : ∀ w ∈ Cond.classLink own ik cls :: Cond.initialized cls :: vx_atS own ic cls names, vx_ot w = true)
    (hU : vx_Zq Bundle.tN "UNASSIGNED_STACK" Bundle.steD A s s.heap) (hN : vx_Zq Bundle.tN "SUPPRESSED_SENTINEL" Bundle.listD A s s.heap) (hS : va_S A s.heap H locs) (hsize : ls.size = c.maxLocals)
    (d0 : decode cc pc = .ok (.new ik, 3)) (d3 : decode cc (pc + 3) = .ok (.dup, 1)) (d4 : decode cc (pc + 4) = .ok (.ldc is, 2)) (d6 : decode cc (pc + 6) = .ok (.invokespecial ic, 3)) (d9 : decode cc (pc + 9) = .ok (.athrow, 1))
    (hout : ∀ x ∈ c.exceptionTable.toList, covers x (pc + 9) = false)
    (hRframes : names.length + 3 < R.frames) (hRlocals : (rest.map fun v => v.category).sum + (13 * (names.length + 1) + 43) ≤ R.locals) (hRcells : cells + 1 ≤ R.cells) (hRslots : slots + 6 ≤ R.slots) (hlocks : meth.locks = false)
    (hx : ∀ t : State, s.vm.Alike t.vm → H.size ≤ t.heap.size → (∀ q : Nat, q < H.size → t.heap[q]? = H[q]?) → XC cls s t)
    (hf : ∀ z ∈ locs, free z.base) (hc : cells + 1 ≤ mc) (hs : slots + 6 ≤ ms) :
    W p l e R s m args below meth c H locs cells slots (vx_MQ below Qc XC args s mc ms free) (F0 m pc ls rest) := by
  intro T hT X
  have htr : e.platform.stackTraces = false := (show e.platform.stackTraces = l.stackTraces by rw [X.admits.platform]).trans hl
  have Y := vx_rebase X (R' := { frames := R.frames, locals := R.locals, cells := 1, slots := 6 }) (Nat.le_refl _) (Nat.le_refl _) hRcells hRslots
  obtain ⟨s', hA⟩ : ∃ z, z = (T.setVm s.vm).setFrames (.invoking m args :: below) := ⟨_, rfl⟩
  rw [← hA] at Y
  have hvm : s'.vm = s.vm := by rw [hA]; rfl
  have hhp : s'.heap = H := by rw [hA]; exact hT
  have hW0 : s.WarmedH s'.vm := by rw [hvm]; exact State.WarmedH.refl s
  have hat' : ∀ w ∈ vx_atS own ic cls names, w.before args s' = true := fun w hw => vx_ot_at hW0 hvm.symm (hgood w (List.mem_cons_of_mem _ (List.mem_cons_of_mem _ hw))) (hat w hw)
  have hk' : (Cond.classLink own ik cls).before args s' = true := vx_ot_at hW0 hvm.symm (hgood _ List.mem_cons_self) hk
  have hini' : (Cond.initialized cls).before args s' = true := vx_ot_at hW0 hvm.symm (hgood _ (List.mem_cons_of_mem _ List.mem_cons_self)) hini
  have hU' : vx_Zq Bundle.tN "UNASSIGNED_STACK" Bundle.steD A s' s'.heap := by rw [hhp]; exact vx_Zq.moved hW0.alike (hU.kept hS.2.1)
  have hN' : vx_Zq Bundle.tN "SUPPRESSED_SENTINEL" Bundle.listD A s' s'.heap := by rw [hhp]; exact vx_Zq.moved hW0.alike (hN.kept hS.2.1)
  have h : ∀ w ∈ Bundle.ownAtoms own ic cls names, w.before args s' = true := vx_own hat' (vx_isRefq hU'.1) (vx_isRefq hN'.1) hU'.2.word hN'.2.word
  have hown' : s'.vm.findClass own = some m.cls := by rw [hvm]; exact hown
  have hins : (Cond.instantiable cls 6).before args s' = true := h _ (by simp [Bundle.ownAtoms])
  obtain ⟨vm₁, cX, kX, hfX, hkX, -, -, X₁, st1⟩ := Y.newCold hexec (own := own) (C := cls) (index := ik) (n := 6) hown' hk' hins hini'
    (g := F0 m pc ls rest) rfl (by rw [hb]; exact d0) (Nat.le_refl _) (Nat.le_refl _)
  generalize hT1 : (T.setVm vm₁).pushCell { cls := cX, slots := kX.instanceTypes.map defaultValue, vm := .none } = T1 at X₁ st1
  have hcat : (Value.ref T.heap.size).category = 1 := rfl
  have hcellA : T1.heap[T.heap.size]? = some (freshCell cX kX) := by rw [← hT1]; exact State.heap_pushCell_size _ _
  have d3' : decode c.code (pc + 3) = .ok (.dup, 1) := by rw [hb]; exact d3
  have d4' : decode c.code (pc + 4) = .ok (.ldc is, 2) := by rw [hb]; exact d4
  have hstr' : vk_R own is text sa s' := vk_R.warm hW0 hstr
  obtain ⟨U, hsteps, hrun, hend, hW, hsame, ce, hce, hO⟩ := X₁.ctorThrowS hexec htr (own := own) (cls := cls) (names := names) (ic := ic) hown' hcls hnames h (fun x hx => nomatch hx) hfX hkX hcellA (by rw [hhp, hT]; exact Nat.le_refl _) (msg := .ref sa) rfl
    (g := { method := m, pc := pc + 6, locals := ls, stack := .ref sa :: .ref T.heap.size :: .ref T.heap.size :: rest, locked := none }) rfl hsize rfl rfl (rest := rest) rfl
    (by rw [hb]; exact d6) (by rw [hb]; exact d9) hout hRframes (by simp only [List.map_cons, List.sum_cons, hcat]; omega) hlocks
  obtain ⟨f1, f2⟩ := vx_frame hsame
  rw [hhp] at f1 f2
  have hWs : s.WarmedH U.vm := State.WarmedH.trans hW0 hW
  have hcl : s.vm.findClass cls = some ce.cls := by
    have h9 := hO.cls
    rw [hvm] at h9
    exact h9
  have hall : s.sameButNew ({ U with vm := s.vm } : State) locs mc ms := by
    subst hA
    obtain ⟨e1, e2⟩ := hsame
    rw [State.setFrames_setFrames] at e1
    have h2 : (T.setVm s.vm).sameButNew ({ U with vm := s.vm } : State) [] (0 + 1) (0 + 6) := ⟨e1, e2⟩
    have h3 := X.same.trans h2
    rw [List.append_nil] at h3
    exact h3.mono hc hs
  refine ⟨U, ?_, .threw T.heap.size, hrun, hend, Or.inr ⟨T.heap.size, rfl, cls, ce, locs, hx U hWs.alike f1 (fun q hq => f2 q hq (fun z hz => nomatch hz)), hce, hO.vm, hcl, hWs, hall, hf⟩⟩
  refine st1 _ ?_
  show Steps p.tables e below (T1.setTop { method := m, pc := pc + 3, locals := ls, stack := .ref T.heap.size :: rest, locked := none }) _
  jvm_step X₁.here [X₁.here.top, hexec, d3', Value.category]
  exact X₁.ldcString hexec (own := own) (text := text) (index := is) (a := sa) hown' hstr'.1 hstr'.2
    (g := { method := m, pc := pc + 4, locals := ls, stack := .ref T.heap.size :: .ref T.heap.size :: rest, locked := none }) rfl d4' _ hsteps
/-- 'throw new E("text")', the text by a wide index -/
theorem vx_throwSW {cc : ByteArray} {pc : Nat} (hexec : p.tables.exec = Jvm.exec) (hb : c.code = cc) (hl : l.stackTraces = false) {own cls text : String} {names : List String} {ik is ic mc ms sa : Nat} {A : Nat → Prop}
    (hown : s.vm.findClass own = some m.cls) (hcls : Bundle.fit cls = true) (hnames : ∀ n ∈ names, Bundle.fit n = true)
    (hk : (Cond.classLink own ik cls).before args s = true) (hini : (Cond.initialized cls).before args s = true) (hstr : vk_R own is text sa s) (hat : ∀ w ∈ vx_atS own ic cls names, w.before args s = true)
    (hgood : ∀ w ∈ Cond.classLink own ik cls :: Cond.initialized cls :: vx_atS own ic cls names, vx_ot w = true)
    (hU : vx_Zq Bundle.tN "UNASSIGNED_STACK" Bundle.steD A s s.heap) (hN : vx_Zq Bundle.tN "SUPPRESSED_SENTINEL" Bundle.listD A s s.heap) (hS : va_S A s.heap H locs) (hsize : ls.size = c.maxLocals)
    (d0 : decode cc pc = .ok (.new ik, 3)) (d3 : decode cc (pc + 3) = .ok (.dup, 1)) (d4 : decode cc (pc + 4) = .ok (.ldc_w is, 3)) (d7 : decode cc (pc + 7) = .ok (.invokespecial ic, 3)) (d10 : decode cc (pc + 10) = .ok (.athrow, 1))
    (hout : ∀ x ∈ c.exceptionTable.toList, covers x (pc + 10) = false)
    (hRframes : names.length + 3 < R.frames) (hRlocals : (rest.map fun v => v.category).sum + (13 * (names.length + 1) + 43) ≤ R.locals) (hRcells : cells + 1 ≤ R.cells) (hRslots : slots + 6 ≤ R.slots) (hlocks : meth.locks = false)
    (hx : ∀ t : State, s.vm.Alike t.vm → H.size ≤ t.heap.size → (∀ q : Nat, q < H.size → t.heap[q]? = H[q]?) → XC cls s t)
    (hf : ∀ z ∈ locs, free z.base) (hc : cells + 1 ≤ mc) (hs : slots + 6 ≤ ms) :
    W p l e R s m args below meth c H locs cells slots (vx_MQ below Qc XC args s mc ms free) (F0 m pc ls rest) := by
  intro T hT X
  have htr : e.platform.stackTraces = false := (show e.platform.stackTraces = l.stackTraces by rw [X.admits.platform]).trans hl
  have Y := vx_rebase X (R' := { frames := R.frames, locals := R.locals, cells := 1, slots := 6 }) (Nat.le_refl _) (Nat.le_refl _) hRcells hRslots
  obtain ⟨s', hA⟩ : ∃ z, z = (T.setVm s.vm).setFrames (.invoking m args :: below) := ⟨_, rfl⟩
  rw [← hA] at Y
  have hvm : s'.vm = s.vm := by rw [hA]; rfl
  have hhp : s'.heap = H := by rw [hA]; exact hT
  have hW0 : s.WarmedH s'.vm := by rw [hvm]; exact State.WarmedH.refl s
  have hat' : ∀ w ∈ vx_atS own ic cls names, w.before args s' = true := fun w hw => vx_ot_at hW0 hvm.symm (hgood w (List.mem_cons_of_mem _ (List.mem_cons_of_mem _ hw))) (hat w hw)
  have hk' : (Cond.classLink own ik cls).before args s' = true := vx_ot_at hW0 hvm.symm (hgood _ List.mem_cons_self) hk
  have hini' : (Cond.initialized cls).before args s' = true := vx_ot_at hW0 hvm.symm (hgood _ (List.mem_cons_of_mem _ List.mem_cons_self)) hini
  have hU' : vx_Zq Bundle.tN "UNASSIGNED_STACK" Bundle.steD A s' s'.heap := by rw [hhp]; exact vx_Zq.moved hW0.alike (hU.kept hS.2.1)
  have hN' : vx_Zq Bundle.tN "SUPPRESSED_SENTINEL" Bundle.listD A s' s'.heap := by rw [hhp]; exact vx_Zq.moved hW0.alike (hN.kept hS.2.1)
  have h : ∀ w ∈ Bundle.ownAtoms own ic cls names, w.before args s' = true := vx_own hat' (vx_isRefq hU'.1) (vx_isRefq hN'.1) hU'.2.word hN'.2.word
  have hown' : s'.vm.findClass own = some m.cls := by rw [hvm]; exact hown
  have hins : (Cond.instantiable cls 6).before args s' = true := h _ (by simp [Bundle.ownAtoms])
  obtain ⟨vm₁, cX, kX, hfX, hkX, -, -, X₁, st1⟩ := Y.newCold hexec (own := own) (C := cls) (index := ik) (n := 6) hown' hk' hins hini'
    (g := F0 m pc ls rest) rfl (by rw [hb]; exact d0) (Nat.le_refl _) (Nat.le_refl _)
  generalize hT1 : (T.setVm vm₁).pushCell { cls := cX, slots := kX.instanceTypes.map defaultValue, vm := .none } = T1 at X₁ st1
  have hcat : (Value.ref T.heap.size).category = 1 := rfl
  have hcellA : T1.heap[T.heap.size]? = some (freshCell cX kX) := by rw [← hT1]; exact State.heap_pushCell_size _ _
  have d3' : decode c.code (pc + 3) = .ok (.dup, 1) := by rw [hb]; exact d3
  have d4' : decode c.code (pc + 4) = .ok (.ldc_w is, 3) := by rw [hb]; exact d4
  have hstr' : vk_R own is text sa s' := vk_R.warm hW0 hstr
  obtain ⟨U, hsteps, hrun, hend, hW, hsame, ce, hce, hO⟩ := X₁.ctorThrowS hexec htr (own := own) (cls := cls) (names := names) (ic := ic) hown' hcls hnames h (fun x hx => nomatch hx) hfX hkX hcellA (by rw [hhp, hT]; exact Nat.le_refl _) (msg := .ref sa) rfl
    (g := { method := m, pc := pc + 7, locals := ls, stack := .ref sa :: .ref T.heap.size :: .ref T.heap.size :: rest, locked := none }) rfl hsize rfl rfl (rest := rest) rfl
    (by rw [hb]; exact d7) (by rw [hb]; exact d10) hout hRframes (by simp only [List.map_cons, List.sum_cons, hcat]; omega) hlocks
  obtain ⟨f1, f2⟩ := vx_frame hsame
  rw [hhp] at f1 f2
  have hWs : s.WarmedH U.vm := State.WarmedH.trans hW0 hW
  have hcl : s.vm.findClass cls = some ce.cls := by
    have h9 := hO.cls
    rw [hvm] at h9
    exact h9
  have hall : s.sameButNew ({ U with vm := s.vm } : State) locs mc ms := by
    subst hA
    obtain ⟨e1, e2⟩ := hsame
    rw [State.setFrames_setFrames] at e1
    have h2 : (T.setVm s.vm).sameButNew ({ U with vm := s.vm } : State) [] (0 + 1) (0 + 6) := ⟨e1, e2⟩
    have h3 := X.same.trans h2
    rw [List.append_nil] at h3
    exact h3.mono hc hs
  refine ⟨U, ?_, .threw T.heap.size, hrun, hend, Or.inr ⟨T.heap.size, rfl, cls, ce, locs, hx U hWs.alike f1 (fun q hq => f2 q hq (fun z hz => nomatch hz)), hce, hO.vm, hcl, hWs, hall, hf⟩⟩
  refine st1 _ ?_
  show Steps p.tables e below (T1.setTop { method := m, pc := pc + 3, locals := ls, stack := .ref T.heap.size :: rest, locked := none }) _
  jvm_step X₁.here [X₁.here.top, hexec, d3', Value.category]
  exact X₁.ldcStringW hexec (own := own) (text := text) (index := is) (a := sa) hown' hstr'.1 hstr'.2
    (g := { method := m, pc := pc + 4, locals := ls, stack := .ref T.heap.size :: .ref T.heap.size :: rest, locked := none }) rfl d4' _ hsteps
end Ends
section Bodies
variable {l : Launch}
theorem vx_ofW {y : MethodName} {ws ws' : List Cond} {rm : Room} {Pc : Array Value → State → Prop} {Qc : Array Value → State → Outcome → State → Prop} {XC : String → State → State → Prop} {mc ms : Nat} {free : Addr → Prop} {cc : ByteArray} {maxL : Nat} {ret : Option FieldType}
    (hy : plainName y.cls = true) (hw : ws = Cond.code y cc maxL ret :: ws')
    (body : ∀ p e s m args below meth c s₁, BodyLoose p l y (headSpec ws rm) cc maxL ret e s m args below meth c s₁ → c.maxLocals = maxL → (∀ x ∈ c.exceptionTable.toList, False) → Pc args s →
      W p l e (headSpec ws rm).room s m args below meth c s.heap [] 0 0 (vx_MQ below Qc XC args s mc ms free) (entryFrame m args maxL)) : vx_Met l y ws rm Pc Qc XC mc ms free := by
  refine MetFree.of_bodyS (code := cc) (maxLocals := maxL) (ret := ret) hy ?_ ?_
  · intro args s m h hn
    obtain ⟨meth, c, h1, h2, h3, h4, h5, h6, -, -⟩ := Cond.code_spec hn (atoms_spec (ws := ws) h _ (by rw [hw]; exact List.mem_cons_self))
    exact ⟨meth, c, h1, h2, h3, h4, h5, h6⟩
  · intro p e s m args below meth c s₁ B hml hP _
    have hh0 : s₁.heap = s.heap := by rw [B.state]; rfl
    have ht : ∀ x ∈ c.exceptionTable.toList, False := by
      obtain ⟨meth9, c9, h1, h2, -, -, -, -, h7, -⟩ := Cond.code_spec B.named (atoms_spec (ws := ws) B.pre _ (by rw [hw]; exact List.mem_cons_self))
      cases Option.some.inj (h1.symm.trans B.method)
      cases Option.some.inj (h2.symm.trans (Stand.of_body B).code)
      intro x hx
      rw [Array.isEmpty_iff.mp h7] at hx
      cases hx
    obtain ⟨t, a1, o, b1, b2, b3⟩ := body p e s m args below meth c s₁ B hml ht hP s₁ hh0 (Stand.of_body B)
    exact ⟨t, o, a1, b1, b2, b3⟩
/-- the table of a body with handlers -/
theorem vx_table {p : Program} {x y : MethodName} {S : Spec} {cc bytes : ByteArray} {maxL maxL' : Nat} {ret ret' : Option FieldType} {e : Env} {s s₁ : State} {m : MethodId} {args : Array Value} {below : List Frame} {meth : Method} {c : Code} {hh : List (Nat × Nat × Nat × Nat)}
    (B : BodyLoose p l y S cc maxL ret e s m args below meth c s₁) (h : (Cond.codeWith y bytes maxL' ret' hh).before args s = true) : c.exceptionTable.toList = tableOf hh := by
  obtain ⟨m9, meth9, c9, hn9, h1, h2, -, -, h6, -⟩ := Cond.codeWith_spec h
  cases Option.some.inj (hn9.symm.trans B.named)
  cases Option.some.inj (h1.symm.trans B.method)
  cases Option.some.inj (h2.symm.trans (Stand.of_body B).code)
  rw [← h6, table_eq]
end Bodies
end VXA
/-! ===== END ===== -/
/-! ===== BEGIN a static call of a method with an exception table ===== -/
section VXS
variable {p : Program} {l : Launch} {e : Env} {R : Room} {s : State} {m : MethodId} {args : Array Value} {below : List Frame} {meth : Method} {c : Code} {T : State} {H : Heap} {locs : List Loc} {cells slots : Nat}
abbrev vx_CSW (R : Room) (s : State) (args : Array Value) (own : String) (index : Nat) (y : MethodName) (bytes : ByteArray) (maxL : Nat) (ret : Option FieldType) (hh : List (Nat × Nat × Nat × Nat)) (ws : List Cond) (rm : Room) (mc ms n : Nat) : Prop :=
  (rm.cells = mc ∧ rm.slots = ms ∧ rm.frames + 1 ≤ R.frames ∧ 8 + (maxL + 11) + rm.locals ≤ R.locals ∧ (∀ w ∈ ws, ∀ (a' : Array Value) (U : State), s.WarmedH U.vm → w.before a' U = true) ∧ Cond.codeWith y bytes maxL ret hh ∈ ws) ∧
  (Cond.codeWith y bytes maxL ret hh).before args s = true ∧ (Cond.initialized y.cls).before args s = true ∧ (y.cls ≠ "java/lang/invoke/MethodHandle" ∧ y.cls ≠ "java/lang/invoke/VarHandle") ∧
  (∀ sig, parseMethodDescriptor y.desc = some sig → n = sig.parameters.length) ∧ (Cond.methodLink own index y).before args s = true ∧ (Cond.static y).before args s = true
theorem vx_cwSW {own : String} {index maxL mc ms : Nat} {y : MethodName} {bytes : ByteArray} {ret : Option FieldType} {hh : List (Nat × Nat × Nat × Nat)} {Ts ws ws' : List Cond} {rm : Room} (n : Nat) (ht : ∀ w ∈ Ts, w.before args s = true) (hT : GoodIn Ts (va_wsS own index y ws)) (hw : ws = Cond.codeWith y bytes maxL ret hh :: ws') (hrc : rm.cells = mc) (hrs : rm.slots = ms)
    (hd : y.cls ≠ "java/lang/invoke/MethodHandle" ∧ y.cls ≠ "java/lang/invoke/VarHandle" ∧ (parseMethodDescriptor y.desc).map (fun d => d.parameters.length) = some n) (hR : rm.frames + 1 ≤ R.frames ∧ 8 + (maxL + 11) + rm.locals ≤ R.locals) :
    vx_CSW R s args own index y bytes maxL ret hh ws rm mc ms n := by
  have ok : ∀ w ∈ va_wsS own index y ws, w.before args s = true := fun w h => ht w (hT w h).1
  have hG : GoodIn Ts ws := fun w h => hT w (by unfold va_wsS; exact List.mem_append_right _ h)
  have hc : Cond.codeWith y bytes maxL ret hh ∈ ws := by rw [hw]; exact List.mem_cons_self
  refine ⟨⟨hrc, hrs, hR.1, hR.2, pay_in ht hG, hc⟩, ht _ (hG _ hc).1, ok _ (by simp [va_wsS]), ⟨hd.1, hd.2.1⟩, fun sig h => ?_, ok _ (by simp [va_wsS]), ok _ (by simp [va_wsS])⟩
  have h2 := hd.2.2
  rw [h] at h2
  exact (Option.some.inj h2).symm
theorem vx_callSW (X : Stand p l e R s m args below meth c T locs cells slots) (hexec : p.tables.exec = Jvm.exec) {own : String} {index : Nat} {y : MethodName} {bytes : ByteArray} {maxL : Nat} {ret : Option FieldType} {hh : List (Nat × Nat × Nat × Nat)}
    (hown : s.vm.findClass own = some m.cls) (hlink : (Cond.methodLink own index y).before args s = true) (hstat : (Cond.static y).before args s = true) (hinit : (Cond.initialized y.cls).before args s = true)
    (hcode : (Cond.codeWith y bytes maxL ret hh).before args s = true) (hy : y.cls ≠ "java/lang/invoke/MethodHandle" ∧ y.cls ≠ "java/lang/invoke/VarHandle")
    {W9 : Nat} {Pre : Pt → Array Value → Prop} {Post : Pt → Array Value → Option Value → Pt → Prop} (hK : Back l R p e below s args y 3 W9 Pre Post)
    {g : JFrame} (hg : g.method = m) (hsize : g.locals.size = c.maxLocals) {argsL rest : List Value} (hlen : ∀ sig, parseMethodDescriptor y.desc = some sig → argsL.length = sig.parameters.length)
    (hstack : g.stack = argsL.reverse ++ rest) (hW : 2 * g.monitorRoom + (rest.map fun v => v.category).sum ≤ W9) (hdg : decode c.code g.pc = .ok (.invokestatic index, 3))
    (hpre : ∀ vm₁, s.WarmedH vm₁ → Pre ⟨T.setVm vm₁, locs, cells, slots⟩ argsL.toArray) :
    ∃ (v : Option Value) (vm₁ : Vm) (B : Pt), s.WarmedH vm₁ ∧ Stand p l e R s m args below meth c B.U B.locs B.cells B.slots ∧ Post ⟨T.setVm vm₁, locs, cells, slots⟩ argsL.toArray v B ∧
      ∀ target, Steps p.tables e below (B.U.setTop { g with pc := g.pc + 3, stack := v.toList ++ rest }) target → Steps p.tables e below (T.setTop g) target := by
  obtain ⟨mk, methM, cM, hnamed, hmethM, -, -, -, -, -, -, hsigM⟩ := Cond.codeWith_spec hcode
  have hstatic : methM.isStatic = true := Cond.static_spec hnamed hmethM hstat
  obtain ⟨kP, hkP, -⟩ := className_of_methodNamed hnamed
  have hinitP : kP.init = .initialized := Cond.initialized_spec (findClass_of_methodNamed hnamed) hkP hinit
  obtain ⟨vm₁, X₁, hstep₁⟩ := X.invokestatic hexec hown hlink hnamed hmethM hstatic hkP hinitP hy (g := g) hg (argsL := argsL) (rest := rest) (hlen _ hsigM) hstack hdg
  obtain ⟨v, B, X', hpost, hsteps⟩ := hK m meth c ⟨T.setVm vm₁, locs, cells, slots⟩ { g with stack := rest } (.invokestatic index) mk argsL.toArray X₁ hg hsize hdg hW (X₁.named hnamed) (hpre vm₁ X₁.warmed)
  exact ⟨v, vm₁, B, X₁.warmed, X', hpost, fun target h => hstep₁ _ fun acts => by rw [doInvoke_state]; exact hsteps.trans h⟩
theorem vx_runSW {y : MethodName} {bytes cc : ByteArray} {maxL nL mc ms n index : Nat} {ret : Option FieldType} {hh : List (Nat × Nat × Nat × Nat)} {ws : List Cond} {rm : Room} {Pc : Array Value → State → Prop} {Qc : Array Value → State → Outcome → State → Prop} {free : Addr → Prop} {Ts : List Cond} {own : String} {As rest : List Value} {g : JFrame}
    (S : CallFix p m c cc nL s args Ts own) (hM : Met l y ws rm Pc Qc mc ms free) (cw : vx_CSW R s args own index y bytes maxL ret hh ws rm mc ms n) (hp : PreS s H Pc As)
    (hg : g.method = m) (hn : As.length = n) (hsize : g.locals.size = nL) (hstack : g.stack = As.reverse ++ rest) (hW : 2 * g.monitorRoom + (rest.map fun v => v.category).sum ≤ 8) (hdg : decode cc g.pc = .ok (.invokestatic index, 3)) (hf : cells + mc ≤ R.cells ∧ slots + ms ≤ R.slots) :
    va_Run p l e R s m args below meth c H locs cells slots mc ms g rest (Qc As.toArray) (free) := by
  obtain ⟨⟨hrc, hrs, hfr, hlo, hws, hcw⟩, hcode, hini, hy, hlen, hl, hstt⟩ := cw
  have hK : Back l R p e below s args y 3 8 (PreOf R mc ms Pc) (PostOf Qc mc ms free) := va_backW (hh := hh) (bytes := bytes) (maxL := maxL) (ret := ret) hM hp.1 hrc hrs hfr hlo hws hcw (fun a' U hW => word_at hW (Or.inl (by first | rfl | simp [Cond.onTables, Cond.keeps, Cond.steady])) hini)
  obtain ⟨hx, hb, hml, ho, -⟩ := S
  intro T hT X
  obtain ⟨v, vm₁, ⟨U', l2, c2, s2⟩, hW₁, X', ⟨g', mk, t, L, e1, e2, hq, h1, hL, h2, h3⟩, st⟩ := vx_callSW X hx (hh := hh) (bytes := bytes) (maxL := maxL) (ret := ret) ho hl hstt hini hcode hy hK hg (hsize.trans hml.symm) (argsL := As) (rest := rest) (fun sig h => hn.trans (hlen sig h)) hstack hW (by rw [hb]; exact hdg)
    (fun vm₁ hW₁ => ⟨hf.1, hf.2, hp.2 (T.setVm vm₁) hT hW₁⟩)
  dsimp only [Pt.U, Pt.locs, Pt.cells, Pt.slots] at X' e1 e2 h1 h2 h3 st
  subst h1; subst h2; subst h3
  exact ⟨v, (T.setVm vm₁).calling g' mk As.toArray, t, U', L, hT, X', hL, e1, e2, hq, st⟩
/-- not caught here, past rows that name other classes: it goes on to the caller -/
theorem vx_outP {p : Program} {l : Launch} {e : Env} {R : Room} {s : State} {m : MethodId} {args : Array Value} {below : List Frame} {meth : Method} {c : Code} {H : Heap} {locs : List Loc} {cells slots : Nat} {free : Addr → Prop} {ls : Array Slot} {rest : List Value} {Qc : Array Value → State → Outcome → State → Prop} {XC : String → State → State → Prop}
    {pc : Nat} {own E : String} {ce : Cell} {q : Addr} {mc ms : Nat} (hown : s.vm.findClass own = some m.cls) (hlocks : meth.locks = false)
    (hpass : ∀ z ∈ c.exceptionTable.toList, covers z pc = false ∨ (z.catchType ≠ 0 ∧ ∃ nm : String, (Cond.classLink own z.catchType nm).before args s = true ∧ va_Nc E nm s)) (hcell : H[q]? = some ce) (hv : ce.vm = .none) (hcl : s.vm.findClass E = some ce.cls)
    (hx : ∀ t : State, t.heap = H → s.vm.Alike t.vm → XC E s t) (hf : ∀ z ∈ locs, free z.base) (hc : cells ≤ mc) (hs : slots ≤ ms) :
    vx_W p l e R s m args below meth c H locs cells slots (vx_MQ below Qc XC args s mc ms free) (F0 m pc ls rest) q := by
  intro T hT X
  have hpl : e.platform.magicAccessors = ({} : Platform).magicAccessors := by rw [X.admits.platform]
  obtain ⟨vm', hW', X', st⟩ := X.outThrough hlocks q (g := F0 m pc ls rest) rfl rfl rfl (cell := ce) (by rw [hT]; exact hcell) (by rw [hv]; rfl)
    (by obtain ⟨k9, h9, -⟩ := Vm.findClass_spec hcl; exact ⟨k9, h9⟩) (fun z hz => by
      rcases hpass z hz with h | ⟨hz0, nm, hl1, hn1⟩
      · exact Or.inl h
      · obtain ⟨c6, hc6, hcl6⟩ := Cond.classLink_spec hown hl1 e.platform hpl
        obtain ⟨a8, b8, h1, h2, h3⟩ := hn1
        cases Option.some.inj (h1.symm.trans hcl)
        cases Option.some.inj (h2.symm.trans hc6)
        exact Or.inr ⟨hz0, _, hcl6, h3⟩)
  obtain ⟨g₀, hfr⟩ := X'.frames_eq
  have hcell9 : ((T.setVm vm').setFrames (.throwing q :: below)).heap[q]? = some ce := by
    show T.heap[q]? = some ce
    rw [hT]; exact hcell
  have hend : Ended ((T.setVm vm').setFrames (.throwing q :: below)) below (.threw q) := State.frames_setFrames _ (State.cur_lt_of_frames hfr)
  refine ⟨(T.setVm vm').setFrames (.throwing q :: below), ?_, .threw q, X'.here.running, hend, Or.inr ⟨q, rfl, E, ce, locs, hx _ hT (X'.ends _).1.alike, hcell9, hv, hcl, (X'.ends _).1, (X'.ends _).2.mono hc hs, hf⟩⟩
  rw [X.pushThrowing_eq]
  exact st
/-- a thing of a world lies in the heap -/
theorem vx_lt {D : va_G} {cl : List vw_C} {ws : va_W} {H1 : Heap} (h : va_P D cl ws H1) {k : Nat} {q : Nat × va_E} (hk : ws[k]? = some q) : q.1 < H1.size := (h k q hk).lt
end VXS
/-! ===== END ===== -/
/-! ===== BEGIN methods with a table of their own: called by a name, returning or throwing ===== -/
section VXH
/-! vx_backW, vx_callVX, vx_callSX, vx_callVW, vx_runVW, vx_runVX, vx_runSX, vx_ofWH follow the same proofs as their sisters above (Free/Laws.lean, Shelf42/LK1.lean); vx_outP calls Shelf42/NT130.lean (outThrough). -/
section
variable {l : Launch} {R : Room} {p : Program} {e : Env} {below : List Frame} {s : State} {sargs : Array Value} {y : MethodName} {len W9 : Nat}
theorem vx_backW {ws : List Cond} {rm : Room} {Pc : Array Value → State → Prop} {Qc : Array Value → State → Outcome → State → Prop} {XC : String → State → State → Prop} {mc ms : Nat} {free : Addr → Prop} {bytes : ByteArray} {maxL : Nat} {ret : Option FieldType} {hh : List (Nat × Nat × Nat × Nat)}
    (hM : vx_Met l y ws rm Pc Qc XC mc ms free) (hblind : FrameBlind Pc) (hrc : rm.cells = mc) (hrs : rm.slots = ms)
    (hframes : rm.frames + 1 ≤ R.frames) (hlocals : W9 + (maxL + 11) + rm.locals ≤ R.locals)
    (hws : ∀ w ∈ ws, ∀ a' U, s.WarmedH U.vm → w.before a' U = true) (hcode : Cond.codeWith y bytes maxL ret hh ∈ ws) (hinit : ∀ a' U, s.WarmedH U.vm → (Cond.initialized y.cls).before a' U = true) :
    vx_Back l R p e below s sargs y len W9 (PreOf R mc ms Pc) (PostOf Qc mc ms free) (vx_Post XC mc ms free) := by
  intro m meth c A g ig mk a X hg hsize hdg hW hn hp
  have h1 : (headSpec ws rm).pre.before a A.U = true := atoms_intro fun w hw => hws w hw _ _ X.warmed
  have h2 : (Cond.codeWith y bytes maxL ret hh).before a A.U = true := hws _ hcode _ _ X.warmed
  have h3 : (Cond.initialized y.cls).before a A.U = true := hinit _ _ X.warmed
  have h4 : A.cells + (headSpec ws rm).room.cells ≤ R.cells := by rw [show (headSpec ws rm).room.cells = mc from hrc]; exact hp.1
  have h5 : A.slots + (headSpec ws rm).room.slots ≤ R.slots := by rw [show (headSpec ws rm).room.slots = ms from hrs]; exact hp.2.1
  have hPc : Pc a (A.U.calling g mk a) := hblind _ _ _ _ hp.2.2
  obtain ⟨U, Ls, c0, s0⟩ := A
  dsimp only [Pt.U, Pt.locs, Pt.cells, Pt.slots] at h1 h2 h3 h4 h5 X hn hPc ⊢
  obtain ⟨m9, methY, cY, hn9, hmY, hcY, -, hlY, -⟩ := Cond.codeWith_spec h2
  cases Option.some.inj (hn9.symm.trans hn)
  obtain ⟨kY, hkY, -⟩ := className_of_methodNamed hn
  have hinitY : kY.init = .initialized := Cond.initialized_spec (findClass_of_methodNamed hn) hkY h3
  have h : At U g.method c below := by rw [hg]; exact X.here
  have hlocals9 : W9 + (maxL + 11) + (headSpec ws rm).room.locals ≤ R.locals := hlocals
  have happ : (headSpec ws rm).appliesLoose y e.platform (U.calling g mk a) = true :=
    Spec.appliesLoose_calling (g := g) h hdg hn hkY hinitY
      (X.room_calling (g := g) (R' := (headSpec ws rm).room) hsize hmY hcY hframes (by rw [hlY]; omega) h4 h5) h1
  obtain ⟨mid, hmid⟩ := h.above
  have hfr : (U.setTop g).frames = (.java g :: mid) ++ below := by rw [State.frames_setTop' g h.top, hmid]; rfl
  obtain ⟨o, s₂, hsteps, -, hend, hq⟩ := Steps.callFree hM p X.admits X.cas X.clock (acts := []) hfr happ hPc trivial
  have hq' : vx_Q Qc XC mc ms free a (U.calling g mk a) o s₂ := hq
  rw [State.frames_setTop' g h.top] at hend
  obtain ⟨g₀, hg0⟩ := Option.isSome_iff_exists.mp h.top
  obtain ⟨r, hr⟩ := State.topJava?_eq_some.mp hg0
  have hr' : (({ U with heap := s₂.heap, slotsUsed := s₂.slotsUsed } : State).setVm s₂.vm).frames = .java g₀ :: r := hr
  rcases hq' with ⟨hqc, L, hfe, hL⟩ | ⟨q, rfl, E, ce, L, hx, hce, hcv, hcl, hW₂, hsm, hL⟩
  · obtain ⟨⟨v, rfl⟩, hW₂, e2, q2, q3, q4, q5, q6⟩ := id hfe
    have e3 : s₂ = ({ (U.calling g mk a).setFrames s₂.frames with heap := s₂.heap, slotsUsed := s₂.slotsUsed } : State).setVm s₂.vm := by
      have : s₂ = ({ s₂ with vm := (U.calling g mk a).vm } : State).setVm s₂.vm := rfl
      rw [e2] at this
      exact this
    obtain ⟨c₂, i₂, len₂, hc₂, hd₂, hf₂⟩ := hend
    have hW' : U.WarmedH s₂.vm := hW₂
    have hcc : c₂ = c := by
      have h1 : s₂.code? g.method = U.code? g.method := by
        rw [State.code?_eq, State.code?_eq, hW'.alike.method?]
      exact Option.some.inj (hc₂.symm.trans (h1.trans h.code))
    subst hcc
    have hlen : len₂ = len := by rw [hdg] at hd₂; cases hd₂; rfl
    subst hlen
    have hs₂ : s₂ = (({ U with heap := s₂.heap, slotsUsed := s₂.slotsUsed } : State).setVm s₂.vm).setTop { g with pc := g.pc + len₂, stack := v.toList ++ g.stack } := by
      refine e3.trans ?_
      rw [hf₂, State.calling_eq h.top, State.setFrames_setFrames, State.setTop_of_frames _ hr', hr]
      rfl
    have hsame : U.sameButNew ({ U with heap := s₂.heap, slotsUsed := s₂.slotsUsed } : State) L mc ms := by
      refine ⟨?_, q2, q3, q4, q5, q6⟩
      obtain ⟨t, ht, -⟩ := State.frames_cons hr
      show ({ U with heap := s₂.heap, slotsUsed := s₂.slotsUsed } : State) = { U.setFrames U.frames with heap := s₂.heap, slotsUsed := s₂.slotsUsed }
      rw [State.setFrames_self ht]
    subst hg
    refine Or.inl ⟨v, ⟨(({ U with heap := s₂.heap, slotsUsed := s₂.slotsUsed } : State).setVm s₂.vm), Ls ++ L, c0 + mc, s0 + ms⟩,
      ⟨X.admits, X.cas, X.clock, X.frames, X.room, X.hears, X.method, X.code, (X.here.setHeapUsed s₂.heap s₂.slotsUsed).setVm hW'.alike, X.tail, State.WarmedH.trans X.warmed hW', X.limits, X.bytes, X.same.trans (hsame.setVm s.vm)⟩,
      ⟨g, mk, s₂, L, rfl, rfl, hqc, rfl, hL, rfl, rfl⟩, ?_⟩
    show Steps p.tables e below _ ((({ U with heap := s₂.heap, slotsUsed := s₂.slotsUsed } : State).setVm s₂.vm).setTop { g with pc := g.pc + len₂, stack := v.toList ++ g.stack })
    rw [← hs₂]
    exact hsteps
  · obtain ⟨e2, q2, q3, q4, q5, q6⟩ := id hsm
    have e3 : s₂ = ({ (U.calling g mk a).setFrames s₂.frames with heap := s₂.heap, slotsUsed := s₂.slotsUsed } : State).setVm s₂.vm := by
      have : s₂ = ({ s₂ with vm := (U.calling g mk a).vm } : State).setVm s₂.vm := rfl
      rw [e2] at this
      exact this
    have hf₂ : s₂.frames = .throwing q :: .java g :: U.frames.tail := hend
    have hW' : U.WarmedH s₂.vm := hW₂
    have hs₂ : s₂ = ((({ U with heap := s₂.heap, slotsUsed := s₂.slotsUsed } : State).setVm s₂.vm).setTop g).pushFrame (.throwing q) := by
      refine e3.trans ?_
      rw [hf₂, State.calling_eq h.top, State.setFrames_setFrames, State.pushFrame, State.frames_setTop _ hr', State.setTop_of_frames _ hr', State.setFrames_setFrames, hr]
      rfl
    have hsame : U.sameButNew ({ U with heap := s₂.heap, slotsUsed := s₂.slotsUsed } : State) L mc ms := by
      refine ⟨?_, q2, q3, q4, q5, q6⟩
      obtain ⟨t, ht, -⟩ := State.frames_cons hr
      show ({ U with heap := s₂.heap, slotsUsed := s₂.slotsUsed } : State) = { U.setFrames U.frames with heap := s₂.heap, slotsUsed := s₂.slotsUsed }
      rw [State.setFrames_self ht]
    subst hg
    refine Or.inr ⟨q, ⟨(({ U with heap := s₂.heap, slotsUsed := s₂.slotsUsed } : State).setVm s₂.vm), Ls ++ L, c0 + mc, s0 + ms⟩,
      ⟨X.admits, X.cas, X.clock, X.frames, X.room, X.hears, X.method, X.code, (X.here.setHeapUsed s₂.heap s₂.slotsUsed).setVm hW'.alike, X.tail, State.WarmedH.trans X.warmed hW', X.limits, X.bytes, X.same.trans (hsame.setVm s.vm)⟩,
      ⟨g, mk, s₂, L, E, ce, rfl, rfl, hx, hce, hcv, hcl, rfl, hL, rfl, rfl⟩, ?_⟩
    show Steps p.tables e below _ (((({ U with heap := s₂.heap, slotsUsed := s₂.slotsUsed } : State).setVm s₂.vm).setTop g).pushFrame (.throwing q))
    rw [← hs₂]
    exact hsteps
end
variable {p : Program} {l : Launch} {e : Env} {R : Room} {s : State} {m : MethodId} {args : Array Value} {below : List Frame} {meth : Method} {c : Code} {T : State} {H : Heap} {locs : List Loc} {cells slots : Nat}
theorem vx_callVX (X : Stand p l e R s m args below meth c T locs cells slots) (hexec : p.tables.exec = Jvm.exec) {own C : String} {index : Nat} {y : MethodName} {bytes : ByteArray} {maxL : Nat} {ret : Option FieldType} {hh : List (Nat × Nat × Nat × Nat)}
    (hown : s.vm.findClass own = some m.cls) (hlink : (Cond.methodLink own index y).before args s = true) (hinst : (Cond.instanceMethod y).before args s = true) (hsel : (Cond.selects C y y).before args s = true)
    (hcode : (Cond.codeWith y bytes maxL ret hh).before args s = true) (hy : y.cls ≠ "java/lang/invoke/MethodHandle" ∧ y.cls ≠ "java/lang/invoke/VarHandle")
    {W9 : Nat} {Pre : Pt → Array Value → Prop} {Post : Pt → Array Value → Option Value → Pt → Prop} {PostX : Pt → Array Value → Addr → Pt → Prop} (hK : vx_Back l R p e below s args y 3 W9 Pre Post PostX)
    {b : Addr} {cellB : Cell} (hcell : T.heap[b]? = some cellB) (hobj : cellB.vm.isStatics = false) (hcls : s.vm.findClass C = some cellB.cls)
    {g : JFrame} (hg : g.method = m) (hsize : g.locals.size = c.maxLocals) {argsL rest : List Value} (hlen : ∀ sig, parseMethodDescriptor y.desc = some sig → argsL.length = sig.parameters.length)
    (hstack : g.stack = argsL.reverse ++ .ref b :: rest) (hW : 2 * g.monitorRoom + (rest.map fun v => v.category).sum ≤ W9) (hdg : decode c.code g.pc = .ok (.invokevirtual index, 3))
    (hpre : ∀ vm₁, s.WarmedH vm₁ → Pre ⟨T.setVm vm₁, locs, cells, slots⟩ (Value.ref b :: argsL).toArray) :
    (∃ (v : Option Value) (vm₁ : Vm) (B : Pt), s.WarmedH vm₁ ∧ Stand p l e R s m args below meth c B.U B.locs B.cells B.slots ∧ Post ⟨T.setVm vm₁, locs, cells, slots⟩ (Value.ref b :: argsL).toArray v B ∧
      ∀ target, Steps p.tables e below (B.U.setTop { g with pc := g.pc + 3, stack := v.toList ++ rest }) target → Steps p.tables e below (T.setTop g) target) ∨
    (∃ (q : Addr) (vm₁ : Vm) (B : Pt), s.WarmedH vm₁ ∧ Stand p l e R s m args below meth c B.U B.locs B.cells B.slots ∧ PostX ⟨T.setVm vm₁, locs, cells, slots⟩ (Value.ref b :: argsL).toArray q B ∧
      Steps p.tables e below (T.setTop g) ((B.U.setTop { g with stack := rest }).pushFrame (.throwing q))) := by
  obtain ⟨mk, methM, hnamed, hmethM, hstM, habM⟩ := Cond.instanceMethod_spec hinst
  obtain ⟨m8, methM', cM, hn8, hmethM', -, -, -, -, -, -, hsigM⟩ := Cond.codeWith_spec hcode
  cases Option.some.inj (hn8.symm.trans hnamed)
  cases hmethM.symm.trans hmethM'
  obtain ⟨c2, r2, m2, q1, q2, q3, q4, kP, hkP, hkPi⟩ := Cond.selects_spec hsel
  cases hcls.symm.trans q1
  cases (State.methodFound?_of_named hnamed hy).symm.trans q2
  cases hnamed.symm.trans q3
  have hselP : selectMethod e.platform s.vm cellB.cls mk = .method mk := by rw [Launch.admits_selectMethod X.admits]; exact q4
  obtain ⟨vm₁, X₁, hstep₁⟩ := X.invokevirtual hexec hown hlink hnamed hmethM hstM hkP hkPi hy (a := b) (cell := cellB) hcell
    (fun z h => by rw [h] at hobj; cases hobj) hselP hmethM habM hkP hkPi (g := g) hg (argsL := argsL) (rest := rest) (hlen _ hsigM) hstack hdg
  rcases hK m meth c ⟨T.setVm vm₁, locs, cells, slots⟩ { g with stack := rest } (.invokevirtual index) mk (Value.ref b :: argsL).toArray X₁ hg hsize hdg hW (X₁.named hnamed) (hpre vm₁ X₁.warmed) with ⟨v, B, X', hpost, hsteps⟩ | ⟨q, B, X', hpost, hsteps⟩
  · exact Or.inl ⟨v, vm₁, B, X₁.warmed, X', hpost, fun target h => hstep₁ _ fun acts => by rw [doInvoke_state]; exact hsteps.trans h⟩
  · exact Or.inr ⟨q, vm₁, B, X₁.warmed, X', hpost, hstep₁ _ fun acts => by rw [doInvoke_state]; exact hsteps⟩
theorem vx_callSX (X : Stand p l e R s m args below meth c T locs cells slots) (hexec : p.tables.exec = Jvm.exec) {own : String} {index : Nat} {y : MethodName} {bytes : ByteArray} {maxL : Nat} {ret : Option FieldType} {hh : List (Nat × Nat × Nat × Nat)}
    (hown : s.vm.findClass own = some m.cls) (hlink : (Cond.methodLink own index y).before args s = true) (hstat : (Cond.static y).before args s = true) (hinit : (Cond.initialized y.cls).before args s = true)
    (hcode : (Cond.codeWith y bytes maxL ret hh).before args s = true) (hy : y.cls ≠ "java/lang/invoke/MethodHandle" ∧ y.cls ≠ "java/lang/invoke/VarHandle")
    {W9 : Nat} {Pre : Pt → Array Value → Prop} {Post : Pt → Array Value → Option Value → Pt → Prop} {PostX : Pt → Array Value → Addr → Pt → Prop} (hK : vx_Back l R p e below s args y 3 W9 Pre Post PostX)
    {g : JFrame} (hg : g.method = m) (hsize : g.locals.size = c.maxLocals) {argsL rest : List Value} (hlen : ∀ sig, parseMethodDescriptor y.desc = some sig → argsL.length = sig.parameters.length)
    (hstack : g.stack = argsL.reverse ++ rest) (hW : 2 * g.monitorRoom + (rest.map fun v => v.category).sum ≤ W9) (hdg : decode c.code g.pc = .ok (.invokestatic index, 3))
    (hpre : ∀ vm₁, s.WarmedH vm₁ → Pre ⟨T.setVm vm₁, locs, cells, slots⟩ argsL.toArray) :
    (∃ (v : Option Value) (vm₁ : Vm) (B : Pt), s.WarmedH vm₁ ∧ Stand p l e R s m args below meth c B.U B.locs B.cells B.slots ∧ Post ⟨T.setVm vm₁, locs, cells, slots⟩ argsL.toArray v B ∧
      ∀ target, Steps p.tables e below (B.U.setTop { g with pc := g.pc + 3, stack := v.toList ++ rest }) target → Steps p.tables e below (T.setTop g) target) ∨
    (∃ (q : Addr) (vm₁ : Vm) (B : Pt), s.WarmedH vm₁ ∧ Stand p l e R s m args below meth c B.U B.locs B.cells B.slots ∧ PostX ⟨T.setVm vm₁, locs, cells, slots⟩ argsL.toArray q B ∧
      Steps p.tables e below (T.setTop g) ((B.U.setTop { g with stack := rest }).pushFrame (.throwing q))) := by
  obtain ⟨mk, methM, cM, hnamed, hmethM, -, -, -, -, -, -, hsigM⟩ := Cond.codeWith_spec hcode
  have hstatic : methM.isStatic = true := Cond.static_spec hnamed hmethM hstat
  obtain ⟨kP, hkP, -⟩ := className_of_methodNamed hnamed
  have hinitP : kP.init = .initialized := Cond.initialized_spec (findClass_of_methodNamed hnamed) hkP hinit
  obtain ⟨vm₁, X₁, hstep₁⟩ := X.invokestatic hexec hown hlink hnamed hmethM hstatic hkP hinitP hy (g := g) hg (argsL := argsL) (rest := rest) (hlen _ hsigM) hstack hdg
  rcases hK m meth c ⟨T.setVm vm₁, locs, cells, slots⟩ { g with stack := rest } (.invokestatic index) mk argsL.toArray X₁ hg hsize hdg hW (X₁.named hnamed) (hpre vm₁ X₁.warmed) with ⟨v, B, X', hpost, hsteps⟩ | ⟨q, B, X', hpost, hsteps⟩
  · exact Or.inl ⟨v, vm₁, B, X₁.warmed, X', hpost, fun target h => hstep₁ _ fun acts => by rw [doInvoke_state]; exact hsteps.trans h⟩
  · exact Or.inr ⟨q, vm₁, B, X₁.warmed, X', hpost, hstep₁ _ fun acts => by rw [doInvoke_state]; exact hsteps⟩
theorem vx_callVW (X : Stand p l e R s m args below meth c T locs cells slots) (hexec : p.tables.exec = Jvm.exec) {own C : String} {index : Nat} {y : MethodName} {bytes : ByteArray} {maxL : Nat} {ret : Option FieldType} {hh : List (Nat × Nat × Nat × Nat)}
    (hown : s.vm.findClass own = some m.cls) (hlink : (Cond.methodLink own index y).before args s = true) (hinst : (Cond.instanceMethod y).before args s = true) (hsel : (Cond.selects C y y).before args s = true)
    (hcode : (Cond.codeWith y bytes maxL ret hh).before args s = true) (hy : y.cls ≠ "java/lang/invoke/MethodHandle" ∧ y.cls ≠ "java/lang/invoke/VarHandle")
    {W9 : Nat} {Pre : Pt → Array Value → Prop} {Post : Pt → Array Value → Option Value → Pt → Prop} (hK : Back l R p e below s args y 3 W9 Pre Post)
    {b : Addr} {cellB : Cell} (hcell : T.heap[b]? = some cellB) (hobj : cellB.vm.isStatics = false) (hcls : s.vm.findClass C = some cellB.cls)
    {g : JFrame} (hg : g.method = m) (hsize : g.locals.size = c.maxLocals) {argsL rest : List Value} (hlen : ∀ sig, parseMethodDescriptor y.desc = some sig → argsL.length = sig.parameters.length)
    (hstack : g.stack = argsL.reverse ++ .ref b :: rest) (hW : 2 * g.monitorRoom + (rest.map fun v => v.category).sum ≤ W9) (hdg : decode c.code g.pc = .ok (.invokevirtual index, 3))
    (hpre : ∀ vm₁, s.WarmedH vm₁ → Pre ⟨T.setVm vm₁, locs, cells, slots⟩ (Value.ref b :: argsL).toArray) :
    ∃ (v : Option Value) (vm₁ : Vm) (B : Pt), s.WarmedH vm₁ ∧ Stand p l e R s m args below meth c B.U B.locs B.cells B.slots ∧ Post ⟨T.setVm vm₁, locs, cells, slots⟩ (Value.ref b :: argsL).toArray v B ∧
      ∀ target, Steps p.tables e below (B.U.setTop { g with pc := g.pc + 3, stack := v.toList ++ rest }) target → Steps p.tables e below (T.setTop g) target := by
  obtain ⟨mk, methM, hnamed, hmethM, hstM, habM⟩ := Cond.instanceMethod_spec hinst
  obtain ⟨m8, methM', cM, hn8, hmethM', -, -, -, -, -, -, hsigM⟩ := Cond.codeWith_spec hcode
  cases Option.some.inj (hn8.symm.trans hnamed)
  cases hmethM.symm.trans hmethM'
  obtain ⟨c2, r2, m2, q1, q2, q3, q4, kP, hkP, hkPi⟩ := Cond.selects_spec hsel
  cases hcls.symm.trans q1
  cases (State.methodFound?_of_named hnamed hy).symm.trans q2
  cases hnamed.symm.trans q3
  have hselP : selectMethod e.platform s.vm cellB.cls mk = .method mk := by rw [Launch.admits_selectMethod X.admits]; exact q4
  obtain ⟨vm₁, X₁, hstep₁⟩ := X.invokevirtual hexec hown hlink hnamed hmethM hstM hkP hkPi hy (a := b) (cell := cellB) hcell
    (fun z h => by rw [h] at hobj; cases hobj) hselP hmethM habM hkP hkPi (g := g) hg (argsL := argsL) (rest := rest) (hlen _ hsigM) hstack hdg
  obtain ⟨v, B, X', hpost, hsteps⟩ := hK m meth c ⟨T.setVm vm₁, locs, cells, slots⟩ { g with stack := rest } (.invokevirtual index) mk (Value.ref b :: argsL).toArray X₁ hg hsize hdg hW (X₁.named hnamed) (hpre vm₁ X₁.warmed)
  exact ⟨v, vm₁, B, X₁.warmed, X', hpost, fun target h => hstep₁ _ fun acts => by rw [doInvoke_state]; exact hsteps.trans h⟩
abbrev vx_CVW (R : Room) (s : State) (args : Array Value) (own C : String) (index : Nat) (y : MethodName) (bytes : ByteArray) (maxL : Nat) (ret : Option FieldType) (hh : List (Nat × Nat × Nat × Nat)) (ws : List Cond) (rm : Room) (mc ms n : Nat) : Prop :=
  (rm.cells = mc ∧ rm.slots = ms ∧ rm.frames + 1 ≤ R.frames ∧ 8 + (maxL + 11) + rm.locals ≤ R.locals ∧ (∀ w ∈ ws, ∀ (a' : Array Value) (U : State), s.WarmedH U.vm → w.before a' U = true) ∧ Cond.codeWith y bytes maxL ret hh ∈ ws) ∧
  (Cond.codeWith y bytes maxL ret hh).before args s = true ∧ (Cond.initialized y.cls).before args s = true ∧ (y.cls ≠ "java/lang/invoke/MethodHandle" ∧ y.cls ≠ "java/lang/invoke/VarHandle") ∧
  (∀ sig, parseMethodDescriptor y.desc = some sig → n = sig.parameters.length) ∧ (Cond.methodLink own index y).before args s = true ∧ (Cond.instanceMethod y).before args s = true ∧ (Cond.selects C y y).before args s = true
theorem vx_cwVW {own C : String} {index maxL mc ms : Nat} {y : MethodName} {bytes : ByteArray} {ret : Option FieldType} {hh : List (Nat × Nat × Nat × Nat)} {Ts ws ws' : List Cond} {rm : Room} (n : Nat) (ht : ∀ w ∈ Ts, w.before args s = true) (hT : GoodIn Ts (wsV own index C y ws)) (hw : ws = Cond.codeWith y bytes maxL ret hh :: ws') (hrc : rm.cells = mc) (hrs : rm.slots = ms)
    (hd : y.cls = C ∧ y.cls ≠ "java/lang/invoke/MethodHandle" ∧ y.cls ≠ "java/lang/invoke/VarHandle" ∧ (parseMethodDescriptor y.desc).map (fun d => d.parameters.length) = some n) (hR : rm.frames + 1 ≤ R.frames ∧ 8 + (maxL + 11) + rm.locals ≤ R.locals) :
    vx_CVW R s args own C index y bytes maxL ret hh ws rm mc ms n := by
  obtain ⟨hC, hd⟩ := hd
  subst hC
  have ok : ∀ w ∈ wsV own index y.cls y ws, w.before args s = true := fun w h => ht w (hT w h).1
  have hG : GoodIn Ts ws := fun w h => hT w (by unfold wsV; exact List.mem_append_right _ h)
  have hc : Cond.codeWith y bytes maxL ret hh ∈ ws := by rw [hw]; exact List.mem_cons_self
  refine ⟨⟨hrc, hrs, hR.1, hR.2, pay_in ht hG, hc⟩, ht _ (hG _ hc).1, ok _ (by simp [wsV]), ⟨hd.1, hd.2.1⟩, fun sig h => ?_, ok _ (by simp [wsV]), ok _ (by simp [wsV]), ok _ (by simp [wsV])⟩
  have h2 := hd.2.2
  rw [h] at h2
  exact (Option.some.inj h2).symm
theorem vx_runVW {y : MethodName} {bytes cc : ByteArray} {maxL nL mc ms n index : Nat} {ret : Option FieldType} {hh : List (Nat × Nat × Nat × Nat)} {ws : List Cond} {rm : Room} {Pc : Array Value → State → Prop} {Qc : Array Value → State → Outcome → State → Prop} {free : Addr → Prop} {Ts : List Cond} {own C : String} {b : Addr} {As rest : List Value} {g : JFrame}
    (S : CallFix p m c cc nL s args Ts own) (hM : Met l y ws rm Pc Qc mc ms free) (cw : vx_CVW R s args own C index y bytes maxL ret hh ws rm mc ms n) (hp : PreV s H C b Pc As)
    (hg : g.method = m) (hn : As.length = n) (hsize : g.locals.size = nL) (hstack : g.stack = As.reverse ++ .ref b :: rest) (hW : 2 * g.monitorRoom + (rest.map fun v => v.category).sum ≤ 8) (hdg : decode cc g.pc = .ok (.invokevirtual index, 3)) (hf : cells + mc ≤ R.cells ∧ slots + ms ≤ R.slots) :
    va_Run p l e R s m args below meth c H locs cells slots mc ms g rest (Qc (Value.ref b :: As).toArray) free := by
  obtain ⟨⟨hrc, hrs, hfr, hlo, hws, hcw⟩, hcode, hini, hy, hlen, hl, hin, hse⟩ := cw
  have hK : Back l R p e below s args y 3 8 (PreOf R mc ms Pc) (PostOf Qc mc ms free) := va_backW (hh := hh) (bytes := bytes) (maxL := maxL) (ret := ret) hM hp.1 hrc hrs hfr hlo hws hcw (fun a' U hW => word_at hW (Or.inl (by first | rfl | simp [Cond.onTables, Cond.keeps, Cond.steady])) hini)
  obtain ⟨hx, hb, hml, ho, -⟩ := S
  obtain ⟨-, ⟨cellB, hcB, hoB, hclB⟩, hPc⟩ := hp
  intro T hT X
  obtain ⟨v, vm₁, ⟨U', l2, c2, s2⟩, hW₁, X', ⟨g', mk, t, L, e1, e2, hq, h1, hL, h2, h3⟩, st⟩ := vx_callVW X hx (C := C) (hh := hh) (bytes := bytes) (maxL := maxL) (ret := ret) ho hl hin hse hcode hy hK (by rw [hT]; exact hcB) hoB hclB hg (hsize.trans hml.symm) (argsL := As) (rest := rest) (fun sig h => hn.trans (hlen sig h)) hstack hW (by rw [hb]; exact hdg)
    (fun vm₁ hW₁ => ⟨hf.1, hf.2, hPc (T.setVm vm₁) hT hW₁⟩)
  dsimp only [Pt.U, Pt.locs, Pt.cells, Pt.slots] at X' e1 e2 h1 h2 h3 st
  subst h1; subst h2; subst h3
  exact ⟨v, (T.setVm vm₁).calling g' mk (Value.ref b :: As).toArray, t, U', L, hT, X', hL, e1, e2, hq, st⟩
section
variable {y : MethodName} {bytes cc : ByteArray} {maxL nL mc ms n index : Nat} {ret : Option FieldType} {ws : List Cond} {rm : Room} {Pc : Array Value → State → Prop} {Qc : Array Value → State → Outcome → State → Prop} {XC : String → State → State → Prop} {free : Addr → Prop} {Ts : List Cond} {own C : String} {b : Addr} {As rest : List Value} {g : JFrame}
theorem vx_runVX {hh : List (Nat × Nat × Nat × Nat)} (S : CallFix p m c cc nL s args Ts own) (hM : vx_Met l y ws rm Pc Qc XC mc ms free) (cw : vx_CVW R s args own C index y bytes maxL ret hh ws rm mc ms n) (hp : PreV s H C b Pc As)
    (hg : g.method = m) (hn : As.length = n) (hsize : g.locals.size = nL) (hstack : g.stack = As.reverse ++ .ref b :: rest) (hW : 2 * g.monitorRoom + (rest.map fun v => v.category).sum ≤ 8) (hdg : decode cc g.pc = .ok (.invokevirtual index, 3)) (hf : cells + mc ≤ R.cells ∧ slots + ms ≤ R.slots) :
    vx_Run p l e R s m args below meth c H locs cells slots mc ms g rest (Qc (Value.ref b :: As).toArray) XC free := by
  obtain ⟨⟨hrc, hrs, hfr, hlo, hws, hcw⟩, hcode, hini, hy, hlen, hl, hin, hse⟩ := cw
  have hK : vx_Back l R p e below s args y 3 8 (PreOf R mc ms Pc) (PostOf Qc mc ms free) (vx_Post XC mc ms free) := vx_backW (hh := hh) (bytes := bytes) (maxL := maxL) (ret := ret) hM hp.1 hrc hrs hfr hlo hws hcw (fun a' U hW => word_at hW (Or.inl (by first | rfl | simp [Cond.onTables, Cond.keeps, Cond.steady])) hini)
  obtain ⟨hx, hb, hml, ho, -⟩ := S
  obtain ⟨-, ⟨cellB, hcB, hoB, hclB⟩, hPc⟩ := hp
  intro T hT X
  rcases vx_callVX X hx (C := C) (hh := hh) (bytes := bytes) (maxL := maxL) (ret := ret) ho hl hin hse hcode hy hK (by rw [hT]; exact hcB) hoB hclB hg (hsize.trans hml.symm) (argsL := As) (rest := rest) (fun sig h => hn.trans (hlen sig h)) hstack hW (by rw [hb]; exact hdg)
    (fun vm₁ hW₁ => ⟨hf.1, hf.2, hPc (T.setVm vm₁) hT hW₁⟩) with ⟨v, vm₁, ⟨U', l2, c2, s2⟩, hW₁, X', ⟨g', mk, t, L, e1, e2, hq, h1, hL, h2, h3⟩, st⟩ | ⟨q, vm₁, ⟨U', l2, c2, s2⟩, hW₁, X', ⟨g', mk, t, L, E, ce, e1, e2, hq, hce, hcv, hcl, h1, hL, h2, h3⟩, st⟩
  · dsimp only [Pt.U, Pt.locs, Pt.cells, Pt.slots] at X' e1 e2 h1 h2 h3 st
    subst h1; subst h2; subst h3
    exact Or.inl ⟨v, (T.setVm vm₁).calling g' mk (Value.ref b :: As).toArray, t, U', L, hT, X', hL, e1, e2, hq, st⟩
  · dsimp only [Pt.U, Pt.locs, Pt.cells, Pt.slots] at X' e1 e2 h1 h2 h3 st hcl
    subst h1; subst h2; subst h3
    exact Or.inr ⟨q, (T.setVm vm₁).calling g' mk (Value.ref b :: As).toArray, t, U', L, E, ce, hT, X', hL, e1, e2, hq, hce, hcv, vx_cls hW₁ hcl, st⟩
theorem vx_runSX {hh : List (Nat × Nat × Nat × Nat)} (S : CallFix p m c cc nL s args Ts own) (hM : vx_Met l y ws rm Pc Qc XC mc ms free) (cw : vx_CSW R s args own index y bytes maxL ret hh ws rm mc ms n) (hp : PreS s H Pc As)
    (hg : g.method = m) (hn : As.length = n) (hsize : g.locals.size = nL) (hstack : g.stack = As.reverse ++ rest) (hW : 2 * g.monitorRoom + (rest.map fun v => v.category).sum ≤ 8) (hdg : decode cc g.pc = .ok (.invokestatic index, 3)) (hf : cells + mc ≤ R.cells ∧ slots + ms ≤ R.slots) :
    vx_Run p l e R s m args below meth c H locs cells slots mc ms g rest (Qc As.toArray) XC free := by
  obtain ⟨⟨hrc, hrs, hfr, hlo, hws, hcw⟩, hcode, hini, hy, hlen, hl, hstt⟩ := cw
  have hK : vx_Back l R p e below s args y 3 8 (PreOf R mc ms Pc) (PostOf Qc mc ms free) (vx_Post XC mc ms free) := vx_backW (hh := hh) (bytes := bytes) (maxL := maxL) (ret := ret) hM hp.1 hrc hrs hfr hlo hws hcw (fun a' U hW => word_at hW (Or.inl (by first | rfl | simp [Cond.onTables, Cond.keeps, Cond.steady])) hini)
  obtain ⟨hx, hb, hml, ho, -⟩ := S
  intro T hT X
  rcases vx_callSX X hx (hh := hh) (bytes := bytes) (maxL := maxL) (ret := ret) ho hl hstt hini hcode hy hK hg (hsize.trans hml.symm) (argsL := As) (rest := rest) (fun sig h => hn.trans (hlen sig h)) hstack hW (by rw [hb]; exact hdg)
    (fun vm₁ hW₁ => ⟨hf.1, hf.2, hp.2 (T.setVm vm₁) hT hW₁⟩) with ⟨v, vm₁, ⟨U', l2, c2, s2⟩, hW₁, X', ⟨g', mk, t, L, e1, e2, hq, h1, hL, h2, h3⟩, st⟩ | ⟨q, vm₁, ⟨U', l2, c2, s2⟩, hW₁, X', ⟨g', mk, t, L, E, ce, e1, e2, hq, hce, hcv, hcl, h1, hL, h2, h3⟩, st⟩
  · dsimp only [Pt.U, Pt.locs, Pt.cells, Pt.slots] at X' e1 e2 h1 h2 h3 st
    subst h1; subst h2; subst h3
    exact Or.inl ⟨v, (T.setVm vm₁).calling g' mk As.toArray, t, U', L, hT, X', hL, e1, e2, hq, st⟩
  · dsimp only [Pt.U, Pt.locs, Pt.cells, Pt.slots] at X' e1 e2 h1 h2 h3 st hcl
    subst h1; subst h2; subst h3
    exact Or.inr ⟨q, (T.setVm vm₁).calling g' mk As.toArray, t, U', L, E, ce, hT, X', hL, e1, e2, hq, hce, hcv, vx_cls hW₁ hcl, st⟩
end
end VXH
theorem vx_ofWH {l : Launch} {y : MethodName} {ws ws' : List Cond} {rm : Room} {Pc : Array Value → State → Prop} {Qc : Array Value → State → Outcome → State → Prop} {XC : String → State → State → Prop} {mc ms : Nat} {free : Addr → Prop} {cc : ByteArray} {maxL : Nat} {ret : Option FieldType} {hh : List (Nat × Nat × Nat × Nat)}
    (hy : plainName y.cls = true) (hw : ws = Cond.codeWith y cc maxL ret hh :: ws')
    (body : ∀ p e s m args below meth c s₁, BodyLoose p l y (headSpec ws rm) cc maxL ret e s m args below meth c s₁ → c.maxLocals = maxL → Pc args s →
      W p l e (headSpec ws rm).room s m args below meth c s.heap [] 0 0 (vx_MQ below Qc XC args s mc ms free) (entryFrame m args maxL)) : vx_Met l y ws rm Pc Qc XC mc ms free := by
  refine MetFree.of_bodyS (code := cc) (maxLocals := maxL) (ret := ret) hy ?_ ?_
  · intro args s m h hn
    obtain ⟨m9, meth, c, hn9, h1, h2, h3, h4, -, h5, h6, -⟩ := Cond.codeWith_spec (atoms_spec (ws := ws) h _ (by rw [hw]; exact List.mem_cons_self))
    cases hn.symm.trans hn9
    exact ⟨meth, c, h1, h2, h3, h4, h5, h6⟩
  · intro p e s m args below meth c s₁ B hml hP _
    have hh0 : s₁.heap = s.heap := by rw [B.state]; rfl
    obtain ⟨t, a1, o, b1, b2, b3⟩ := body p e s m args below meth c s₁ B hml hP s₁ hh0 (Stand.of_body B)
    exact ⟨t, o, a1, b1, b2, b3⟩
/-! ===== END ===== -/
end
section
/-- a private method of a class that the tables say can be made, by its rows of tables_1 -/
def lw_okq (q : MethodName × Nat) : Prop := (q.1.cls ≠ "java/lang/invoke/MethodHandle" ∧ q.1.cls ≠ "java/lang/invoke/VarHandle") ∧ Cond.instantiable q.1.cls q.2 ∈ tables_1 ∧ Cond.privateMethod q.1 ∈ tables_1 ∧ Cond.instanceMethod q.1 ∈ tables_1
theorem lw_p0 : lw_okq (⟨"StarlingSquare", "makeNew", "(II)V"⟩, 6) := ⟨⟨by decide +kernel, by decide +kernel⟩, List.mem_of_getElem? (i := 17) (by decide +kernel), List.mem_of_getElem? (i := 190) (by decide +kernel), List.mem_of_getElem? (i := 191) (by decide +kernel)⟩
theorem lw_p1 : lw_okq (⟨"StarlingSquare$Grid", "link", "(II)V"⟩, 4) := ⟨⟨by decide +kernel, by decide +kernel⟩, List.mem_of_getElem? (i := 25) (by decide +kernel), List.mem_of_getElem? (i := 198) (by decide +kernel), List.mem_of_getElem? (i := 199) (by decide +kernel)⟩
theorem lw_p2 : lw_okq (⟨"StarlingSquare$Jams", "isNewOne", "(LStarlingSquare$Crowd;I)Z"⟩, 5) := ⟨⟨by decide +kernel, by decide +kernel⟩, List.mem_of_getElem? (i := 166) (by decide +kernel), List.mem_of_getElem? (i := 273) (by decide +kernel), List.mem_of_getElem? (i := 274) (by decide +kernel)⟩
theorem lw_p3 : lw_okq (⟨"StarlingSquare$Jams", "gather", "(LStarlingSquare$Crowd;I)I"⟩, 5) := ⟨⟨by decide +kernel, by decide +kernel⟩, List.mem_of_getElem? (i := 166) (by decide +kernel), List.mem_of_getElem? (i := 282) (by decide +kernel), List.mem_of_getElem? (i := 283) (by decide +kernel)⟩
theorem lw_p4 : lw_okq (⟨"StarlingSquare$Jams", "gatherBeside", "(LStarlingSquare$Crowd;II)I"⟩, 5) := ⟨⟨by decide +kernel, by decide +kernel⟩, List.mem_of_getElem? (i := 166) (by decide +kernel), List.mem_of_getElem? (i := 286) (by decide +kernel), List.mem_of_getElem? (i := 287) (by decide +kernel)⟩
theorem lw_p5 : lw_okq (⟨"StarlingSquare", "crowdFigure", "(I)I"⟩, 6) := ⟨⟨by decide +kernel, by decide +kernel⟩, List.mem_of_getElem? (i := 17) (by decide +kernel), List.mem_of_getElem? (i := 303) (by decide +kernel), List.mem_of_getElem? (i := 304) (by decide +kernel)⟩
theorem lw_p6 : lw_okq (⟨"StarlingSquare", "mixWalker", "(JI)J"⟩, 6) := ⟨⟨by decide +kernel, by decide +kernel⟩, List.mem_of_getElem? (i := 17) (by decide +kernel), List.mem_of_getElem? (i := 341) (by decide +kernel), List.mem_of_getElem? (i := 342) (by decide +kernel)⟩
theorem lw_p7 : lw_okq (⟨"StarlingSquare$Crowd", "countFacing", "(II)I"⟩, 10) := ⟨⟨by decide +kernel, by decide +kernel⟩, List.mem_of_getElem? (i := 70) (by decide +kernel), List.mem_of_getElem? (i := 365) (by decide +kernel), List.mem_of_getElem? (i := 366) (by decide +kernel)⟩
theorem lw_p8 : lw_okq (⟨"StarlingSquare", "mixField", "(JI)J"⟩, 6) := ⟨⟨by decide +kernel, by decide +kernel⟩, List.mem_of_getElem? (i := 17) (by decide +kernel), List.mem_of_getElem? (i := 369) (by decide +kernel), List.mem_of_getElem? (i := 370) (by decide +kernel)⟩
theorem lw_p9 : lw_okq (⟨"StarlingSquare", "fieldFigure", "(II)I"⟩, 6) := ⟨⟨by decide +kernel, by decide +kernel⟩, List.mem_of_getElem? (i := 17) (by decide +kernel), List.mem_of_getElem? (i := 373) (by decide +kernel), List.mem_of_getElem? (i := 374) (by decide +kernel)⟩
theorem lw_p10 : lw_okq (⟨"java/lang/Throwable", "fillInStackTrace", "(I)Ljava/lang/Throwable;"⟩, 6) := ⟨⟨by decide +kernel, by decide +kernel⟩, List.mem_of_getElem? (i := 430) (by decide +kernel), List.mem_of_getElem? (i := 428) (by decide +kernel), List.mem_of_getElem? (i := 429) (by decide +kernel)⟩
theorem lw_p11 : lw_okq (⟨"StarlingSquare$Square", "spread", "(III)I"⟩, 5) := ⟨⟨by decide +kernel, by decide +kernel⟩, List.mem_of_getElem? (i := 48) (by decide +kernel), List.mem_of_getElem? (i := 528) (by decide +kernel), List.mem_of_getElem? (i := 529) (by decide +kernel)⟩
theorem lw_p12 : lw_okq (⟨"StarlingSquare$Crowd", "step", "()V"⟩, 10) := ⟨⟨by decide +kernel, by decide +kernel⟩, List.mem_of_getElem? (i := 70) (by decide +kernel), List.mem_of_getElem? (i := 631) (by decide +kernel), List.mem_of_getElem? (i := 632) (by decide +kernel)⟩
theorem lw_p13 : lw_okq (⟨"StarlingSquare$Crowd", "aim", "(LStarlingSquare$Walker;I)V"⟩, 10) := ⟨⟨by decide +kernel, by decide +kernel⟩, List.mem_of_getElem? (i := 70) (by decide +kernel), List.mem_of_getElem? (i := 645) (by decide +kernel), List.mem_of_getElem? (i := 646) (by decide +kernel)⟩
theorem lw_p14 : lw_okq (⟨"StarlingSquare$Crowd", "claim", "(I)V"⟩, 10) := ⟨⟨by decide +kernel, by decide +kernel⟩, List.mem_of_getElem? (i := 70) (by decide +kernel), List.mem_of_getElem? (i := 649) (by decide +kernel), List.mem_of_getElem? (i := 650) (by decide +kernel)⟩
theorem lw_p15 : lw_okq (⟨"StarlingSquare$Crowd", "goOrWait", "(I)V"⟩, 10) := ⟨⟨by decide +kernel, by decide +kernel⟩, List.mem_of_getElem? (i := 70) (by decide +kernel), List.mem_of_getElem? (i := 653) (by decide +kernel), List.mem_of_getElem? (i := 654) (by decide +kernel)⟩
def lw_privs_1 : List (MethodName × Nat) := [(⟨"StarlingSquare", "makeNew", "(II)V"⟩, 6), (⟨"StarlingSquare$Grid", "link", "(II)V"⟩, 4), (⟨"StarlingSquare$Jams", "isNewOne", "(LStarlingSquare$Crowd;I)Z"⟩, 5), (⟨"StarlingSquare$Jams", "gather", "(LStarlingSquare$Crowd;I)I"⟩, 5), (⟨"StarlingSquare$Jams", "gatherBeside", "(LStarlingSquare$Crowd;II)I"⟩, 5), (⟨"StarlingSquare", "crowdFigure", "(I)I"⟩, 6), (⟨"StarlingSquare", "mixWalker", "(JI)J"⟩, 6), (⟨"StarlingSquare$Crowd", "countFacing", "(II)I"⟩, 10), (⟨"StarlingSquare", "mixField", "(JI)J"⟩, 6), (⟨"StarlingSquare", "fieldFigure", "(II)I"⟩, 6), (⟨"java/lang/Throwable", "fillInStackTrace", "(I)Ljava/lang/Throwable;"⟩, 6), (⟨"StarlingSquare$Square", "spread", "(III)I"⟩, 5), (⟨"StarlingSquare$Crowd", "step", "()V"⟩, 10), (⟨"StarlingSquare$Crowd", "aim", "(LStarlingSquare$Walker;I)V"⟩, 10), (⟨"StarlingSquare$Crowd", "claim", "(I)V"⟩, 10), (⟨"StarlingSquare$Crowd", "goOrWait", "(I)V"⟩, 10)]
theorem lw_r1 : ∀ q ∈ lw_privs_1, lw_okq q := List.forall_mem_cons.mpr ⟨lw_p0, List.forall_mem_cons.mpr ⟨lw_p1, List.forall_mem_cons.mpr ⟨lw_p2, List.forall_mem_cons.mpr ⟨lw_p3, List.forall_mem_cons.mpr ⟨lw_p4, List.forall_mem_cons.mpr ⟨lw_p5, List.forall_mem_cons.mpr ⟨lw_p6, List.forall_mem_cons.mpr ⟨lw_p7, List.forall_mem_cons.mpr ⟨lw_p8, List.forall_mem_cons.mpr ⟨lw_p9, List.forall_mem_cons.mpr ⟨lw_p10, List.forall_mem_cons.mpr ⟨lw_p11, List.forall_mem_cons.mpr ⟨lw_p12, List.forall_mem_cons.mpr ⟨lw_p13, List.forall_mem_cons.mpr ⟨lw_p14, List.forall_mem_cons.mpr ⟨lw_p15, fun _ h => absurd h List.not_mem_nil⟩⟩⟩⟩⟩⟩⟩⟩⟩⟩⟩⟩⟩⟩⟩⟩
theorem lw_p16 : lw_okq (⟨"StarlingSquare$Crowd", "go", "(LStarlingSquare$Walker;I)V"⟩, 10) := ⟨⟨by decide +kernel, by decide +kernel⟩, List.mem_of_getElem? (i := 70) (by decide +kernel), List.mem_of_getElem? (i := 657) (by decide +kernel), List.mem_of_getElem? (i := 658) (by decide +kernel)⟩
theorem lw_p17 : lw_okq (⟨"StarlingSquare$Square", "nearer", "(II)I"⟩, 5) := ⟨⟨by decide +kernel, by decide +kernel⟩, List.mem_of_getElem? (i := 48) (by decide +kernel), List.mem_of_getElem? (i := 708) (by decide +kernel), List.mem_of_getElem? (i := 709) (by decide +kernel)⟩
theorem lw_p18 : lw_okq (⟨"StarlingSquare", "copyToTrial", "()V"⟩, 6) := ⟨⟨by decide +kernel, by decide +kernel⟩, List.mem_of_getElem? (i := 17) (by decide +kernel), List.mem_of_getElem? (i := 730) (by decide +kernel), List.mem_of_getElem? (i := 731) (by decide +kernel)⟩
theorem lw_p19 : lw_okq (⟨"StarlingSquare$Crowd", "hasJam", "()Z"⟩, 10) := ⟨⟨by decide +kernel, by decide +kernel⟩, List.mem_of_getElem? (i := 70) (by decide +kernel), List.mem_of_getElem? (i := 783) (by decide +kernel), List.mem_of_getElem? (i := 784) (by decide +kernel)⟩
theorem lw_p20 : lw_okq (⟨"StarlingSquare", "countOtherwiseFar", "(II)I"⟩, 6) := ⟨⟨by decide +kernel, by decide +kernel⟩, List.mem_of_getElem? (i := 17) (by decide +kernel), List.mem_of_getElem? (i := 795) (by decide +kernel), List.mem_of_getElem? (i := 796) (by decide +kernel)⟩
theorem lw_p21 : lw_okq (⟨"StarlingSquareModel", "make", "(II)V"⟩, 11) := ⟨⟨by decide +kernel, by decide +kernel⟩, List.mem_of_getElem? (i := 799) (by decide +kernel), List.mem_of_getElem? (i := 805) (by decide +kernel), List.mem_of_getElem? (i := 806) (by decide +kernel)⟩
theorem lw_p22 : lw_okq (⟨"StarlingSquareModel", "no", "(I)I"⟩, 11) := ⟨⟨by decide +kernel, by decide +kernel⟩, List.mem_of_getElem? (i := 799) (by decide +kernel), List.mem_of_getElem? (i := 855) (by decide +kernel), List.mem_of_getElem? (i := 856) (by decide +kernel)⟩
theorem lw_p23 : lw_okq (⟨"StarlingSquareModel", "isField", "(II)Z"⟩, 11) := ⟨⟨by decide +kernel, by decide +kernel⟩, List.mem_of_getElem? (i := 799) (by decide +kernel), List.mem_of_getElem? (i := 863) (by decide +kernel), List.mem_of_getElem? (i := 864) (by decide +kernel)⟩
theorem lw_p24 : lw_okq (⟨"StarlingSquareModel", "walkerOn", "(I)I"⟩, 11) := ⟨⟨by decide +kernel, by decide +kernel⟩, List.mem_of_getElem? (i := 799) (by decide +kernel), List.mem_of_getElem? (i := 869) (by decide +kernel), List.mem_of_getElem? (i := 870) (by decide +kernel)⟩
theorem lw_p25 : lw_okq (⟨"StarlingSquareModel", "fieldNow", "(II)I"⟩, 11) := ⟨⟨by decide +kernel, by decide +kernel⟩, List.mem_of_getElem? (i := 799) (by decide +kernel), List.mem_of_getElem? (i := 888) (by decide +kernel), List.mem_of_getElem? (i := 889) (by decide +kernel)⟩
theorem lw_p26 : lw_okq (⟨"StarlingSquareModel", "round", "(II)I"⟩, 11) := ⟨⟨by decide +kernel, by decide +kernel⟩, List.mem_of_getElem? (i := 799) (by decide +kernel), List.mem_of_getElem? (i := 892) (by decide +kernel), List.mem_of_getElem? (i := 893) (by decide +kernel)⟩
theorem lw_p27 : lw_okq (⟨"StarlingSquareModel", "areRound", "(II)Z"⟩, 11) := ⟨⟨by decide +kernel, by decide +kernel⟩, List.mem_of_getElem? (i := 799) (by decide +kernel), List.mem_of_getElem? (i := 896) (by decide +kernel), List.mem_of_getElem? (i := 897) (by decide +kernel)⟩
theorem lw_p28 : lw_okq (⟨"StarlingSquareModel", "far", "(I)[I"⟩, 11) := ⟨⟨by decide +kernel, by decide +kernel⟩, List.mem_of_getElem? (i := 799) (by decide +kernel), List.mem_of_getElem? (i := 907) (by decide +kernel), List.mem_of_getElem? (i := 908) (by decide +kernel)⟩
theorem lw_p29 : lw_okq (⟨"StarlingSquareModel", "beside", "(II)I"⟩, 11) := ⟨⟨by decide +kernel, by decide +kernel⟩, List.mem_of_getElem? (i := 799) (by decide +kernel), List.mem_of_getElem? (i := 911) (by decide +kernel), List.mem_of_getElem? (i := 912) (by decide +kernel)⟩
theorem lw_p30 : lw_okq (⟨"StarlingSquareModel", "isWalker", "(I)Z"⟩, 11) := ⟨⟨by decide +kernel, by decide +kernel⟩, List.mem_of_getElem? (i := 799) (by decide +kernel), List.mem_of_getElem? (i := 931) (by decide +kernel), List.mem_of_getElem? (i := 932) (by decide +kernel)⟩
theorem lw_p31 : lw_okq (⟨"StarlingSquareModel", "isOn", "(I)Z"⟩, 11) := ⟨⟨by decide +kernel, by decide +kernel⟩, List.mem_of_getElem? (i := 799) (by decide +kernel), List.mem_of_getElem? (i := 935) (by decide +kernel), List.mem_of_getElem? (i := 936) (by decide +kernel)⟩
def lw_privs_2 : List (MethodName × Nat) := [(⟨"StarlingSquare$Crowd", "go", "(LStarlingSquare$Walker;I)V"⟩, 10), (⟨"StarlingSquare$Square", "nearer", "(II)I"⟩, 5), (⟨"StarlingSquare", "copyToTrial", "()V"⟩, 6), (⟨"StarlingSquare$Crowd", "hasJam", "()Z"⟩, 10), (⟨"StarlingSquare", "countOtherwiseFar", "(II)I"⟩, 6), (⟨"StarlingSquareModel", "make", "(II)V"⟩, 11), (⟨"StarlingSquareModel", "no", "(I)I"⟩, 11), (⟨"StarlingSquareModel", "isField", "(II)Z"⟩, 11), (⟨"StarlingSquareModel", "walkerOn", "(I)I"⟩, 11), (⟨"StarlingSquareModel", "fieldNow", "(II)I"⟩, 11), (⟨"StarlingSquareModel", "round", "(II)I"⟩, 11), (⟨"StarlingSquareModel", "areRound", "(II)Z"⟩, 11), (⟨"StarlingSquareModel", "far", "(I)[I"⟩, 11), (⟨"StarlingSquareModel", "beside", "(II)I"⟩, 11), (⟨"StarlingSquareModel", "isWalker", "(I)Z"⟩, 11), (⟨"StarlingSquareModel", "isOn", "(I)Z"⟩, 11)]
theorem lw_r2 : ∀ q ∈ lw_privs_2, lw_okq q := List.forall_mem_cons.mpr ⟨lw_p16, List.forall_mem_cons.mpr ⟨lw_p17, List.forall_mem_cons.mpr ⟨lw_p18, List.forall_mem_cons.mpr ⟨lw_p19, List.forall_mem_cons.mpr ⟨lw_p20, List.forall_mem_cons.mpr ⟨lw_p21, List.forall_mem_cons.mpr ⟨lw_p22, List.forall_mem_cons.mpr ⟨lw_p23, List.forall_mem_cons.mpr ⟨lw_p24, List.forall_mem_cons.mpr ⟨lw_p25, List.forall_mem_cons.mpr ⟨lw_p26, List.forall_mem_cons.mpr ⟨lw_p27, List.forall_mem_cons.mpr ⟨lw_p28, List.forall_mem_cons.mpr ⟨lw_p29, List.forall_mem_cons.mpr ⟨lw_p30, List.forall_mem_cons.mpr ⟨lw_p31, fun _ h => absurd h List.not_mem_nil⟩⟩⟩⟩⟩⟩⟩⟩⟩⟩⟩⟩⟩⟩⟩⟩
theorem lw_p32 : lw_okq (⟨"StarlingSquareModel", "farAll", "()[[I"⟩, 11) := ⟨⟨by decide +kernel, by decide +kernel⟩, List.mem_of_getElem? (i := 799) (by decide +kernel), List.mem_of_getElem? (i := 943) (by decide +kernel), List.mem_of_getElem? (i := 944) (by decide +kernel)⟩
theorem lw_p33 : lw_okq (⟨"StarlingSquareModel", "tickNow", "([[I)I"⟩, 11) := ⟨⟨by decide +kernel, by decide +kernel⟩, List.mem_of_getElem? (i := 799) (by decide +kernel), List.mem_of_getElem? (i := 949) (by decide +kernel), List.mem_of_getElem? (i := 950) (by decide +kernel)⟩
theorem lw_p34 : lw_okq (⟨"StarlingSquareModel", "wantsNow", "(I[I)I"⟩, 11) := ⟨⟨by decide +kernel, by decide +kernel⟩, List.mem_of_getElem? (i := 799) (by decide +kernel), List.mem_of_getElem? (i := 953) (by decide +kernel), List.mem_of_getElem? (i := 954) (by decide +kernel)⟩
theorem lw_p35 : lw_okq (⟨"StarlingSquareModel", "costNow", "(II[I)I"⟩, 11) := ⟨⟨by decide +kernel, by decide +kernel⟩, List.mem_of_getElem? (i := 799) (by decide +kernel), List.mem_of_getElem? (i := 957) (by decide +kernel), List.mem_of_getElem? (i := 958) (by decide +kernel)⟩
theorem lw_p36 : lw_okq (⟨"StarlingSquareModel", "ok", "(I)I"⟩, 11) := ⟨⟨by decide +kernel, by decide +kernel⟩, List.mem_of_getElem? (i := 799) (by decide +kernel), List.mem_of_getElem? (i := 965) (by decide +kernel), List.mem_of_getElem? (i := 966) (by decide +kernel)⟩
theorem lw_p37 : lw_okq (⟨"StarlingSquareModel", "jams", "()[I"⟩, 11) := ⟨⟨by decide +kernel, by decide +kernel⟩, List.mem_of_getElem? (i := 799) (by decide +kernel), List.mem_of_getElem? (i := 973) (by decide +kernel), List.mem_of_getElem? (i := 974) (by decide +kernel)⟩
theorem lw_p38 : lw_okq (⟨"StarlingSquareModel", "manyNow", "(I[I[[I)I"⟩, 11) := ⟨⟨by decide +kernel, by decide +kernel⟩, List.mem_of_getElem? (i := 799) (by decide +kernel), List.mem_of_getElem? (i := 977) (by decide +kernel), List.mem_of_getElem? (i := 978) (by decide +kernel)⟩
theorem lw_p39 : lw_okq (⟨"StarlingSquareModel", "ofNow", "(II[[I)I"⟩, 11) := ⟨⟨by decide +kernel, by decide +kernel⟩, List.mem_of_getElem? (i := 799) (by decide +kernel), List.mem_of_getElem? (i := 988) (by decide +kernel), List.mem_of_getElem? (i := 989) (by decide +kernel)⟩
theorem lw_p40 : lw_okq (⟨"StarlingSquareModel", "farOf", "(I)[I"⟩, 11) := ⟨⟨by decide +kernel, by decide +kernel⟩, List.mem_of_getElem? (i := 799) (by decide +kernel), List.mem_of_getElem? (i := 996) (by decide +kernel), List.mem_of_getElem? (i := 997) (by decide +kernel)⟩
theorem lw_p41 : lw_okq (⟨"StarlingSquareModel", "jamNow", "(I[I)I"⟩, 11) := ⟨⟨by decide +kernel, by decide +kernel⟩, List.mem_of_getElem? (i := 799) (by decide +kernel), List.mem_of_getElem? (i := 1012) (by decide +kernel), List.mem_of_getElem? (i := 1013) (by decide +kernel)⟩
theorem lw_p42 : lw_okq (⟨"StarlingSquareModel", "putBy", "()[[I"⟩, 11) := ⟨⟨by decide +kernel, by decide +kernel⟩, List.mem_of_getElem? (i := 799) (by decide +kernel), List.mem_of_getElem? (i := 1024) (by decide +kernel), List.mem_of_getElem? (i := 1025) (by decide +kernel)⟩
theorem lw_p43 : lw_okq (⟨"StarlingSquareModel", "putBack", "([[I)V"⟩, 11) := ⟨⟨by decide +kernel, by decide +kernel⟩, List.mem_of_getElem? (i := 799) (by decide +kernel), List.mem_of_getElem? (i := 1028) (by decide +kernel), List.mem_of_getElem? (i := 1029) (by decide +kernel)⟩
theorem lw_p44 : lw_okq (⟨"StarlingSquareModel", "outBehind", "(I)I"⟩, 11) := ⟨⟨by decide +kernel, by decide +kernel⟩, List.mem_of_getElem? (i := 799) (by decide +kernel), List.mem_of_getElem? (i := 1036) (by decide +kernel), List.mem_of_getElem? (i := 1037) (by decide +kernel)⟩
def lw_privs_3 : List (MethodName × Nat) := [(⟨"StarlingSquareModel", "farAll", "()[[I"⟩, 11), (⟨"StarlingSquareModel", "tickNow", "([[I)I"⟩, 11), (⟨"StarlingSquareModel", "wantsNow", "(I[I)I"⟩, 11), (⟨"StarlingSquareModel", "costNow", "(II[I)I"⟩, 11), (⟨"StarlingSquareModel", "ok", "(I)I"⟩, 11), (⟨"StarlingSquareModel", "jams", "()[I"⟩, 11), (⟨"StarlingSquareModel", "manyNow", "(I[I[[I)I"⟩, 11), (⟨"StarlingSquareModel", "ofNow", "(II[[I)I"⟩, 11), (⟨"StarlingSquareModel", "farOf", "(I)[I"⟩, 11), (⟨"StarlingSquareModel", "jamNow", "(I[I)I"⟩, 11), (⟨"StarlingSquareModel", "putBy", "()[[I"⟩, 11), (⟨"StarlingSquareModel", "putBack", "([[I)V"⟩, 11), (⟨"StarlingSquareModel", "outBehind", "(I)I"⟩, 11)]
theorem lw_r3 : ∀ q ∈ lw_privs_3, lw_okq q := List.forall_mem_cons.mpr ⟨lw_p32, List.forall_mem_cons.mpr ⟨lw_p33, List.forall_mem_cons.mpr ⟨lw_p34, List.forall_mem_cons.mpr ⟨lw_p35, List.forall_mem_cons.mpr ⟨lw_p36, List.forall_mem_cons.mpr ⟨lw_p37, List.forall_mem_cons.mpr ⟨lw_p38, List.forall_mem_cons.mpr ⟨lw_p39, List.forall_mem_cons.mpr ⟨lw_p40, List.forall_mem_cons.mpr ⟨lw_p41, List.forall_mem_cons.mpr ⟨lw_p42, List.forall_mem_cons.mpr ⟨lw_p43, List.forall_mem_cons.mpr ⟨lw_p44, fun _ h => absurd h List.not_mem_nil⟩⟩⟩⟩⟩⟩⟩⟩⟩⟩⟩⟩⟩
def lw_privs : List (MethodName × Nat) := lw_privs_1 ++ (lw_privs_2 ++ (lw_privs_3))
def lw_tbl : List Cond := k2_sels lw_privs ++ tables_1
theorem lw_privs_ok : ∀ q ∈ lw_privs, lw_okq q := by
  show ∀ q ∈ lw_privs_1 ++ (lw_privs_2 ++ (lw_privs_3)), lw_okq q
  exact List.forall_mem_append.mpr ⟨lw_r1, List.forall_mem_append.mpr ⟨lw_r2, lw_r3⟩⟩
/-- the streams that the claim lets the run draw from -/
abbrev lw_cs : List Choice := [Jvm.Choice.named "NaN.bits"]
theorem lw_bits : nanBits ∈ lw_cs := by first | decide | exact List.mem_cons_self | simp [lw_cs, nanBits]
end
section
def RX0 : String := "StarlingSquare$Crowd"
def TX0 : u_T := fun k => match k with
  | 0 => ("StarlingSquare$Crowd", "count", "I", false)
  | 1 => ("StarlingSquare$Crowd", "time", "I", false)
  | 2 => ("StarlingSquare$Crowd", "draw", "I", false)
  | 3 => ("StarlingSquare$Crowd", "patience", "I", false)
  | 4 => ("StarlingSquare$Crowd", "grid", "LStarlingSquare$Grid;", true)
  | 5 => ("StarlingSquare$Crowd", "square", "LStarlingSquare$Square;", true)
  | 6 => ("StarlingSquare$Crowd", "walkers", "[LStarlingSquare$Walker;", true)
  | 7 => ("StarlingSquare$Crowd", "on", "[I", true)
  | 8 => ("StarlingSquare$Crowd", "heat", "[I", true)
  | _ => ("StarlingSquare$Crowd", "claims", "[I", true)
def tyX0 : Nat → FieldType := fun k => match k with
  | 0 => .int
  | 1 => .int
  | 2 => .int
  | 3 => .int
  | 4 => .object "StarlingSquare$Grid"
  | 5 => .object "StarlingSquare$Square"
  | 6 => .array (.object "StarlingSquare$Walker")
  | 7 => .array .int
  | 8 => .array .int
  | _ => .array .int
abbrev wsX00 : List Cond := u_ws RX0 TX0 10
theorem nmX0 : ∀ a, a < 10 → ∀ b, b < 10 → a ≠ b → (TX0 a).2.1 ≠ (TX0 b).2.1 := by decide +kernel
theorem tyX0_ok : ∀ k, k < 10 → parseFieldDescriptor (TX0 k).2.2.1 = some (tyX0 k) := by decide +kernel
abbrev cX0_init : ByteArray := prog_2_method_1_code
def yX0_init : MethodName := ⟨RX0, "<init>", "(LStarlingSquare$Grid;LStarlingSquare$Square;)V"⟩
abbrev cX0_clear : ByteArray := prog_2_method_2_code
def yX0_clear : MethodName := ⟨RX0, "clear", "()V"⟩
abbrev cX0_copyFrom : ByteArray := prog_2_method_3_code
def yX0_copyFrom : MethodName := ⟨RX0, "copyFrom", "(LStarlingSquare$Crowd;)V"⟩
abbrev cX0_copyWalker : ByteArray := prog_2_method_4_code
def yX0_copyWalker : MethodName := ⟨RX0, "copyWalker", "(LStarlingSquare$Walker;LStarlingSquare$Walker;)V"⟩
abbrev cX0_get : ByteArray := prog_2_method_5_code
def yX0_get : MethodName := ⟨RX0, "get", "(I)LStarlingSquare$Walker;"⟩
abbrev cX0_numberOn : ByteArray := prog_2_method_6_code
def yX0_numberOn : MethodName := ⟨RX0, "numberOn", "(I)I"⟩
abbrev cX0_isAnyoneIn : ByteArray := prog_2_method_7_code
def yX0_isAnyoneIn : MethodName := ⟨RX0, "isAnyoneIn", "(IIII)Z"⟩
abbrev cX0_add : ByteArray := prog_2_method_8_code
def yX0_add : MethodName := ⟨RX0, "add", "(IIII)I"⟩
abbrev cX0_heatOf : ByteArray := prog_2_method_9_code
def yX0_heatOf : MethodName := ⟨RX0, "heatOf", "(I)I"⟩
abbrev cX0_hottest : ByteArray := prog_2_method_10_code
def yX0_hottest : MethodName := ⟨RX0, "hottest", "()I"⟩
abbrev cX0_countOut : ByteArray := prog_2_method_11_code
def yX0_countOut : MethodName := ⟨RX0, "countOut", "()I"⟩
abbrev cX0_countLost : ByteArray := prog_2_method_12_code
def yX0_countLost : MethodName := ⟨RX0, "countLost", "()I"⟩
abbrev cX0_countSteps : ByteArray := prog_2_method_13_code
def yX0_countSteps : MethodName := ⟨RX0, "countSteps", "(Z)I"⟩
abbrev cX0_walkerFigure : ByteArray := prog_2_method_14_code
def yX0_walkerFigure : MethodName := ⟨RX0, "walkerFigure", "(LStarlingSquare$Walker;I)I"⟩
abbrev cX0_countRound : ByteArray := prog_2_method_15_code
def yX0_countRound : MethodName := ⟨RX0, "countRound", "(I)I"⟩
abbrev cX0_countFacing : ByteArray := prog_2_method_16_code
def yX0_countFacing : MethodName := ⟨RX0, "countFacing", "(II)I"⟩
abbrev cX0_costOf : ByteArray := prog_2_method_17_code
def yX0_costOf : MethodName := ⟨RX0, "costOf", "(LStarlingSquare$Walker;I)I"⟩
abbrev cX0_bestSide : ByteArray := prog_2_method_18_code
def yX0_bestSide : MethodName := ⟨RX0, "bestSide", "(LStarlingSquare$Walker;)I"⟩
abbrev cX0_outAfter : ByteArray := prog_2_method_19_code
def yX0_outAfter : MethodName := ⟨RX0, "outAfter", "(I)I"⟩
abbrev cX0_ticksTillOut : ByteArray := prog_2_method_20_code
def yX0_ticksTillOut : MethodName := ⟨RX0, "ticksTillOut", "(II)I"⟩
abbrev cX0_ticksTillJam : ByteArray := prog_2_method_21_code
def yX0_ticksTillJam : MethodName := ⟨RX0, "ticksTillJam", "(I)I"⟩
abbrev cX0_isJammed : ByteArray := prog_2_method_22_code
def yX0_isJammed : MethodName := ⟨RX0, "isJammed", "(LStarlingSquare$Walker;)Z"⟩
abbrev cX0_hasJam : ByteArray := prog_2_method_23_code
def yX0_hasJam : MethodName := ⟨RX0, "hasJam", "()Z"⟩
abbrev cX0_step : ByteArray := prog_2_method_24_code
def yX0_step : MethodName := ⟨RX0, "step", "()V"⟩
abbrev cX0_aim : ByteArray := prog_2_method_25_code
def yX0_aim : MethodName := ⟨RX0, "aim", "(LStarlingSquare$Walker;I)V"⟩
abbrev cX0_claim : ByteArray := prog_2_method_26_code
def yX0_claim : MethodName := ⟨RX0, "claim", "(I)V"⟩
abbrev cX0_goOrWait : ByteArray := prog_2_method_27_code
def yX0_goOrWait : MethodName := ⟨RX0, "goOrWait", "(I)V"⟩
abbrev cX0_go : ByteArray := prog_2_method_28_code
def yX0_go : MethodName := ⟨RX0, "go", "(LStarlingSquare$Walker;I)V"⟩
def RX1 : String := "StarlingSquare$Grid"
def TX1 : u_T := fun k => match k with
  | 0 => ("StarlingSquare$Grid", "fields", "I", false)
  | 1 => ("StarlingSquare$Grid", "width", "I", false)
  | 2 => ("StarlingSquare$Grid", "height", "I", false)
  | _ => ("StarlingSquare$Grid", "near", "[I", true)
def tyX1 : Nat → FieldType := fun k => match k with
  | 0 => .int
  | 1 => .int
  | 2 => .int
  | _ => .array .int
abbrev wsX10 : List Cond := u_ws RX1 TX1 4
theorem nmX1 : ∀ a, a < 4 → ∀ b, b < 4 → a ≠ b → (TX1 a).2.1 ≠ (TX1 b).2.1 := by decide +kernel
theorem tyX1_ok : ∀ k, k < 4 → parseFieldDescriptor (TX1 k).2.2.1 = some (tyX1 k) := by decide +kernel
abbrev cX1_init : ByteArray := prog_3_method_1_code
def yX1_init : MethodName := ⟨RX1, "<init>", "()V"⟩
abbrev cX1_shape : ByteArray := prog_3_method_2_code
def yX1_shape : MethodName := ⟨RX1, "shape", "(II)V"⟩
abbrev cX1_link : ByteArray := prog_3_method_3_code
def yX1_link : MethodName := ⟨RX1, "link", "(II)V"⟩
abbrev cX1_has : ByteArray := prog_3_method_4_code
def yX1_has : MethodName := ⟨RX1, "has", "(I)Z"⟩
abbrev cX1_number : ByteArray := prog_3_method_5_code
def yX1_number : MethodName := ⟨RX1, "number", "(II)I"⟩
abbrev cX1_next : ByteArray := prog_3_method_6_code
def yX1_next : MethodName := ⟨RX1, "next", "(II)I"⟩
def RX2 : String := "StarlingSquare$Jams"
def TX2 : u_T := fun k => match k with
  | 0 => ("StarlingSquare$Jams", "count", "I", false)
  | 1 => ("StarlingSquare$Jams", "walkersIn", "I", false)
  | 2 => ("StarlingSquare$Jams", "jamOf", "[I", true)
  | 3 => ("StarlingSquare$Jams", "sizes", "[I", true)
  | _ => ("StarlingSquare$Jams", "queue", "[I", true)
def tyX2 : Nat → FieldType := fun k => match k with
  | 0 => .int
  | 1 => .int
  | 2 => .array .int
  | 3 => .array .int
  | _ => .array .int
abbrev wsX20 : List Cond := u_ws RX2 TX2 5
theorem nmX2 : ∀ a, a < 5 → ∀ b, b < 5 → a ≠ b → (TX2 a).2.1 ≠ (TX2 b).2.1 := by decide +kernel
theorem tyX2_ok : ∀ k, k < 5 → parseFieldDescriptor (TX2 k).2.2.1 = some (tyX2 k) := by decide +kernel
abbrev cX2_init : ByteArray := prog_4_method_1_code
def yX2_init : MethodName := ⟨RX2, "<init>", "()V"⟩
abbrev cX2_find : ByteArray := prog_4_method_2_code
def yX2_find : MethodName := ⟨RX2, "find", "(LStarlingSquare$Crowd;)V"⟩
abbrev cX2_isNewOne : ByteArray := prog_4_method_3_code
def yX2_isNewOne : MethodName := ⟨RX2, "isNewOne", "(LStarlingSquare$Crowd;I)Z"⟩
abbrev cX2_gather : ByteArray := prog_4_method_4_code
def yX2_gather : MethodName := ⟨RX2, "gather", "(LStarlingSquare$Crowd;I)I"⟩
abbrev cX2_gatherBeside : ByteArray := prog_4_method_5_code
def yX2_gatherBeside : MethodName := ⟨RX2, "gatherBeside", "(LStarlingSquare$Crowd;II)I"⟩
abbrev cX2_greatest : ByteArray := prog_4_method_6_code
def yX2_greatest : MethodName := ⟨RX2, "greatest", "()I"⟩
abbrev cX2_sizeAround : ByteArray := prog_4_method_7_code
def yX2_sizeAround : MethodName := ⟨RX2, "sizeAround", "(I)I"⟩
def RX3 : String := "StarlingSquare$Square"
def TX3 : u_T := fun k => match k with
  | 0 => ("StarlingSquare$Square", "grid", "LStarlingSquare$Grid;", true)
  | 1 => ("StarlingSquare$Square", "walls", "[I", true)
  | 2 => ("StarlingSquare$Square", "marks", "[I", true)
  | 3 => ("StarlingSquare$Square", "distances", "[I", true)
  | _ => ("StarlingSquare$Square", "queue", "[I", true)
def tyX3 : Nat → FieldType := fun k => match k with
  | 0 => .object "StarlingSquare$Grid"
  | 1 => .array .int
  | 2 => .array .int
  | 3 => .array .int
  | _ => .array .int
abbrev wsX30 : List Cond := u_ws RX3 TX3 5
theorem nmX3 : ∀ a, a < 5 → ∀ b, b < 5 → a ≠ b → (TX3 a).2.1 ≠ (TX3 b).2.1 := by decide +kernel
theorem tyX3_ok : ∀ k, k < 5 → parseFieldDescriptor (TX3 k).2.2.1 = some (tyX3 k) := by decide +kernel
abbrev cX3_init : ByteArray := prog_5_method_1_code
def yX3_init : MethodName := ⟨RX3, "<init>", "(LStarlingSquare$Grid;)V"⟩
abbrev cX3_clear : ByteArray := prog_5_method_2_code
def yX3_clear : MethodName := ⟨RX3, "clear", "()V"⟩
abbrev cX3_copyFrom : ByteArray := prog_5_method_3_code
def yX3_copyFrom : MethodName := ⟨RX3, "copyFrom", "(LStarlingSquare$Square;)V"⟩
abbrev cX3_isFree : ByteArray := prog_5_method_4_code
def yX3_isFree : MethodName := ⟨RX3, "isFree", "(I)Z"⟩
abbrev cX3_isMarked : ByteArray := prog_5_method_5_code
def yX3_isMarked : MethodName := ⟨RX3, "isMarked", "(II)Z"⟩
abbrev cX3_distance : ByteArray := prog_5_method_6_code
def yX3_distance : MethodName := ⟨RX3, "distance", "(II)I"⟩
abbrev cX3_build : ByteArray := prog_5_method_7_code
def yX3_build : MethodName := ⟨RX3, "build", "(IZ)V"⟩
abbrev cX3_turnMark : ByteArray := prog_5_method_8_code
def yX3_turnMark : MethodName := ⟨RX3, "turnMark", "(II)V"⟩
abbrev cX3_countWalls : ByteArray := prog_5_method_9_code
def yX3_countWalls : MethodName := ⟨RX3, "countWalls", "()I"⟩
abbrev cX3_countMarks : ByteArray := prog_5_method_10_code
def yX3_countMarks : MethodName := ⟨RX3, "countMarks", "(I)I"⟩
abbrev cX3_greatestDistance : ByteArray := prog_5_method_11_code
def yX3_greatestDistance : MethodName := ⟨RX3, "greatestDistance", "(I)I"⟩
abbrev cX3_measureAll : ByteArray := prog_5_method_12_code
def yX3_measureAll : MethodName := ⟨RX3, "measureAll", "()V"⟩
abbrev cX3_measure : ByteArray := prog_5_method_13_code
def yX3_measure : MethodName := ⟨RX3, "measure", "(I)V"⟩
abbrev cX3_spread : ByteArray := prog_5_method_14_code
def yX3_spread : MethodName := ⟨RX3, "spread", "(III)I"⟩
abbrev cX3_fieldOnWay : ByteArray := prog_5_method_15_code
def yX3_fieldOnWay : MethodName := ⟨RX3, "fieldOnWay", "(III)I"⟩
abbrev cX3_nearer : ByteArray := prog_5_method_16_code
def yX3_nearer : MethodName := ⟨RX3, "nearer", "(II)I"⟩
def RX4 : String := "StarlingSquare$Walker"
def TX4 : u_T := fun k => match k with
  | 0 => ("StarlingSquare$Walker", "goal", "I", false)
  | 1 => ("StarlingSquare$Walker", "pace", "I", false)
  | 2 => ("StarlingSquare$Walker", "mood", "I", false)
  | 3 => ("StarlingSquare$Walker", "place", "I", false)
  | 4 => ("StarlingSquare$Walker", "facing", "I", false)
  | 5 => ("StarlingSquare$Walker", "waited", "I", false)
  | 6 => ("StarlingSquare$Walker", "steps", "I", false)
  | 7 => ("StarlingSquare$Walker", "outAt", "I", false)
  | 8 => ("StarlingSquare$Walker", "hasTurn", "Z", false)
  | 9 => ("StarlingSquare$Walker", "side", "I", false)
  | _ => ("StarlingSquare$Walker", "target", "I", false)
def tyX4 : Nat → FieldType := fun k => match k with
  | 0 => .int
  | 1 => .int
  | 2 => .int
  | 3 => .int
  | 4 => .int
  | 5 => .int
  | 6 => .int
  | 7 => .int
  | 8 => .boolean
  | 9 => .int
  | _ => .int
abbrev wsX40 : List Cond := u_ws RX4 TX4 11
theorem nmX4 : ∀ a, a < 11 → ∀ b, b < 11 → a ≠ b → (TX4 a).2.1 ≠ (TX4 b).2.1 := by decide +kernel
theorem tyX4_ok : ∀ k, k < 11 → parseFieldDescriptor (TX4 k).2.2.1 = some (tyX4 k) := by decide +kernel
abbrev cX4_init : ByteArray := prog_6_method_1_code
def yX4_init : MethodName := ⟨RX4, "<init>", "()V"⟩
abbrev cX4_come : ByteArray := prog_6_method_2_code
def yX4_come : MethodName := ⟨RX4, "come", "(IIII)V"⟩
abbrev cX4_copyFrom : ByteArray := prog_6_method_3_code
def yX4_copyFrom : MethodName := ⟨RX4, "copyFrom", "(LStarlingSquare$Walker;)V"⟩
abbrev cX4_isOut : ByteArray := prog_6_method_4_code
def yX4_isOut : MethodName := ⟨RX4, "isOut", "()Z"⟩
abbrev cX4_isTurnAt : ByteArray := prog_6_method_5_code
def yX4_isTurnAt : MethodName := ⟨RX4, "isTurnAt", "(I)Z"⟩
def RX5 : String := "StarlingSquare"
def TX5 : u_T := fun k => match k with
  | 0 => ("StarlingSquare", "grid", "LStarlingSquare$Grid;", true)
  | 1 => ("StarlingSquare", "square", "LStarlingSquare$Square;", true)
  | 2 => ("StarlingSquare", "crowd", "LStarlingSquare$Crowd;", true)
  | 3 => ("StarlingSquare", "jams", "LStarlingSquare$Jams;", true)
  | 4 => ("StarlingSquare", "trialSquare", "LStarlingSquare$Square;", true)
  | _ => ("StarlingSquare", "trialCrowd", "LStarlingSquare$Crowd;", true)
def tyX5 : Nat → FieldType := fun k => match k with
  | 0 => .object "StarlingSquare$Grid"
  | 1 => .object "StarlingSquare$Square"
  | 2 => .object "StarlingSquare$Crowd"
  | 3 => .object "StarlingSquare$Jams"
  | 4 => .object "StarlingSquare$Square"
  | _ => .object "StarlingSquare$Crowd"
abbrev wsX50 : List Cond := u_ws RX5 TX5 6
theorem nmX5 : ∀ a, a < 6 → ∀ b, b < 6 → a ≠ b → (TX5 a).2.1 ≠ (TX5 b).2.1 := by decide +kernel
theorem tyX5_ok : ∀ k, k < 6 → parseFieldDescriptor (TX5 k).2.2.1 = some (tyX5 k) := by decide +kernel
abbrev cX5_init : ByteArray := prog_1_method_1_code
def yX5_init : MethodName := ⟨RX5, "<init>", "()V"⟩
abbrev cX5_reset : ByteArray := prog_1_method_2_code
def yX5_reset : MethodName := ⟨RX5, "reset", "(II)I"⟩
abbrev cX5_wall : ByteArray := prog_1_method_3_code
def yX5_wall : MethodName := ⟨RX5, "wall", "(IIIIZ)I"⟩
abbrev cX5_mark : ByteArray := prog_1_method_4_code
def yX5_mark : MethodName := ⟨RX5, "mark", "(III)I"⟩
abbrev cX5_set : ByteArray := prog_1_method_5_code
def yX5_set : MethodName := ⟨RX5, "set", "(II)I"⟩
abbrev cX5_field : ByteArray := prog_1_method_6_code
def yX5_field : MethodName := ⟨RX5, "field", "(III)I"⟩
abbrev cX5_far : ByteArray := prog_1_method_7_code
def yX5_far : MethodName := ⟨RX5, "far", "(III)I"⟩
abbrev cX5_farthest : ByteArray := prog_1_method_8_code
def yX5_farthest : MethodName := ⟨RX5, "farthest", "(I)I"⟩
abbrev cX5_walker : ByteArray := prog_1_method_9_code
def yX5_walker : MethodName := ⟨RX5, "walker", "(IIIII)I"⟩
abbrev cX5_turnTo : ByteArray := prog_1_method_10_code
def yX5_turnTo : MethodName := ⟨RX5, "turnTo", "(III)I"⟩
abbrev cX5_tick : ByteArray := prog_1_method_11_code
def yX5_tick : MethodName := ⟨RX5, "tick", "(I)I"⟩
abbrev cX5_clock : ByteArray := prog_1_method_12_code
def yX5_clock : MethodName := ⟨RX5, "clock", "()I"⟩
abbrev cX5_many : ByteArray := prog_1_method_13_code
def yX5_many : MethodName := ⟨RX5, "many", "(I)I"⟩
abbrev cX5_ofWalker : ByteArray := prog_1_method_14_code
def yX5_ofWalker : MethodName := ⟨RX5, "ofWalker", "(II)I"⟩
abbrev cX5_cost : ByteArray := prog_1_method_15_code
def yX5_cost : MethodName := ⟨RX5, "cost", "(II)I"⟩
abbrev cX5_wants : ByteArray := prog_1_method_16_code
def yX5_wants : MethodName := ⟨RX5, "wants", "(I)I"⟩
abbrev cX5_way : ByteArray := prog_1_method_17_code
def yX5_way : MethodName := ⟨RX5, "way", "(II)I"⟩
abbrev cX5_jam : ByteArray := prog_1_method_18_code
def yX5_jam : MethodName := ⟨RX5, "jam", "(I)I"⟩
abbrev cX5_meanSteps : ByteArray := prog_1_method_19_code
def yX5_meanSteps : MethodName := ⟨RX5, "meanSteps", "()D"⟩
abbrev cX5_outIn : ByteArray := prog_1_method_20_code
def yX5_outIn : MethodName := ⟨RX5, "outIn", "(II)I"⟩
abbrev cX5_outWith : ByteArray := prog_1_method_21_code
def yX5_outWith : MethodName := ⟨RX5, "outWith", "(II)I"⟩
abbrev cX5_outBy : ByteArray := prog_1_method_22_code
def yX5_outBy : MethodName := ⟨RX5, "outBy", "(III)I"⟩
abbrev cX5_jamIn : ByteArray := prog_1_method_23_code
def yX5_jamIn : MethodName := ⟨RX5, "jamIn", "(I)I"⟩
abbrev cX5_farWith : ByteArray := prog_1_method_24_code
def yX5_farWith : MethodName := ⟨RX5, "farWith", "(III)I"⟩
abbrev cX5_digest : ByteArray := prog_1_method_25_code
def yX5_digest : MethodName := ⟨RX5, "digest", "()J"⟩
abbrev cX5_makeNew : ByteArray := prog_1_method_26_code
def yX5_makeNew : MethodName := ⟨RX5, "makeNew", "(II)V"⟩
abbrev cX5_copyToTrial : ByteArray := prog_1_method_27_code
def yX5_copyToTrial : MethodName := ⟨RX5, "copyToTrial", "()V"⟩
abbrev cX5_fieldFigure : ByteArray := prog_1_method_28_code
def yX5_fieldFigure : MethodName := ⟨RX5, "fieldFigure", "(II)I"⟩
abbrev cX5_crowdFigure : ByteArray := prog_1_method_29_code
def yX5_crowdFigure : MethodName := ⟨RX5, "crowdFigure", "(I)I"⟩
abbrev cX5_countOtherwiseFar : ByteArray := prog_1_method_30_code
def yX5_countOtherwiseFar : MethodName := ⟨RX5, "countOtherwiseFar", "(II)I"⟩
abbrev cX5_mixWalker : ByteArray := prog_1_method_31_code
def yX5_mixWalker : MethodName := ⟨RX5, "mixWalker", "(JI)J"⟩
abbrev cX5_mixField : ByteArray := prog_1_method_32_code
def yX5_mixField : MethodName := ⟨RX5, "mixField", "(JI)J"⟩
abbrev cX5_mix : ByteArray := prog_1_method_33_code
def yX5_mix : MethodName := ⟨RX5, "mix", "(JI)J"⟩
abbrev cX5_isGoal : ByteArray := prog_1_method_34_code
def yX5_isGoal : MethodName := ⟨RX5, "isGoal", "(I)Z"⟩
abbrev cX5_isMood : ByteArray := prog_1_method_35_code
def yX5_isMood : MethodName := ⟨RX5, "isMood", "(I)Z"⟩
abbrev cX5_isAhead : ByteArray := prog_1_method_36_code
def yX5_isAhead : MethodName := ⟨RX5, "isAhead", "(I)Z"⟩
def RX6 : String := "StarlingSquareModel"
def TX6 : u_T := fun k => match k with
  | 0 => ("StarlingSquareModel", "thrown", "I", false)
  | 1 => ("StarlingSquareModel", "w", "I", false)
  | 2 => ("StarlingSquareModel", "h", "I", false)
  | 3 => ("StarlingSquareModel", "clock", "I", false)
  | 4 => ("StarlingSquareModel", "draw", "I", false)
  | 5 => ("StarlingSquareModel", "jam", "I", false)
  | 6 => ("StarlingSquareModel", "isWall", "[Z", false)
  | 7 => ("StarlingSquareModel", "isMarked", "[Z", false)
  | 8 => ("StarlingSquareModel", "walkers", "I", false)
  | 9 => ("StarlingSquareModel", "its", "[I", false)
  | _ => ("StarlingSquareModel", "heat", "[I", false)
def tyX6 : Nat → FieldType := fun k => match k with
  | 0 => .int
  | 1 => .int
  | 2 => .int
  | 3 => .int
  | 4 => .int
  | 5 => .int
  | 6 => .array .boolean
  | 7 => .array .boolean
  | 8 => .int
  | 9 => .array .int
  | _ => .array .int
abbrev wsX60 : List Cond := u_ws RX6 TX6 11
theorem nmX6 : ∀ a, a < 11 → ∀ b, b < 11 → a ≠ b → (TX6 a).2.1 ≠ (TX6 b).2.1 := by decide +kernel
theorem tyX6_ok : ∀ k, k < 11 → parseFieldDescriptor (TX6 k).2.2.1 = some (tyX6 k) := by decide +kernel
abbrev cX6_init : ByteArray := prog_8_method_1_code
def yX6_init : MethodName := ⟨RX6, "<init>", "()V"⟩
abbrev cX6_make : ByteArray := prog_8_method_2_code
def yX6_make : MethodName := ⟨RX6, "make", "(II)V"⟩
abbrev cX6_thrown : ByteArray := prog_8_method_3_code
def yX6_thrown : MethodName := ⟨RX6, "thrown", "()I"⟩
abbrev cX6_no : ByteArray := prog_8_method_4_code
def yX6_no : MethodName := ⟨RX6, "no", "(I)I"⟩
abbrev cX6_ok : ByteArray := prog_8_method_5_code
def yX6_ok : MethodName := ⟨RX6, "ok", "(I)I"⟩
abbrev cX6_isIn : ByteArray := prog_8_method_6_code
def yX6_isIn : MethodName := ⟨RX6, "isIn", "(III)Z"⟩
abbrev cX6_isField : ByteArray := prog_8_method_7_code
def yX6_isField : MethodName := ⟨RX6, "isField", "(II)Z"⟩
abbrev cX6_isGoal : ByteArray := prog_8_method_8_code
def yX6_isGoal : MethodName := ⟨RX6, "isGoal", "(I)Z"⟩
abbrev cX6_isWalker : ByteArray := prog_8_method_9_code
def yX6_isWalker : MethodName := ⟨RX6, "isWalker", "(I)Z"⟩
abbrev cX6_isOn : ByteArray := prog_8_method_10_code
def yX6_isOn : MethodName := ⟨RX6, "isOn", "(I)Z"⟩
abbrev cX6_beside : ByteArray := prog_8_method_11_code
def yX6_beside : MethodName := ⟨RX6, "beside", "(II)I"⟩
abbrev cX6_areRound : ByteArray := prog_8_method_12_code
def yX6_areRound : MethodName := ⟨RX6, "areRound", "(II)Z"⟩
abbrev cX6_walkerOn : ByteArray := prog_8_method_13_code
def yX6_walkerOn : MethodName := ⟨RX6, "walkerOn", "(I)I"⟩
abbrev cX6_round : ByteArray := prog_8_method_14_code
def yX6_round : MethodName := ⟨RX6, "round", "(II)I"⟩
abbrev cX6_far : ByteArray := prog_8_method_15_code
def yX6_far : MethodName := ⟨RX6, "far", "(I)[I"⟩
abbrev cX6_farAll : ByteArray := prog_8_method_16_code
def yX6_farAll : MethodName := ⟨RX6, "farAll", "()[[I"⟩
abbrev cX6_reset : ByteArray := prog_8_method_17_code
def yX6_reset : MethodName := ⟨RX6, "reset", "(II)I"⟩
abbrev cX6_wall : ByteArray := prog_8_method_18_code
def yX6_wall : MethodName := ⟨RX6, "wall", "(IIIIZ)I"⟩
abbrev cX6_mark : ByteArray := prog_8_method_19_code
def yX6_mark : MethodName := ⟨RX6, "mark", "(III)I"⟩
abbrev cX6_set : ByteArray := prog_8_method_20_code
def yX6_set : MethodName := ⟨RX6, "set", "(II)I"⟩
abbrev cX6_fieldNow : ByteArray := prog_8_method_21_code
def yX6_fieldNow : MethodName := ⟨RX6, "fieldNow", "(II)I"⟩
abbrev cX6_field : ByteArray := prog_8_method_22_code
def yX6_field : MethodName := ⟨RX6, "field", "(III)I"⟩
abbrev cX6_far_ : ByteArray := prog_8_method_23_code
def yX6_far_ : MethodName := ⟨RX6, "far", "(III)I"⟩
abbrev cX6_most : ByteArray := prog_8_method_24_code
def yX6_most : MethodName := ⟨RX6, "most", "([I)I"⟩
abbrev cX6_farthest : ByteArray := prog_8_method_25_code
def yX6_farthest : MethodName := ⟨RX6, "farthest", "(I)I"⟩
abbrev cX6_walker : ByteArray := prog_8_method_26_code
def yX6_walker : MethodName := ⟨RX6, "walker", "(IIIII)I"⟩
abbrev cX6_turnTo : ByteArray := prog_8_method_27_code
def yX6_turnTo : MethodName := ⟨RX6, "turnTo", "(III)I"⟩
abbrev cX6_costNow : ByteArray := prog_8_method_28_code
def yX6_costNow : MethodName := ⟨RX6, "costNow", "(II[I)I"⟩
abbrev cX6_wantsNow : ByteArray := prog_8_method_29_code
def yX6_wantsNow : MethodName := ⟨RX6, "wantsNow", "(I[I)I"⟩
abbrev cX6_tickNow : ByteArray := prog_8_method_30_code
def yX6_tickNow : MethodName := ⟨RX6, "tickNow", "([[I)I"⟩
abbrev cX6_tick : ByteArray := prog_8_method_31_code
def yX6_tick : MethodName := ⟨RX6, "tick", "(I)I"⟩
abbrev cX6_clock : ByteArray := prog_8_method_32_code
def yX6_clock : MethodName := ⟨RX6, "clock", "()I"⟩
abbrev cX6_jams : ByteArray := prog_8_method_33_code
def yX6_jams : MethodName := ⟨RX6, "jams", "()[I"⟩
abbrev cX6_count : ByteArray := prog_8_method_34_code
def yX6_count : MethodName := ⟨RX6, "count", "([II)I"⟩
abbrev cX6_manyNow : ByteArray := prog_8_method_35_code
def yX6_manyNow : MethodName := ⟨RX6, "manyNow", "(I[I[[I)I"⟩
abbrev cX6_many : ByteArray := prog_8_method_36_code
def yX6_many : MethodName := ⟨RX6, "many", "(I)I"⟩
abbrev cX6_ofNow : ByteArray := prog_8_method_37_code
def yX6_ofNow : MethodName := ⟨RX6, "ofNow", "(II[[I)I"⟩
abbrev cX6_ofWalker : ByteArray := prog_8_method_38_code
def yX6_ofWalker : MethodName := ⟨RX6, "ofWalker", "(II)I"⟩
abbrev cX6_farOf : ByteArray := prog_8_method_39_code
def yX6_farOf : MethodName := ⟨RX6, "farOf", "(I)[I"⟩
abbrev cX6_cost : ByteArray := prog_8_method_40_code
def yX6_cost : MethodName := ⟨RX6, "cost", "(II)I"⟩
abbrev cX6_wants : ByteArray := prog_8_method_41_code
def yX6_wants : MethodName := ⟨RX6, "wants", "(I)I"⟩
abbrev cX6_way : ByteArray := prog_8_method_42_code
def yX6_way : MethodName := ⟨RX6, "way", "(II)I"⟩
abbrev cX6_jamNow : ByteArray := prog_8_method_43_code
def yX6_jamNow : MethodName := ⟨RX6, "jamNow", "(I[I)I"⟩
abbrev cX6_jam : ByteArray := prog_8_method_44_code
def yX6_jam : MethodName := ⟨RX6, "jam", "(I)I"⟩
abbrev cX6_meanSteps : ByteArray := prog_8_method_45_code
def yX6_meanSteps : MethodName := ⟨RX6, "meanSteps", "()D"⟩
abbrev cX6_putBy : ByteArray := prog_8_method_46_code
def yX6_putBy : MethodName := ⟨RX6, "putBy", "()[[I"⟩
abbrev cX6_putBack : ByteArray := prog_8_method_47_code
def yX6_putBack : MethodName := ⟨RX6, "putBack", "([[I)V"⟩
abbrev cX6_outIn : ByteArray := prog_8_method_48_code
def yX6_outIn : MethodName := ⟨RX6, "outIn", "(II)I"⟩
abbrev cX6_outBehind : ByteArray := prog_8_method_49_code
def yX6_outBehind : MethodName := ⟨RX6, "outBehind", "(I)I"⟩
abbrev cX6_outWith : ByteArray := prog_8_method_50_code
def yX6_outWith : MethodName := ⟨RX6, "outWith", "(II)I"⟩
abbrev cX6_outBy : ByteArray := prog_8_method_51_code
def yX6_outBy : MethodName := ⟨RX6, "outBy", "(III)I"⟩
abbrev cX6_jamIn : ByteArray := prog_8_method_52_code
def yX6_jamIn : MethodName := ⟨RX6, "jamIn", "(I)I"⟩
abbrev cX6_farWith : ByteArray := prog_8_method_53_code
def yX6_farWith : MethodName := ⟨RX6, "farWith", "(III)I"⟩
abbrev cX6_digest : ByteArray := prog_8_method_54_code
def yX6_digest : MethodName := ⟨RX6, "digest", "()J"⟩
def RJ9 : String := "java/lang/Math"
def TJ9 : u_T := fun k => match k with
  | _ => ("", "", "", false)
def tyJ9 : Nat → FieldType := fun k => match k with
  | _ => .int
abbrev wsJ90 : List Cond := u_ws RJ9 TJ9 0
theorem nmJ9 : ∀ a, a < 0 → ∀ b, b < 0 → a ≠ b → (TJ9 a).2.1 ≠ (TJ9 b).2.1 := by decide +kernel
theorem tyJ9_ok : ∀ k, k < 0 → parseFieldDescriptor (TJ9 k).2.2.1 = some (tyJ9 k) := by decide +kernel
abbrev cJ9_abs_0f7a4 : ByteArray := prog_13_method_59_code
def yJ9_abs_0f7a4 : MethodName := ⟨RJ9, "abs", "(I)I"⟩
abbrev cJ9_max_7cf53 : ByteArray := prog_13_method_65_code
def yJ9_max_7cf53 : MethodName := ⟨RJ9, "max", "(II)I"⟩
abbrev cJ9_min_7cf53 : ByteArray := prog_13_method_69_code
def yJ9_min_7cf53 : MethodName := ⟨RJ9, "min", "(II)I"⟩
def RJ0 : String := "java/lang/String"
def TJ0 : u_T := fun k => match k with
  | _ => ("", "", "", false)
def tyJ0 : Nat → FieldType := fun k => match k with
  | _ => .int
abbrev wsJ00 : List Cond := u_ws RJ0 TJ0 0
theorem nmJ0 : ∀ a, a < 0 → ∀ b, b < 0 → a ≠ b → (TJ0 a).2.1 ≠ (TJ0 b).2.1 := by decide +kernel
theorem tyJ0_ok : ∀ k, k < 0 → parseFieldDescriptor (TJ0 k).2.2.1 = some (tyJ0 k) := by decide +kernel
def RJ10 : String := "java/lang/System"
def TJ10 : u_T := fun k => match k with
  | _ => ("", "", "", false)
def tyJ10 : Nat → FieldType := fun k => match k with
  | _ => .int
abbrev wsJ100 : List Cond := u_ws RJ10 TJ10 0
theorem nmJ10 : ∀ a, a < 0 → ∀ b, b < 0 → a ≠ b → (TJ10 a).2.1 ≠ (TJ10 b).2.1 := by decide +kernel
theorem tyJ10_ok : ∀ k, k < 0 → parseFieldDescriptor (TJ10 k).2.2.1 = some (tyJ10 k) := by decide +kernel
def RL : String := "StarlingSquareLaw"
abbrev cL_reset : ByteArray := method_3_code
def yL_reset : MethodName := ⟨RL, "reset", "(LStarlingSquare;II[J)I"⟩
abbrev cL_wall : ByteArray := method_4_code
def yL_wall : MethodName := ⟨RL, "wall", "(LStarlingSquare;IIIIZ[J)I"⟩
abbrev cL_mark : ByteArray := method_5_code
def yL_mark : MethodName := ⟨RL, "mark", "(LStarlingSquare;III[J)I"⟩
abbrev cL_set : ByteArray := method_6_code
def yL_set : MethodName := ⟨RL, "set", "(LStarlingSquare;II[J)I"⟩
abbrev cL_field : ByteArray := method_7_code
def yL_field : MethodName := ⟨RL, "field", "(LStarlingSquare;III[J)I"⟩
abbrev cL_far : ByteArray := method_8_code
def yL_far : MethodName := ⟨RL, "far", "(LStarlingSquare;III[J)I"⟩
abbrev cL_farthest : ByteArray := method_9_code
def yL_farthest : MethodName := ⟨RL, "farthest", "(LStarlingSquare;I[J)I"⟩
abbrev cL_walker : ByteArray := method_10_code
def yL_walker : MethodName := ⟨RL, "walker", "(LStarlingSquare;IIIII[J)I"⟩
abbrev cL_turnTo : ByteArray := method_11_code
def yL_turnTo : MethodName := ⟨RL, "turnTo", "(LStarlingSquare;III[J)I"⟩
abbrev cL_tick : ByteArray := method_12_code
def yL_tick : MethodName := ⟨RL, "tick", "(LStarlingSquare;I[J)I"⟩
abbrev cL_many : ByteArray := method_13_code
def yL_many : MethodName := ⟨RL, "many", "(LStarlingSquare;I[J)I"⟩
abbrev cL_ofWalker : ByteArray := method_14_code
def yL_ofWalker : MethodName := ⟨RL, "ofWalker", "(LStarlingSquare;II[J)I"⟩
abbrev cL_cost : ByteArray := method_15_code
def yL_cost : MethodName := ⟨RL, "cost", "(LStarlingSquare;II[J)I"⟩
abbrev cL_wants : ByteArray := method_16_code
def yL_wants : MethodName := ⟨RL, "wants", "(LStarlingSquare;I[J)I"⟩
abbrev cL_way : ByteArray := method_17_code
def yL_way : MethodName := ⟨RL, "way", "(LStarlingSquare;II[J)I"⟩
abbrev cL_jam : ByteArray := method_18_code
def yL_jam : MethodName := ⟨RL, "jam", "(LStarlingSquare;I[J)I"⟩
abbrev cL_outIn : ByteArray := method_19_code
def yL_outIn : MethodName := ⟨RL, "outIn", "(LStarlingSquare;II[J)I"⟩
abbrev cL_outWith : ByteArray := method_20_code
def yL_outWith : MethodName := ⟨RL, "outWith", "(LStarlingSquare;II[J)I"⟩
abbrev cL_outBy : ByteArray := method_21_code
def yL_outBy : MethodName := ⟨RL, "outBy", "(LStarlingSquare;III[J)I"⟩
abbrev cL_jamIn : ByteArray := method_22_code
def yL_jamIn : MethodName := ⟨RL, "jamIn", "(LStarlingSquare;I[J)I"⟩
abbrev cL_farWith : ByteArray := method_23_code
def yL_farWith : MethodName := ⟨RL, "farWith", "(LStarlingSquare;III[J)I"⟩
abbrev cL_law : ByteArray := code
def yL_law : MethodName := ⟨RL, "law", "([I)Z"⟩
abbrev vwCl : List vw_C := [(RX0, TX0, 10), (RX1, TX1, 4), (RX2, TX2, 5), (RX3, TX3, 5), (RX4, TX4, 11), (RX5, TX5, 6), (RX6, TX6, 11)]
end
section
/-! THE ABSTRACT MACHINE LAYER: the kit's walks with everything that stays the same hidden: 'ms_W' says that from an abstract state (program counter, locals, stack, heap size, abstract heap, room left) the method comes to its end with P. One rule an instruction. -/
abbrev ms_E : Type := (Nat × vp_A) ⊕ (Nat × List Value)
abbrev ms_H : Type := Nat → Option ms_E
/-- what a run ends with: a value (or none), or the class of what was thrown -/
abbrev ms_Rs : Type := Option Value ⊕ String
abbrev ms_P : Type := ms_Rs → Nat → ms_H → Prop
/-- a method: name, code, locals, answer, frames and words of locals that it may use below it -/
abbrev ms_D : Type := MethodName × ByteArray × Nat × Option FieldType × Nat × Nat
def ms_cE (cA : Nat → ClassId) : ms_E → va_E
  | .inl x => .inl (cA x.1, x.2)
  | .inr o => .inr o
def ms_up (G : ms_H) (a : Nat) (x : ms_E) : ms_H := fun b => if b = a then some x else G b
theorem ms_up_s (G : ms_H) (a : Nat) (x : ms_E) : ms_up G a x a = some x := if_pos rfl
theorem ms_up_n (G : ms_H) {a b : Nat} (x : ms_E) (h : b ≠ a) : ms_up G a x b = G b := if_neg h
theorem ms_up_up (G : ms_H) (a : Nat) (x y : ms_E) : ms_up (ms_up G a x) a y = ms_up G a y := by
  funext b; unfold ms_up; by_cases h : b = a <;> simp [h]
theorem ms_up_id (G : ms_H) {a : Nat} {x : ms_E} (h : G a = some x) : ms_up G a x = G := by
  funext b; unfold ms_up; by_cases hb : b = a
  · subst hb; simp [h]
  · simp [hb]
theorem ms_up_co (G : ms_H) {a b : Nat} (x y : ms_E) (h : a ≠ b) : ms_up (ms_up G a x) b y = ms_up (ms_up G b y) a x := by
  funext c; unfold ms_up; by_cases h1 : c = a <;> by_cases h2 : c = b <;> simp [h1, h2]
  · subst h1; subst h2; exact absurd rfl h
  · intro h3; exact absurd h3 h
  · intro h3; exact absurd h3.symm h
def ms_wd (D : va_G) (cA : Nat → ClassId) (base : Nat) (G : ms_H) (H : Heap) : Prop := ∀ (a : Nat) (x : ms_E), G a = some x → va_at D vwCl (a, ms_cE cA x) H ∧ base ≤ a
def ms_tys (cA : Nat → ClassId) : List (ClassId × FieldType) := [(cA 0, .int), (cA 1, .boolean), (cA 2, .long), (cA 3, .object "StarlingSquare$Walker"), (cA 4, .array .int)]
/-- the tables' words that stay where they are whatever is resolved -/
def ms_big : List Cond := lw_tbl.filter goodWord
theorem ms_big_good : ∀ w ∈ ms_big, goodWord w = true := fun w h => (List.mem_filter.mp h).2
theorem ms_big_in {w : Cond} (h : w ∈ lw_tbl) (hg : goodWord w = true) : w ∈ ms_big := List.mem_filter.mpr ⟨h, hg⟩
def ms_sx (j : Nat) : Int32 := [1, 0, -1, 0, 1, -1, -1, 1].getD j 0
def ms_sy (j : Nat) : Int32 := [0, 1, 0, -1, 1, 1, -1, -1].getD j 0
def ms_nF : List (String × Nat × String × String × String × String) := [("StarlingSquare$Grid", 37, "StarlingSquare", "STEP_X", "[I", "StarlingSquare"), ("StarlingSquare$Grid", 40, "StarlingSquare", "STEP_Y", "[I", "StarlingSquare"), ("StarlingSquare$Jams", 51, "StarlingSquare$Crowd", "grid", "LStarlingSquare$Grid;", "StarlingSquare")]
/-- the static rows -/
def ms_st (base : Nat) (U : State) (H : Heap) : Prop :=
  (∃ t, va_Z "StarlingSquare" "STEP_X" "[I" (.ref t) (fun q => base ≤ q) U H ∧ va_T .int t 8 (fun j => .int (ms_sx j)) (fun q => base ≤ q) U H) ∧
  (∃ t, va_Z "StarlingSquare" "STEP_Y" "[I" (.ref t) (fun q => base ≤ q) U H ∧ va_T .int t 8 (fun j => .int (ms_sy j)) (fun q => base ≤ q) U H)
/-- the links between nest mates -/
def ms_nM : List (String × Nat × MethodName × String) := [(RX5, 9, yX1_init, RX5), (RX5, 36, yX2_init, RX5), (RX0, 42, yX4_init, RX5), (RX3, 40, yX5_isGoal, RX5)]
def ms_nw (U : State) : Prop := (∀ q ∈ ms_nM, va_Nw (.methodLinkNest q.1 q.2.1 q.2.2.1 q.2.2.2) U) ∧ ∀ q ∈ ms_nF, va_Nw (.fieldLinkNest q.1 q.2.1 q.2.2.1 q.2.2.2.1 q.2.2.2.2.1 q.2.2.2.2.2) U
def ms_SE (D : va_G) (cA : Nat → ClassId) (base : Nat) (U : State) : Prop := va_K D vwCl (ms_tys cA) U ∧ ms_st base U U.heap ∧ ms_nw U ∧ va_AO "StarlingSquare$Walker" U ∧ (Cond.arrayOver (.array .int)).before #[] U = true
theorem ms_st.kept {base : Nat} {u U : State} {H H1 : Heap} (hvm : u.vm.Alike U.vm) (h : ms_st base u H) (hq : ∀ a : Nat, a < H.size → ¬ base ≤ a → H1[a]? = H[a]?) : ms_st base U H1 := by
  obtain ⟨⟨t, a1, a2⟩, t', b1, b2⟩ := h
  exact ⟨⟨t, (a1.moved hvm).kept hq, (a2.moved hvm).kept hq⟩, t', (b1.moved hvm).kept hq, (b2.moved hvm).kept hq⟩
theorem ms_SE.to {D : va_G} {cA : Nat → ClassId} {base : Nat} {s U : State} {H : Heap} {locs : List Loc} (h : ms_SE D cA base s) (hU : U.heap = H) (hW : s.WarmedH U.vm) (hS : va_S (fun q => base ≤ q) s.heap H locs) : ms_SE D cA base U := by
  obtain ⟨h1, h2, ⟨h3, h4⟩, h5, h6⟩ := h
  exact ⟨va_K.moved hW.alike h1, ms_st.kept hW.alike h2 (fun a ha hb => by rw [hU]; exact hS.2.1 a ha hb), ⟨fun q hq => (h3 q hq).warmM hW, fun q hq => (h4 q hq).warmF hW⟩, h5.moved hW.alike, over_moved hW.alike h6⟩
theorem ms_SE.blind {D : va_G} {cA : Nat → ClassId} {base : Nat} {U : State} {g : JFrame} {mk : MethodId} {a : Array Value} (h : ms_SE D cA base U) : ms_SE D cA base (U.calling g mk a) := by
  obtain ⟨h1, h2, ⟨h3, h4⟩, h5, h6⟩ := h
  exact ⟨va_K.moved (u := U) (U := U.calling g mk a) (Vm.Alike.refl U.vm) h1, ms_st.kept (u := U) (U := U.calling g mk a) (Vm.Alike.refl U.vm) h2 (fun _ _ _ => rfl), ⟨fun q hq => (h3 q hq).same rfl rfl, fun q hq => (h4 q hq).same rfl rfl⟩, va_AO.moved (u := U) (U := U.calling g mk a) (Vm.Alike.refl U.vm) h5, over_moved (u := U) (E := U.calling g mk a) (Vm.Alike.refl U.vm) h6⟩
def ms_R (d : ms_D) (mc ms : Nat) : Room := { frames := d.2.2.2.2.1, cells := mc, slots := ms, locals := d.2.2.2.2.2 }
/-- what stays the same in a method's walk -/
def ms_FX (d : ms_D) (p : Program) (l : Launch) (s : State) (m : MethodId) (args : Array Value) (meth : Method) (c : Code) (D : va_G) (cA : Nat → ClassId) (base : Nat) : Prop :=
  p.tables.exec = Jvm.exec ∧ c.code = d.2.1 ∧ meth.sig.returnType = d.2.2.2.1 ∧ c.maxLocals = d.2.2.1 ∧ meth.locks = false ∧ s.vm.findClass d.1.cls = some m.cls ∧ meth.name = d.1.name ∧ (∀ w ∈ ms_big, w.before args s = true) ∧ ms_SE D cA base s ∧ l.flags = flags0 ∧ (∀ z ∈ c.exceptionTable.toList, False) ∧ base ≤ s.heap.size
def ms_Qc (D : va_G) (cA : Nat → ClassId) (base : Nat) (P : ms_P) : Array Value → State → Outcome → State → Prop := fun _ st oc t => ∃ (v : Option Value) (G' : ms_H), oc = .returned v ∧ P (.inl v) t.heap.size G' ∧ ms_wd D cA base G' t.heap ∧ va_F (fun q => base ≤ q) st t
def ms_XC (D : va_G) (cA : Nat → ClassId) (base : Nat) (P : ms_P) : String → State → State → Prop := fun E st t => ∃ G' : ms_H, P (.inr E) t.heap.size G' ∧ ms_wd D cA base G' t.heap ∧ va_F (fun q => base ≤ q) st t
def ms_T (x : Bool) (D : va_G) (cA : Nat → ClassId) (base : Nat) (P : ms_P) (below : List Frame) (args : Array Value) (s : State) (mc ms : Nat) : State → Prop := match x with
  | false => MQ below (ms_Qc D cA base P) args s mc ms (fun q => base ≤ q)
  | true => vx_MQ below (ms_Qc D cA base P) (ms_XC D cA base P) args s mc ms (fun q => base ≤ q)
def ms_W (x : Bool) (d : ms_D) (P : ms_P) (pc : Nat) (lv : List (Nat × Value)) (st : List Value) (n : Nat) (G : ms_H) (kr zr : Nat) : Prop :=
  ∀ (mc ms : Nat) (p : Program) (l : Launch) (e : Env) (s : State) (m : MethodId) (args : Array Value) (below : List Frame) (meth : Method) (c : Code) (D : va_G) (cA : Nat → ClassId) (base : Nat) (H : Heap) (locs : List Loc) (cells slots : Nat) (ls : Array Slot),
    ms_FX d p l s m args meth c D cA base → cells + kr ≤ mc → slots + zr ≤ ms → H.size = n → ms_wd D cA base G H → va_S (fun q => base ≤ q) s.heap H locs → lv_has ls d.2.2.1 lv →
    W p l e (ms_R d mc ms) s m args below meth c H locs cells slots (ms_T x D cA base P below args s mc ms) (F0 m pc ls st)
theorem ms_FX.exec {d : ms_D} {p : Program} {l : Launch} {s : State} {m : MethodId} {args : Array Value} {meth : Method} {c : Code} {D : va_G} {cA : Nat → ClassId} {base : Nat} (F : ms_FX d p l s m args meth c D cA base) : p.tables.exec = Jvm.exec := F.1
theorem ms_FX.code {d : ms_D} {p : Program} {l : Launch} {s : State} {m : MethodId} {args : Array Value} {meth : Method} {c : Code} {D : va_G} {cA : Nat → ClassId} {base : Nat} (F : ms_FX d p l s m args meth c D cA base) : c.code = d.2.1 := F.2.1
theorem ms_FX.K {d : ms_D} {p : Program} {l : Launch} {s : State} {m : MethodId} {args : Array Value} {meth : Method} {c : Code} {D : va_G} {cA : Nat → ClassId} {base : Nat} (F : ms_FX d p l s m args meth c D cA base) : va_K D vwCl (ms_tys cA) s := F.2.2.2.2.2.2.2.2.1.1
theorem ms_FX.own {d : ms_D} {p : Program} {l : Launch} {s : State} {m : MethodId} {args : Array Value} {meth : Method} {c : Code} {D : va_G} {cA : Nat → ClassId} {base : Nat} (F : ms_FX d p l s m args meth c D cA base) : s.vm.findClass d.1.cls = some m.cls := F.2.2.2.2.2.1
theorem ms_FX.big {d : ms_D} {p : Program} {l : Launch} {s : State} {m : MethodId} {args : Array Value} {meth : Method} {c : Code} {D : va_G} {cA : Nat → ClassId} {base : Nat} (F : ms_FX d p l s m args meth c D cA base) : ∀ w ∈ ms_big, w.before args s = true := F.2.2.2.2.2.2.2.1
theorem ms_FX.SE {d : ms_D} {p : Program} {l : Launch} {s : State} {m : MethodId} {args : Array Value} {meth : Method} {c : Code} {D : va_G} {cA : Nat → ClassId} {base : Nat} (F : ms_FX d p l s m args meth c D cA base) : ms_SE D cA base s := F.2.2.2.2.2.2.2.2.1
theorem ms_FX.low {d : ms_D} {p : Program} {l : Launch} {s : State} {m : MethodId} {args : Array Value} {meth : Method} {c : Code} {D : va_G} {cA : Nat → ClassId} {base : Nat} (F : ms_FX d p l s m args meth c D cA base) : base ≤ s.heap.size := F.2.2.2.2.2.2.2.2.2.2.2
theorem ms_wd.P1 {D : va_G} {cA : Nat → ClassId} {base : Nat} {G : ms_H} {H : Heap} (h : ms_wd D cA base G H) {a : Nat} {x : ms_E} (ha : G a = some x) : va_P D vwCl [(a, ms_cE cA x)] H := by
  intro k q hq
  match k, hq with
  | 0, hq => cases hq; exact (h a x ha).1
  | k + 1, hq => simp at hq
theorem ms_wd.set {D : va_G} {cA : Nat → ClassId} {base : Nat} {G : ms_H} {H H1 : Heap} (h : ms_wd D cA base G H) {a : Nat} {x y : ms_E} (ha : G a = some x) (he : va_at D vwCl (a, ms_cE cA y) H1) (oq : ∀ q : Nat, q ≠ a → H1[q]? = H[q]?) : ms_wd D cA base (ms_up G a y) H1 := by
  intro b z hz
  by_cases hb : b = a
  · subst hb
    rw [ms_up_s] at hz
    cases hz
    exact ⟨he, (h _ _ ha).2⟩
  · rw [ms_up_n _ _ hb] at hz
    exact ⟨(h b z hz).1.kept (oq b hb), (h b z hz).2⟩
theorem ms_wd.new {D : va_G} {cA : Nat → ClassId} {base n : Nat} {G : ms_H} {H H1 : Heap} (h : ms_wd D cA base G H) {y : ms_E} (hn : H.size = n) (hb : base ≤ n) (he : va_at D vwCl (n, ms_cE cA y) H1) (oq : ∀ q : Nat, q < n → H1[q]? = H[q]?) : ms_wd D cA base (ms_up G n y) H1 := by
  intro b z hz
  by_cases h9 : b = n
  · subst h9
    rw [ms_up_s] at hz
    cases hz
    exact ⟨he, hb⟩
  · rw [ms_up_n _ _ h9] at hz
    have h1 := (h b z hz).1
    have h2 : b < n := by rw [← hn]; exact va_at.lt h1
    exact ⟨h1.kept (oq b h2), (h b z hz).2⟩
theorem ms_wd.fresh {D : va_G} {cA : Nat → ClassId} {base : Nat} {G : ms_H} {H : Heap} (h : ms_wd D cA base G H) {a : Nat} (ha : H.size ≤ a) : G a = none := by
  cases hx : G a with
  | none => rfl
  | some x => exact absurd (va_at.lt (h a x hx).1) (Nat.not_lt.mpr ha)
section MS
variable {x : Bool} {d : ms_D} {P : ms_P} {pc : Nat} {lv : List (Nat × Value)} {st : List Value} {n : Nat} {G : ms_H} {kr zr : Nat}
theorem ms_W.room {k2 z2 : Nat} (h : ms_W x d P pc lv st n G k2 z2) (h1 : k2 ≤ kr) (h2 : z2 ≤ zr) : ms_W x d P pc lv st n G kr zr := by
  intro mc ms p l e s m args below meth c D cA base H locs cells slots ls F c1 c2
  exact h mc ms p l e s m args below meth c D cA base H locs cells slots ls F (by omega) (by omega)
theorem ms_W.sub {lv2 : List (Nat × Value)} (h : ms_W x d P pc lv2 st n G kr zr) (ks : List Nat) (hl : lv_pick lv ks = lv2) : ms_W x d P pc lv st n G kr zr := by
  intro mc ms p l e s m args below meth c D cA base H locs cells slots ls F c1 c2 c3 c4 c5 c6
  exact h mc ms p l e s m args below meth c D cA base H locs cells slots ls F c1 c2 c3 c4 c5 (lv_sub c6 ks hl)
theorem ms_iaload {a N : Nat} {i : Int32} {f : Nat → Int32} (hdg : decode d.2.1 pc = .ok (.iaload, 1)) (ha : G a = some (.inl (0, N, .inl f))) (hin : vp_in i N) (k : ms_W x d P (pc + 1) lv (.int (f i.toNatClampNeg) :: st) n G kr zr) : ms_W x d P pc lv (.int i :: .ref a :: st) n G kr zr := by
  intro mc ms p l e s m args below meth c D cA base H locs cells slots ls F c1 c2 c3 c4 c5 c6
  exact va_iald F.exec F.code F.K (c4.P1 ha) 0 0 rfl rfl hin hdg (k mc ms p l e s m args below meth c D cA base H locs cells slots ls F c1 c2 c3 c4 c5 c6)
theorem ms_zaload {a N : Nat} {i : Int32} {f : Nat → Int32} (hdg : decode d.2.1 pc = .ok (.baload, 1)) (ha : G a = some (.inl (1, N, .inl f))) (hin : vp_in i N) (k : ms_W x d P (pc + 1) lv (.int (f i.toNatClampNeg) :: st) n G kr zr) : ms_W x d P pc lv (.int i :: .ref a :: st) n G kr zr := by
  intro mc ms p l e s m args below meth c D cA base H locs cells slots ls F c1 c2 c3 c4 c5 c6
  exact va_zald F.exec F.code F.K (c4.P1 ha) 0 1 rfl rfl hin hdg (k mc ms p l e s m args below meth c D cA base H locs cells slots ls F c1 c2 c3 c4 c5 c6)
theorem ms_laload {a N : Nat} {i : Int32} {f : Nat → Int64} (hdg : decode d.2.1 pc = .ok (.laload, 1)) (ha : G a = some (.inl (2, N, .inr (.inl f)))) (hin : vp_in i N) (k : ms_W x d P (pc + 1) lv (.long (f i.toNatClampNeg) :: st) n G kr zr) : ms_W x d P pc lv (.int i :: .ref a :: st) n G kr zr := by
  intro mc ms p l e s m args below meth c D cA base H locs cells slots ls F c1 c2 c3 c4 c5 c6
  exact va_lald F.exec F.code F.K (c4.P1 ha) 0 2 rfl rfl hin hdg (k mc ms p l e s m args below meth c D cA base H locs cells slots ls F c1 c2 c3 c4 c5 c6)
theorem ms_aaload {a N : Nat} {i : Int32} {f : Nat → Option Nat} (hdg : decode d.2.1 pc = .ok (.aaload, 1)) (ha : G a = some (.inl (3, N, .inr (.inr (.inr (.inr f)))))) (hin : vp_in i N) (k : ms_W x d P (pc + 1) lv (va_rf (f i.toNatClampNeg) :: st) n G kr zr) : ms_W x d P pc lv (.int i :: .ref a :: st) n G kr zr := by
  intro mc ms p l e s m args below meth c D cA base H locs cells slots ls F c1 c2 c3 c4 c5 c6
  exact va_aldq F.exec F.code F.K (c4.P1 ha) 0 3 rfl rfl hin hdg (k mc ms p l e s m args below meth c D cA base H locs cells slots ls F c1 c2 c3 c4 c5 c6)
theorem ms_alen {a : Nat} {kd : Nat} {y : vp_A} {v : Int32} {ty : ClassId → ClassId × FieldType} (hdg : decode d.2.1 pc = .ok (.arraylength, 1)) (ha : G a = some (.inl (kd, y))) (hk : kd < 5) (hv : Int32.ofNat y.1 = v) (k : ms_W x d P (pc + 1) lv (.int v :: st) n G kr zr) : ms_W x d P pc lv (.ref a :: st) n G kr zr := by
  intro mc ms p l e s m args below meth c D cA base H locs cells slots ls F c1 c2 c3 c4 c5 c6
  have hty : ∃ ty, (ms_tys cA)[kd]? = some (cA kd, ty) := by
    match kd, hk with
    | 0, _ => exact ⟨_, rfl⟩
    | 1, _ => exact ⟨_, rfl⟩
    | 2, _ => exact ⟨_, rfl⟩
    | 3, _ => exact ⟨_, rfl⟩
    | 4, _ => exact ⟨_, rfl⟩
  obtain ⟨ty, hty⟩ := hty
  exact va_alen F.exec F.code F.K (c4.P1 ha) 0 kd rfl hty hv hdg (k mc ms p l e s m args below meth c D cA base H locs cells slots ls F c1 c2 c3 c4 c5 c6)
theorem ms_iastore {a N : Nat} {i v : Int32} {f : Nat → Int32} (hdg : decode d.2.1 pc = .ok (.iastore, 1)) (ha : G a = some (.inl (0, N, .inl f))) (hin : vp_in i N) (k : ms_W x d P (pc + 1) lv st n (ms_up G a (.inl (0, N, .inl (upd f i.toNatClampNeg v)))) kr zr) : ms_W x d P pc lv (.int v :: .int i :: .ref a :: st) n G kr zr := by
  intro mc ms p l e s m args below meth c D cA base H locs cells slots ls F c1 c2 c3 c4 c5 c6
  have hb := (c4 a _ ha).2
  refine W.iast F.exec F.code (c4.P1 ha 0 _ rfl) ((F.K.2 0 _ rfl).1 N (fun j => .int (f j))) (fun q => by cases q) (by show ¬ (i < 0 ∨ (arrV _ _ _).slots.size ≤ _); rw [arrV_size]; exact hin) rfl rfl hdg fun H1 h9 z oq => ?_
  refine k mc ms p l e s m args below meth c D cA base H1 _ cells slots ls F c1 c2 (z.trans c3) (c4.set ha ?_ oq) (c5.put z oq hb) c6
  show H1[a]? = some (vp_cell _ _)
  rw [h9]
  rw [vp_cell_i, vp_cell_i, arrV_store]
  congr 2
  funext q
  by_cases hq : q = i.toNatClampNeg
  · subst hq
    simp [updV, upd]
  · simp [updV, upd, hq]
end MS
end
section
/-! THE RULES, one an instruction; and the block rule: a stretch of loads, stores and arithmetic in one step -/
def ms_get (lv : List (Nat × Value)) (i : Nat) : Option Value := (lv.find? (fun q => q.1 == i)).map (fun q => q.2)
theorem ms_get_at {ls : Array Slot} {nL : Nat} {lv : List (Nat × Value)} {i : Nat} {v : Value} (h : lv_has ls nL lv) (hg : ms_get lv i = some v) : ls[i]? = some (.val v) := by
  unfold ms_get at hg
  rw [Option.map_eq_some_iff] at hg
  obtain ⟨q, h1, h2⟩ := hg
  have h3 := List.mem_of_find?_eq_some h1
  have h4 := List.find?_some h1
  have h5 : q.1 = i := by simpa using h4
  rw [← h5, ← h2]
  exact h.2.2 q h3
abbrev ms_s1 (lv : List (Nat × Value)) (i : Nat) (v : Value) : List (Nat × Value) := (i, v) :: lv.filter (fun q => !(q.1 == i) && !(q.1 + 1 == i && q.2.category == 2))
abbrev ms_s2 (lv : List (Nat × Value)) (i : Nat) (v : Value) : List (Nat × Value) := (i, v) :: lv.filter (fun q => !(q.1 == i) && (!(q.1 == i + 1) && !(q.1 + 1 == i && q.2.category == 2)))
def ms_ldI (lv : List (Nat × Value)) (st : List Value) (i : Nat) : Option (List (Nat × Value) × List Value) := match ms_get lv i with
  | some (.int v) => some (lv, .int v :: st)
  | _ => none
def ms_ldL (lv : List (Nat × Value)) (st : List Value) (i : Nat) : Option (List (Nat × Value) × List Value) := match ms_get lv i with
  | some (.long v) => some (lv, .long v :: st)
  | _ => none
def ms_ldA (lv : List (Nat × Value)) (st : List Value) (i : Nat) : Option (List (Nat × Value) × List Value) := match ms_get lv i with
  | some (.ref v) => some (lv, .ref v :: st)
  | some .null => some (lv, .null :: st)
  | _ => none
def ms_stI (mL : Nat) (lv : List (Nat × Value)) (i : Nat) (st : List Value) : Option (List (Nat × Value) × List Value) := match st with
  | .int v :: r => if i < mL then some (ms_s1 lv i (.int v), r) else none
  | _ => none
def ms_stL (mL : Nat) (lv : List (Nat × Value)) (i : Nat) (st : List Value) : Option (List (Nat × Value) × List Value) := match st with
  | .long v :: r => if i + 1 < mL then some (ms_s2 lv i (.long v), r) else none
  | _ => none
def ms_stA (mL : Nat) (lv : List (Nat × Value)) (i : Nat) (st : List Value) : Option (List (Nat × Value) × List Value) := match st with
  | .ref v :: r => if i < mL then some (ms_s1 lv i (.ref v), r) else none
  | .null :: r => if i < mL then some (ms_s1 lv i .null, r) else none
  | _ => none
def ms_b2 (lv : List (Nat × Value)) (f : Int32 → Int32 → Int32) (st : List Value) : Option (List (Nat × Value) × List Value) := match st with
  | .int y :: .int z :: r => some (lv, .int (f z y) :: r)
  | _ => none
def ms_b2L (lv : List (Nat × Value)) (f : Int64 → Int64 → Int64) (st : List Value) : Option (List (Nat × Value) × List Value) := match st with
  | .long y :: .long z :: r => some (lv, .long (f z y) :: r)
  | _ => none
def ms_inc (mL : Nat) (lv : List (Nat × Value)) (st : List Value) (i : Nat) (k : Int) : Option (List (Nat × Value) × List Value) := match ms_get lv i with
  | some (.int v) => if i < mL then some (ms_s1 lv i (.int (v + Int32.ofInt k)), st) else none
  | _ => none
def ms_dup (lv : List (Nat × Value)) (st : List Value) : Option (List (Nat × Value) × List Value) := match st with
  | v :: r => if v.category = 1 then some (lv, v :: v :: r) else none
  | _ => none
def ms_pop (lv : List (Nat × Value)) (st : List Value) : Option (List (Nat × Value) × List Value) := match st with
  | v :: r => if v.category = 1 then some (lv, r) else none
  | _ => none
def ms_dup2 (lv : List (Nat × Value)) (st : List Value) : Option (List (Nat × Value) × List Value) := match st with
  | v :: w :: r => if v.category = 1 ∧ w.category = 1 then some (lv, v :: w :: v :: w :: r) else none
  | _ => none
def ms_dupx (lv : List (Nat × Value)) (st : List Value) : Option (List (Nat × Value) × List Value) := match st with
  | v :: w :: r => if v.category = 1 ∧ w.category = 1 then some (lv, v :: w :: v :: r) else none
  | _ => none
def ms_i2l (lv : List (Nat × Value)) (st : List Value) : Option (List (Nat × Value) × List Value) := match st with
  | .int v :: r => some (lv, .long v.toInt64 :: r)
  | _ => none
def ms_neg (lv : List (Nat × Value)) (st : List Value) : Option (List (Nat × Value) × List Value) := match st with
  | .int v :: r => some (lv, .int (-v) :: r)
  | _ => none
theorem pr_iconst {x : Bool} {d : ms_D} {P : ms_P} {pc : Nat} {lv lv' : List (Nat × Value)} {st st' : List Value} {n : Nat} {G : ms_H} {kr zr : Nat} {j : Int} (hdg : decode d.2.1 pc = .ok (.iconst j, 1)) (h : some (lv, Value.int (Int32.ofInt j) :: st) = some (lv', st')) (k : ms_W x d P (pc + 1) lv' st' n G kr zr) : ms_W x d P pc lv st n G kr zr := by
  cases h
  intro mc ms p l e s m args below meth c D cA base H locs cells slots ls F c1 c2 c3 c4 c5 c6
  exact lv_iconst F.exec F.code hdg rfl (k mc ms p l e s m args below meth c D cA base H locs cells slots ls F c1 c2 c3 c4 c5 c6)
theorem pr_bipush {x : Bool} {d : ms_D} {P : ms_P} {pc : Nat} {lv lv' : List (Nat × Value)} {st st' : List Value} {n : Nat} {G : ms_H} {kr zr : Nat} {j : Int} (hdg : decode d.2.1 pc = .ok (.bipush j, 2)) (h : some (lv, Value.int ((Int8.ofInt j).toInt32) :: st) = some (lv', st')) (k : ms_W x d P (pc + 2) lv' st' n G kr zr) : ms_W x d P pc lv st n G kr zr := by
  cases h
  intro mc ms p l e s m args below meth c D cA base H locs cells slots ls F c1 c2 c3 c4 c5 c6
  exact lv_bipush F.exec F.code hdg rfl (k mc ms p l e s m args below meth c D cA base H locs cells slots ls F c1 c2 c3 c4 c5 c6)
theorem pr_sipush {x : Bool} {d : ms_D} {P : ms_P} {pc : Nat} {lv lv' : List (Nat × Value)} {st st' : List Value} {n : Nat} {G : ms_H} {kr zr : Nat} {j : Int} (hdg : decode d.2.1 pc = .ok (.sipush j, 3)) (h : some (lv, Value.int ((Int16.ofInt j).toInt32) :: st) = some (lv', st')) (k : ms_W x d P (pc + 3) lv' st' n G kr zr) : ms_W x d P pc lv st n G kr zr := by
  cases h
  intro mc ms p l e s m args below meth c D cA base H locs cells slots ls F c1 c2 c3 c4 c5 c6
  exact lv_sipush F.exec F.code hdg rfl (k mc ms p l e s m args below meth c D cA base H locs cells slots ls F c1 c2 c3 c4 c5 c6)
theorem pr_null {x : Bool} {d : ms_D} {P : ms_P} {pc : Nat} {lv lv' : List (Nat × Value)} {st st' : List Value} {n : Nat} {G : ms_H} {kr zr : Nat} (hdg : decode d.2.1 pc = .ok (.aconst_null, 1)) (h : some (lv, Value.null :: st) = some (lv', st')) (k : ms_W x d P (pc + 1) lv' st' n G kr zr) : ms_W x d P pc lv st n G kr zr := by
  cases h
  intro mc ms p l e s m args below meth c D cA base H locs cells slots ls F c1 c2 c3 c4 c5 c6
  exact lv_null F.exec F.code hdg (k mc ms p l e s m args below meth c D cA base H locs cells slots ls F c1 c2 c3 c4 c5 c6)
theorem pr_iload_n {x : Bool} {d : ms_D} {P : ms_P} {pc : Nat} {lv lv' : List (Nat × Value)} {st st' : List Value} {n : Nat} {G : ms_H} {kr zr : Nat} {j : Fin 4} (hdg : decode d.2.1 pc = .ok (.iload_n j, 1)) (h : ms_ldI lv st (j : Nat) = some (lv', st')) (k : ms_W x d P (pc + 1) lv' st' n G kr zr) : ms_W x d P pc lv st n G kr zr := by
  unfold ms_ldI at h
  split at h
  · next v hv =>
    cases h
    intro mc ms p l e s m args below meth c D cA base H locs cells slots ls F c1 c2 c3 c4 c5 c6
    exact lv_iload_n F.exec F.code hdg rfl (ms_get_at c6 hv) (k mc ms p l e s m args below meth c D cA base H locs cells slots ls F c1 c2 c3 c4 c5 c6)
  · cases h
theorem pr_iload {x : Bool} {d : ms_D} {P : ms_P} {pc : Nat} {lv lv' : List (Nat × Value)} {st st' : List Value} {n : Nat} {G : ms_H} {kr zr : Nat} {j : Nat} (hdg : decode d.2.1 pc = .ok (.iload j, 2)) (h : ms_ldI lv st j = some (lv', st')) (k : ms_W x d P (pc + 2) lv' st' n G kr zr) : ms_W x d P pc lv st n G kr zr := by
  unfold ms_ldI at h
  split at h
  · next v hv =>
    cases h
    intro mc ms p l e s m args below meth c D cA base H locs cells slots ls F c1 c2 c3 c4 c5 c6
    exact lv_iload F.exec F.code hdg (ms_get_at c6 hv) (k mc ms p l e s m args below meth c D cA base H locs cells slots ls F c1 c2 c3 c4 c5 c6)
  · cases h
theorem pr_lload_n {x : Bool} {d : ms_D} {P : ms_P} {pc : Nat} {lv lv' : List (Nat × Value)} {st st' : List Value} {n : Nat} {G : ms_H} {kr zr : Nat} {j : Fin 4} (hdg : decode d.2.1 pc = .ok (.lload_n j, 1)) (h : ms_ldL lv st (j : Nat) = some (lv', st')) (k : ms_W x d P (pc + 1) lv' st' n G kr zr) : ms_W x d P pc lv st n G kr zr := by
  unfold ms_ldL at h
  split at h
  · next v hv =>
    cases h
    intro mc ms p l e s m args below meth c D cA base H locs cells slots ls F c1 c2 c3 c4 c5 c6
    exact lv_lload_n F.exec F.code hdg rfl (ms_get_at c6 hv) (k mc ms p l e s m args below meth c D cA base H locs cells slots ls F c1 c2 c3 c4 c5 c6)
  · cases h
theorem pr_lload {x : Bool} {d : ms_D} {P : ms_P} {pc : Nat} {lv lv' : List (Nat × Value)} {st st' : List Value} {n : Nat} {G : ms_H} {kr zr : Nat} {j : Nat} (hdg : decode d.2.1 pc = .ok (.lload j, 2)) (h : ms_ldL lv st j = some (lv', st')) (k : ms_W x d P (pc + 2) lv' st' n G kr zr) : ms_W x d P pc lv st n G kr zr := by
  unfold ms_ldL at h
  split at h
  · next v hv =>
    cases h
    intro mc ms p l e s m args below meth c D cA base H locs cells slots ls F c1 c2 c3 c4 c5 c6
    exact lv_lload F.exec F.code hdg (ms_get_at c6 hv) (k mc ms p l e s m args below meth c D cA base H locs cells slots ls F c1 c2 c3 c4 c5 c6)
  · cases h
theorem pr_aload_n {x : Bool} {d : ms_D} {P : ms_P} {pc : Nat} {lv lv' : List (Nat × Value)} {st st' : List Value} {n : Nat} {G : ms_H} {kr zr : Nat} {j : Fin 4} (hdg : decode d.2.1 pc = .ok (.aload_n j, 1)) (h : ms_ldA lv st (j : Nat) = some (lv', st')) (k : ms_W x d P (pc + 1) lv' st' n G kr zr) : ms_W x d P pc lv st n G kr zr := by
  unfold ms_ldA at h
  split at h
  · next v hv =>
    cases h
    intro mc ms p l e s m args below meth c D cA base H locs cells slots ls F c1 c2 c3 c4 c5 c6
    exact lv_aload_n F.exec F.code hdg rfl (ms_get_at c6 hv) (k mc ms p l e s m args below meth c D cA base H locs cells slots ls F c1 c2 c3 c4 c5 c6)
  · next hv =>
    cases h
    intro mc ms p l e s m args below meth c D cA base H locs cells slots ls F c1 c2 c3 c4 c5 c6
    exact lv_aload_nN F.exec F.code hdg rfl (ms_get_at c6 hv) (k mc ms p l e s m args below meth c D cA base H locs cells slots ls F c1 c2 c3 c4 c5 c6)
  · cases h
theorem pr_aload {x : Bool} {d : ms_D} {P : ms_P} {pc : Nat} {lv lv' : List (Nat × Value)} {st st' : List Value} {n : Nat} {G : ms_H} {kr zr : Nat} {j : Nat} (hdg : decode d.2.1 pc = .ok (.aload j, 2)) (h : ms_ldA lv st j = some (lv', st')) (k : ms_W x d P (pc + 2) lv' st' n G kr zr) : ms_W x d P pc lv st n G kr zr := by
  unfold ms_ldA at h
  split at h
  · next v hv =>
    cases h
    intro mc ms p l e s m args below meth c D cA base H locs cells slots ls F c1 c2 c3 c4 c5 c6
    exact lv_aload F.exec F.code hdg (ms_get_at c6 hv) (k mc ms p l e s m args below meth c D cA base H locs cells slots ls F c1 c2 c3 c4 c5 c6)
  · next hv =>
    cases h
    intro mc ms p l e s m args below meth c D cA base H locs cells slots ls F c1 c2 c3 c4 c5 c6
    exact lv_aloadN F.exec F.code hdg (ms_get_at c6 hv) (k mc ms p l e s m args below meth c D cA base H locs cells slots ls F c1 c2 c3 c4 c5 c6)
  · cases h
theorem pr_istore_n {x : Bool} {d : ms_D} {P : ms_P} {pc : Nat} {lv lv' : List (Nat × Value)} {st st' : List Value} {n : Nat} {G : ms_H} {kr zr : Nat} {j : Fin 4} (hdg : decode d.2.1 pc = .ok (.istore_n j, 1)) (h : ms_stI d.2.2.1 lv (j : Nat) st = some (lv', st')) (k : ms_W x d P (pc + 1) lv' st' n G kr zr) : ms_W x d P pc lv st n G kr zr := by
  unfold ms_stI at h
  split at h
  · next v r =>
    split at h
    · next hi =>
      cases h
      intro mc ms p l e s m args below meth c D cA base H locs cells slots ls F c1 c2 c3 c4 c5 c6
      exact lv_istore_n F.exec F.code hdg rfl c6 hi rfl (fun ls9 hl9 => (k mc ms p l e s m args below meth c D cA base H locs cells slots ls9 F c1 c2 c3 c4 c5 hl9))
    · cases h
  · cases h
theorem pr_istore {x : Bool} {d : ms_D} {P : ms_P} {pc : Nat} {lv lv' : List (Nat × Value)} {st st' : List Value} {n : Nat} {G : ms_H} {kr zr : Nat} {j : Nat} (hdg : decode d.2.1 pc = .ok (.istore j, 2)) (h : ms_stI d.2.2.1 lv j st = some (lv', st')) (k : ms_W x d P (pc + 2) lv' st' n G kr zr) : ms_W x d P pc lv st n G kr zr := by
  unfold ms_stI at h
  split at h
  · next v r =>
    split at h
    · next hi =>
      cases h
      intro mc ms p l e s m args below meth c D cA base H locs cells slots ls F c1 c2 c3 c4 c5 c6
      exact lv_istore F.exec F.code hdg c6 hi rfl (fun ls9 hl9 => (k mc ms p l e s m args below meth c D cA base H locs cells slots ls9 F c1 c2 c3 c4 c5 hl9))
    · cases h
  · cases h
theorem pr_lstore_n {x : Bool} {d : ms_D} {P : ms_P} {pc : Nat} {lv lv' : List (Nat × Value)} {st st' : List Value} {n : Nat} {G : ms_H} {kr zr : Nat} {j : Fin 4} (hdg : decode d.2.1 pc = .ok (.lstore_n j, 1)) (h : ms_stL d.2.2.1 lv (j : Nat) st = some (lv', st')) (k : ms_W x d P (pc + 1) lv' st' n G kr zr) : ms_W x d P pc lv st n G kr zr := by
  unfold ms_stL at h
  split at h
  · next v r =>
    split at h
    · next hi =>
      cases h
      intro mc ms p l e s m args below meth c D cA base H locs cells slots ls F c1 c2 c3 c4 c5 c6
      exact lv_lstore_n F.exec F.code hdg rfl c6 hi rfl (fun ls9 hl9 => (k mc ms p l e s m args below meth c D cA base H locs cells slots ls9 F c1 c2 c3 c4 c5 hl9))
    · cases h
  · cases h
theorem pr_lstore {x : Bool} {d : ms_D} {P : ms_P} {pc : Nat} {lv lv' : List (Nat × Value)} {st st' : List Value} {n : Nat} {G : ms_H} {kr zr : Nat} {j : Nat} (hdg : decode d.2.1 pc = .ok (.lstore j, 2)) (h : ms_stL d.2.2.1 lv j st = some (lv', st')) (k : ms_W x d P (pc + 2) lv' st' n G kr zr) : ms_W x d P pc lv st n G kr zr := by
  unfold ms_stL at h
  split at h
  · next v r =>
    split at h
    · next hi =>
      cases h
      intro mc ms p l e s m args below meth c D cA base H locs cells slots ls F c1 c2 c3 c4 c5 c6
      exact lv_lstore F.exec F.code hdg c6 hi rfl (fun ls9 hl9 => (k mc ms p l e s m args below meth c D cA base H locs cells slots ls9 F c1 c2 c3 c4 c5 hl9))
    · cases h
  · cases h
theorem pr_astore_n {x : Bool} {d : ms_D} {P : ms_P} {pc : Nat} {lv lv' : List (Nat × Value)} {st st' : List Value} {n : Nat} {G : ms_H} {kr zr : Nat} {j : Fin 4} (hdg : decode d.2.1 pc = .ok (.astore_n j, 1)) (h : ms_stA d.2.2.1 lv (j : Nat) st = some (lv', st')) (k : ms_W x d P (pc + 1) lv' st' n G kr zr) : ms_W x d P pc lv st n G kr zr := by
  unfold ms_stA at h
  split at h
  · next v r =>
    split at h
    · next hi =>
      cases h
      intro mc ms p l e s m args below meth c D cA base H locs cells slots ls F c1 c2 c3 c4 c5 c6
      exact lv_astore_n F.exec F.code hdg rfl c6 hi rfl (fun ls9 hl9 => (k mc ms p l e s m args below meth c D cA base H locs cells slots ls9 F c1 c2 c3 c4 c5 hl9))
    · cases h
  · next r =>
    split at h
    · next hi =>
      cases h
      intro mc ms p l e s m args below meth c D cA base H locs cells slots ls F c1 c2 c3 c4 c5 c6
      exact lv_astore_nN F.exec F.code hdg rfl c6 hi rfl (fun ls9 hl9 => (k mc ms p l e s m args below meth c D cA base H locs cells slots ls9 F c1 c2 c3 c4 c5 hl9))
    · cases h
  · cases h
theorem pr_astore {x : Bool} {d : ms_D} {P : ms_P} {pc : Nat} {lv lv' : List (Nat × Value)} {st st' : List Value} {n : Nat} {G : ms_H} {kr zr : Nat} {j : Nat} (hdg : decode d.2.1 pc = .ok (.astore j, 2)) (h : ms_stA d.2.2.1 lv j st = some (lv', st')) (k : ms_W x d P (pc + 2) lv' st' n G kr zr) : ms_W x d P pc lv st n G kr zr := by
  unfold ms_stA at h
  split at h
  · next v r =>
    split at h
    · next hi =>
      cases h
      intro mc ms p l e s m args below meth c D cA base H locs cells slots ls F c1 c2 c3 c4 c5 c6
      exact lv_astore F.exec F.code hdg c6 hi rfl (fun ls9 hl9 => (k mc ms p l e s m args below meth c D cA base H locs cells slots ls9 F c1 c2 c3 c4 c5 hl9))
    · cases h
  · next r =>
    split at h
    · next hi =>
      cases h
      intro mc ms p l e s m args below meth c D cA base H locs cells slots ls F c1 c2 c3 c4 c5 c6
      exact lv_astoreN F.exec F.code hdg c6 hi rfl (fun ls9 hl9 => (k mc ms p l e s m args below meth c D cA base H locs cells slots ls9 F c1 c2 c3 c4 c5 hl9))
    · cases h
  · cases h
theorem pr_iadd {x : Bool} {d : ms_D} {P : ms_P} {pc : Nat} {lv lv' : List (Nat × Value)} {st st' : List Value} {n : Nat} {G : ms_H} {kr zr : Nat} (hdg : decode d.2.1 pc = .ok (.iadd, 1)) (h : ms_b2 lv (· + ·) st = some (lv', st')) (k : ms_W x d P (pc + 1) lv' st' n G kr zr) : ms_W x d P pc lv st n G kr zr := by
  unfold ms_b2 at h
  split at h
  · cases h
    intro mc ms p l e s m args below meth c D cA base H locs cells slots ls F c1 c2 c3 c4 c5 c6
    exact lv_iadd F.exec F.code hdg (k mc ms p l e s m args below meth c D cA base H locs cells slots ls F c1 c2 c3 c4 c5 c6)
  · cases h
theorem pr_isub {x : Bool} {d : ms_D} {P : ms_P} {pc : Nat} {lv lv' : List (Nat × Value)} {st st' : List Value} {n : Nat} {G : ms_H} {kr zr : Nat} (hdg : decode d.2.1 pc = .ok (.isub, 1)) (h : ms_b2 lv (· - ·) st = some (lv', st')) (k : ms_W x d P (pc + 1) lv' st' n G kr zr) : ms_W x d P pc lv st n G kr zr := by
  unfold ms_b2 at h
  split at h
  · cases h
    intro mc ms p l e s m args below meth c D cA base H locs cells slots ls F c1 c2 c3 c4 c5 c6
    exact lv_isub F.exec F.code hdg (k mc ms p l e s m args below meth c D cA base H locs cells slots ls F c1 c2 c3 c4 c5 c6)
  · cases h
theorem pr_imul {x : Bool} {d : ms_D} {P : ms_P} {pc : Nat} {lv lv' : List (Nat × Value)} {st st' : List Value} {n : Nat} {G : ms_H} {kr zr : Nat} (hdg : decode d.2.1 pc = .ok (.imul, 1)) (h : ms_b2 lv (· * ·) st = some (lv', st')) (k : ms_W x d P (pc + 1) lv' st' n G kr zr) : ms_W x d P pc lv st n G kr zr := by
  unfold ms_b2 at h
  split at h
  · cases h
    intro mc ms p l e s m args below meth c D cA base H locs cells slots ls F c1 c2 c3 c4 c5 c6
    exact lv_imul F.exec F.code hdg (k mc ms p l e s m args below meth c D cA base H locs cells slots ls F c1 c2 c3 c4 c5 c6)
  · cases h
theorem pr_iand {x : Bool} {d : ms_D} {P : ms_P} {pc : Nat} {lv lv' : List (Nat × Value)} {st st' : List Value} {n : Nat} {G : ms_H} {kr zr : Nat} (hdg : decode d.2.1 pc = .ok (.iand, 1)) (h : ms_b2 lv (· &&& ·) st = some (lv', st')) (k : ms_W x d P (pc + 1) lv' st' n G kr zr) : ms_W x d P pc lv st n G kr zr := by
  unfold ms_b2 at h
  split at h
  · cases h
    intro mc ms p l e s m args below meth c D cA base H locs cells slots ls F c1 c2 c3 c4 c5 c6
    exact lv_iand F.exec F.code hdg (k mc ms p l e s m args below meth c D cA base H locs cells slots ls F c1 c2 c3 c4 c5 c6)
  · cases h
theorem pr_ixor {x : Bool} {d : ms_D} {P : ms_P} {pc : Nat} {lv lv' : List (Nat × Value)} {st st' : List Value} {n : Nat} {G : ms_H} {kr zr : Nat} (hdg : decode d.2.1 pc = .ok (.ixor, 1)) (h : ms_b2 lv (· ^^^ ·) st = some (lv', st')) (k : ms_W x d P (pc + 1) lv' st' n G kr zr) : ms_W x d P pc lv st n G kr zr := by
  unfold ms_b2 at h
  split at h
  · cases h
    intro mc ms p l e s m args below meth c D cA base H locs cells slots ls F c1 c2 c3 c4 c5 c6
    exact lv_ixor F.exec F.code hdg (k mc ms p l e s m args below meth c D cA base H locs cells slots ls F c1 c2 c3 c4 c5 c6)
  · cases h
theorem pr_ishl {x : Bool} {d : ms_D} {P : ms_P} {pc : Nat} {lv lv' : List (Nat × Value)} {st st' : List Value} {n : Nat} {G : ms_H} {kr zr : Nat} (hdg : decode d.2.1 pc = .ok (.ishl, 1)) (h : ms_b2 lv (fun a b => a <<< (b &&& 31)) st = some (lv', st')) (k : ms_W x d P (pc + 1) lv' st' n G kr zr) : ms_W x d P pc lv st n G kr zr := by
  unfold ms_b2 at h
  split at h
  · cases h
    intro mc ms p l e s m args below meth c D cA base H locs cells slots ls F c1 c2 c3 c4 c5 c6
    exact lv_ishl F.exec F.code hdg (k mc ms p l e s m args below meth c D cA base H locs cells slots ls F c1 c2 c3 c4 c5 c6)
  · cases h
theorem pr_ladd {x : Bool} {d : ms_D} {P : ms_P} {pc : Nat} {lv lv' : List (Nat × Value)} {st st' : List Value} {n : Nat} {G : ms_H} {kr zr : Nat} (hdg : decode d.2.1 pc = .ok (.ladd, 1)) (h : ms_b2L lv (· + ·) st = some (lv', st')) (k : ms_W x d P (pc + 1) lv' st' n G kr zr) : ms_W x d P pc lv st n G kr zr := by
  unfold ms_b2L at h
  split at h
  · cases h
    intro mc ms p l e s m args below meth c D cA base H locs cells slots ls F c1 c2 c3 c4 c5 c6
    exact lv_ladd F.exec F.code hdg (k mc ms p l e s m args below meth c D cA base H locs cells slots ls F c1 c2 c3 c4 c5 c6)
  · cases h
theorem pr_lmul {x : Bool} {d : ms_D} {P : ms_P} {pc : Nat} {lv lv' : List (Nat × Value)} {st st' : List Value} {n : Nat} {G : ms_H} {kr zr : Nat} (hdg : decode d.2.1 pc = .ok (.lmul, 1)) (h : ms_b2L lv (· * ·) st = some (lv', st')) (k : ms_W x d P (pc + 1) lv' st' n G kr zr) : ms_W x d P pc lv st n G kr zr := by
  unfold ms_b2L at h
  split at h
  · cases h
    intro mc ms p l e s m args below meth c D cA base H locs cells slots ls F c1 c2 c3 c4 c5 c6
    exact lv_lmul F.exec F.code hdg (k mc ms p l e s m args below meth c D cA base H locs cells slots ls F c1 c2 c3 c4 c5 c6)
  · cases h
theorem pr_iinc {x : Bool} {d : ms_D} {P : ms_P} {pc : Nat} {lv lv' : List (Nat × Value)} {st st' : List Value} {n : Nat} {G : ms_H} {kr zr : Nat} {j : Nat} {i : Int} (hdg : decode d.2.1 pc = .ok (.iinc j i, 3)) (h : ms_inc d.2.2.1 lv st j i = some (lv', st')) (k : ms_W x d P (pc + 3) lv' st' n G kr zr) : ms_W x d P pc lv st n G kr zr := by
  unfold ms_inc at h
  split at h
  · next v hv =>
    split at h
    · next hi =>
      cases h
      intro mc ms p l e s m args below meth c D cA base H locs cells slots ls F c1 c2 c3 c4 c5 c6
      have hv2 := hv
      unfold ms_get at hv2
      rw [Option.map_eq_some_iff] at hv2
      obtain ⟨q, h1, h2⟩ := hv2
      have h4 := List.find?_some h1
      have h5 : q.1 = j := by simpa using h4
      obtain ⟨kk, hkk⟩ := List.getElem?_of_mem (List.mem_of_find?_eq_some h1)
      exact lv_iinc F.exec F.code hdg c6 (k := kk) (by rw [hkk, ← h5, ← h2]) rfl hi rfl (fun ls9 hl9 => (k mc ms p l e s m args below meth c D cA base H locs cells slots ls9 F c1 c2 c3 c4 c5 hl9))
    · cases h
  · cases h
theorem pr_dup {x : Bool} {d : ms_D} {P : ms_P} {pc : Nat} {lv lv' : List (Nat × Value)} {st st' : List Value} {n : Nat} {G : ms_H} {kr zr : Nat} (hdg : decode d.2.1 pc = .ok (.dup, 1)) (h : ms_dup lv st = some (lv', st')) (k : ms_W x d P (pc + 1) lv' st' n G kr zr) : ms_W x d P pc lv st n G kr zr := by
  unfold ms_dup at h
  split at h
  · split at h
    · next hc =>
      cases h
      intro mc ms p l e s m args below meth c D cA base H locs cells slots ls F c1 c2 c3 c4 c5 c6
      exact lv_dup F.exec F.code hdg hc (k mc ms p l e s m args below meth c D cA base H locs cells slots ls F c1 c2 c3 c4 c5 c6)
    · cases h
  · cases h
theorem pr_pop {x : Bool} {d : ms_D} {P : ms_P} {pc : Nat} {lv lv' : List (Nat × Value)} {st st' : List Value} {n : Nat} {G : ms_H} {kr zr : Nat} (hdg : decode d.2.1 pc = .ok (.pop, 1)) (h : ms_pop lv st = some (lv', st')) (k : ms_W x d P (pc + 1) lv' st' n G kr zr) : ms_W x d P pc lv st n G kr zr := by
  unfold ms_pop at h
  split at h
  · split at h
    · next hc =>
      cases h
      intro mc ms p l e s m args below meth c D cA base H locs cells slots ls F c1 c2 c3 c4 c5 c6
      exact lv_pop F.exec F.code hdg hc (k mc ms p l e s m args below meth c D cA base H locs cells slots ls F c1 c2 c3 c4 c5 c6)
    · cases h
  · cases h
theorem pr_dup2 {x : Bool} {d : ms_D} {P : ms_P} {pc : Nat} {lv lv' : List (Nat × Value)} {st st' : List Value} {n : Nat} {G : ms_H} {kr zr : Nat} (hdg : decode d.2.1 pc = .ok (.dup2, 1)) (h : ms_dup2 lv st = some (lv', st')) (k : ms_W x d P (pc + 1) lv' st' n G kr zr) : ms_W x d P pc lv st n G kr zr := by
  unfold ms_dup2 at h
  split at h
  · split at h
    · next hc =>
      cases h
      intro mc ms p l e s m args below meth c D cA base H locs cells slots ls F c1 c2 c3 c4 c5 c6
      exact lv_dup2_11 F.exec F.code hdg hc.1 hc.2 (k mc ms p l e s m args below meth c D cA base H locs cells slots ls F c1 c2 c3 c4 c5 c6)
    · cases h
  · cases h
theorem pr_dup_x1 {x : Bool} {d : ms_D} {P : ms_P} {pc : Nat} {lv lv' : List (Nat × Value)} {st st' : List Value} {n : Nat} {G : ms_H} {kr zr : Nat} (hdg : decode d.2.1 pc = .ok (.dup_x1, 1)) (h : ms_dupx lv st = some (lv', st')) (k : ms_W x d P (pc + 1) lv' st' n G kr zr) : ms_W x d P pc lv st n G kr zr := by
  unfold ms_dupx at h
  split at h
  · split at h
    · next hc =>
      cases h
      intro mc ms p l e s m args below meth c D cA base H locs cells slots ls F c1 c2 c3 c4 c5 c6
      exact lv_dup_x1 F.exec F.code hdg hc.1 hc.2 (k mc ms p l e s m args below meth c D cA base H locs cells slots ls F c1 c2 c3 c4 c5 c6)
    · cases h
  · cases h
theorem pr_i2l {x : Bool} {d : ms_D} {P : ms_P} {pc : Nat} {lv lv' : List (Nat × Value)} {st st' : List Value} {n : Nat} {G : ms_H} {kr zr : Nat} (hdg : decode d.2.1 pc = .ok (.i2l, 1)) (h : ms_i2l lv st = some (lv', st')) (k : ms_W x d P (pc + 1) lv' st' n G kr zr) : ms_W x d P pc lv st n G kr zr := by
  unfold ms_i2l at h
  split at h
  · cases h
    intro mc ms p l e s m args below meth c D cA base H locs cells slots ls F c1 c2 c3 c4 c5 c6
    exact lv_i2l F.exec F.code hdg rfl (k mc ms p l e s m args below meth c D cA base H locs cells slots ls F c1 c2 c3 c4 c5 c6)
  · cases h
theorem pr_ineg {x : Bool} {d : ms_D} {P : ms_P} {pc : Nat} {lv lv' : List (Nat × Value)} {st st' : List Value} {n : Nat} {G : ms_H} {kr zr : Nat} (hdg : decode d.2.1 pc = .ok (.ineg, 1)) (h : ms_neg lv st = some (lv', st')) (k : ms_W x d P (pc + 1) lv' st' n G kr zr) : ms_W x d P pc lv st n G kr zr := by
  unfold ms_neg at h
  split at h
  · cases h
    intro mc ms p l e s m args below meth c D cA base H locs cells slots ls F c1 c2 c3 c4 c5 c6
    exact lv_ineg F.exec F.code hdg (k mc ms p l e s m args below meth c D cA base H locs cells slots ls F c1 c2 c3 c4 c5 c6)
  · cases h
/-- what a plain instruction does to locals and stack -/
def ms_ps (mL : Nat) (lv : List (Nat × Value)) (st : List Value) (q : Instr × Nat) : Option (List (Nat × Value) × List Value) := match q with
  | (.iconst j, 1) => some (lv, .int (Int32.ofInt j) :: st)
  | (.bipush j, 2) => some (lv, .int ((Int8.ofInt j).toInt32) :: st)
  | (.sipush j, 3) => some (lv, .int ((Int16.ofInt j).toInt32) :: st)
  | (.aconst_null, 1) => some (lv, .null :: st)
  | (.iload_n j, 1) => ms_ldI lv st (j : Nat)
  | (.iload j, 2) => ms_ldI lv st j
  | (.lload_n j, 1) => ms_ldL lv st (j : Nat)
  | (.lload j, 2) => ms_ldL lv st j
  | (.aload_n j, 1) => ms_ldA lv st (j : Nat)
  | (.aload j, 2) => ms_ldA lv st j
  | (.istore_n j, 1) => ms_stI mL lv (j : Nat) st
  | (.istore j, 2) => ms_stI mL lv j st
  | (.lstore_n j, 1) => ms_stL mL lv (j : Nat) st
  | (.lstore j, 2) => ms_stL mL lv j st
  | (.astore_n j, 1) => ms_stA mL lv (j : Nat) st
  | (.astore j, 2) => ms_stA mL lv j st
  | (.iadd, 1) => ms_b2 lv (· + ·) st
  | (.isub, 1) => ms_b2 lv (· - ·) st
  | (.imul, 1) => ms_b2 lv (· * ·) st
  | (.iand, 1) => ms_b2 lv (· &&& ·) st
  | (.ixor, 1) => ms_b2 lv (· ^^^ ·) st
  | (.ishl, 1) => ms_b2 lv (fun a b => a <<< (b &&& 31)) st
  | (.ladd, 1) => ms_b2L lv (· + ·) st
  | (.lmul, 1) => ms_b2L lv (· * ·) st
  | (.iinc j i, 3) => ms_inc mL lv st j i
  | (.dup, 1) => ms_dup lv st
  | (.pop, 1) => ms_pop lv st
  | (.dup2, 1) => ms_dup2 lv st
  | (.dup_x1, 1) => ms_dupx lv st
  | (.i2l, 1) => ms_i2l lv st
  | (.ineg, 1) => ms_neg lv st
  | _ => none
theorem ms_ps1 {x : Bool} {d : ms_D} {P : ms_P} {pc : Nat} {lv lv' : List (Nat × Value)} {st st' : List Value} {n : Nat} {G : ms_H} {kr zr : Nat} {q : Instr × Nat} (hdg : decode d.2.1 pc = .ok q) (h : ms_ps d.2.2.1 lv st q = some (lv', st')) (k : ms_W x d P (pc + q.2) lv' st' n G kr zr) : ms_W x d P pc lv st n G kr zr := by
  unfold ms_ps at h
  split at h
  · exact pr_iconst hdg h k
  · exact pr_bipush hdg h k
  · exact pr_sipush hdg h k
  · exact pr_null hdg h k
  · exact pr_iload_n hdg h k
  · exact pr_iload hdg h k
  · exact pr_lload_n hdg h k
  · exact pr_lload hdg h k
  · exact pr_aload_n hdg h k
  · exact pr_aload hdg h k
  · exact pr_istore_n hdg h k
  · exact pr_istore hdg h k
  · exact pr_lstore_n hdg h k
  · exact pr_lstore hdg h k
  · exact pr_astore_n hdg h k
  · exact pr_astore hdg h k
  · exact pr_iadd hdg h k
  · exact pr_isub hdg h k
  · exact pr_imul hdg h k
  · exact pr_iand hdg h k
  · exact pr_ixor hdg h k
  · exact pr_ishl hdg h k
  · exact pr_ladd hdg h k
  · exact pr_lmul hdg h k
  · exact pr_iinc hdg h k
  · exact pr_dup hdg h k
  · exact pr_pop hdg h k
  · exact pr_dup2 hdg h k
  · exact pr_dup_x1 hdg h k
  · exact pr_i2l hdg h k
  · exact pr_ineg hdg h k
  · cases h
def ms_pr (mL : Nat) : List (Instr × Nat) → List (Nat × Value) → List Value → Option (List (Nat × Value) × List Value)
  | [], lv, st => some (lv, st)
  | q :: r, lv, st => match ms_ps mL lv st q with
    | some z => ms_pr mL r z.1 z.2
    | none => none
def ms_de (cc : ByteArray) : Nat → List (Instr × Nat) → Prop
  | _, [] => True
  | pc, q :: r => decode cc pc = .ok q ∧ ms_de cc (pc + q.2) r
def ms_ln : List (Instr × Nat) → Nat
  | [] => 0
  | q :: r => q.2 + ms_ln r
theorem ms_run {x : Bool} {d : ms_D} {P : ms_P} {n : Nat} {G : ms_H} {kr zr : Nat} : ∀ (is : List (Instr × Nat)) {pc pc' : Nat} {lv lv' : List (Nat × Value)} {st st' : List Value} (_ : ms_de d.2.1 pc is) (_ : pc + ms_ln is = pc') (_ : ms_pr d.2.2.1 is lv st = some (lv', st')) (_ : ms_W x d P pc' lv' st' n G kr zr), ms_W x d P pc lv st n G kr zr
  | [], pc, pc', lv, lv', st, st', _, hl, hr, k => by
    cases hr
    rw [← hl] at k
    exact k
  | q :: r, pc, pc', lv, lv', st, st', hd, hl, hr, k => by
    unfold ms_pr at hr
    split at hr
    · next z hz =>
      refine ms_ps1 hd.1 (lv' := z.1) (st' := z.2) hz (ms_run r hd.2 ?_ hr k)
      rw [← hl]
      show pc + q.2 + ms_ln r = pc + (q.2 + ms_ln r)
      omega
    · cases hr
end
section
/-! branches -/
theorem ms_if_eq {x : Bool} {d : ms_D} {P : ms_P} {pc : Nat} {lv : List (Nat × Value)} {st : List Value} {n : Nat} {G : ms_H} {kr zr : Nat} {y : Int32} {off : Int} {tgt : Nat} (hdg : decode d.2.1 pc = .ok (.ifCond .eq off, 3)) (ht : (pc : Int) + off = (tgt : Int)) (kt : y = 0 → ms_W x d P tgt lv st n G kr zr) (kf : ¬ y = 0 → ms_W x d P (pc + 3) lv st n G kr zr) : ms_W x d P pc lv (.int y :: st) n G kr zr := by
  intro mc ms p l e s m args below meth c D cA base H locs cells slots ls F c1 c2 c3 c4 c5 c6
  exact lv_if_eq F.exec F.code hdg ht (fun h9 => (kt h9 mc ms p l e s m args below meth c D cA base H locs cells slots ls F c1 c2 c3 c4 c5 c6)) (fun h9 => (kf h9 mc ms p l e s m args below meth c D cA base H locs cells slots ls F c1 c2 c3 c4 c5 c6))
theorem ms_if_ne {x : Bool} {d : ms_D} {P : ms_P} {pc : Nat} {lv : List (Nat × Value)} {st : List Value} {n : Nat} {G : ms_H} {kr zr : Nat} {y : Int32} {off : Int} {tgt : Nat} (hdg : decode d.2.1 pc = .ok (.ifCond .ne off, 3)) (ht : (pc : Int) + off = (tgt : Int)) (kt : ¬ y = 0 → ms_W x d P tgt lv st n G kr zr) (kf : y = 0 → ms_W x d P (pc + 3) lv st n G kr zr) : ms_W x d P pc lv (.int y :: st) n G kr zr := by
  intro mc ms p l e s m args below meth c D cA base H locs cells slots ls F c1 c2 c3 c4 c5 c6
  exact lv_if_ne F.exec F.code hdg ht (fun h9 => (kt h9 mc ms p l e s m args below meth c D cA base H locs cells slots ls F c1 c2 c3 c4 c5 c6)) (fun h9 => (kf h9 mc ms p l e s m args below meth c D cA base H locs cells slots ls F c1 c2 c3 c4 c5 c6))
theorem ms_if_lt {x : Bool} {d : ms_D} {P : ms_P} {pc : Nat} {lv : List (Nat × Value)} {st : List Value} {n : Nat} {G : ms_H} {kr zr : Nat} {y : Int32} {off : Int} {tgt : Nat} (hdg : decode d.2.1 pc = .ok (.ifCond .lt off, 3)) (ht : (pc : Int) + off = (tgt : Int)) (kt : y < 0 → ms_W x d P tgt lv st n G kr zr) (kf : ¬ y < 0 → ms_W x d P (pc + 3) lv st n G kr zr) : ms_W x d P pc lv (.int y :: st) n G kr zr := by
  intro mc ms p l e s m args below meth c D cA base H locs cells slots ls F c1 c2 c3 c4 c5 c6
  exact lv_if_lt F.exec F.code hdg ht (fun h9 => (kt h9 mc ms p l e s m args below meth c D cA base H locs cells slots ls F c1 c2 c3 c4 c5 c6)) (fun h9 => (kf h9 mc ms p l e s m args below meth c D cA base H locs cells slots ls F c1 c2 c3 c4 c5 c6))
theorem ms_if_ge {x : Bool} {d : ms_D} {P : ms_P} {pc : Nat} {lv : List (Nat × Value)} {st : List Value} {n : Nat} {G : ms_H} {kr zr : Nat} {y : Int32} {off : Int} {tgt : Nat} (hdg : decode d.2.1 pc = .ok (.ifCond .ge off, 3)) (ht : (pc : Int) + off = (tgt : Int)) (kt : 0 ≤ y → ms_W x d P tgt lv st n G kr zr) (kf : ¬ 0 ≤ y → ms_W x d P (pc + 3) lv st n G kr zr) : ms_W x d P pc lv (.int y :: st) n G kr zr := by
  intro mc ms p l e s m args below meth c D cA base H locs cells slots ls F c1 c2 c3 c4 c5 c6
  exact lv_if_ge F.exec F.code hdg ht (fun h9 => (kt h9 mc ms p l e s m args below meth c D cA base H locs cells slots ls F c1 c2 c3 c4 c5 c6)) (fun h9 => (kf h9 mc ms p l e s m args below meth c D cA base H locs cells slots ls F c1 c2 c3 c4 c5 c6))
theorem ms_if_gt {x : Bool} {d : ms_D} {P : ms_P} {pc : Nat} {lv : List (Nat × Value)} {st : List Value} {n : Nat} {G : ms_H} {kr zr : Nat} {y : Int32} {off : Int} {tgt : Nat} (hdg : decode d.2.1 pc = .ok (.ifCond .gt off, 3)) (ht : (pc : Int) + off = (tgt : Int)) (kt : 0 < y → ms_W x d P tgt lv st n G kr zr) (kf : ¬ 0 < y → ms_W x d P (pc + 3) lv st n G kr zr) : ms_W x d P pc lv (.int y :: st) n G kr zr := by
  intro mc ms p l e s m args below meth c D cA base H locs cells slots ls F c1 c2 c3 c4 c5 c6
  exact lv_if_gt F.exec F.code hdg ht (fun h9 => (kt h9 mc ms p l e s m args below meth c D cA base H locs cells slots ls F c1 c2 c3 c4 c5 c6)) (fun h9 => (kf h9 mc ms p l e s m args below meth c D cA base H locs cells slots ls F c1 c2 c3 c4 c5 c6))
theorem ms_if_le {x : Bool} {d : ms_D} {P : ms_P} {pc : Nat} {lv : List (Nat × Value)} {st : List Value} {n : Nat} {G : ms_H} {kr zr : Nat} {y : Int32} {off : Int} {tgt : Nat} (hdg : decode d.2.1 pc = .ok (.ifCond .le off, 3)) (ht : (pc : Int) + off = (tgt : Int)) (kt : y ≤ 0 → ms_W x d P tgt lv st n G kr zr) (kf : ¬ y ≤ 0 → ms_W x d P (pc + 3) lv st n G kr zr) : ms_W x d P pc lv (.int y :: st) n G kr zr := by
  intro mc ms p l e s m args below meth c D cA base H locs cells slots ls F c1 c2 c3 c4 c5 c6
  exact lv_if_le F.exec F.code hdg ht (fun h9 => (kt h9 mc ms p l e s m args below meth c D cA base H locs cells slots ls F c1 c2 c3 c4 c5 c6)) (fun h9 => (kf h9 mc ms p l e s m args below meth c D cA base H locs cells slots ls F c1 c2 c3 c4 c5 c6))
theorem ms_icmp_eq {x : Bool} {d : ms_D} {P : ms_P} {pc : Nat} {lv : List (Nat × Value)} {st : List Value} {n : Nat} {G : ms_H} {kr zr : Nat} {y z : Int32} {off : Int} {tgt : Nat} (hdg : decode d.2.1 pc = .ok (.if_icmp .eq off, 3)) (ht : (pc : Int) + off = (tgt : Int)) (kt : z = y → ms_W x d P tgt lv st n G kr zr) (kf : ¬ z = y → ms_W x d P (pc + 3) lv st n G kr zr) : ms_W x d P pc lv (.int y :: .int z :: st) n G kr zr := by
  intro mc ms p l e s m args below meth c D cA base H locs cells slots ls F c1 c2 c3 c4 c5 c6
  exact lv_icmp_eq F.exec F.code hdg ht (fun h9 => (kt h9 mc ms p l e s m args below meth c D cA base H locs cells slots ls F c1 c2 c3 c4 c5 c6)) (fun h9 => (kf h9 mc ms p l e s m args below meth c D cA base H locs cells slots ls F c1 c2 c3 c4 c5 c6))
theorem ms_icmp_ne {x : Bool} {d : ms_D} {P : ms_P} {pc : Nat} {lv : List (Nat × Value)} {st : List Value} {n : Nat} {G : ms_H} {kr zr : Nat} {y z : Int32} {off : Int} {tgt : Nat} (hdg : decode d.2.1 pc = .ok (.if_icmp .ne off, 3)) (ht : (pc : Int) + off = (tgt : Int)) (kt : ¬ z = y → ms_W x d P tgt lv st n G kr zr) (kf : z = y → ms_W x d P (pc + 3) lv st n G kr zr) : ms_W x d P pc lv (.int y :: .int z :: st) n G kr zr := by
  intro mc ms p l e s m args below meth c D cA base H locs cells slots ls F c1 c2 c3 c4 c5 c6
  exact lv_icmp_ne F.exec F.code hdg ht (fun h9 => (kt h9 mc ms p l e s m args below meth c D cA base H locs cells slots ls F c1 c2 c3 c4 c5 c6)) (fun h9 => (kf h9 mc ms p l e s m args below meth c D cA base H locs cells slots ls F c1 c2 c3 c4 c5 c6))
theorem ms_icmp_lt {x : Bool} {d : ms_D} {P : ms_P} {pc : Nat} {lv : List (Nat × Value)} {st : List Value} {n : Nat} {G : ms_H} {kr zr : Nat} {y z : Int32} {off : Int} {tgt : Nat} (hdg : decode d.2.1 pc = .ok (.if_icmp .lt off, 3)) (ht : (pc : Int) + off = (tgt : Int)) (kt : z < y → ms_W x d P tgt lv st n G kr zr) (kf : ¬ z < y → ms_W x d P (pc + 3) lv st n G kr zr) : ms_W x d P pc lv (.int y :: .int z :: st) n G kr zr := by
  intro mc ms p l e s m args below meth c D cA base H locs cells slots ls F c1 c2 c3 c4 c5 c6
  exact lv_icmp_lt F.exec F.code hdg ht (fun h9 => (kt h9 mc ms p l e s m args below meth c D cA base H locs cells slots ls F c1 c2 c3 c4 c5 c6)) (fun h9 => (kf h9 mc ms p l e s m args below meth c D cA base H locs cells slots ls F c1 c2 c3 c4 c5 c6))
theorem ms_icmp_ge {x : Bool} {d : ms_D} {P : ms_P} {pc : Nat} {lv : List (Nat × Value)} {st : List Value} {n : Nat} {G : ms_H} {kr zr : Nat} {y z : Int32} {off : Int} {tgt : Nat} (hdg : decode d.2.1 pc = .ok (.if_icmp .ge off, 3)) (ht : (pc : Int) + off = (tgt : Int)) (kt : y ≤ z → ms_W x d P tgt lv st n G kr zr) (kf : ¬ y ≤ z → ms_W x d P (pc + 3) lv st n G kr zr) : ms_W x d P pc lv (.int y :: .int z :: st) n G kr zr := by
  intro mc ms p l e s m args below meth c D cA base H locs cells slots ls F c1 c2 c3 c4 c5 c6
  exact lv_icmp_ge F.exec F.code hdg ht (fun h9 => (kt h9 mc ms p l e s m args below meth c D cA base H locs cells slots ls F c1 c2 c3 c4 c5 c6)) (fun h9 => (kf h9 mc ms p l e s m args below meth c D cA base H locs cells slots ls F c1 c2 c3 c4 c5 c6))
theorem ms_icmp_gt {x : Bool} {d : ms_D} {P : ms_P} {pc : Nat} {lv : List (Nat × Value)} {st : List Value} {n : Nat} {G : ms_H} {kr zr : Nat} {y z : Int32} {off : Int} {tgt : Nat} (hdg : decode d.2.1 pc = .ok (.if_icmp .gt off, 3)) (ht : (pc : Int) + off = (tgt : Int)) (kt : y < z → ms_W x d P tgt lv st n G kr zr) (kf : ¬ y < z → ms_W x d P (pc + 3) lv st n G kr zr) : ms_W x d P pc lv (.int y :: .int z :: st) n G kr zr := by
  intro mc ms p l e s m args below meth c D cA base H locs cells slots ls F c1 c2 c3 c4 c5 c6
  exact lv_icmp_gt F.exec F.code hdg ht (fun h9 => (kt h9 mc ms p l e s m args below meth c D cA base H locs cells slots ls F c1 c2 c3 c4 c5 c6)) (fun h9 => (kf h9 mc ms p l e s m args below meth c D cA base H locs cells slots ls F c1 c2 c3 c4 c5 c6))
theorem ms_icmp_le {x : Bool} {d : ms_D} {P : ms_P} {pc : Nat} {lv : List (Nat × Value)} {st : List Value} {n : Nat} {G : ms_H} {kr zr : Nat} {y z : Int32} {off : Int} {tgt : Nat} (hdg : decode d.2.1 pc = .ok (.if_icmp .le off, 3)) (ht : (pc : Int) + off = (tgt : Int)) (kt : z ≤ y → ms_W x d P tgt lv st n G kr zr) (kf : ¬ z ≤ y → ms_W x d P (pc + 3) lv st n G kr zr) : ms_W x d P pc lv (.int y :: .int z :: st) n G kr zr := by
  intro mc ms p l e s m args below meth c D cA base H locs cells slots ls F c1 c2 c3 c4 c5 c6
  exact lv_icmp_le F.exec F.code hdg ht (fun h9 => (kt h9 mc ms p l e s m args below meth c D cA base H locs cells slots ls F c1 c2 c3 c4 c5 c6)) (fun h9 => (kf h9 mc ms p l e s m args below meth c D cA base H locs cells slots ls F c1 c2 c3 c4 c5 c6))
theorem ms_goto {x : Bool} {d : ms_D} {P : ms_P} {pc : Nat} {lv : List (Nat × Value)} {st : List Value} {n : Nat} {G : ms_H} {kr zr : Nat} {off : Int} {tgt : Nat} (hdg : decode d.2.1 pc = .ok (.goto off, 3)) (ht : (pc : Int) + off = (tgt : Int)) (k : ms_W x d P tgt lv st n G kr zr) : ms_W x d P pc lv st n G kr zr := by
  intro mc ms p l e s m args below meth c D cA base H locs cells slots ls F c1 c2 c3 c4 c5 c6
  exact lv_goto F.exec F.code hdg ht (k mc ms p l e s m args below meth c D cA base H locs cells slots ls F c1 c2 c3 c4 c5 c6)
theorem ms_ifnull {x : Bool} {d : ms_D} {P : ms_P} {pc : Nat} {lv : List (Nat × Value)} {st : List Value} {n : Nat} {G : ms_H} {kr zr : Nat} {y : Nat} {off : Int} (hdg : decode d.2.1 pc = .ok (.ifnull off, 3)) (k : ms_W x d P (pc + 3) lv st n G kr zr) : ms_W x d P pc lv (.ref y :: st) n G kr zr := by
  intro mc ms p l e s m args below meth c D cA base H locs cells slots ls F c1 c2 c3 c4 c5 c6
  exact lv_ifnull F.exec F.code hdg (k mc ms p l e s m args below meth c D cA base H locs cells slots ls F c1 c2 c3 c4 c5 c6)
theorem ms_ifnullN {x : Bool} {d : ms_D} {P : ms_P} {pc : Nat} {lv : List (Nat × Value)} {st : List Value} {n : Nat} {G : ms_H} {kr zr : Nat} {off : Int} {tgt : Nat} (hdg : decode d.2.1 pc = .ok (.ifnull off, 3)) (ht : (pc : Int) + off = (tgt : Int)) (k : ms_W x d P tgt lv st n G kr zr) : ms_W x d P pc lv (.null :: st) n G kr zr := by
  intro mc ms p l e s m args below meth c D cA base H locs cells slots ls F c1 c2 c3 c4 c5 c6
  exact lv_ifnullN F.exec F.code hdg ht (k mc ms p l e s m args below meth c D cA base H locs cells slots ls F c1 c2 c3 c4 c5 c6)
theorem ms_ifnonnull {x : Bool} {d : ms_D} {P : ms_P} {pc : Nat} {lv : List (Nat × Value)} {st : List Value} {n : Nat} {G : ms_H} {kr zr : Nat} {y : Nat} {off : Int} {tgt : Nat} (hdg : decode d.2.1 pc = .ok (.ifnonnull off, 3)) (ht : (pc : Int) + off = (tgt : Int)) (k : ms_W x d P tgt lv st n G kr zr) : ms_W x d P pc lv (.ref y :: st) n G kr zr := by
  intro mc ms p l e s m args below meth c D cA base H locs cells slots ls F c1 c2 c3 c4 c5 c6
  exact lv_ifnonnull F.exec F.code hdg ht (k mc ms p l e s m args below meth c D cA base H locs cells slots ls F c1 c2 c3 c4 c5 c6)
theorem ms_ifnonnullN {x : Bool} {d : ms_D} {P : ms_P} {pc : Nat} {lv : List (Nat × Value)} {st : List Value} {n : Nat} {G : ms_H} {kr zr : Nat} {off : Int} (hdg : decode d.2.1 pc = .ok (.ifnonnull off, 3)) (k : ms_W x d P (pc + 3) lv st n G kr zr) : ms_W x d P pc lv (.null :: st) n G kr zr := by
  intro mc ms p l e s m args below meth c D cA base H locs cells slots ls F c1 c2 c3 c4 c5 c6
  exact lv_ifnonnullN F.exec F.code hdg (k mc ms p l e s m args below meth c D cA base H locs cells slots ls F c1 c2 c3 c4 c5 c6)
theorem ms_idiv {x : Bool} {d : ms_D} {P : ms_P} {pc : Nat} {lv : List (Nat × Value)} {st : List Value} {n : Nat} {G : ms_H} {kr zr : Nat} {y z : Int32} (hdg : decode d.2.1 pc = .ok (.idiv, 1)) (hne : ¬ y = 0) (k : ms_W x d P (pc + 1) lv (.int (z / y) :: st) n G kr zr) : ms_W x d P pc lv (.int y :: .int z :: st) n G kr zr := by
  intro mc ms p l e s m args below meth c D cA base H locs cells slots ls F c1 c2 c3 c4 c5 c6
  exact lv_idiv F.exec F.code hdg hne (k mc ms p l e s m args below meth c D cA base H locs cells slots ls F c1 c2 c3 c4 c5 c6)
theorem ms_irem {x : Bool} {d : ms_D} {P : ms_P} {pc : Nat} {lv : List (Nat × Value)} {st : List Value} {n : Nat} {G : ms_H} {kr zr : Nat} {y z : Int32} (hdg : decode d.2.1 pc = .ok (.irem, 1)) (hne : ¬ y = 0) (k : ms_W x d P (pc + 1) lv (.int (z - z / y * y) :: st) n G kr zr) : ms_W x d P pc lv (.int y :: .int z :: st) n G kr zr := by
  intro mc ms p l e s m args below meth c D cA base H locs cells slots ls F c1 c2 c3 c4 c5 c6
  exact lv_irem F.exec F.code hdg hne (k mc ms p l e s m args below meth c D cA base H locs cells slots ls F c1 c2 c3 c4 c5 c6)
theorem ms_lcmp {x : Bool} {d : ms_D} {P : ms_P} {pc : Nat} {lv : List (Nat × Value)} {st : List Value} {n : Nat} {G : ms_H} {kr zr : Nat} {y z : Int64} (hdg : decode d.2.1 pc = .ok (.lcmp, 1)) (k : ms_W x d P (pc + 1) lv (.int (lg_cmp z y) :: st) n G kr zr) : ms_W x d P pc lv (.long y :: .long z :: st) n G kr zr := by
  intro mc ms p l e s m args below meth c D cA base H locs cells slots ls F c1 c2 c3 c4 c5 c6
  exact W.lcmp F.exec F.code hdg (k mc ms p l e s m args below meth c D cA base H locs cells slots ls F c1 c2 c3 c4 c5 c6)
theorem ms_i2d {x : Bool} {d : ms_D} {P : ms_P} {pc : Nat} {lv : List (Nat × Value)} {st : List Value} {n : Nat} {G : ms_H} {kr zr : Nat} {y : Int32} (hdg : decode d.2.1 pc = .ok (.i2d, 1)) (k : ms_W x d P (pc + 1) lv (.double (FP.i2d y) :: st) n G kr zr) : ms_W x d P pc lv (.int y :: st) n G kr zr := by
  intro mc ms p l e s m args below meth c D cA base H locs cells slots ls F c1 c2 c3 c4 c5 c6
  exact lv_i2d F.exec F.code hdg (k mc ms p l e s m args below meth c D cA base H locs cells slots ls F c1 c2 c3 c4 c5 c6)
theorem ms_ddiv {x : Bool} {d : ms_D} {P : ms_P} {pc : Nat} {lv : List (Nat × Value)} {st : List Value} {n : Nat} {G : ms_H} {kr zr : Nat} {y z : UInt64} (hdg : decode d.2.1 pc = .ok (.ddiv, 1)) (hne : vf_n64 (FP.ddiv z y)) (k : ms_W x d P (pc + 1) lv (.double (FP.ddiv z y) :: st) n G kr zr) : ms_W x d P pc lv (.double y :: .double z :: st) n G kr zr := by
  intro mc ms p l e s m args below meth c D cA base H locs cells slots ls F c1 c2 c3 c4 c5 c6
  exact lv_ddiv F.exec F.code hdg hne (k mc ms p l e s m args below meth c D cA base H locs cells slots ls F c1 c2 c3 c4 c5 c6)
theorem ms_dconst0 {x : Bool} {d : ms_D} {P : ms_P} {pc : Nat} {lv : List (Nat × Value)} {st : List Value} {n : Nat} {G : ms_H} {kr zr : Nat} (hdg : decode d.2.1 pc = .ok (.dconst 0, 1)) (k : ms_W x d P (pc + 1) lv (.double 0 :: st) n G kr zr) : ms_W x d P pc lv st n G kr zr := by
  intro mc ms p l e s m args below meth c D cA base H locs cells slots ls F c1 c2 c3 c4 c5 c6
  exact lv_dconst0 F.exec F.code hdg (k mc ms p l e s m args below meth c D cA base H locs cells slots ls F c1 c2 c3 c4 c5 c6)
theorem ms_ldc2 {x : Bool} {d : ms_D} {P : ms_P} {pc : Nat} {lv : List (Nat × Value)} {st : List Value} {n : Nat} {G : ms_H} {kr zr : Nat} {j : Nat} {v : Int64} (hdg : decode d.2.1 pc = .ok (.ldc2_w j, 3)) (hc : Cond.constantLong d.1.cls j v ∈ ms_big) (k : ms_W x d P (pc + 3) lv (.long v :: st) n G kr zr) : ms_W x d P pc lv st n G kr zr := by
  intro mc ms p l e s m args below meth c D cA base H locs cells slots ls F c1 c2 c3 c4 c5 c6
  exact lv_ldc2 F.exec F.code F.own (F.big _ hc) hdg (k mc ms p l e s m args below meth c D cA base H locs cells slots ls F c1 c2 c3 c4 c5 c6)
theorem ms_tabOut {x : Bool} {d : ms_D} {P : ms_P} {pc : Nat} {lv : List (Nat × Value)} {st : List Value} {n : Nat} {G : ms_H} {kr zr : Nat} {dflt lo hi : Int} {offs : Array Int} {len : Nat} {y : Int32} {tgt : Nat} (hdg : decode d.2.1 pc = .ok (.tableswitch dflt lo hi offs, len)) (h : y.toInt < lo ∨ hi < y.toInt) (ht : (pc : Int) + dflt = (tgt : Int)) (k : ms_W x d P tgt lv st n G kr zr) : ms_W x d P pc lv (.int y :: st) n G kr zr := by
  intro mc ms p l e s m args below meth c D cA base H locs cells slots ls F c1 c2 c3 c4 c5 c6
  exact lv_tableOut F.exec F.code hdg h ht (k mc ms p l e s m args below meth c D cA base H locs cells slots ls F c1 c2 c3 c4 c5 c6)
theorem ms_tabIn {x : Bool} {d : ms_D} {P : ms_P} {pc : Nat} {lv : List (Nat × Value)} {st : List Value} {n : Nat} {G : ms_H} {kr zr : Nat} {dflt lo hi : Int} {offs : Array Int} {len : Nat} {y : Int32} {off : Int} {tgt : Nat} (hdg : decode d.2.1 pc = .ok (.tableswitch dflt lo hi offs, len)) (h1 : ¬ y.toInt < lo) (h2 : ¬ hi < y.toInt) (ho : offs[(y.toInt - lo).toNat]? = some off) (ht : (pc : Int) + off = (tgt : Int)) (k : ms_W x d P tgt lv st n G kr zr) : ms_W x d P pc lv (.int y :: st) n G kr zr := by
  intro mc ms p l e s m args below meth c D cA base H locs cells slots ls F c1 c2 c3 c4 c5 c6
  exact lv_tableIn F.exec F.code hdg h1 h2 ho ht (k mc ms p l e s m args below meth c D cA base H locs cells slots ls F c1 c2 c3 c4 c5 c6)
theorem ms_lookup {x : Bool} {d : ms_D} {P : ms_P} {pc : Nat} {lv : List (Nat × Value)} {st : List Value} {n : Nat} {G : ms_H} {kr zr : Nat} {dflt : Int} {ps : Array (Int × Int)} {len : Nat} {y : Int32} {off : Int} {tgt : Nat} (hdg : decode d.2.1 pc = .ok (.lookupswitch dflt ps, len)) (hp : (ps.toList.zip (ps.toList.drop 1)).all (fun (a, next) => a.1 < next.1) = true) (ho : Op.lookupswitch.offset ps.toList dflt y.toInt = off) (ht : (pc : Int) + off = (tgt : Int)) (k : ms_W x d P tgt lv st n G kr zr) : ms_W x d P pc lv (.int y :: st) n G kr zr := by
  intro mc ms p l e s m args below meth c D cA base H locs cells slots ls F c1 c2 c3 c4 c5 c6
  exact lv_lookup F.exec F.code hdg hp ho ht (k mc ms p l e s m args below meth c D cA base H locs cells slots ls F c1 c2 c3 c4 c5 c6)
/-! fields -/
def ms_okF (own : String) (idx ci k : Nat) : Prop := ∃ (C : String) (T : u_T) (N : Nat), vwCl[ci]? = some (C, T, N) ∧ k < N ∧ (∀ w ∈ u_ws C T N, w ∈ ms_big) ∧ Cond.fieldLink own idx C (T k).2.1 (T k).2.2.1 ∈ ms_big ∧ (T k).1 = C
theorem ms_getf {x : Bool} {d : ms_D} {P : ms_P} {pc : Nat} {lv : List (Nat × Value)} {st : List Value} {n : Nat} {G : ms_H} {kr zr : Nat} {a ci i j : Nat} {fs : List Value} {v : Value} (hdg : decode d.2.1 pc = .ok (.getfield i, 3)) (ok : ms_okF d.1.cls i ci j) (ha : G a = some (.inr (ci, fs))) (hv : fs[j]? = some v) (k : ms_W x d P (pc + 3) lv (v :: st) n G kr zr) : ms_W x d P pc lv (.ref a :: st) n G kr zr := by
  obtain ⟨C, T, N, o1, o2, o3, o4, o5⟩ := ok
  intro mc ms p l e s m args below meth c D cA base H locs cells slots ls F c1 c2 c3 c4 c5 c6
  exact va_get (C := C) (T := T) (N := N) (ref := C) F.exec F.code F.big o3 F.own F.K (c4.P1 ha) 0 rfl o1 j o2 (F.big _ o4) (fun y hy => by rw [← o5]; exact hy) hv hdg (k mc ms p l e s m args below meth c D cA base H locs cells slots ls F c1 c2 c3 c4 c5 c6)
theorem ms_getN {x : Bool} {d : ms_D} {P : ms_P} {pc : Nat} {lv : List (Nat × Value)} {st : List Value} {n : Nat} {G : ms_H} {kr zr : Nat} {a i j ci : Nat} {fs : List Value} {v : Value} {host : String} (hdg : decode d.2.1 pc = .ok (.getfield i, 3)) (ok : ∃ (C : String) (T : u_T) (N : Nat), vwCl[ci]? = some (C, T, N) ∧ j < N ∧ (∀ w ∈ u_ws C T N, w ∈ ms_big) ∧ (d.1.cls, i, C, (T j).2.1, (T j).2.2.1, host) ∈ ms_nF ∧ (T j).1 = C) (ha : G a = some (.inr (ci, fs))) (hv : fs[j]? = some v) (k : ms_W x d P (pc + 3) lv (v :: st) n G kr zr) : ms_W x d P pc lv (.ref a :: st) n G kr zr := by
  obtain ⟨C, T, N, o1, o2, o3, o4, o5⟩ := ok
  intro mc ms p l e s m args below meth c D cA base H locs cells slots ls F c1 c2 c3 c4 c5 c6
  exact va_getN (C := C) (T := T) (N := N) (ref := C) (host := host) F.exec F.code F.big o3 F.own F.K (c4.P1 ha) 0 rfl o1 j o2 ((F.SE.2.2.1.2 _ o4).use rfl) (fun y hy => by rw [← o5]; exact hy) hv hdg (k mc ms p l e s m args below meth c D cA base H locs cells slots ls F c1 c2 c3 c4 c5 c6)
def ms_okP (own : String) (idx ci k : Nat) (ty : FieldType) (fin : Bool) : Prop := ∃ (C : String) (T : u_T) (N : Nat) (t0 : Nat → FieldType), vwCl[ci]? = some (C, T, N) ∧ k < N ∧ (∀ w ∈ u_ws C T N, w ∈ ms_big) ∧ Cond.fieldLink own idx C (T k).2.1 (T k).2.2.1 ∈ ms_big ∧ (T k).1 = C ∧
  (∀ k, k < N → parseFieldDescriptor (T k).2.2.1 = some (t0 k)) ∧ (∀ a, a < N → ∀ b, b < N → a ≠ b → (T a).2.1 ≠ (T b).2.1) ∧ (T k).2.2.2 = fin ∧ t0 k = ty ∧ (fin = true → C = own)
theorem ms_putf {x : Bool} {d : ms_D} {P : ms_P} {pc : Nat} {lv : List (Nat × Value)} {st : List Value} {n : Nat} {G : ms_H} {kr zr : Nat} {a ci i j : Nat} {fs : List Value} {v : Value} {ty : FieldType} (hdg : decode d.2.1 pc = .ok (.putfield i, 3)) (ok : ms_okP d.1.cls i ci j ty false) (ha : G a = some (.inr (ci, fs))) (hl : j < fs.length) (hn : narrow ty v = v) (hfit : fits ty v = true) (k : ms_W x d P (pc + 3) lv st n (ms_up G a (.inr (ci, fs.set j v))) kr zr) : ms_W x d P pc lv (v :: .ref a :: st) n G kr zr := by
  obtain ⟨C, T, N, t0, o1, o2, o3, o4, o5, o6, o7, o8, o9, -⟩ := ok
  intro mc ms p l e s m args below meth c D cA base H locs cells slots ls F c1 c2 c3 c4 c5 c6
  have hap := va_apart (own := d.1.cls) F.big o3 t0 o6 o7 F.K o1
  obtain ⟨r, h1, cell, q1, q2, q3, q4⟩ := (c4 a _ ha).1
  have hr : r = (C, T, N) := Option.some.inj (h1.symm.trans o1)
  subst hr
  obtain ⟨hS, hfc, kC, hkC, hkind⟩ := F.K.1 ci _ o1
  obtain ⟨cf, kf, fi, f, hi, hsl⟩ := hS j o2
  have hlay := F.big _ (o3 _ (u_in_lay o2))
  unfold u_lay at hlay
  rw [if_neg (by rw [o8]; decide)] at hlay
  have hst := (u_facts hfc hkC (u_lays F.big o3 o2) hi).1
  have h6 := u_store hfc hkC hkind hlay hi (by rw [o6 j o2, o9]) hn hfit
  refine W.putK F.exec F.code (f := f) ⟨F.own, F.big _ o4, ⟨_, _, _, (by rw [o5] at hi; exact hi)⟩, hst⟩ (by rw [q2]; exact h6) q1 q3 (by rw [hsl]; exact k2_hasslot (q4 j o2)) rfl rfl hdg fun H1 e1 e2 e3 => ?_
  rw [hsl] at e1 ⊢
  exact k mc ms p l e s m args below meth c D cA base H1 _ cells slots ls F c1 c2 (e2.trans c3) (c4.set ha ⟨_, o1, t_OB.to (V := updV (vp_V fs) j v) ⟨_, e1, q2, q3, t_set q4 hap o2 v⟩ (fun z _ => vp_updV_set hl v z)⟩ e3) (c5.put e2 e3 (c4 a _ ha).2) c6
theorem ms_putF {x : Bool} {d : ms_D} {P : ms_P} {pc : Nat} {lv : List (Nat × Value)} {st : List Value} {n : Nat} {G : ms_H} {kr zr : Nat} {a ci i j : Nat} {fs : List Value} {v : Value} {ty : FieldType} (hdg : decode d.2.1 pc = .ok (.putfield i, 3)) (ok : ms_okP d.1.cls i ci j ty true) (hini : d.1.name = "<init>") (ha : G a = some (.inr (ci, fs))) (hl : j < fs.length) (hn : narrow ty v = v) (hfit : fits ty v = true) (k : ms_W x d P (pc + 3) lv st n (ms_up G a (.inr (ci, fs.set j v))) kr zr) : ms_W x d P pc lv (v :: .ref a :: st) n G kr zr := by
  obtain ⟨C, T, N, t0, o1, o2, o3, o4, o5, o6, o7, o8, o9, o10⟩ := ok
  intro mc ms p l e s m args below meth c D cA base H locs cells slots ls F c1 c2 c3 c4 c5 c6
  have hap := va_apart (own := d.1.cls) F.big o3 t0 o6 o7 F.K o1
  obtain ⟨r, h1, cell, q1, q2, q3, q4⟩ := (c4 a _ ha).1
  have hr : r = (C, T, N) := Option.some.inj (h1.symm.trans o1)
  subst hr
  obtain ⟨hS, hfc, kC, hkC, hkind⟩ := F.K.1 ci _ o1
  obtain ⟨cf, kf, fi, f, hi, hsl⟩ := hS j o2
  have hlay := F.big _ (o3 _ (u_in_lay o2))
  unfold u_lay at hlay
  rw [if_pos o8] at hlay
  have hst := (u_facts hfc hkC (u_lays F.big o3 o2) hi).1
  have hcf : m.cls = cf := by
    obtain ⟨_, _, c', _, _, _, -, -, hf', -, -, -, hown2, -⟩ := Cond.laysFinal_spec hlay
    have e1 : c' = cf := by have := hi.symm.trans hf'; simp at this; exact this.1.symm
    rw [o5, o10 rfl] at hown2
    rw [← e1]; exact Option.some.inj (F.own.symm.trans hown2)
  have h6 := u_fits hfc hkC hkind (Or.inr hlay) hi (by rw [o6 j o2, o9]) hn hfit
  refine W.putFinK F.exec F.code F.own (F.big _ o4) (by rw [o5] at hi; exact hi) hst hcf (F.2.2.2.2.2.2.1.trans hini) (by rw [q2]; exact h6) q1 q3 (by rw [hsl]; exact k2_hasslot (q4 j o2)) rfl rfl hdg fun H1 e1 e2 e3 => ?_
  rw [hsl] at e1 ⊢
  exact k mc ms p l e s m args below meth c D cA base H1 _ cells slots ls F c1 c2 (e2.trans c3) (c4.set ha ⟨_, o1, t_OB.to (V := updV (vp_V fs) j v) ⟨_, e1, q2, q3, t_set q4 hap o2 v⟩ (fun z _ => vp_updV_set hl v z)⟩ e3) (c5.put e2 e3 (c4 a _ ha).2) c6
/-! new -/
def ms_okN (own : String) (idx ci : Nat) (fs : List Value) : Prop := ∃ (C : String) (T : u_T) (N : Nat) (t0 : Nat → FieldType), vwCl[ci]? = some (C, T, N) ∧ (∀ w ∈ u_ws C T N, w ∈ ms_big) ∧ (∀ k, k < N → parseFieldDescriptor (T k).2.2.1 = some (t0 k)) ∧ Cond.classLink own idx C ∈ ms_big ∧ Cond.instantiable C N ∈ ms_big ∧ Cond.initialized C ∈ ms_big ∧ fs = (List.range N).map (fun j => defaultValue (t0 j))
theorem ms_new {x : Bool} {d : ms_D} {P : ms_P} {pc : Nat} {lv : List (Nat × Value)} {st : List Value} {n : Nat} {G : ms_H} {kr zr : Nat} {i ci : Nat} {fs : List Value} (hdg : decode d.2.1 pc = .ok (.new i, 3)) (ok : ms_okN d.1.cls i ci fs) (k : ms_W x d P (pc + 3) lv (.ref n :: st) (n + 1) (ms_up G n (.inr (ci, fs))) kr zr) : ms_W x d P pc lv st n G (1 + kr) (fs.length + zr) := by
  obtain ⟨C, T, N, t0, o1, o2, o3, o4, o5, o6, o7⟩ := ok
  intro mc ms p l e s m args below meth c D cA base H locs cells slots ls F c1 c2 c3 c4 c5 c6
  have hlen : fs.length = N := by rw [o7]; simp
  have hKn := F.K.1 ci _ o1
  refine W.newcK F.exec F.code F.own (F.big _ o4) (F.big _ o5) (F.big _ o6) rfl hdg (show cells + 1 ≤ mc by omega) (show slots + N ≤ ms by omega) hKn.2.1 c3 fun H1 kC hkC e1 z1 b1 => ?_
  refine k mc ms p l e s m args below meth c D cA base H1 locs (cells + 1) (slots + N) ls F (by omega) (by omega) z1 (c4.new c3 (by have := F.low; have := c5.1; omega) ⟨_, o1, (u_born t0 F.big o2 hKn hkC e1 o3).to (fun z hz => ?_)⟩ b1) ⟨by have := c5.1; omega, fun q h1 h2 => (b1 q (by have := c5.1; omega)).trans (c5.2.1 q h1 h2), c5.2.2⟩ c6
  rw [o7]
  simp [vp_V, hz]
theorem ms_newI {x : Bool} {d : ms_D} {P : ms_P} {pc : Nat} {lv : List (Nat × Value)} {st : List Value} {n : Nat} {G : ms_H} {kr zr : Nat} {v : Int32} {N : Nat} (hdg : decode d.2.1 pc = .ok (.newarray .int, 2)) (hw : Cond.arrayClass .int ∈ ms_big) (h0 : ¬ v < 0) (hN : v.toNatClampNeg = N) (hb : N * 4 ≤ 536870912) (k : ms_W x d P (pc + 2) lv (.ref n :: st) (n + 1) (ms_up G n (.inl (0, N, .inl (fun _ => 0)))) kr zr) : ms_W x d P pc lv (.int v :: st) n G (1 + kr) (N + zr) := by
  intro mc ms p l e s m args below meth c D cA base H locs cells slots ls F c1 c2 c3 c4 c5 c6
  refine va_newaK (atype := .int) F.exec F.code (F.big _ hw) rfl hdg rfl h0 hN hb (show cells + 1 ≤ mc by omega) (show slots + N ≤ ms by omega) c3 fun H1 cB e1 z1 b1 hAr hNm => ?_
  have hcB : cB = cA 0 := Option.some.inj (hNm.symm.trans (F.K.2 0 _ rfl).2)
  subst hcB
  exact k mc ms p l e s m args below meth c D cA base H1 locs (cells + 1) (slots + N) ls F (by omega) (by omega) z1 (c4.new c3 (by have := F.low; have := c5.1; omega) e1 b1) ⟨by have := c5.1; omega, fun q h1 h2 => (b1 q (by have := c5.1; omega)).trans (c5.2.1 q h1 h2), c5.2.2⟩ c6
theorem ms_newZ {x : Bool} {d : ms_D} {P : ms_P} {pc : Nat} {lv : List (Nat × Value)} {st : List Value} {n : Nat} {G : ms_H} {kr zr : Nat} {v : Int32} {N : Nat} (hdg : decode d.2.1 pc = .ok (.newarray .boolean, 2)) (hw : Cond.arrayClass .boolean ∈ ms_big) (h0 : ¬ v < 0) (hN : v.toNatClampNeg = N) (hb : N * 1 ≤ 536870912) (k : ms_W x d P (pc + 2) lv (.ref n :: st) (n + 1) (ms_up G n (.inl (1, N, .inl (fun _ => 0)))) kr zr) : ms_W x d P pc lv (.int v :: st) n G (1 + kr) (N + zr) := by
  intro mc ms p l e s m args below meth c D cA base H locs cells slots ls F c1 c2 c3 c4 c5 c6
  refine va_newaK (atype := .boolean) F.exec F.code (F.big _ hw) rfl hdg rfl h0 hN hb (show cells + 1 ≤ mc by omega) (show slots + N ≤ ms by omega) c3 fun H1 cB e1 z1 b1 hAr hNm => ?_
  have hcB : cB = cA 1 := Option.some.inj (hNm.symm.trans (F.K.2 1 _ rfl).2)
  subst hcB
  exact k mc ms p l e s m args below meth c D cA base H1 locs (cells + 1) (slots + N) ls F (by omega) (by omega) z1 (c4.new c3 (by have := F.low; have := c5.1; omega) e1 b1) ⟨by have := c5.1; omega, fun q h1 h2 => (b1 q (by have := c5.1; omega)).trans (c5.2.1 q h1 h2), c5.2.2⟩ c6
theorem ms_newL {x : Bool} {d : ms_D} {P : ms_P} {pc : Nat} {lv : List (Nat × Value)} {st : List Value} {n : Nat} {G : ms_H} {kr zr : Nat} {v : Int32} {N : Nat} (hdg : decode d.2.1 pc = .ok (.newarray .long, 2)) (hw : Cond.arrayClass .long ∈ ms_big) (h0 : ¬ v < 0) (hN : v.toNatClampNeg = N) (hb : N * 8 ≤ 536870912) (k : ms_W x d P (pc + 2) lv (.ref n :: st) (n + 1) (ms_up G n (.inl (2, N, .inr (.inl (fun _ => 0))))) kr zr) : ms_W x d P pc lv (.int v :: st) n G (1 + kr) (N + zr) := by
  intro mc ms p l e s m args below meth c D cA base H locs cells slots ls F c1 c2 c3 c4 c5 c6
  refine va_newaK (atype := .long) F.exec F.code (F.big _ hw) rfl hdg rfl h0 hN hb (show cells + 1 ≤ mc by omega) (show slots + N ≤ ms by omega) c3 fun H1 cB e1 z1 b1 hAr hNm => ?_
  have hcB : cB = cA 2 := Option.some.inj (hNm.symm.trans (F.K.2 2 _ rfl).2)
  subst hcB
  exact k mc ms p l e s m args below meth c D cA base H1 locs (cells + 1) (slots + N) ls F (by omega) (by omega) z1 (c4.new c3 (by have := F.low; have := c5.1; omega) e1 b1) ⟨by have := c5.1; omega, fun q h1 h2 => (b1 q (by have := c5.1; omega)).trans (c5.2.1 q h1 h2), c5.2.2⟩ c6
/-! stores into rows -/
theorem ms_zastore {x : Bool} {d : ms_D} {P : ms_P} {pc : Nat} {lv : List (Nat × Value)} {st : List Value} {n : Nat} {G : ms_H} {kr zr : Nat} {a N : Nat} {i v : Int32} {f : Nat → Int32} (hdg : decode d.2.1 pc = .ok (.bastore, 1)) (ha : G a = some (.inl (1, N, .inl f))) (hin : vp_in i N) (k : ms_W x d P (pc + 1) lv st n (ms_up G a (.inl (1, N, .inl (upd f i.toNatClampNeg (vp_nar .boolean v))))) kr zr) : ms_W x d P pc lv (.int v :: .int i :: .ref a :: st) n G kr zr := by
  intro mc ms p l e s m args below meth c D cA base H locs cells slots ls F c1 c2 c3 c4 c5 c6
  have hb := (c4 a _ ha).2
  refine W.zast F.exec F.code (c4.P1 ha 0 _ rfl) ((F.K.2 1 _ rfl).1 N (fun j => .int (f j))) (fun q => by cases q) (by show ¬ (i < 0 ∨ (arrV _ _ _).slots.size ≤ _); rw [arrV_size]; exact hin) rfl rfl hdg fun H1 h9 z oq => ?_
  refine k mc ms p l e s m args below meth c D cA base H1 _ cells slots ls F c1 c2 (z.trans c3) (c4.set ha ?_ oq) (c5.put z oq hb) c6
  show H1[a]? = some (vp_cell _ _)
  rw [h9]
  rw [vp_cell_i, vp_cell_i, arrV_store]
  congr 2
  funext q
  by_cases hq : q = i.toNatClampNeg
  · subst hq
    simp [updV, upd, vp_nar]
    try rfl
  · simp [updV, upd, hq]
theorem ms_lastore {x : Bool} {d : ms_D} {P : ms_P} {pc : Nat} {lv : List (Nat × Value)} {st : List Value} {n : Nat} {G : ms_H} {kr zr : Nat} {a N : Nat} {i : Int32} {v : Int64} {f : Nat → Int64} (hdg : decode d.2.1 pc = .ok (.lastore, 1)) (ha : G a = some (.inl (2, N, .inr (.inl f)))) (hin : vp_in i N) (k : ms_W x d P (pc + 1) lv st n (ms_up G a (.inl (2, N, .inr (.inl (vp_updL f i.toNatClampNeg v))))) kr zr) : ms_W x d P pc lv (.long v :: .int i :: .ref a :: st) n G kr zr := by
  intro mc ms p l e s m args below meth c D cA base H locs cells slots ls F c1 c2 c3 c4 c5 c6
  have hb := (c4 a _ ha).2
  refine W.last F.exec F.code (c4.P1 ha 0 _ rfl) ((F.K.2 2 _ rfl).1 N (fun j => .long (f j))) (fun q => by cases q) (by show ¬ (i < 0 ∨ (arrV _ _ _).slots.size ≤ _); rw [arrV_size]; exact hin) rfl rfl hdg fun H1 h9 z oq => ?_
  refine k mc ms p l e s m args below meth c D cA base H1 _ cells slots ls F c1 c2 (z.trans c3) (c4.set ha ?_ oq) (c5.put z oq hb) c6
  show H1[a]? = some (vp_cell _ _)
  rw [h9]
  rw [vp_cell_l, vp_cell_l, arrV_store]
  congr 2
  funext q
  by_cases hq : q = i.toNatClampNeg
  · subst hq
    simp [updV, vp_updL]
  · simp [updV, vp_updL, hq]
theorem ms_aastore {x : Bool} {d : ms_D} {P : ms_P} {pc : Nat} {lv : List (Nat × Value)} {st : List Value} {n : Nat} {G : ms_H} {kr zr : Nat} {a N b : Nat} {i : Int32} {fs : List Value} {f : Nat → Option Nat} (hdg : decode d.2.1 pc = .ok (.aastore, 1)) (ha : G a = some (.inl (3, N, .inr (.inr (.inr (.inr f)))))) (hb : G b = some (.inr (4, fs))) (hin : vp_in i N) (k : ms_W x d P (pc + 1) lv st n (ms_up G a (.inl (3, N, .inr (.inr (.inr (.inr (va_up f i.toNatClampNeg (some b)))))))) kr zr) : ms_W x d P pc lv (.ref b :: .int i :: .ref a :: st) n G kr zr := by
  intro mc ms p l e s m args below meth c D cA base H locs cells slots ls F c1 c2 c3 c4 c5 c6
  have hba := (c4 a _ ha).2
  have hlt : i.toNatClampNeg < N := Nat.not_le.mp fun q => hin (Or.inr q)
  have h0 : ¬ i < 0 := fun q => hin (Or.inl q)
  obtain ⟨r', hr', cellV, g1, g2, g3, -⟩ := (c4 b _ hb).1
  have hr9 : r' = (RX4, TX4, 11) := Option.some.inj (hr'.symm.trans rfl)
  have hcls := (F.K.1 4 _ rfl).2
  obtain ⟨kA, comp, k1, k2, k3, -⟩ := (F.K.2 3 _ rfl).2
  have hcomp : comp = D.1 4 := Option.some.inj (k3.symm.trans hcls.1)
  subst hcomp
  obtain ⟨kC, hkC, -⟩ := hcls.2
  refine W.aast F.exec F.code (c4.P1 ha 0 _ rfl) (fun q h => by cases h) (fun h => by cases h) k1 k2 rfl hkC ⟨h0, by show _ < (arrV _ _ _).slots.size; rw [arrV_size]; exact hlt⟩ g1 (fun q h => by rw [g3] at h; cases h) (by rw [g2]; exact hkC) (by rw [g2]; exact va_assign hcls) rfl rfl hdg fun H1 h9 z oq => ?_
  refine k mc ms p l e s m args below meth c D cA base H1 _ cells slots ls F c1 c2 (z.trans c3) (c4.set ha ?_ oq) (c5.put z oq hba) c6
  show H1[a]? = some (vp_cell _ _)
  rw [h9]
  rw [vp_cell_q, vp_cell_q, arrV_store]
  congr 2
  funext q
  by_cases hq : q = i.toNatClampNeg
  · subst hq
    simp [updV, va_up, va_rf]
  · simp [updV, va_up, hq]
end
section
/-! contracts, calls, entries, ends -/
def ms_ws (d : ms_D) : List Cond := .code d.1 d.2.1 d.2.2.1 d.2.2.2.1 :: ms_big
def ms_Pc (D : va_G) (cA : Nat → ClassId) (base : Nat) (a : List Value) (n : Nat) (G : ms_H) : Array Value → State → Prop := va_Pc a (fun U => U.heap.size = n ∧ ms_wd D cA base G U.heap ∧ ms_SE D cA base U ∧ base ≤ n)
/-- a method that never throws: its contract over the whole abstract heap -/
def ms_M (d : ms_D) (a : List Value) (n : Nat) (G : ms_H) (kr zr : Nat) (P : ms_P) : Prop := ∀ (l : Launch), l.flags = flags0 → ∀ (D : va_G) (cA : Nat → ClassId) (base : Nat), Met l d.1 (ms_ws d) (ms_R d kr zr) (ms_Pc D cA base a n G) (ms_Qc D cA base P) kr zr (fun q => base ≤ q)
/-- one that may throw -/
def ms_X (d : ms_D) (a : List Value) (n : Nat) (G : ms_H) (kr zr : Nat) (P : ms_P) : Prop := ∀ (l : Launch), l.flags = flags0 → ∀ (D : va_G) (cA : Nat → ClassId) (base : Nat), vx_Met l d.1 (ms_ws d) (ms_R d kr zr) (ms_Pc D cA base a n G) (ms_Qc D cA base P) (ms_XC D cA base P) kr zr (fun q => base ≤ q)
theorem ms_Pc.blind {D : va_G} {cA : Nat → ClassId} {base : Nat} {a : List Value} {n : Nat} {G : ms_H} : FrameBlind (ms_Pc D cA base a n G) := by
  intro v U g mk h
  obtain ⟨h0, h1, h2, h3, h4⟩ := h
  exact ⟨h0, h1, h2, h3.blind, h4⟩
theorem ms_entry {x : Bool} {d : ms_D} {a : List Value} {n : Nat} {G : ms_H} {kr zr : Nat} {P : ms_P} (hlen : (lg_sl a).length ≤ d.2.2.1) (h : ms_W x d P 0 (lv_args 0 a) [] n G kr zr) {p : Program} {l : Launch} {e : Env} {s s₁ : State} {m : MethodId} {args : Array Value} {below : List Frame} {meth : Method} {c : Code} {D : va_G} {cA : Nat → ClassId} {base : Nat} (hl : l.flags = flags0)
    (B : BodyLoose p l d.1 (headSpec (ms_ws d) (ms_R d kr zr)) d.2.1 d.2.2.1 d.2.2.2.1 e s m args below meth c s₁) (hml : c.maxLocals = d.2.2.1) (ht : ∀ z ∈ c.exceptionTable.toList, False) (hv : ms_Pc D cA base a n G args s) :
    W p l e (ms_R d kr zr) s m args below meth c s.heap [] 0 0 (ms_T x D cA base P below args s kr zr) (entryFrame m args d.2.2.1) := by
  obtain ⟨rfl, hsz, hP, hSE, hlow⟩ := hv
  have hts := atoms_spec (ws := ms_ws d) B.pre
  have hl9 := lv_entry a (n := d.2.2.1) hlen
  rw [lg_entry_eq]
  exact h kr zr p l e s m _ below meth c D cA base s.heap [] 0 0 _ ⟨B.exec, B.bytes, B.returns, hml, B.notSynchronized, findClass_of_methodNamed B.named, (name_of_methodNamed B.named B.method).1, fun w hw => hts w (List.mem_cons_of_mem _ hw), hSE, hl, ht, by rw [hsz]; exact hlow⟩ (by omega) (by omega) hsz hP va_S.rf hl9
theorem ms_M.of {d : ms_D} {a : List Value} {n : Nat} {G : ms_H} {kr zr : Nat} {P : ms_P} (hy : plainName d.1.cls = true) (hlen : (lg_sl a).length ≤ d.2.2.1) (h : ms_W false d P 0 (lv_args 0 a) [] n G kr zr) : ms_M d a n G kr zr P := by
  intro l hl D cA base
  refine Met.ofW (cc := d.2.1) (maxL := d.2.2.1) (ret := d.2.2.2.1) hy rfl ?_
  intro p e s m args below meth c s₁ B hml hv
  have ht : ∀ z ∈ c.exceptionTable.toList, False := by
    obtain ⟨meth9, c9, h1, h2, -, -, -, -, h7, -⟩ := Cond.code_spec B.named (atoms_spec (ws := ms_ws d) B.pre _ List.mem_cons_self)
    cases Option.some.inj (h1.symm.trans B.method)
    cases Option.some.inj (h2.symm.trans (Stand.of_body B).code)
    intro z hz
    rw [Array.isEmpty_iff.mp h7] at hz
    cases hz
  exact ms_entry (x := false) hlen h hl B hml ht hv
theorem ms_X.of {d : ms_D} {a : List Value} {n : Nat} {G : ms_H} {kr zr : Nat} {P : ms_P} (hy : plainName d.1.cls = true) (hlen : (lg_sl a).length ≤ d.2.2.1) (h : ms_W true d P 0 (lv_args 0 a) [] n G kr zr) : ms_X d a n G kr zr P := by
  intro l hl D cA base
  refine vx_ofW (cc := d.2.1) (maxL := d.2.2.1) (ret := d.2.2.2.1) hy rfl ?_
  intro p e s m args below meth c s₁ B hml ht hv
  exact ms_entry (x := true) hlen h hl B hml ht hv
theorem ms_M.mono {d : ms_D} {a : List Value} {n : Nat} {G : ms_H} {kr zr : Nat} {P P2 : ms_P} (h : ms_M d a n G kr zr P) (hP : ∀ v n1 G1, P (.inl v) n1 G1 → P2 (.inl v) n1 G1) : ms_M d a n G kr zr P2 := by
  intro l hl D cA base
  have h1 := h l hl D cA base
  intro p e a1 a2 a3 s m args below a4 a5 a6 a7
  obtain ⟨t, o, b1, b2, b3, ⟨⟨v, G1, c1, c2, c3⟩, b5⟩⟩ := h1 p e a1 a2 a3 s m args below a4 a5 a6 a7
  exact ⟨t, o, b1, b2, b3, ⟨⟨v, G1, c1, hP _ _ _ c2, c3⟩, b5⟩⟩
theorem ms_after {p : Program} {l : Launch} {e : Env} {R : Room} {s : State} {m : MethodId} {args a : Array Value} {below : List Frame} {meth : Method} {c : Code} {H H0 : Heap} {locs : List Loc} {cells slots mc ms pc : Nat} {Q : State → Prop} {ls : Array Slot} {rest st0 : List Value} {D : va_G} {cA : Nat → ClassId} {base : Nat} {P' : ms_P}
    (hr : va_Run p l e R s m args below meth c H locs cells slots mc ms (F0 m pc ls st0) rest (ms_Qc D cA base P' a) (fun q => base ≤ q)) (hS : va_S (fun q => base ≤ q) H0 H locs)
    (kk : ∀ (v : Option Value) (G1 : ms_H) (H1 : Heap) (locs1 : List Loc), P' (.inl v) H1.size G1 → ms_wd D cA base G1 H1 → va_S (fun q => base ≤ q) H0 H1 locs1 → W p l e R s m args below meth c H1 locs1 (cells + mc) (slots + ms) Q (F0 m (pc + 3) ls (v.toList ++ rest))) : W p l e R s m args below meth c H locs cells slots Q (F0 m pc ls st0) := by
  intro T hT X
  obtain ⟨v, st₀, t, T', L, h0, X', hL, e1, e2, ⟨v', G1, hv, hp, hw, hz, hk⟩, st⟩ := hr T hT X
  cases hv
  rw [h0] at hz hk
  obtain ⟨t2, a1, b1⟩ := kk v G1 T'.heap (locs ++ L) (by rw [e1]; exact hp) (by rw [e1]; exact hw)
    ⟨Nat.le_trans hS.1 (by rw [e1]; exact hz), fun q h1 h2 => by rw [e1, hk q (Nat.lt_of_lt_of_le h1 hS.1) h2]; exact hS.2.1 q h1 h2, fun q hq => by
      rcases List.mem_append.mp hq with h | h
      · exact hS.2.2 q h
      · exact hL q h⟩ T' rfl X'
  exact ⟨t2, st t2 a1, b1⟩
def ms_okR (d d' : ms_D) : Prop := d'.2.2.2.2.1 + 1 ≤ d.2.2.2.2.1 ∧ 8 + (d'.2.2.1 + 11) + d'.2.2.2.2.2 ≤ d.2.2.2.2.2
def ms_okY (d' : ms_D) (na : Nat) : Prop := d'.1.cls ≠ "java/lang/invoke/MethodHandle" ∧ d'.1.cls ≠ "java/lang/invoke/VarHandle" ∧ (parseMethodDescriptor d'.1.desc).map (fun d => d.parameters.length) = some na
theorem ms_good {ws : List Cond} (h : ∀ w ∈ ws, w ∈ ms_big) : GoodIn ms_big ws := fun w hw => ⟨h w hw, good_of_word (ms_big_good w (h w hw))⟩
/-- the words of a virtual call: its link, that it is there, what it selects -/
def ms_okV (own : String) (idx : Nat) (d' : ms_D) (ci na : Nat) : Prop := Cond.methodLink own idx d'.1 ∈ ms_big ∧ (∀ w ∈ [Cond.instanceMethod d'.1, Cond.selects d'.1.cls d'.1 d'.1, Cond.initialized d'.1.cls, Cond.code d'.1 d'.2.1 d'.2.2.1 d'.2.2.2.1], w ∈ ms_big) ∧ (∃ (T : u_T) (N : Nat), vwCl[ci]? = some (d'.1.cls, T, N)) ∧ ms_okY d' na
theorem ms_callV {x : Bool} {d : ms_D} {P : ms_P} {pc : Nat} {lv : List (Nat × Value)} {st : List Value} {n : Nat} {G : ms_H} {kr zr : Nat} {d' : ms_D} {P' : ms_P} {b ci i kc zc n9 : Nat} {As stk fs : List Value} (hdg : decode d.2.1 pc = .ok (.invokevirtual i, 3)) (hM : ms_M d' (.ref b :: As) n G kc zc P') (ok : ms_okV d.1.cls i d' ci n9) (hb : G b = some (.inr (ci, fs))) (hn : As.length = n9) (hR : ms_okR d d') (hst : stk = As.reverse ++ .ref b :: st) (hW : (st.map fun v => v.category).sum ≤ 8)
    (k : ∀ (v : Option Value) (n1 : Nat) (G1 : ms_H), P' (.inl v) n1 G1 → ms_W x d P (pc + 3) lv (v.toList ++ st) n1 G1 kr zr) : ms_W x d P pc lv stk n G (kc + kr) (zc + zr) := by
  intro mc ms p l e s m args below meth c D cA base H locs cells slots ls F c1 c2 c3 c4 c5 c6
  obtain ⟨o1, o2, ⟨T9, N9, o3⟩, o4⟩ := ok
  have hl : l.flags = flags0 := F.2.2.2.2.2.2.2.2.2.1
  refine ms_after (P' := P') (va_runV (As := As) (rest := st) (C := d'.1.cls) (b := b) ⟨F.exec, F.code, F.2.2.2.1, F.own, F.big⟩ (hM l hl D cA base) (cwV n9 F.big (ms_good ?_) rfl rfl rfl ⟨rfl, o4.1, o4.2.1, o4.2.2⟩ hR) ⟨ms_Pc.blind, va_recv F.K (c4.P1 hb) o3 (q0 := 0) rfl, fun U hU hW9 => ⟨rfl, by rw [hU]; exact c3, by rw [hU]; exact c4, F.SE.to hU hW9 c5, by have := F.low; have := c5.1; omega⟩⟩ rfl hn c6.1 hst (by show 2 * 0 + _ ≤ 8; omega) hdg ⟨by show cells + kc ≤ mc; omega, by show slots + zc ≤ ms; omega⟩) c5 ?_
  · intro w hw
    unfold wsV ms_ws at hw
    rcases List.mem_append.mp hw with h | h
    · rcases List.mem_cons.mp h with h | h
      · rw [h]; exact o1
      · exact o2 w (by simp only [List.mem_cons] at h ⊢; rcases h with h | h | h | h <;> simp [h] <;> cases h)
    · rcases List.mem_cons.mp h with h | h
      · exact o2 w (by rw [h]; simp)
      · exact h
  · intro v G1 H1 locs1 hp hw hS
    exact k v H1.size G1 hp mc ms p l e s m args below meth c D cA base H1 locs1 (cells + kc) (slots + zc) ls F (by omega) (by omega) rfl hw hS c6
def ms_okS (own : String) (idx : Nat) (d' : ms_D) (na : Nat) : Prop := d'.1.cls = own ∧ Cond.methodLink own idx d'.1 ∈ ms_big ∧ (∀ w ∈ [Cond.static d'.1, Cond.initialized own, Cond.code d'.1 d'.2.1 d'.2.2.1 d'.2.2.2.1], w ∈ ms_big) ∧ ms_okY d' na
theorem ms_callS {x : Bool} {d : ms_D} {P : ms_P} {pc : Nat} {lv : List (Nat × Value)} {st : List Value} {n : Nat} {G : ms_H} {kr zr : Nat} {d' : ms_D} {P' : ms_P} {i kc zc n9 : Nat} {As stk : List Value} (hdg : decode d.2.1 pc = .ok (.invokestatic i, 3)) (hM : ms_M d' As n G kc zc P') (ok : ms_okS d.1.cls i d' n9) (hn : As.length = n9) (hR : ms_okR d d') (hst : stk = As.reverse ++ st) (hW : (st.map fun v => v.category).sum ≤ 8)
    (k : ∀ (v : Option Value) (n1 : Nat) (G1 : ms_H), P' (.inl v) n1 G1 → ms_W x d P (pc + 3) lv (v.toList ++ st) n1 G1 kr zr) : ms_W x d P pc lv stk n G (kc + kr) (zc + zr) := by
  intro mc ms p l e s m args below meth c D cA base H locs cells slots ls F c1 c2 c3 c4 c5 c6
  obtain ⟨o0, o1, o2, o4⟩ := ok
  have hl : l.flags = flags0 := F.2.2.2.2.2.2.2.2.2.1
  refine ms_after (P' := P') (va_runS (As := As) (rest := st) ⟨F.exec, F.code, F.2.2.2.1, F.own, F.big⟩ (hM l hl D cA base) (cwS n9 F.big (ms_good ?_) rfl rfl rfl ⟨o0, o4.1, o4.2.1, o4.2.2⟩ hR) ⟨ms_Pc.blind, fun U hU hW9 => ⟨rfl, by rw [hU]; exact c3, by rw [hU]; exact c4, F.SE.to hU hW9 c5, by have := F.low; have := c5.1; omega⟩⟩ rfl hn c6.1 hst (by show 2 * 0 + _ ≤ 8; omega) hdg ⟨by show cells + kc ≤ mc; omega, by show slots + zc ≤ ms; omega⟩) c5 ?_
  · intro w hw
    unfold wsS ms_ws at hw
    rcases List.mem_append.mp hw with h | h
    · rcases List.mem_cons.mp h with h | h
      · rw [h]; exact o1
      · exact o2 w (by simp only [List.mem_cons] at h ⊢; rcases h with h | h | h <;> simp [h] <;> cases h)
    · rcases List.mem_cons.mp h with h | h
      · exact o2 w (by rw [h]; simp)
      · exact h
  · intro v G1 H1 locs1 hp hw hS
    exact k v H1.size G1 hp mc ms p l e s m args below meth c D cA base H1 locs1 (cells + kc) (slots + zc) ls F (by omega) (by omega) rfl hw hS c6
/-- a static call of a nest mate's private method -/
def ms_okSN (own : String) (idx : Nat) (d' : ms_D) (host : String) (na : Nat) : Prop := (own, idx, d'.1, host) ∈ ms_nM ∧ (∀ w ∈ [Cond.static d'.1, Cond.initialized d'.1.cls, Cond.code d'.1 d'.2.1 d'.2.2.1 d'.2.2.2.1], w ∈ ms_big) ∧ ms_okY d' na
theorem ms_callSN {x : Bool} {d : ms_D} {P : ms_P} {pc : Nat} {lv : List (Nat × Value)} {st : List Value} {n : Nat} {G : ms_H} {kr zr : Nat} {d' : ms_D} {P' : ms_P} {host : String} {i kc zc n9 : Nat} {As stk : List Value} (hdg : decode d.2.1 pc = .ok (.invokestatic i, 3)) (hM : ms_M d' As n G kc zc P') (ok : ms_okSN d.1.cls i d' host n9) (hn : As.length = n9) (hR : ms_okR d d') (hst : stk = As.reverse ++ st) (hW : (st.map fun v => v.category).sum ≤ 8)
    (k : ∀ (v : Option Value) (n1 : Nat) (G1 : ms_H), P' (.inl v) n1 G1 → ms_W x d P (pc + 3) lv (v.toList ++ st) n1 G1 kr zr) : ms_W x d P pc lv stk n G (kc + kr) (zc + zr) := by
  intro mc ms p l e s m args below meth c D cA base H locs cells slots ls F c1 c2 c3 c4 c5 c6
  obtain ⟨o1, o2, o4⟩ := ok
  have hl : l.flags = flags0 := F.2.2.2.2.2.2.2.2.2.1
  refine ms_after (P' := P') (va_runSN (As := As) (rest := st) (host := host) (own := d.1.cls) ⟨F.exec, F.code, F.2.2.2.1, F.own, F.big⟩ (hM l hl D cA base) ⟨va_cnB n9 F.big (ms_good ?_) rfl rfl rfl (F.SE.2.2.1.1 _ o1) (F.big _ (o2 _ (by simp))) ⟨o4.1, o4.2.1, o4.2.2⟩ hR, F.big _ (o2 _ (by simp)), trivial⟩ ⟨ms_Pc.blind, fun U hU hW9 => ⟨rfl, by rw [hU]; exact c3, by rw [hU]; exact c4, F.SE.to hU hW9 c5, by have := F.low; have := c5.1; omega⟩⟩ rfl hn c6.1 hst (by show 2 * 0 + _ ≤ 8; omega) hdg ⟨by show cells + kc ≤ mc; omega, by show slots + zc ≤ ms; omega⟩) c5 ?_
  · intro w hw
    rcases List.mem_cons.mp hw with h | h
    · exact o2 w (by rw [h]; simp)
    · exact h
  · intro v G1 H1 locs1 hp hw hS
    exact k v H1.size G1 hp mc ms p l e s m args below meth c D cA base H1 locs1 (cells + kc) (slots + zc) ls F (by omega) (by omega) rfl hw hS c6
/-! ends -/
theorem ms_T.up {x : Bool} {p : Program} {l : Launch} {e : Env} {R : Room} {s : State} {m : MethodId} {args : Array Value} {below : List Frame} {meth : Method} {c : Code} {H : Heap} {locs : List Loc} {cells slots mc ms : Nat} {g : JFrame} {D : va_G} {cA : Nat → ClassId} {base : Nat} {P : ms_P} (h : W p l e R s m args below meth c H locs cells slots (MQ below (ms_Qc D cA base P) args s mc ms (fun q => base ≤ q)) g) : W p l e R s m args below meth c H locs cells slots (ms_T x D cA base P below args s mc ms) g := by
  cases x
  · exact h
  · exact vx_ret h
theorem ms_reti {x : Bool} {d : ms_D} {P : ms_P} {pc : Nat} {lv : List (Nat × Value)} {st : List Value} {n : Nat} {G : ms_H} {kr zr : Nat} {v : Int32} {ty : FieldType} (hdg : decode d.2.1 pc = .ok (.ireturn, 1)) (hr : d.2.2.2.1 = some ty) (hn : narrow ty (.int v) = .int v) (k : P (.inl (some (.int v))) n G) : ms_W x d P pc lv [.int v] n G kr zr := by
  intro mc ms p l e s m args below meth c D cA base H locs cells slots ls F c1 c2 c3 c4 c5 c6
  refine ms_T.up (W.widen (k := mc) (n := ms) (by omega) (by omega) ?_)
  exact W.zret (v := v) (ty := ty) F.exec F.code (F.2.2.1.trans hr) hn (fun t ht hW => ⟨some (.int v), G, rfl, by rw [ht, c3]; exact k, by rw [ht]; exact c4, c5.F ht⟩) c5.2.2 hdg F.2.2.2.2.1
theorem ms_retl {x : Bool} {d : ms_D} {P : ms_P} {pc : Nat} {lv : List (Nat × Value)} {st : List Value} {n : Nat} {G : ms_H} {kr zr : Nat} {v : Int64} (hdg : decode d.2.1 pc = .ok (.lreturn, 1)) (hr : d.2.2.2.1 = some .long) (k : P (.inl (some (.long v))) n G) : ms_W x d P pc lv [.long v] n G kr zr := by
  intro mc ms p l e s m args below meth c D cA base H locs cells slots ls F c1 c2 c3 c4 c5 c6
  refine ms_T.up (W.widen (k := mc) (n := ms) (by omega) (by omega) ?_)
  exact W.lret (v := v) F.exec F.code (F.2.2.1.trans hr) (fun t ht hW => ⟨some (.long v), G, rfl, by rw [ht, c3]; exact k, by rw [ht]; exact c4, c5.F ht⟩) c5.2.2 hdg F.2.2.2.2.1
theorem ms_retd {x : Bool} {d : ms_D} {P : ms_P} {pc : Nat} {lv : List (Nat × Value)} {st : List Value} {n : Nat} {G : ms_H} {kr zr : Nat} {v : UInt64} (hdg : decode d.2.1 pc = .ok (.dreturn, 1)) (hr : d.2.2.2.1 = some .double) (k : P (.inl (some (.double v))) n G) : ms_W x d P pc lv [.double v] n G kr zr := by
  intro mc ms p l e s m args below meth c D cA base H locs cells slots ls F c1 c2 c3 c4 c5 c6
  refine ms_T.up (W.widen (k := mc) (n := ms) (by omega) (by omega) ?_)
  exact W.dret (v := v) F.exec F.code (F.2.2.1.trans hr) (fun t ht hW => ⟨some (.double v), G, rfl, by rw [ht, c3]; exact k, by rw [ht]; exact c4, c5.F ht⟩) c5.2.2 hdg F.2.2.2.2.1
theorem ms_retv {x : Bool} {d : ms_D} {P : ms_P} {pc : Nat} {lv : List (Nat × Value)} {st : List Value} {n : Nat} {G : ms_H} {kr zr : Nat} (hdg : decode d.2.1 pc = .ok (.return_, 1)) (hr : d.2.2.2.1 = none) (k : P (.inl none) n G) : ms_W x d P pc lv [] n G kr zr := by
  intro mc ms p l e s m args below meth c D cA base H locs cells slots ls F c1 c2 c3 c4 c5 c6
  refine ms_T.up (W.widen (k := mc) (n := ms) (by omega) (by omega) ?_)
  exact W.vret F.exec F.code (F.2.2.1.trans hr) (fun t ht hW => ⟨none, G, rfl, by rw [ht, c3]; exact k, by rw [ht]; exact c4, c5.F ht⟩) c5.2.2 hdg F.2.2.2.2.1
theorem ms_reta {x : Bool} {d : ms_D} {P : ms_P} {pc : Nat} {lv : List (Nat × Value)} {st : List Value} {n : Nat} {G : ms_H} {kr zr : Nat} {v : Value} {rt : FieldType} (hdg : decode d.2.1 pc = .ok (.areturn, 1)) (hr : d.2.2.2.1 = some rt) (hrt : (∃ n, rt = .object n) ∨ ∃ t, rt = .array t) (hv : v = .null ∨ ∃ a, v = .ref a) (k : P (.inl (some v)) n G) : ms_W x d P pc lv [v] n G kr zr := by
  intro mc ms p l e s m args below meth c D cA base H locs cells slots ls F c1 c2 c3 c4 c5 c6
  refine ms_T.up (W.widen (k := mc) (n := ms) (by omega) (by omega) ?_)
  exact W.aret (v := v) F.exec F.code (F.2.2.1.trans hr) hrt hv (fun t ht hW => ⟨some v, G, rfl, by rw [ht, c3]; exact k, by rw [ht]; exact c4, c5.F ht⟩) c5.2.2 hdg F.2.2.2.2.1
theorem ms_max {x : Bool} {d : ms_D} {P : ms_P} {pc : Nat} {lv : List (Nat × Value)} {st : List Value} {n : Nat} {G : ms_H} {kr zr : Nat} {i : Nat} {y z : Int32} (hdg : decode d.2.1 pc = .ok (.invokestatic i, 3)) (hw : ∀ w ∈ [Cond.methodLink d.1.cls i Lib.Math.max.name, Cond.static Lib.Math.max.name, Cond.initialized "java/lang/Math", Cond.code Lib.Math.max.name Lib.Math.max.code 2 (some .int)], w ∈ ms_big) (hR : 1 ≤ d.2.2.2.2.1 ∧ 8 + 13 ≤ d.2.2.2.2.2) (hW : (st.map fun v => v.category).sum ≤ 8) (k : ms_W x d P (pc + 3) lv (.int (if z < y then y else z) :: st) n G kr zr) : ms_W x d P pc lv (.int y :: .int z :: st) n G kr zr := by
  intro mc ms p l e s m args below meth c D cA base H locs cells slots ls F c1 c2 c3 c4 c5 c6
  exact va_mmax F.exec F.code (F.2.2.2.1.trans c6.1.symm) F.own (F.big _ (hw _ (by simp))) (F.big _ (hw _ (by simp))) (F.big _ (hw _ (by simp))) (F.big _ (hw _ (by simp))) (show 1 ≤ d.2.2.2.2.1 from hR.1) (show _ ≤ d.2.2.2.2.2 by have := hR.2; omega) (show cells ≤ mc by omega) (show slots ≤ ms by omega) hdg (k mc ms p l e s m args below meth c D cA base H locs cells slots ls F c1 c2 c3 c4 c5 c6)
end

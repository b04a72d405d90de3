/-! contracts, calls, entries, ends -/
def ms_Pc (o : Option (Nat × Nat × (Nat → Int32))) (D : va_G) (cA : Nat → ClassId) (base : Nat) (a : List Value) (n : Nat) (G : ms_H) : Array Value → State → Prop := va_Pc a (fun U => U.heap.size = n ∧ ms_wd D cA base G U.heap ∧ ms_SE D cA base U ∧ base ≤ n ∧ ms_sc o base U)
/-- a method that never throws: its contract over the whole abstract heap -/
def ms_M (d : ms_D) (a : List Value) (n : Nat) (G : ms_H) (kr zr : Nat) (P : ms_P) : Prop := ∀ (l : Launch), l.flags = flags0 → ∀ (D : va_G) (cA : Nat → ClassId) (base : Nat), Met l d.1 (ms_ws d) (ms_R d kr zr) (ms_Pc d.2.2.2.2.2.2.2 D cA base a n G) (ms_Qc D cA base P) kr zr (fun q => base ≤ q)
/-- one that may throw -/
def ms_X (d : ms_D) (a : List Value) (n : Nat) (G : ms_H) (kr zr : Nat) (P : ms_P) : Prop := ∀ (l : Launch), l.flags = flags0 → ∀ (D : va_G) (cA : Nat → ClassId) (base : Nat), vx_Met l d.1 (ms_ws d) (ms_R d kr zr) (ms_Pc d.2.2.2.2.2.2.2 D cA base a n G) (ms_Qc D cA base P) (ms_XC D cA base P) kr zr (fun q => base ≤ q)
theorem ms_Pc.blind {o : Option (Nat × Nat × (Nat → Int32))} {D : va_G} {cA : Nat → ClassId} {base : Nat} {a : List Value} {n : Nat} {G : ms_H} : FrameBlind (ms_Pc o D cA base a n G) := by
  intro v U g mk h
  obtain ⟨h0, h1, h2, h3, h4, h5⟩ := h
  exact ⟨h0, h1, h2, h3.blind, h4, h5.blind⟩
theorem ms_entry {x : Bool} {d : ms_D} {a : List Value} {n : Nat} {G : ms_H} {kr zr : Nat} {P : ms_P} (hlen : (lg_sl a).length ≤ d.2.2.1) (h : ms_W x d P 0 (lv_args 0 a) [] n G kr zr) {p : Program} {l : Launch} {e : Env} {s s₁ : State} {m : MethodId} {args : Array Value} {below : List Frame} {meth : Method} {c : Code} {D : va_G} {cA : Nat → ClassId} {base : Nat} (hl : l.flags = flags0)
    (B : BodyLoose p l d.1 (headSpec (ms_ws d) (ms_R d kr zr)) d.2.1 d.2.2.1 d.2.2.2.1 e s m args below meth c s₁) (hml : c.maxLocals = d.2.2.1) (ht : c.exceptionTable.toList = tableOf d.2.2.2.2.2.2.1) (hv : ms_Pc d.2.2.2.2.2.2.2 D cA base a n G args s) :
    W p l e (ms_R d kr zr) s m args below meth c s.heap [] 0 0 (ms_T x D cA base P below args s kr zr) (entryFrame m args d.2.2.1) := by
  obtain ⟨rfl, hsz, hP, hSE, hlow, hsc⟩ := hv
  have hts := atoms_spec (ws := ms_ws d) B.pre
  have hl9 := lv_entry a (n := d.2.2.1) hlen
  rw [lg_entry_eq]
  exact h kr zr p l e s m _ below meth c D cA base s.heap [] 0 0 _ ⟨B.exec, B.bytes, B.returns, hml, B.notSynchronized, findClass_of_methodNamed B.named, (name_of_methodNamed B.named B.method).1, fun w hw => hts w (List.mem_cons_of_mem _ hw), hSE, hl, ht, by rw [hsz]; exact hlow, hsc⟩ (by omega) (by omega) hsz hP va_S.rf hl9
theorem ms_M.of {d : ms_D} {a : List Value} {n : Nat} {G : ms_H} {kr zr : Nat} {P : ms_P} (hy : plainName d.1.cls = true) (hlen : (lg_sl a).length ≤ d.2.2.1) (h : ms_W false d P 0 (lv_args 0 a) [] n G kr zr) (hh : d.2.2.2.2.2.2.1 = [] := by rfl) : ms_M d a n G kr zr P := by
  intro l hl D cA base
  refine Met.ofW (cc := d.2.1) (maxL := d.2.2.1) (ret := d.2.2.2.1) hy (by unfold ms_ws; rw [ms_cd_nil hh]) ?_
  intro p e s m args below meth c s₁ B hml hv
  have ht : c.exceptionTable.toList = tableOf d.2.2.2.2.2.2.1 := by
    obtain ⟨meth9, c9, h1, h2, -, -, -, -, h7, -⟩ := Cond.code_spec B.named (atoms_spec (ws := ms_ws d) B.pre _ (by unfold ms_ws; rw [ms_cd_nil hh]; exact List.mem_cons_self))
    cases Option.some.inj (h1.symm.trans B.method)
    cases Option.some.inj (h2.symm.trans (Stand.of_body B).code)
    rw [Array.isEmpty_iff.mp h7, hh]
    rfl
  exact ms_entry (x := false) hlen h hl B hml ht hv
theorem ms_X.of {d : ms_D} {a : List Value} {n : Nat} {G : ms_H} {kr zr : Nat} {P : ms_P} (hy : plainName d.1.cls = true) (hlen : (lg_sl a).length ≤ d.2.2.1) (h : ms_W true d P 0 (lv_args 0 a) [] n G kr zr) (hh : d.2.2.2.2.2.2.1 = [] := by rfl) : ms_X d a n G kr zr P := by
  intro l hl D cA base
  refine vx_ofW (cc := d.2.1) (maxL := d.2.2.1) (ret := d.2.2.2.1) hy (by unfold ms_ws; rw [ms_cd_nil hh]) ?_
  intro p e s m args below meth c s₁ B hml ht hv
  exact ms_entry (x := true) hlen h hl B hml (by rw [hh]; exact List.eq_nil_iff_forall_not_mem.mpr (fun z hz => ht z hz)) hv
/-- one with handlers -/
theorem ms_X.ofH {d : ms_D} {a : List Value} {n : Nat} {G : ms_H} {kr zr : Nat} {P : ms_P} (hy : plainName d.1.cls = true) (hlen : (lg_sl a).length ≤ d.2.2.1) (hh : ¬ d.2.2.2.2.2.2.1 = []) (h : ms_W true d P 0 (lv_args 0 a) [] n G kr zr) : ms_X d a n G kr zr P := by
  intro l hl D cA base
  refine vx_ofWH (cc := d.2.1) (maxL := d.2.2.1) (ret := d.2.2.2.1) (hh := d.2.2.2.2.2.2.1) hy (by unfold ms_ws; rw [ms_cd_cons hh]) ?_
  intro p e s m args below meth c s₁ B hml hv
  exact ms_entry (x := true) hlen h hl B hml (vx_table (x := d.1) B (atoms_spec (ws := ms_ws d) B.pre _ (by unfold ms_ws; rw [ms_cd_cons hh]; exact List.mem_cons_self))) hv
theorem ms_M.mono {d : ms_D} {a : List Value} {n : Nat} {G : ms_H} {kr zr : Nat} {P P2 : ms_P} (h : ms_M d a n G kr zr P) (hP : ∀ v n1 G1, P (.inl v) n1 G1 → P2 (.inl v) n1 G1) : ms_M d a n G kr zr P2 := by
  intro l hl D cA base
  have h1 := h l hl D cA base
  intro p e a1 a2 a3 s m args below a4 a5 a6 a7
  obtain ⟨t, o, b1, b2, b3, ⟨⟨v, G1, c1, c2, c3⟩, b5⟩⟩ := h1 p e a1 a2 a3 s m args below a4 a5 a6 a7
  exact ⟨t, o, b1, b2, b3, ⟨⟨v, G1, c1, hP _ _ _ c2, c3⟩, b5⟩⟩
theorem ms_after {p : Program} {l : Launch} {e : Env} {R : Room} {s : State} {m : MethodId} {args a : Array Value} {below : List Frame} {meth : Method} {c : Code} {H H0 : Heap} {locs : List Loc} {cells slots mc ms pc : Nat} {Q : State → Prop} {ls : Array Slot} {rest st0 : List Value} {D : va_G} {cA : Nat → ClassId} {base : Nat} {P' : ms_P}
    (hr : va_Run p l e R s m args below meth c H locs cells slots mc ms (F0 m pc ls st0) rest (ms_Qc D cA base P' a) (fun q => base ≤ q)) (hS : va_S (fun q => base ≤ q) H0 H locs)
    (kk : ∀ (v : Option Value) (G1 : ms_H) (H1 : Heap) (locs1 : List Loc), P' (.inl v) H1.size G1 → ms_wd D cA base G1 H1 → va_S (fun q => base ≤ q) H0 H1 locs1 → W p l e R s m args below meth c H1 locs1 (cells + mc) (slots + ms) Q (F0 m (pc + 3) ls (v.toList ++ rest))) : W p l e R s m args below meth c H locs cells slots Q (F0 m pc ls st0) := by
  intro T hT X
  obtain ⟨v, st₀, t, T', L, h0, X', hL, e1, e2, ⟨v', G1, hv, hp, hw, hz, hk⟩, st⟩ := hr T hT X
  cases hv
  rw [h0] at hz hk
  obtain ⟨t2, a1, b1⟩ := kk v G1 T'.heap (locs ++ L) (by rw [e1]; exact hp) (by rw [e1]; exact hw)
    ⟨Nat.le_trans hS.1 (by rw [e1]; exact hz), fun q h1 h2 => by rw [e1, hk q (Nat.lt_of_lt_of_le h1 hS.1) h2]; exact hS.2.1 q h1 h2, fun q hq => by
      rcases List.mem_append.mp hq with h | h
      · exact hS.2.2 q h
      · exact hL q h⟩ T' rfl X'
  exact ⟨t2, st t2 a1, b1⟩
theorem ms_good {ws : List Cond} (h : ∀ w ∈ ws, w ∈ ms_big) : GoodIn ms_big ws := fun w hw => ⟨h w hw, good_of_word (ms_big_good w (h w hw))⟩
theorem ms_callV {x : Bool} {d : ms_D} {P : ms_P} {pc : Nat} {lv : List (Nat × Value)} {st : List Value} {n : Nat} {G : ms_H} {kr zr : Nat} {d' : ms_D} {P' : ms_P} {b ci i kc zc n9 : Nat} {As stk fs : List Value} (hdg : decode d.2.1 pc = .ok (.invokevirtual i, 3)) (hM : ms_M d' (.ref b :: As) n G kc zc P') (ok : ms_okV d.1.cls i d' ci n9) (hb : G b = some (.inr (ci, fs))) (hn : As.length = n9) (hR : ms_okR d d') (hst : stk = As.reverse ++ .ref b :: st) (hW : (st.map fun v => v.category).sum ≤ 8)
    (k : ∀ (v : Option Value) (n1 : Nat) (G1 : ms_H), P' (.inl v) n1 G1 → ms_W x d P (pc + 3) lv (v.toList ++ st) n1 G1 kr zr) (hs9 : d'.2.2.2.2.2.2.2 = none ∨ d'.2.2.2.2.2.2.2 = d.2.2.2.2.2.2.2 := by first | exact Or.inl rfl | exact Or.inr rfl) : ms_W x d P pc lv stk n G (kc + kr) (zc + zr) := by
  intro mc ms p l e s m args below meth c D cA base H locs cells slots ls F c1 c2 c3 c4 c5 c6
  obtain ⟨o1, o2, ⟨T9, N9, o3⟩, o4, o5⟩ := ok
  have hws9 : ms_ws d' = .code d'.1 d'.2.1 d'.2.2.1 d'.2.2.2.1 :: ms_big := by unfold ms_ws; rw [ms_cd_nil o5]
  have hl : l.flags = flags0 := F.2.2.2.2.2.2.2.2.2.1
  refine ms_after (P' := P') (va_runV (As := As) (rest := st) (C := d'.1.cls) (b := b) ⟨F.exec, F.code, F.2.2.2.1, F.own, F.big⟩ (hM l hl D cA base) (cwV n9 F.big (ms_good ?_) hws9 rfl rfl ⟨rfl, o4.1, o4.2.1, o4.2.2⟩ hR) ⟨ms_Pc.blind, va_recv F.K (c4.P1 hb) o3 (q0 := 0) rfl, fun U hU hW9 => ⟨rfl, by rw [hU]; exact c3, by rw [hU]; exact c4, F.SE.to hU hW9 c5, by have := F.low; have := c5.1; omega, F.sc hs9 hU hW9 c5⟩⟩ rfl hn c6.1 hst (by show 2 * 0 + _ ≤ 8; omega) hdg ⟨by show cells + kc ≤ mc; omega, by show slots + zc ≤ ms; omega⟩) c5 ?_
  · intro w hw
    unfold wsV ms_ws at hw
    rcases List.mem_append.mp hw with h | h
    · rcases List.mem_cons.mp h with h | h
      · rw [h]; exact o1
      · exact o2 w (by simp only [List.mem_cons] at h ⊢; rcases h with h | h | h | h <;> simp [h] <;> cases h)
    · rcases List.mem_cons.mp h with h | h
      · exact o2 w (by rw [h]; simp)
      · exact h
  · intro v G1 H1 locs1 hp hw hS
    exact k v H1.size G1 hp mc ms p l e s m args below meth c D cA base H1 locs1 (cells + kc) (slots + zc) ls F (by omega) (by omega) rfl hw hS c6
theorem ms_callS {x : Bool} {d : ms_D} {P : ms_P} {pc : Nat} {lv : List (Nat × Value)} {st : List Value} {n : Nat} {G : ms_H} {kr zr : Nat} {d' : ms_D} {P' : ms_P} {i kc zc n9 : Nat} {As stk : List Value} (hdg : decode d.2.1 pc = .ok (.invokestatic i, 3)) (hM : ms_M d' As n G kc zc P') (ok : ms_okS d.1.cls i d' n9) (hn : As.length = n9) (hR : ms_okR d d') (hst : stk = As.reverse ++ st) (hW : (st.map fun v => v.category).sum ≤ 8)
    (k : ∀ (v : Option Value) (n1 : Nat) (G1 : ms_H), P' (.inl v) n1 G1 → ms_W x d P (pc + 3) lv (v.toList ++ st) n1 G1 kr zr) (hh : d'.2.2.2.2.2.2.1 = [] := by rfl) (hs9 : d'.2.2.2.2.2.2.2 = none ∨ d'.2.2.2.2.2.2.2 = d.2.2.2.2.2.2.2 := by first | exact Or.inl rfl | exact Or.inr rfl) : ms_W x d P pc lv stk n G (kc + kr) (zc + zr) := by
  intro mc ms p l e s m args below meth c D cA base H locs cells slots ls F c1 c2 c3 c4 c5 c6
  obtain ⟨o0, o1, o2, o4⟩ := ok
  have hws9 : ms_ws d' = .code d'.1 d'.2.1 d'.2.2.1 d'.2.2.2.1 :: ms_big := by unfold ms_ws; rw [ms_cd_nil hh]
  have hl : l.flags = flags0 := F.2.2.2.2.2.2.2.2.2.1
  refine ms_after (P' := P') (va_runS (As := As) (rest := st) ⟨F.exec, F.code, F.2.2.2.1, F.own, F.big⟩ (hM l hl D cA base) (cwS n9 F.big (ms_good ?_) hws9 rfl rfl ⟨o0, o4.1, o4.2.1, o4.2.2⟩ hR) ⟨ms_Pc.blind, fun U hU hW9 => ⟨rfl, by rw [hU]; exact c3, by rw [hU]; exact c4, F.SE.to hU hW9 c5, by have := F.low; have := c5.1; omega, F.sc hs9 hU hW9 c5⟩⟩ rfl hn c6.1 hst (by show 2 * 0 + _ ≤ 8; omega) hdg ⟨by show cells + kc ≤ mc; omega, by show slots + zc ≤ ms; omega⟩) c5 ?_
  · intro w hw
    unfold wsS ms_ws at hw
    rcases List.mem_append.mp hw with h | h
    · rcases List.mem_cons.mp h with h | h
      · rw [h]; exact o1
      · exact o2 w (by simp only [List.mem_cons] at h ⊢; rcases h with h | h | h <;> simp [h] <;> cases h)
    · rcases List.mem_cons.mp h with h | h
      · exact o2 w (by rw [h]; simp)
      · exact h
  · intro v G1 H1 locs1 hp hw hS
    exact k v H1.size G1 hp mc ms p l e s m args below meth c D cA base H1 locs1 (cells + kc) (slots + zc) ls F (by omega) (by omega) rfl hw hS c6
theorem ms_callSN {x : Bool} {d : ms_D} {P : ms_P} {pc : Nat} {lv : List (Nat × Value)} {st : List Value} {n : Nat} {G : ms_H} {kr zr : Nat} {d' : ms_D} {P' : ms_P} {host : String} {i kc zc n9 : Nat} {As stk : List Value} (hdg : decode d.2.1 pc = .ok (.invokestatic i, 3)) (hM : ms_M d' As n G kc zc P') (ok : ms_okSN d.1.cls i d' host n9) (hn : As.length = n9) (hR : ms_okR d d') (hst : stk = As.reverse ++ st) (hW : (st.map fun v => v.category).sum ≤ 8)
    (k : ∀ (v : Option Value) (n1 : Nat) (G1 : ms_H), P' (.inl v) n1 G1 → ms_W x d P (pc + 3) lv (v.toList ++ st) n1 G1 kr zr) (hs9 : d'.2.2.2.2.2.2.2 = none ∨ d'.2.2.2.2.2.2.2 = d.2.2.2.2.2.2.2 := by first | exact Or.inl rfl | exact Or.inr rfl) : ms_W x d P pc lv stk n G (kc + kr) (zc + zr) := by
  intro mc ms p l e s m args below meth c D cA base H locs cells slots ls F c1 c2 c3 c4 c5 c6
  obtain ⟨o1, o2, o4, o5⟩ := ok
  have hws9 : ms_ws d' = .code d'.1 d'.2.1 d'.2.2.1 d'.2.2.2.1 :: ms_big := by unfold ms_ws; rw [ms_cd_nil o5]
  have hl : l.flags = flags0 := F.2.2.2.2.2.2.2.2.2.1
  refine ms_after (P' := P') (va_runSN (As := As) (rest := st) (host := host) (own := d.1.cls) ⟨F.exec, F.code, F.2.2.2.1, F.own, F.big⟩ (hM l hl D cA base) ⟨va_cnB n9 F.big (ms_good ?_) hws9 rfl rfl (F.SE.2.2.1.1 _ o1) (F.big _ (o2 _ (by simp))) ⟨o4.1, o4.2.1, o4.2.2⟩ hR, F.big _ (o2 _ (by simp)), trivial⟩ ⟨ms_Pc.blind, fun U hU hW9 => ⟨rfl, by rw [hU]; exact c3, by rw [hU]; exact c4, F.SE.to hU hW9 c5, by have := F.low; have := c5.1; omega, F.sc hs9 hU hW9 c5⟩⟩ rfl hn c6.1 hst (by show 2 * 0 + _ ≤ 8; omega) hdg ⟨by show cells + kc ≤ mc; omega, by show slots + zc ≤ ms; omega⟩) c5 ?_
  · intro w hw
    rcases List.mem_cons.mp hw with h | h
    · exact o2 w (by rw [h]; simp)
    · exact h
  · intro v G1 H1 locs1 hp hw hS
    exact k v H1.size G1 hp mc ms p l e s m args below meth c D cA base H1 locs1 (cells + kc) (slots + zc) ls F (by omega) (by omega) rfl hw hS c6
/-! ends -/
theorem ms_T.up {x : Bool} {p : Program} {l : Launch} {e : Env} {R : Room} {s : State} {m : MethodId} {args : Array Value} {below : List Frame} {meth : Method} {c : Code} {H : Heap} {locs : List Loc} {cells slots mc ms : Nat} {g : JFrame} {D : va_G} {cA : Nat → ClassId} {base : Nat} {P : ms_P} (h : W p l e R s m args below meth c H locs cells slots (MQ below (ms_Qc D cA base P) args s mc ms (fun q => base ≤ q)) g) : W p l e R s m args below meth c H locs cells slots (ms_T x D cA base P below args s mc ms) g := by
  cases x
  · exact h
  · exact vx_ret h
theorem ms_reti {x : Bool} {d : ms_D} {P : ms_P} {pc : Nat} {lv : List (Nat × Value)} {st : List Value} {n : Nat} {G : ms_H} {kr zr : Nat} {v : Int32} {ty : FieldType} (hdg : decode d.2.1 pc = .ok (.ireturn, 1)) (hr : d.2.2.2.1 = some ty) (hn : narrow ty (.int v) = .int v) (k : P (.inl (some (.int v))) n G) : ms_W x d P pc lv [.int v] n G kr zr := by
  intro mc ms p l e s m args below meth c D cA base H locs cells slots ls F c1 c2 c3 c4 c5 c6
  refine ms_T.up (W.widen (k := mc) (n := ms) (by omega) (by omega) ?_)
  exact W.zret (v := v) (ty := ty) F.exec F.code (F.2.2.1.trans hr) hn (fun t ht hW => ⟨some (.int v), G, rfl, by rw [ht, c3]; exact k, by rw [ht]; exact c4, c5.F ht⟩) c5.2.2 hdg F.2.2.2.2.1
theorem ms_retl {x : Bool} {d : ms_D} {P : ms_P} {pc : Nat} {lv : List (Nat × Value)} {st : List Value} {n : Nat} {G : ms_H} {kr zr : Nat} {v : Int64} (hdg : decode d.2.1 pc = .ok (.lreturn, 1)) (hr : d.2.2.2.1 = some .long) (k : P (.inl (some (.long v))) n G) : ms_W x d P pc lv [.long v] n G kr zr := by
  intro mc ms p l e s m args below meth c D cA base H locs cells slots ls F c1 c2 c3 c4 c5 c6
  refine ms_T.up (W.widen (k := mc) (n := ms) (by omega) (by omega) ?_)
  exact W.lret (v := v) F.exec F.code (F.2.2.1.trans hr) (fun t ht hW => ⟨some (.long v), G, rfl, by rw [ht, c3]; exact k, by rw [ht]; exact c4, c5.F ht⟩) c5.2.2 hdg F.2.2.2.2.1
theorem ms_retd {x : Bool} {d : ms_D} {P : ms_P} {pc : Nat} {lv : List (Nat × Value)} {st : List Value} {n : Nat} {G : ms_H} {kr zr : Nat} {v : UInt64} (hdg : decode d.2.1 pc = .ok (.dreturn, 1)) (hr : d.2.2.2.1 = some .double) (k : P (.inl (some (.double v))) n G) : ms_W x d P pc lv [.double v] n G kr zr := by
  intro mc ms p l e s m args below meth c D cA base H locs cells slots ls F c1 c2 c3 c4 c5 c6
  refine ms_T.up (W.widen (k := mc) (n := ms) (by omega) (by omega) ?_)
  exact W.dret (v := v) F.exec F.code (F.2.2.1.trans hr) (fun t ht hW => ⟨some (.double v), G, rfl, by rw [ht, c3]; exact k, by rw [ht]; exact c4, c5.F ht⟩) c5.2.2 hdg F.2.2.2.2.1
theorem ms_retv {x : Bool} {d : ms_D} {P : ms_P} {pc : Nat} {lv : List (Nat × Value)} {st : List Value} {n : Nat} {G : ms_H} {kr zr : Nat} (hdg : decode d.2.1 pc = .ok (.return_, 1)) (hr : d.2.2.2.1 = none) (k : P (.inl none) n G) : ms_W x d P pc lv [] n G kr zr := by
  intro mc ms p l e s m args below meth c D cA base H locs cells slots ls F c1 c2 c3 c4 c5 c6
  refine ms_T.up (W.widen (k := mc) (n := ms) (by omega) (by omega) ?_)
  exact W.vret F.exec F.code (F.2.2.1.trans hr) (fun t ht hW => ⟨none, G, rfl, by rw [ht, c3]; exact k, by rw [ht]; exact c4, c5.F ht⟩) c5.2.2 hdg F.2.2.2.2.1
theorem ms_reta {x : Bool} {d : ms_D} {P : ms_P} {pc : Nat} {lv : List (Nat × Value)} {st : List Value} {n : Nat} {G : ms_H} {kr zr : Nat} {v : Value} {rt : FieldType} (hdg : decode d.2.1 pc = .ok (.areturn, 1)) (hr : d.2.2.2.1 = some rt) (hrt : (∃ n, rt = .object n) ∨ ∃ t, rt = .array t) (hv : v = .null ∨ ∃ a, v = .ref a) (k : P (.inl (some v)) n G) : ms_W x d P pc lv [v] n G kr zr := by
  intro mc ms p l e s m args below meth c D cA base H locs cells slots ls F c1 c2 c3 c4 c5 c6
  refine ms_T.up (W.widen (k := mc) (n := ms) (by omega) (by omega) ?_)
  exact W.aret (v := v) F.exec F.code (F.2.2.1.trans hr) hrt hv (fun t ht hW => ⟨some v, G, rfl, by rw [ht, c3]; exact k, by rw [ht]; exact c4, c5.F ht⟩) c5.2.2 hdg F.2.2.2.2.1
theorem ms_max {x : Bool} {d : ms_D} {P : ms_P} {pc : Nat} {lv : List (Nat × Value)} {st : List Value} {n : Nat} {G : ms_H} {kr zr : Nat} {i : Nat} {y z : Int32} (hdg : decode d.2.1 pc = .ok (.invokestatic i, 3)) (hw : ∀ w ∈ [Cond.methodLink d.1.cls i Lib.Math.max.name, Cond.static Lib.Math.max.name, Cond.initialized "java/lang/Math", Cond.code Lib.Math.max.name Lib.Math.max.code 2 (some .int)], w ∈ ms_big) (hR : 1 ≤ d.2.2.2.2.1 ∧ 8 + 13 ≤ d.2.2.2.2.2.1) (hW : (st.map fun v => v.category).sum ≤ 8) (k : ms_W x d P (pc + 3) lv (.int (if z < y then y else z) :: st) n G kr zr) : ms_W x d P pc lv (.int y :: .int z :: st) n G kr zr := by
  intro mc ms p l e s m args below meth c D cA base H locs cells slots ls F c1 c2 c3 c4 c5 c6
  exact va_mmax F.exec F.code (F.2.2.2.1.trans c6.1.symm) F.own (F.big _ (hw _ (by simp))) (F.big _ (hw _ (by simp))) (F.big _ (hw _ (by simp))) (F.big _ (hw _ (by simp))) (show 1 ≤ d.2.2.2.2.1 from hR.1) (show _ ≤ d.2.2.2.2.2.1 by have := hR.2; omega) (show cells ≤ mc by omega) (show slots ≤ ms by omega) hdg (k mc ms p l e s m args below meth c D cA base H locs cells slots ls F c1 c2 c3 c4 c5 c6)
theorem ms_min {x : Bool} {d : ms_D} {P : ms_P} {pc : Nat} {lv : List (Nat × Value)} {st : List Value} {n : Nat} {G : ms_H} {kr zr : Nat} {i : Nat} {y z : Int32} (hdg : decode d.2.1 pc = .ok (.invokestatic i, 3)) (hw : ∀ w ∈ [Cond.methodLink d.1.cls i Lib.Math.min.name, Cond.static Lib.Math.min.name, Cond.initialized "java/lang/Math", Cond.code Lib.Math.min.name Lib.Math.min.code 2 (some .int)], w ∈ ms_big) (hR : 1 ≤ d.2.2.2.2.1 ∧ 8 + 13 ≤ d.2.2.2.2.2.1) (hW : (st.map fun v => v.category).sum ≤ 8) (k : ms_W x d P (pc + 3) lv (.int (if y < z then y else z) :: st) n G kr zr) : ms_W x d P pc lv (.int y :: .int z :: st) n G kr zr := by
  intro mc ms p l e s m args below meth c D cA base H locs cells slots ls F c1 c2 c3 c4 c5 c6
  exact va_mmin F.exec F.code (F.2.2.2.1.trans c6.1.symm) F.own (F.big _ (hw _ (by simp))) (F.big _ (hw _ (by simp))) (F.big _ (hw _ (by simp))) (F.big _ (hw _ (by simp))) (show 1 ≤ d.2.2.2.2.1 from hR.1) (show _ ≤ d.2.2.2.2.2.1 by have := hR.2; omega) (show cells ≤ mc by omega) (show slots ≤ ms by omega) hdg (k mc ms p l e s m args below meth c D cA base H locs cells slots ls F c1 c2 c3 c4 c5 c6)
theorem ms_abs {x : Bool} {d : ms_D} {P : ms_P} {pc : Nat} {lv : List (Nat × Value)} {st : List Value} {n : Nat} {G : ms_H} {kr zr : Nat} {i : Nat} {z : Int32} (hdg : decode d.2.1 pc = .ok (.invokestatic i, 3)) (hw : ∀ w ∈ [Cond.methodLink d.1.cls i Lib.Math.abs.name, Cond.static Lib.Math.abs.name, Cond.initialized "java/lang/Math", Cond.code Lib.Math.abs.name Lib.Math.abs.code 1 (some .int)], w ∈ ms_big) (hR : 1 ≤ d.2.2.2.2.1 ∧ 8 + 13 ≤ d.2.2.2.2.2.1) (hW : (st.map fun v => v.category).sum ≤ 8) (k : ms_W x d P (pc + 3) lv (.int (if 0 ≤ z then z else 0 - z) :: st) n G kr zr) : ms_W x d P pc lv (.int z :: st) n G kr zr := by
  intro mc ms p l e s m args below meth c D cA base H locs cells slots ls F c1 c2 c3 c4 c5 c6
  exact va_mabs F.exec F.code (F.2.2.2.1.trans c6.1.symm) F.own (F.big _ (hw _ (by simp))) (F.big _ (hw _ (by simp))) (F.big _ (hw _ (by simp))) (F.big _ (hw _ (by simp))) (show 1 ≤ d.2.2.2.2.1 from hR.1) (show _ ≤ d.2.2.2.2.2.1 by have := hR.2; omega) (show cells ≤ mc by omega) (show slots ≤ ms by omega) hdg (k mc ms p l e s m args below meth c D cA base H locs cells slots ls F c1 c2 c3 c4 c5 c6)
/-! answers that are one value, one heap -/
def ms_p1 (v : Option Value) (n : Nat) (G : ms_H) : ms_P := fun r n1 G1 => r = .inl v ∧ n1 = n ∧ G1 = G
theorem ms_callVp {x : Bool} {d : ms_D} {P : ms_P} {pc : Nat} {lv : List (Nat × Value)} {st : List Value} {n : Nat} {G : ms_H} {kr zr : Nat} {d' : ms_D} {b ci i n9 n1 : Nat} {As stk fs : List Value} {v : Option Value} {G1 : ms_H} (hdg : decode d.2.1 pc = .ok (.invokevirtual i, 3)) (hM : ms_M d' (.ref b :: As) n G 0 0 (ms_p1 v n1 G1)) (ok : ms_okV d.1.cls i d' ci n9) (hb : G b = some (.inr (ci, fs))) (hn : As.length = n9) (hR : ms_okR d d') (hst : stk = As.reverse ++ .ref b :: st) (hW : (st.map fun v => v.category).sum ≤ 8)
    (k : ms_W x d P (pc + 3) lv (v.toList ++ st) n1 G1 kr zr) (hs9 : d'.2.2.2.2.2.2.2 = none ∨ d'.2.2.2.2.2.2.2 = d.2.2.2.2.2.2.2 := by first | exact Or.inl rfl | exact Or.inr rfl) : ms_W x d P pc lv stk n G kr zr := by
  have h := ms_callV (hs9 := hs9) (kr := kr) (zr := zr) hdg hM ok hb hn hR hst hW (P := P) (x := x) (lv := lv) (fun w m1 K1 hp => by obtain ⟨h1, rfl, rfl⟩ := hp; cases h1; exact k)
  simpa using h
theorem ms_callSp {x : Bool} {d : ms_D} {P : ms_P} {pc : Nat} {lv : List (Nat × Value)} {st : List Value} {n : Nat} {G : ms_H} {kr zr : Nat} {d' : ms_D} {i n9 n1 : Nat} {As stk : List Value} {v : Option Value} {G1 : ms_H} (hdg : decode d.2.1 pc = .ok (.invokestatic i, 3)) (hM : ms_M d' As n G 0 0 (ms_p1 v n1 G1)) (ok : ms_okS d.1.cls i d' n9) (hn : As.length = n9) (hR : ms_okR d d') (hst : stk = As.reverse ++ st) (hW : (st.map fun v => v.category).sum ≤ 8)
    (k : ms_W x d P (pc + 3) lv (v.toList ++ st) n1 G1 kr zr) (hh : d'.2.2.2.2.2.2.1 = [] := by rfl) (hs9 : d'.2.2.2.2.2.2.2 = none ∨ d'.2.2.2.2.2.2.2 = d.2.2.2.2.2.2.2 := by first | exact Or.inl rfl | exact Or.inr rfl) : ms_W x d P pc lv stk n G kr zr := by
  have h := ms_callS (hs9 := hs9) (hh := hh) (kr := kr) (zr := zr) hdg hM ok hn hR hst hW (P := P) (x := x) (lv := lv) (fun w m1 K1 hp => by obtain ⟨h1, rfl, rfl⟩ := hp; cases h1; exact k)
  simpa using h
theorem ms_callSNp {x : Bool} {d : ms_D} {P : ms_P} {pc : Nat} {lv : List (Nat × Value)} {st : List Value} {n : Nat} {G : ms_H} {kr zr : Nat} {d' : ms_D} {i n9 n1 : Nat} {As stk : List Value} {host : String} {v : Option Value} {G1 : ms_H} (hdg : decode d.2.1 pc = .ok (.invokestatic i, 3)) (hM : ms_M d' As n G 0 0 (ms_p1 v n1 G1)) (ok : ms_okSN d.1.cls i d' host n9) (hn : As.length = n9) (hR : ms_okR d d') (hst : stk = As.reverse ++ st) (hW : (st.map fun v => v.category).sum ≤ 8)
    (k : ms_W x d P (pc + 3) lv (v.toList ++ st) n1 G1 kr zr) (hs9 : d'.2.2.2.2.2.2.2 = none ∨ d'.2.2.2.2.2.2.2 = d.2.2.2.2.2.2.2 := by first | exact Or.inl rfl | exact Or.inr rfl) : ms_W x d P pc lv stk n G kr zr := by
  have h := ms_callSN (hs9 := hs9) (kr := kr) (zr := zr) hdg hM ok hn hR hst hW (P := P) (x := x) (lv := lv) (fun w m1 K1 hp => by obtain ⟨h1, rfl, rfl⟩ := hp; cases h1; exact k)
  simpa using h
theorem ms_callV0 {x : Bool} {d : ms_D} {P : ms_P} {pc : Nat} {lv : List (Nat × Value)} {st : List Value} {n : Nat} {G : ms_H} {kr zr : Nat} {d' : ms_D} {P' : ms_P} {b ci i n9 : Nat} {As stk fs : List Value} (hdg : decode d.2.1 pc = .ok (.invokevirtual i, 3)) (hM : ms_M d' (.ref b :: As) n G 0 0 P') (ok : ms_okV d.1.cls i d' ci n9) (hb : G b = some (.inr (ci, fs))) (hn : As.length = n9) (hR : ms_okR d d') (hst : stk = As.reverse ++ .ref b :: st) (hW : (st.map fun v => v.category).sum ≤ 8)
    (k : ∀ (v : Option Value) (n1 : Nat) (G1 : ms_H), P' (.inl v) n1 G1 → ms_W x d P (pc + 3) lv (v.toList ++ st) n1 G1 kr zr) (hs9 : d'.2.2.2.2.2.2.2 = none ∨ d'.2.2.2.2.2.2.2 = d.2.2.2.2.2.2.2 := by first | exact Or.inl rfl | exact Or.inr rfl) : ms_W x d P pc lv stk n G kr zr := by
  have h := ms_callV (hs9 := hs9) (kr := kr) (zr := zr) hdg hM ok hb hn hR hst hW (P := P) (x := x) (lv := lv) k
  simpa using h
theorem ms_deN {cc : ByteArray} {pc : Nat} : ms_de cc pc [] := trivial
theorem ms_deC {cc : ByteArray} {pc : Nat} {q : Instr × Nat} {r : List (Instr × Nat)} (h : decode cc pc = .ok q) (hr : ms_de cc (pc + q.2) r) : ms_de cc pc (q :: r) := ⟨h, hr⟩
abbrev ms_b (p : Prop) [Decidable p] : Int32 := if p then 1 else 0

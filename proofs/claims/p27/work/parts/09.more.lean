/-! further rules: constructors, arraycopy, static rows, rows of references, doubles, the script, throws and catches -/
theorem ms_objInit {x : Bool} {d : ms_D} {P : ms_P} {pc : Nat} {lv : List (Nat × Value)} {st : List Value} {n : Nat} {G : ms_H} {kr zr : Nat} {a i : Nat} (hdg : decode d.2.1 pc = .ok (.invokespecial i, 3)) (hw : ∀ w ∈ [Cond.methodLink d.1.cls i Lib.objectInit, Cond.instanceMethod Lib.objectInit, Cond.code Lib.objectInit ⟨#[0xb1]⟩ 1 none], w ∈ ms_big) (hR : 1 ≤ d.2.2.2.2.1 ∧ 8 + 12 ≤ d.2.2.2.2.2.1) (hW : (st.map fun v => v.category).sum ≤ 8) (k : ms_W x d P (pc + 3) lv st n G kr zr) : ms_W x d P pc lv (.ref a :: st) n G kr zr := by
  intro mc ms p l e s m args below meth c D cA base H locs cells slots ls F c1 c2 c3 c4 c5 c6
  exact W.objInit F.exec F.code F.own (F.big _ (hw _ (by simp))) (F.big _ (hw _ (by simp))) (F.big _ (hw _ (by simp))) rfl (c6.1.trans F.2.2.2.1.symm) rfl hdg hR.1 (by have := hR.2; show 2 * 0 + _ + 12 ≤ d.2.2.2.2.2.1; omega) (k mc ms p l e s m args below meth c D cA base H locs cells slots ls F c1 c2 c3 c4 c5 c6)
theorem ms_callI {x : Bool} {d : ms_D} {P : ms_P} {pc : Nat} {lv : List (Nat × Value)} {st : List Value} {n : Nat} {G : ms_H} {kr zr : Nat} {d' : ms_D} {P' : ms_P} {b i kc zc n9 : Nat} {As stk : List Value} (hdg : decode d.2.1 pc = .ok (.invokespecial i, 3)) (hM : ms_M d' (.ref b :: As) n G kc zc P') (ok : ms_okI d.1.cls i d' n9) (hn : As.length = n9) (hR : ms_okR d d') (hst : stk = As.reverse ++ .ref b :: st) (hW : (st.map fun v => v.category).sum ≤ 8)
    (k : ∀ (v : Option Value) (n1 : Nat) (G1 : ms_H), P' (.inl v) n1 G1 → ms_W x d P (pc + 3) lv (v.toList ++ st) n1 G1 kr zr) (hs9 : d'.2.2.2.2.2.2.2 = none ∨ d'.2.2.2.2.2.2.2 = d.2.2.2.2.2.2.2 := by first | exact Or.inl rfl | exact Or.inr rfl) : ms_W x d P pc lv stk n G (kc + kr) (zc + zr) := by
  intro mc ms p l e s m args below meth c D cA base H locs cells slots ls F c1 c2 c3 c4 c5 c6
  obtain ⟨o1, o2, o3, o4, o5, o6⟩ := ok
  have hws9 : ms_ws d' = .code d'.1 d'.2.1 d'.2.2.1 none :: ms_big := by unfold ms_ws; rw [ms_cd_nil o5, o6]
  have hl : l.flags = flags0 := F.2.2.2.2.2.2.2.2.2.1
  refine ms_after (P' := P') (va_runI (As := As) (rest := st) (b := b) ⟨F.exec, F.code, F.2.2.2.1, F.own, F.big⟩ (hM l hl D cA base) (cwI n9 F.big (ms_good ?_) hws9 rfl rfl (F.big _ (o2 _ (by simp))) (F.big _ o1) (F.big _ (o2 _ (by simp))) o3 ⟨o4.1, o4.2.1, o4.2.2⟩ hR) ⟨ms_Pc.blind, fun U hU hW9 => ⟨rfl, by rw [hU]; exact c3, by rw [hU]; exact c4, F.SE.to hU hW9 c5, by have := F.low; have := c5.1; omega, F.sc hs9 hU hW9 c5⟩⟩ rfl hn c6.1 hst (by show 2 * 0 + _ ≤ 8; omega) hdg ⟨by show cells + kc ≤ mc; omega, by show slots + zc ≤ ms; omega⟩) c5 ?_
  · intro w hw
    rcases List.mem_cons.mp hw with h | h
    · exact o2 w (by rw [h]; simp)
    · exact h
  · intro v G1 H1 locs1 hp hw hS
    exact k v H1.size G1 hp mc ms p l e s m args below meth c D cA base H1 locs1 (cells + kc) (slots + zc) ls F (by omega) (by omega) rfl hw hS c6
theorem ms_callIN {x : Bool} {d : ms_D} {P : ms_P} {pc : Nat} {lv : List (Nat × Value)} {st : List Value} {n : Nat} {G : ms_H} {kr zr : Nat} {d' : ms_D} {P' : ms_P} {host : String} {b i kc zc n9 : Nat} {As stk : List Value} (hdg : decode d.2.1 pc = .ok (.invokespecial i, 3)) (hM : ms_M d' (.ref b :: As) n G kc zc P') (ok : ms_okIN d.1.cls i d' host n9) (hn : As.length = n9) (hR : ms_okR d d') (hst : stk = As.reverse ++ .ref b :: st) (hW : (st.map fun v => v.category).sum ≤ 8)
    (k : ∀ (v : Option Value) (n1 : Nat) (G1 : ms_H), P' (.inl v) n1 G1 → ms_W x d P (pc + 3) lv (v.toList ++ st) n1 G1 kr zr) (hs9 : d'.2.2.2.2.2.2.2 = none ∨ d'.2.2.2.2.2.2.2 = d.2.2.2.2.2.2.2 := by first | exact Or.inl rfl | exact Or.inr rfl) : ms_W x d P pc lv stk n G (kc + kr) (zc + zr) := by
  intro mc ms p l e s m args below meth c D cA base H locs cells slots ls F c1 c2 c3 c4 c5 c6
  obtain ⟨o1, o2, o3, o4, o5, o6⟩ := ok
  have hws9 : ms_ws d' = .code d'.1 d'.2.1 d'.2.2.1 none :: ms_big := by unfold ms_ws; rw [ms_cd_nil o5, o6]
  have hl : l.flags = flags0 := F.2.2.2.2.2.2.2.2.2.1
  refine ms_after (P' := P') (va_runIN (As := As) (rest := st) (b := b) (host := host) (own := d.1.cls) ⟨F.exec, F.code, F.2.2.2.1, F.own, F.big⟩ (hM l hl D cA base) ⟨va_cnB n9 F.big (ms_good ?_) hws9 rfl rfl (F.SE.2.2.1.1 _ o1) (F.big _ (o2 _ (by simp))) ⟨o4.1, o4.2.1, o4.2.2⟩ hR, o3, F.big _ (o2 _ (by simp))⟩ ⟨ms_Pc.blind, fun U hU hW9 => ⟨rfl, by rw [hU]; exact c3, by rw [hU]; exact c4, F.SE.to hU hW9 c5, by have := F.low; have := c5.1; omega, F.sc hs9 hU hW9 c5⟩⟩ rfl hn c6.1 hst (by show 2 * 0 + _ ≤ 8; omega) hdg ⟨by show cells + kc ≤ mc; omega, by show slots + zc ≤ ms; omega⟩) c5 ?_
  · intro w hw
    rcases List.mem_cons.mp hw with h | h
    · exact o2 w (by rw [h]; simp)
    · exact h
  · intro v G1 H1 locs1 hp hw hS
    exact k v H1.size G1 hp mc ms p l e s m args below meth c D cA base H1 locs1 (cells + kc) (slots + zc) ls F (by omega) (by omega) rfl hw hS c6
theorem ms_copyI {x : Bool} {d : ms_D} {P : ms_P} {pc : Nat} {lv : List (Nat × Value)} {st : List Value} {n : Nat} {G : ms_H} {kr zr : Nat} {i a0 a n0 n1 : Nat} {f g : Nat → Int32} {sp dp z : Int32} (hdg : decode d.2.1 pc = .ok (.invokestatic i, 3)) (hw : ∀ w ∈ [Cond.methodLink d.1.cls i arraycopyName, Cond.native arraycopyName, Cond.static arraycopyName, Cond.initialized "java/lang/System"], w ∈ ms_big) (ha0 : G a0 = some (.inl (0, n0, .inl f))) (ha : G a = some (.inl (0, n1, .inl g)))
    (h1 : ¬ sp < 0) (h2 : ¬ dp < 0) (h3 : ¬ z < 0) (h4 : sp.toNatClampNeg + z.toNatClampNeg ≤ n0) (h5 : dp.toNatClampNeg + z.toNatClampNeg ≤ n1) (hR : 1 ≤ d.2.2.2.2.1 ∧ 8 + (nativeFrameWords "java/lang/System" "arraycopy" 5 + 11) ≤ d.2.2.2.2.2.1) (hW : (st.map fun v => v.category).sum ≤ 8)
    (k : ms_W x d P (pc + 3) lv st n (ms_up G a (.inl (0, n1, .inl (va_cpy f g sp.toNatClampNeg dp.toNatClampNeg z.toNatClampNeg)))) kr zr) : ms_W x d P pc lv (.int z :: .int dp :: .ref a :: .int sp :: .ref a0 :: st) n G kr zr := by
  intro mc ms p l e s m args below meth c D cA base H locs cells slots ls F c1 c2 c3 c4 c5 c6
  have nn : ∀ z : Int32, ¬ z < 0 → z.toInt = (z.toNatClampNeg : Int) := by
    intro z hz
    have hz0 : (0 : Int) ≤ z.toInt := by
      have := Int32.not_lt.mp hz
      simpa using Int32.le_iff_toInt_le.mp this
    show z.toInt = ((z.toInt.toNat : Nat) : Int)
    omega
  intro T hT X
  have hc0 : H[a0]? = some (vp_cell (cA 0) (n0, .inl f)) := c4.P1 ha0 0 _ rfl
  have hc1 : H[a]? = some (vp_cell (cA 0) (n1, .inl g)) := c4.P1 ha 0 _ rfl
  obtain ⟨-, k0, hk0, cm0, hkk0⟩ := (F.K.2 0 _ rfl).1 n0 (fun j => .int (f j))
  obtain ⟨-, k1, hk1, cm1, hkk1⟩ := (F.K.2 0 _ rfl).1 n1 (fun j => .int (g j))
  obtain ⟨vm', X', step⟩ := X.arraycopy F.exec F.own (F.big (Cond.methodLink d.1.cls i arraycopyName) (hw _ (by simp))) (F.big (Cond.native arraycopyName) (hw _ (by simp))) (F.big (Cond.static arraycopyName) (hw _ (by simp))) (F.big (Cond.initialized "java/lang/System") (hw _ (by simp))) (src := a0) (dst := a) (cs := vp_cell (cA 0) (n0, .inl f)) (cd := vp_cell (cA 0) (n1, .inl g)) (srcPos := sp) (destPos := dp) (n := z) (by rw [hT]; exact hc0) (by rw [hT]; exact hc1)
    (fun _ h => by cases h) (fun _ h => by cases h) (fun h => by cases h) (fun h => by cases h) hk0 hk1 hkk0 hkk1 (by simp [refKind]) h1 h2 h3
    (by rw [nn sp h1, nn z h3]; show ¬ _ > ((arrV (cA 0) n0 (fun j => .int (f j))).slots.size : Int); rw [arrV_size]; omega)
    (by rw [nn dp h2, nn z h3]; show ¬ _ > ((arrV (cA 0) n1 (fun j => .int (g j))).slots.size : Int); rw [arrV_size]; omega)
    (fun vm₁ _ i hi => by
      have e : (vp_cell (cA 0) (n0, .inl f)).slots.getD (sp.toNatClampNeg + i) .null = .int (f (sp.toNatClampNeg + i)) := by
        show (arrV (cA 0) n0 (fun j => .int (f j))).slots.getD _ _ = _
        rw [Array.getD_eq_getD_getElem?, arrV_read _ _ (by omega)]
        rfl
      refine ⟨?_, ?_⟩
      · rw [e]
        rfl
      · rw [e]
        exact trivial)
    (g := F0 m pc ls (.int z :: .int dp :: .ref a :: .int sp :: .ref a0 :: st)) rfl (c6.1.trans F.2.2.2.1.symm) (rest := st) rfl (by rw [F.code]; exact hdg) hR.1 (by have := hR.2; show 2 * 0 + _ + _ ≤ d.2.2.2.2.2.1; omega)
  have e1 : copied (vp_cell (cA 0) (n0, .inl f)) (vp_cell (cA 0) (n1, .inl g)) sp dp z = vp_cell (cA 0) (n1, .inl (va_cpy f g sp.toNatClampNeg dp.toNatClampNeg z.toNatClampNeg)) := va_copied (fun z => .int z) (cA 0) (cA 0) f g h4
  rw [e1] at X' step
  have hl : a < H.size := (Array.getElem?_eq_some_iff.mp hc1).1
  have hheap : ((T.setVm vm').setCell a (vp_cell (cA 0) (n1, .inl (va_cpy f g sp.toNatClampNeg dp.toNatClampNeg z.toNatClampNeg)))).heap = H.setIfInBounds a (vp_cell (cA 0) (n1, .inl (va_cpy f g sp.toNatClampNeg dp.toNatClampNeg z.toNatClampNeg))) := by rw [← hT]; rfl
  have oq : ∀ q : Nat, q ≠ a → (H.setIfInBounds a (vp_cell (cA 0) (n1, .inl (va_cpy f g sp.toNatClampNeg dp.toNatClampNeg z.toNatClampNeg))))[q]? = H[q]? := fun q hq => by simp [Array.getElem?_setIfInBounds, Ne.symm hq]
  have hba := (c4 a _ ha).2
  obtain ⟨t, a1, b1⟩ := k mc ms p l e s m args below meth c D cA base _ _ cells slots ls F c1 c2 (by rw [Array.size_setIfInBounds]; exact c3) (c4.set ha (show (H.setIfInBounds a _)[a]? = some _ by simp [Array.getElem?_setIfInBounds, hl]) oq) ⟨by simp; exact c5.1, fun q g1 g2 => by
      rw [oq q (fun e => g2 (by rw [e]; exact hba))]
      exact c5.2.1 q g1 g2, fun q hq => by
      rcases List.mem_append.mp hq with h | h
      · exact c5.2.2 q h
      · obtain ⟨z, -, hz⟩ := List.mem_map.mp h
        rw [← hz]
        exact hba⟩ c6 _ hheap X'
  exact ⟨t, step t a1, b1⟩
theorem ms_stepX {x : Bool} {d : ms_D} {P : ms_P} {pc : Nat} {lv : List (Nat × Value)} {st : List Value} {n : Nat} {G : ms_H} {kr zr : Nat} {j : Nat} {kk : Int32} (h0 : decode d.2.1 pc = .ok (.getstatic 37, 3)) (h1 : decode d.2.1 (pc + 3) = .ok (.iload j, 2)) (h2 : decode d.2.1 (pc + 5) = .ok (.iaload, 1)) (hown : d.1.cls = "StarlingSquare$Grid") (hg : ms_get lv j = some (.int kk)) (hin : vp_in kk 8) (k : ms_W x d P (pc + 6) lv (.int (ms_sx kk.toNatClampNeg) :: st) n G kr zr) : ms_W x d P pc lv st n G kr zr := by
  intro mc ms p l e s m args below meth c D cA base H locs cells slots ls F c1 c2 c3 c4 c5 c6
  obtain ⟨t, hZ, hT⟩ := F.SE.2.1.1
  have hnw := F.SE.2.2.1.2 ("StarlingSquare$Grid", 37, "StarlingSquare", "STEP_X", "[I", "StarlingSquare") (by decide +kernel)
  refine va_getsN F.exec F.code (own := "StarlingSquare$Grid") (ref := "StarlingSquare") (host := "StarlingSquare") hZ c5 (by have := F.own; rwa [hown] at this) (va_tabs rfl rfl hnw) (fun y h => h) h0 ?_
  refine lv_iload F.exec F.code h1 (ms_get_at c6 hg) ?_
  exact va_ti F.exec F.code hT c5 hin rfl h2 (k mc ms p l e s m args below meth c D cA base H locs cells slots ls F c1 c2 c3 c4 c5 c6)
theorem ms_stepY {x : Bool} {d : ms_D} {P : ms_P} {pc : Nat} {lv : List (Nat × Value)} {st : List Value} {n : Nat} {G : ms_H} {kr zr : Nat} {j : Nat} {kk : Int32} (h0 : decode d.2.1 pc = .ok (.getstatic 40, 3)) (h1 : decode d.2.1 (pc + 3) = .ok (.iload j, 2)) (h2 : decode d.2.1 (pc + 5) = .ok (.iaload, 1)) (hown : d.1.cls = "StarlingSquare$Grid") (hg : ms_get lv j = some (.int kk)) (hin : vp_in kk 8) (k : ms_W x d P (pc + 6) lv (.int (ms_sy kk.toNatClampNeg) :: st) n G kr zr) : ms_W x d P pc lv st n G kr zr := by
  intro mc ms p l e s m args below meth c D cA base H locs cells slots ls F c1 c2 c3 c4 c5 c6
  obtain ⟨t, hZ, hT⟩ := F.SE.2.1.2
  have hnw := F.SE.2.2.1.2 ("StarlingSquare$Grid", 40, "StarlingSquare", "STEP_Y", "[I", "StarlingSquare") (by decide +kernel)
  refine va_getsN F.exec F.code (own := "StarlingSquare$Grid") (ref := "StarlingSquare") (host := "StarlingSquare") hZ c5 (by have := F.own; rwa [hown] at this) (va_tabs rfl rfl hnw) (fun y h => h) h0 ?_
  refine lv_iload F.exec F.code h1 (ms_get_at c6 hg) ?_
  exact va_ti F.exec F.code hT c5 hin rfl h2 (k mc ms p l e s m args below meth c D cA base H locs cells slots ls F c1 c2 c3 c4 c5 c6)
theorem ms_aaloadA {x : Bool} {d : ms_D} {P : ms_P} {pc : Nat} {lv : List (Nat × Value)} {st : List Value} {n : Nat} {G : ms_H} {kr zr : Nat} {a N : Nat} {i : Int32} {f : Nat → Option Nat} (hdg : decode d.2.1 pc = .ok (.aaload, 1)) (ha : G a = some (.inl (4, N, .inr (.inr (.inr (.inr f)))))) (hin : vp_in i N) (k : ms_W x d P (pc + 1) lv (va_rf (f i.toNatClampNeg) :: st) n G kr zr) : ms_W x d P pc lv (.int i :: .ref a :: st) n G kr zr := by
  intro mc ms p l e s m args below meth c D cA base H locs cells slots ls F c1 c2 c3 c4 c5 c6
  have hlt : i.toNatClampNeg < N := Nat.not_le.mp fun q => hin (Or.inr q)
  exact W.aald (v := va_rf (f i.toNatClampNeg)) (ty := .array .int) F.exec F.code (c4.P1 ha 0 _ rfl) ((F.K.2 4 _ rfl).1 N (fun j => va_rf (f j))) rfl (fun q => by cases q) (by show ¬ (i < 0 ∨ (arrV _ _ _).slots.size ≤ _); rw [arrV_size]; exact hin) (by show (arrV _ _ _).slots[_]? = _; rw [arrV_read _ _ hlt]) rfl rfl hdg (k mc ms p l e s m args below meth c D cA base H locs cells slots ls F c1 c2 c3 c4 c5 c6)
theorem ms_newQ {x : Bool} {d : ms_D} {P : ms_P} {pc : Nat} {lv : List (Nat × Value)} {st : List Value} {n : Nat} {G : ms_H} {kr zr : Nat} {i : Nat} {v : Int32} {N : Nat} (hdg : decode d.2.1 pc = .ok (.anewarray i, 3)) (hw : Cond.classLink d.1.cls i "StarlingSquare$Walker" ∈ ms_big) (h0 : ¬ v < 0) (hN : v.toNatClampNeg = N) (hb : N * 4 ≤ 536870912) (k : ms_W x d P (pc + 3) lv (.ref n :: st) (n + 1) (ms_up G n (.inl (3, N, .inr (.inr (.inr (.inr (fun _ => none))))))) kr zr) : ms_W x d P pc lv (.int v :: st) n G (1 + kr) (N + zr) := by
  intro mc ms p l e s m args below meth c D cA base H locs cells slots ls F c1 c2 c3 c4 c5 c6
  subst hN
  refine W.anew F.exec F.code F.own (F.big _ hw) (va_AO.use F.SE.2.2.2.1) rfl hdg rfl h0 hb (show cells + 1 ≤ mc by omega) (show slots + v.toNatClampNeg ≤ ms by omega) fun cB kA comp f1 f2 f3 f4 => ?_
  obtain ⟨kA9, comp9, g1, g2, g3, g4⟩ := (F.K.2 3 _ rfl).2
  have hcB : cB = cA 3 := Option.some.inj (f1.symm.trans g4)
  subst hcB
  generalize hH1 : H.push ({ cls := cA 3, slots := Array.replicate v.toNatClampNeg .null, vm := .none } : Cell) = H1
  have z1 : H1.size = n + 1 := by rw [← hH1, Array.size_push, c3]
  have e1 : H1[n]? = some (arrV (cA 3) v.toNatClampNeg (fun _ => .null)) := by rw [← hH1, ← c3, Array.getElem?_push_size, ← arrV_new]
  have b1 : ∀ q : Nat, q < n → H1[q]? = H[q]? := fun q hq => by rw [← hH1, Array.getElem?_push, if_neg (by rw [c3]; omega)]
  rw [c3]
  exact k mc ms p l e s m args below meth c D cA base H1 locs (cells + 1) (slots + v.toNatClampNeg) ls F (by omega) (by omega) z1 (c4.new c3 (by have := F.low; have := c5.1; omega) e1 b1) ⟨by have := c5.1; omega, fun q h1 h2 => (b1 q (by have := c5.1; omega)).trans (c5.2.1 q h1 h2), c5.2.2⟩ c6
theorem ms_newA {x : Bool} {d : ms_D} {P : ms_P} {pc : Nat} {lv : List (Nat × Value)} {st : List Value} {n : Nat} {G : ms_H} {kr zr : Nat} {i : Nat} {v : Int32} {N : Nat} (hdg : decode d.2.1 pc = .ok (.anewarray i, 3)) (hw : Cond.classLink d.1.cls i "[I" ∈ ms_big) (h0 : ¬ v < 0) (hN : v.toNatClampNeg = N) (hb : N * 4 ≤ 536870912) (k : ms_W x d P (pc + 3) lv (.ref n :: st) (n + 1) (ms_up G n (.inl (4, N, .inr (.inr (.inr (.inr (fun _ => none))))))) kr zr) : ms_W x d P pc lv (.int v :: st) n G (1 + kr) (N + zr) := by
  intro mc ms p l e s m args below meth c D cA base H locs cells slots ls F c1 c2 c3 c4 c5 c6
  subst hN
  refine W.anewA (t := .int) F.exec F.code F.own (F.big _ hw) (over_moved (u := s) (E := s) (Vm.Alike.refl s.vm) F.SE.2.2.2.2.1.1) rfl hdg rfl h0 hb (show cells + 1 ≤ mc by omega) (show slots + v.toNatClampNeg ≤ ms by omega) fun cB kA comp f1 f2 f3 f4 => ?_
  have hcB : cB = cA 4 := Option.some.inj (f1.symm.trans (F.K.2 4 _ rfl).2)
  subst hcB
  generalize hH1 : H.push ({ cls := cA 4, slots := Array.replicate v.toNatClampNeg .null, vm := .none } : Cell) = H1
  have z1 : H1.size = n + 1 := by rw [← hH1, Array.size_push, c3]
  have e1 : H1[n]? = some (arrV (cA 4) v.toNatClampNeg (fun _ => .null)) := by rw [← hH1, ← c3, Array.getElem?_push_size, ← arrV_new]
  have b1 : ∀ q : Nat, q < n → H1[q]? = H[q]? := fun q hq => by rw [← hH1, Array.getElem?_push, if_neg (by rw [c3]; omega)]
  rw [c3]
  exact k mc ms p l e s m args below meth c D cA base H1 locs (cells + 1) (slots + v.toNatClampNeg) ls F (by omega) (by omega) z1 (c4.new c3 (by have := F.low; have := c5.1; omega) e1 b1) ⟨by have := c5.1; omega, fun q h1 h2 => (b1 q (by have := c5.1; omega)).trans (c5.2.1 q h1 h2), c5.2.2⟩ c6
theorem ms_aastoreA {x : Bool} {d : ms_D} {P : ms_P} {pc : Nat} {lv : List (Nat × Value)} {st : List Value} {n : Nat} {G : ms_H} {kr zr : Nat} {a N b M : Nat} {i : Int32} {g : Nat → Int32} {f : Nat → Option Nat} (hdg : decode d.2.1 pc = .ok (.aastore, 1)) (ha : G a = some (.inl (4, N, .inr (.inr (.inr (.inr f)))))) (hb : G b = some (.inl (0, M, .inl g))) (hin : vp_in i N) (k : ms_W x d P (pc + 1) lv st n (ms_up G a (.inl (4, N, .inr (.inr (.inr (.inr (va_up f i.toNatClampNeg (some b)))))))) kr zr) : ms_W x d P pc lv (.ref b :: .int i :: .ref a :: st) n G kr zr := by
  intro mc ms p l e s m args below meth c D cA base H locs cells slots ls F c1 c2 c3 c4 c5 c6
  have hba := (c4 a _ ha).2
  have hlt : i.toNatClampNeg < N := Nat.not_le.mp fun q => hin (Or.inr q)
  have h0 : ¬ i < 0 := fun q => hin (Or.inl q)
  have hcb : H[b]? = some (vp_cell (cA 0) (M, .inl g)) := c4.P1 hb 0 _ rfl
  obtain ⟨comp, cB, kA, hcomp, -, hkA, hkind, hname⟩ := arrayOverA_spec (t := .int) (args := #[]) F.SE.2.2.2.2.1.1
  have hcB : cB = cA 4 := Option.some.inj (hname.symm.trans (F.K.2 4 _ rfl).2)
  subst hcB
  have hcm : comp = cA 0 := Option.some.inj (hcomp.symm.trans (F.K.2 0 _ rfl).2)
  subst hcm
  obtain ⟨kC, hkC, -⟩ := Vm.findClass_spec hcomp
  refine W.aast F.exec F.code (c4.P1 ha 0 _ rfl) (fun q h => by cases h) (fun h => by cases h) hkA hkind rfl hkC ⟨h0, by show _ < (arrV _ _ _).slots.size; rw [arrV_size]; exact hlt⟩ hcb (fun q h => by cases h) hkC (ms_asg _ _) rfl rfl hdg fun H1 h9 z oq => ?_
  refine k mc ms p l e s m args below meth c D cA base H1 _ cells slots ls F c1 c2 (z.trans c3) (c4.set ha ?_ oq) (c5.put z oq hba) c6
  show H1[a]? = some (vp_cell _ _)
  rw [h9]
  rw [vp_cell_q, vp_cell_q, arrV_store]
  congr 2
  funext q
  by_cases hq : q = i.toNatClampNeg
  · subst hq
    simp [updV, va_up, va_rf]
  · simp [updV, va_up, hq]
theorem ms_dload {x : Bool} {d : ms_D} {P : ms_P} {pc : Nat} {lv : List (Nat × Value)} {st : List Value} {n : Nat} {G : ms_H} {kr zr : Nat} {i : Nat} {y : UInt64} (hdg : decode d.2.1 pc = .ok (.dload i, 2)) (hg : ms_get lv i = some (.double y)) (k : ms_W x d P (pc + 2) lv (.double y :: st) n G kr zr) : ms_W x d P pc lv st n G kr zr := by
  intro mc ms p l e s m args below meth c D cA base H locs cells slots ls F c1 c2 c3 c4 c5 c6
  exact lv_dload F.exec F.code hdg (ms_get_at c6 hg) (k mc ms p l e s m args below meth c D cA base H locs cells slots ls F c1 c2 c3 c4 c5 c6)
theorem ms_dstore {x : Bool} {d : ms_D} {P : ms_P} {pc : Nat} {lv : List (Nat × Value)} {st : List Value} {n : Nat} {G : ms_H} {kr zr : Nat} {i : Nat} {y : UInt64} {lv' : List (Nat × Value)} (hdg : decode d.2.1 pc = .ok (.dstore i, 2)) (hn : i + 1 < d.2.2.1) (hl : ms_s2 lv i (.double y) = lv') (k : ms_W x d P (pc + 2) lv' st n G kr zr) : ms_W x d P pc lv (.double y :: st) n G kr zr := by
  intro mc ms p l e s m args below meth c D cA base H locs cells slots ls F c1 c2 c3 c4 c5 c6
  exact lv_dstore F.exec F.code hdg c6 hn hl (fun ls9 hl9 => k mc ms p l e s m args below meth c D cA base H locs cells slots ls9 F c1 c2 c3 c4 c5 hl9)
theorem ms_dcmp {x : Bool} {d : ms_D} {P : ms_P} {pc : Nat} {lv : List (Nat × Value)} {st : List Value} {n : Nat} {G : ms_H} {kr zr : Nat} {y z : UInt64} {op : CmpOp} (hdg : decode d.2.1 pc = .ok (.dcmp op, 1)) (k : ms_W x d P (pc + 1) lv (.int (Op.cmpValue (FP.dcmp z y) op) :: st) n G kr zr) : ms_W x d P pc lv (.double y :: .double z :: st) n G kr zr := by
  intro mc ms p l e s m args below meth c D cA base H locs cells slots ls F c1 c2 c3 c4 c5 c6
  exact lv_dcmp F.exec F.code hdg (k mc ms p l e s m args below meth c D cA base H locs cells slots ls F c1 c2 c3 c4 c5 c6)
theorem ms_sld {x : Bool} {d : ms_D} {P : ms_P} {pc : Nat} {lv : List (Nat × Value)} {st : List Value} {n : Nat} {G : ms_H} {kr zr : Nat} {b L : Nat} {xs : Nat → Int32} {i : Int32} (hdg : decode d.2.1 pc = .ok (.iaload, 1)) (hs : d.2.2.2.2.2.2.2 = some (b, L, xs)) (hin : vp_in i L) (k : ms_W x d P (pc + 1) lv (.int (xs i.toNatClampNeg) :: st) n G kr zr) : ms_W x d P pc lv (.int i :: .ref b :: st) n G kr zr := by
  intro mc ms p l e s m args below meth c D cA base H locs cells slots ls F c1 c2 c3 c4 c5 c6
  have h := F.2.2.2.2.2.2.2.2.2.2.2.2
  rw [hs] at h
  exact va_sld F.exec F.code h.1 h.2.1 h.2.2 c5 hin hdg (k mc ms p l e s m args below meth c D cA base H locs cells slots ls F c1 c2 c3 c4 c5 c6)
theorem ms_slen {x : Bool} {d : ms_D} {P : ms_P} {pc : Nat} {lv : List (Nat × Value)} {st : List Value} {n : Nat} {G : ms_H} {kr zr : Nat} {b L : Nat} {xs : Nat → Int32} (hdg : decode d.2.1 pc = .ok (.arraylength, 1)) (hs : d.2.2.2.2.2.2.2 = some (b, L, xs)) (k : ms_W x d P (pc + 1) lv (.int (nI L) :: st) n G kr zr) : ms_W x d P pc lv (.ref b :: st) n G kr zr := by
  intro mc ms p l e s m args below meth c D cA base H locs cells slots ls F c1 c2 c3 c4 c5 c6
  have h := F.2.2.2.2.2.2.2.2.2.2.2.2
  rw [hs] at h
  exact va_slen F.exec F.code h.1 h.2.1 h.2.2 c5 hdg (k mc ms p l e s m args below meth c D cA base H locs cells slots ls F c1 c2 c3 c4 c5 c6)
/-! throws and catches -/
theorem ms_throw {d : ms_D} {P : ms_P} {pc : Nat} {lv : List (Nat × Value)} {st : List Value} {n : Nat} {G : ms_H} {kr zr : Nat} {ik is ic : Nat} {E text : String} (d0 : decode d.2.1 pc = .ok (.new ik, 3)) (d3 : decode d.2.1 (pc + 3) = .ok (.dup, 1)) (d4 : decode d.2.1 (pc + 4) = .ok (.ldc is, 2)) (d6 : decode d.2.1 (pc + 6) = .ok (.invokespecial ic, 3)) (d9 : decode d.2.1 (pc + 9) = .ok (.athrow, 1)) (ok : ms_okT d.1.cls ik is ic E text) (hR : 6 ≤ d.2.2.2.2.1 ∧ 8 + 82 ≤ d.2.2.2.2.2.1) (hW : (st.map fun v => v.category).sum ≤ 8) (hk : 1 ≤ kr) (hz : 6 ≤ zr) (k : ∀ n1, n ≤ n1 → P (.inr E) n1 G) (hh : d.2.2.2.2.2.2.1 = [] := by rfl) : ms_W true d P pc lv st n G kr zr := by
  intro mc ms p l e s m args below meth c D cA base H locs cells slots ls F c1 c2 c3 c4 c5 c6
  obtain ⟨o1, o2, o3, o4, o5, o6⟩ := ok
  obtain ⟨x1, x2, x3, -, x5, x6⟩ := F.SE.2.2.2.2.2
  have o9 : ∀ w ∈ Cond.classLink d.1.cls ik E :: Cond.initialized E :: vx_atS d.1.cls ic E ms_names, w ∈ ms_big ∨ (w = Cond.castable E E ∨ ∃ y ∈ ms_dcl, w = Cond.declares y) := by
    intro w hw
    by_cases g : goodWord w = true
    · refine Or.inl (o3 w ?_)
      simp only [List.mem_cons, List.mem_filter] at hw ⊢
      rcases hw with h | h | h
      · exact Or.inl h
      · exact Or.inr (Or.inl h)
      · exact Or.inr (Or.inr ⟨h, g⟩)
    · simp only [List.mem_cons] at hw
      rcases hw with h | h | h
      · exact Or.inl (o3 w (by simp [h]))
      · exact Or.inl (o3 w (by simp [h]))
      · have := o5 w (List.mem_filter.mpr ⟨h, by simp [g]⟩)
        rcases List.mem_cons.mp this with h9 | h9
        · exact Or.inr (Or.inl h9)
        · obtain ⟨y, hy, h9⟩ := List.mem_map.mp h9
          exact Or.inr (Or.inr ⟨y, hy, h9.symm⟩)
  obtain ⟨sa, hsa⟩ := x3 _ o4
  have hl : l.flags = flags0 := F.2.2.2.2.2.2.2.2.2.1
  have ht : c.exceptionTable.toList = [] := by
    have h9 := F.2.2.2.2.2.2.2.2.2.2.1
    rw [hh] at h9
    exact h9
  refine vx_throwS (names := ms_names) F.exec F.code (by unfold Launch.stackTraces; rw [hl]; decide +kernel) F.own o1 o2 (F.big _ (o3 _ (by simp))) (F.big _ (o3 _ (by simp))) hsa (fun w hw => (o9 w (by simp [hw])).elim (fun h => F.big _ h) (fun h => h.elim (fun h => by rw [h]; exact ms_cas (x5 _ o6)) (fun h => by obtain ⟨y, hy, rfl⟩ := h; exact va_tabs rfl rfl (x6 y hy)))) (fun w hw => (o9 w hw).elim (fun h => by unfold vx_ot; rw [ms_big_good w h, Bool.or_true]) (fun h => h.elim (fun h => by rw [h]; rfl) (fun h => by obtain ⟨y, -, rfl⟩ := h; rfl))) x1 x2 c5 (c6.1.trans F.2.2.2.1.symm) d0 d3 d4 d6 d9 (fun z hz => by rw [ht] at hz; cases hz) (by show 2 + 3 < d.2.2.2.2.1; have := hR.1; omega) (by show _ + (13 * 3 + 43) ≤ d.2.2.2.2.2.1; have := hR.2; omega) (by show cells + 1 ≤ mc; omega) (by show slots + 6 ≤ ms; omega) F.2.2.2.2.1 (fun t h1 h2 h3 => ⟨G, k _ (by rw [← c3]; exact h2), fun b z hz => ⟨(c4 b z hz).1.kept (h3 b (va_at.lt (c4 b z hz).1)), (c4 b z hz).2⟩, Nat.le_trans c5.1 h2, fun q g1 g2 => (h3 q (Nat.lt_of_lt_of_le g1 c5.1)).trans (c5.2.1 q g1 g2)⟩) c5.2.2 (by show cells + 1 ≤ mc; omega) (by show slots + 6 ≤ ms; omega)
theorem ms_afterX {p : Program} {l : Launch} {e : Env} {R : Room} {s : State} {m : MethodId} {args a : Array Value} {below : List Frame} {meth : Method} {c : Code} {H H0 : Heap} {locs : List Loc} {cells slots mc ms pc : Nat} {Q : State → Prop} {ls : Array Slot} {rest st0 : List Value} {D : va_G} {cA : Nat → ClassId} {base : Nat} {P' : ms_P}
    (hr : vx_Run p l e R s m args below meth c H locs cells slots mc ms (F0 m pc ls st0) rest (ms_Qc D cA base P' a) (ms_XC D cA base P') (fun q => base ≤ q)) (hS : va_S (fun q => base ≤ q) H0 H locs)
    (kk : ∀ (v : Option Value) (G1 : ms_H) (H1 : Heap) (locs1 : List Loc), P' (.inl v) H1.size G1 → ms_wd D cA base G1 H1 → va_S (fun q => base ≤ q) H0 H1 locs1 → W p l e R s m args below meth c H1 locs1 (cells + mc) (slots + ms) Q (F0 m (pc + 3) ls (v.toList ++ rest)))
    (kx : ∀ (E : String) (G1 : ms_H) (H1 : Heap) (locs1 : List Loc) (q : Addr) (ce : Cell), P' (.inr E) H1.size G1 → ms_wd D cA base G1 H1 → va_S (fun q => base ≤ q) H0 H1 locs1 → H1[q]? = some ce → ce.vm = .none → s.vm.findClass E = some ce.cls → vx_W p l e R s m args below meth c H1 locs1 (cells + mc) (slots + ms) Q (F0 m pc ls rest) q) : W p l e R s m args below meth c H locs cells slots Q (F0 m pc ls st0) := by
  intro T hT X
  have key : ∀ (st₀ t T' : State) (L : List Loc), st₀.heap = H → T'.heap = t.heap → (∀ q ∈ L, base ≤ q.base) → va_F (fun q => base ≤ q) st₀ t → va_S (fun q => base ≤ q) H0 T'.heap (locs ++ L) := by
    intro st₀ t T' L h0 e1 hL hF
    obtain ⟨hz, hk⟩ := hF
    rw [h0] at hz hk
    exact ⟨Nat.le_trans hS.1 (by rw [e1]; exact hz), fun q h1 h2 => by rw [e1, hk q (Nat.lt_of_lt_of_le h1 hS.1) h2]; exact hS.2.1 q h1 h2, fun q hq => by
      rcases List.mem_append.mp hq with h | h
      · exact hS.2.2 q h
      · exact hL q h⟩
  rcases hr T hT X with ⟨v, st₀, t, T', L, h0, X', hL, e1, e2, ⟨v', G1, hv, hp, hw, hF⟩, st⟩ | ⟨q, st₀, t, T', L, E, ce, h0, X', hL, e1, e2, ⟨G1, hp, hw, hF⟩, hce, hcv, hcl, st⟩
  · cases hv
    obtain ⟨t2, a1, b1⟩ := kk v G1 T'.heap (locs ++ L) (by rw [e1]; exact hp) (by rw [e1]; exact hw) (key st₀ t T' L h0 e1 hL hF) T' rfl X'
    exact ⟨t2, st t2 a1, b1⟩
  · obtain ⟨t2, a1, b1⟩ := kx E G1 T'.heap (locs ++ L) q ce (by rw [e1]; exact hp) (by rw [e1]; exact hw) (key st₀ t T' L h0 e1 hL hF) (by rw [e1]; exact hce) hcv hcl T' rfl X'
    exact ⟨t2, st.trans a1, b1⟩
/-- a call inside a try -/
theorem ms_callVX {x : Bool} {d : ms_D} {P : ms_P} {pc : Nat} {lv : List (Nat × Value)} {st : List Value} {n : Nat} {G : ms_H} {kr zr : Nat} {d' : ms_D} {P' : ms_P} {b ci i kc zc n9 : Nat} {As stk fs : List Value} (hdg : decode d.2.1 pc = .ok (.invokevirtual i, 3)) (hM : ms_X d' (.ref b :: As) n G kc zc P') (ok : ms_okV d.1.cls i d' ci n9) (hb : G b = some (.inr (ci, fs))) (hn : As.length = n9) (hR : ms_okR d d') (hst : stk = As.reverse ++ .ref b :: st) (hW : (st.map fun v => v.category).sum ≤ 8)
    (k : ∀ (v : Option Value) (n1 : Nat) (G1 : ms_H), P' (.inl v) n1 G1 → ms_W x d P (pc + 3) lv (v.toList ++ st) n1 G1 kr zr)
    (kx : ∀ (E : String) (n1 : Nat) (G1 : ms_H) (q : Nat), P' (.inr E) n1 G1 → ∃ hpc : Nat, ms_hd d E pc hpc ∧ ms_W x d P hpc lv [.ref q] n1 G1 kr zr) (hs9 : d'.2.2.2.2.2.2.2 = none ∨ d'.2.2.2.2.2.2.2 = d.2.2.2.2.2.2.2 := by first | exact Or.inl rfl | exact Or.inr rfl) : ms_W x d P pc lv stk n G (kc + kr) (zc + zr) := by
  intro mc ms p l e s m args below meth c D cA base H locs cells slots ls F c1 c2 c3 c4 c5 c6
  obtain ⟨o1, o2, ⟨T9, N9, o3⟩, o4, o5⟩ := ok
  have hws9 : ms_ws d' = .code d'.1 d'.2.1 d'.2.2.1 d'.2.2.2.1 :: ms_big := by unfold ms_ws; rw [ms_cd_nil o5]
  have hl : l.flags = flags0 := F.2.2.2.2.2.2.2.2.2.1
  refine ms_afterX (P' := P') (vx_runV (As := As) (rest := st) (C := d'.1.cls) (b := b) ⟨F.exec, F.code, F.2.2.2.1, F.own, F.big⟩ (hM l hl D cA base) (cwV n9 F.big (ms_good ?_) hws9 rfl rfl ⟨rfl, o4.1, o4.2.1, o4.2.2⟩ hR) ⟨ms_Pc.blind, va_recv F.K (c4.P1 hb) o3 (q0 := 0) rfl, fun U hU hW9 => ⟨rfl, by rw [hU]; exact c3, by rw [hU]; exact c4, F.SE.to hU hW9 c5, by have := F.low; have := c5.1; omega, F.sc hs9 hU hW9 c5⟩⟩ rfl hn c6.1 hst (by show 2 * 0 + _ ≤ 8; omega) hdg ⟨by show cells + kc ≤ mc; omega, by show slots + zc ≤ ms; omega⟩) c5 ?_ ?_
  · intro w hw
    unfold wsV ms_ws at hw
    rcases List.mem_append.mp hw with h | h
    · rcases List.mem_cons.mp h with h | h
      · rw [h]; exact o1
      · exact o2 w (by simp only [List.mem_cons] at h ⊢; rcases h with h | h | h | h <;> simp [h] <;> cases h)
    · rcases List.mem_cons.mp h with h | h
      · exact o2 w (by rw [h]; simp)
      · exact h
  · intro v G1 H1 locs1 hp hw hS
    exact k v H1.size G1 hp mc ms p l e s m args below meth c D cA base H1 locs1 (cells + kc) (slots + zc) ls F (by omega) (by omega) rfl hw hS c6
  · intro E G1 H1 locs1 q ce hp hw hS hce hcv hcl
    obtain ⟨hpc, ⟨pre, suf, z, name, t1, t2, t3, t4, t5, t6, t8, t7⟩, hk⟩ := kx E H1.size G1 q hp
    subst t7
    subst t6
    exact vx_catch F.own pre z suf (F.2.2.2.2.2.2.2.2.2.2.1.trans t1) (fun y hy => Or.inr ⟨(t2 y hy).1, (t2 y hy).2.elim fun nm h => ⟨nm, F.big _ h.1, F.SE.2.2.2.2.2.2.2.2.1 _ h.2⟩⟩) t3 t4 (F.big _ t5) (ms_cas (F.SE.2.2.2.2.2.2.2.2.2.1 _ t8)) hce hcv hcl (hk mc ms p l e s m args below meth c D cA base H1 locs1 (cells + kc) (slots + zc) ls F (by omega) (by omega) rfl hw hS c6)
/-- a static call of a method with handlers, that throws nothing -/
theorem ms_callSX {x : Bool} {d : ms_D} {P : ms_P} {pc : Nat} {lv : List (Nat × Value)} {st : List Value} {n : Nat} {G : ms_H} {kr zr : Nat} {d' : ms_D} {P' : ms_P} {i kc zc n9 : Nat} {As stk : List Value} (hdg : decode d.2.1 pc = .ok (.invokestatic i, 3)) (hM : ms_X d' As n G kc zc P') (ok : ms_okS d.1.cls i d' n9) (hh : ¬ d'.2.2.2.2.2.2.1 = []) (hn : As.length = n9) (hR : ms_okR d d') (hst : stk = As.reverse ++ st) (hW : (st.map fun v => v.category).sum ≤ 8)
    (k : ∀ (v : Option Value) (n1 : Nat) (G1 : ms_H), P' (.inl v) n1 G1 → ms_W x d P (pc + 3) lv (v.toList ++ st) n1 G1 kr zr) (kx : ∀ (E : String) (n1 : Nat) (G1 : ms_H), ¬ P' (.inr E) n1 G1) (hs9 : d'.2.2.2.2.2.2.2 = none ∨ d'.2.2.2.2.2.2.2 = d.2.2.2.2.2.2.2 := by first | exact Or.inl rfl | exact Or.inr rfl) : ms_W x d P pc lv stk n G (kc + kr) (zc + zr) := by
  intro mc ms p l e s m args below meth c D cA base H locs cells slots ls F c1 c2 c3 c4 c5 c6
  obtain ⟨o0, o1, o2, o4⟩ := ok
  have hws9 : ms_ws d' = .codeWith d'.1 d'.2.1 d'.2.2.1 d'.2.2.2.1 d'.2.2.2.2.2.2.1 :: ms_big := by unfold ms_ws; rw [ms_cd_cons hh]
  have hl : l.flags = flags0 := F.2.2.2.2.2.2.2.2.2.1
  refine ms_afterX (P' := P') (vx_runSX (hh := d'.2.2.2.2.2.2.1) (As := As) (rest := st) ⟨F.exec, F.code, F.2.2.2.1, F.own, F.big⟩ (hM l hl D cA base) (vx_cwSW n9 F.big (ms_good ?_) hws9 rfl rfl ⟨o4.1, o4.2.1, o4.2.2⟩ hR) ⟨ms_Pc.blind, fun U hU hW9 => ⟨rfl, by rw [hU]; exact c3, by rw [hU]; exact c4, F.SE.to hU hW9 c5, by have := F.low; have := c5.1; omega, F.sc hs9 hU hW9 c5⟩⟩ rfl hn c6.1 hst (by show 2 * 0 + _ ≤ 8; omega) hdg ⟨by show cells + kc ≤ mc; omega, by show slots + zc ≤ ms; omega⟩) c5 ?_ ?_
  · intro w hw
    unfold va_wsS ms_ws at hw
    rcases List.mem_append.mp hw with h | h
    · rcases List.mem_cons.mp h with h | h
      · rw [h]; exact o1
      · exact o2 w (by simp only [List.mem_cons] at h ⊢; rcases h with h | h | h <;> simp [h, o0] <;> cases h)
    · rcases List.mem_cons.mp h with h | h
      · exact o2 w (by rw [h]; simp)
      · exact h
  · intro v G1 H1 locs1 hp hw hS
    exact k v H1.size G1 hp mc ms p l e s m args below meth c D cA base H1 locs1 (cells + kc) (slots + zc) ls F (by omega) (by omega) rfl hw hS c6
  · intro E G1 H1 locs1 q ce hp hw hS hce hcv hcl
    exact absurd hp (kx E H1.size G1)

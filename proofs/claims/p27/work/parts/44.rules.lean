/-! more rules: int constants, or, shift, rows of rows of rows, copies of references, calls of methods with handlers, multianewarray -/
section RULES
variable {x : Bool} {d : ms_D} {P : ms_P} {pc : Nat} {lv : List (Nat × Value)} {st : List Value} {n : Nat} {G : ms_H} {kr zr : Nat}
theorem ms_ldcI {j : Nat} {v : Int32} (hdg : decode d.2.1 pc = .ok (.ldc j, 2)) (hc : Cond.constant d.1.cls j v ∈ ms_big) (k : ms_W x d P (pc + 2) lv (.int v :: st) n G kr zr) : ms_W x d P pc lv st n G kr zr := by
  intro mc ms p l e s m args below meth c D cA base H locs cells slots ls F c1 c2 c3 c4 c5 c6
  exact lv_ldc F.exec F.code F.own (F.big _ hc) hdg (k mc ms p l e s m args below meth c D cA base H locs cells slots ls F c1 c2 c3 c4 c5 c6)
theorem ms_ior {y z : Int32} (hdg : decode d.2.1 pc = .ok (.ior, 1)) (k : ms_W x d P (pc + 1) lv (.int (z ||| y) :: st) n G kr zr) : ms_W x d P pc lv (.int y :: .int z :: st) n G kr zr := by
  intro mc ms p l e s m args below meth c D cA base H locs cells slots ls F c1 c2 c3 c4 c5 c6
  exact lv_ior F.exec F.code hdg (k mc ms p l e s m args below meth c D cA base H locs cells slots ls F c1 c2 c3 c4 c5 c6)
theorem ms_ishr {y z : Int32} (hdg : decode d.2.1 pc = .ok (.ishr, 1)) (k : ms_W x d P (pc + 1) lv (.int (z >>> (y &&& 31)) :: st) n G kr zr) : ms_W x d P pc lv (.int y :: .int z :: st) n G kr zr := by
  intro mc ms p l e s m args below meth c D cA base H locs cells slots ls F c1 c2 c3 c4 c5 c6
  exact lv_ishr F.exec F.code hdg (k mc ms p l e s m args below meth c D cA base H locs cells slots ls F c1 c2 c3 c4 c5 c6)
theorem ms_aaloadB {a N : Nat} {i : Int32} {f : Nat → Option Nat} (hdg : decode d.2.1 pc = .ok (.aaload, 1)) (ha : G a = some (.inl (2, N, .inr (.inr (.inr (.inr f)))))) (hin : vp_in i N) (k : ms_W x d P (pc + 1) lv (va_rf (f i.toNatClampNeg) :: st) n G kr zr) : ms_W x d P pc lv (.int i :: .ref a :: st) n G kr zr := by
  intro mc ms p l e s m args below meth c D cA base H locs cells slots ls F c1 c2 c3 c4 c5 c6
  have hlt : i.toNatClampNeg < N := Nat.not_le.mp fun q => hin (Or.inr q)
  exact W.aald (v := va_rf (f i.toNatClampNeg)) (ty := .array (.array .int)) F.exec F.code (c4.P1 ha 0 _ rfl) ((F.K.2 2 _ rfl).1 N (fun j => va_rf (f j))) rfl (fun q => by cases q) (by show ¬ (i < 0 ∨ (arrV _ _ _).slots.size ≤ _); rw [arrV_size]; exact hin) (by show (arrV _ _ _).slots[_]? = _; rw [arrV_read _ _ hlt]) rfl rfl hdg (k mc ms p l e s m args below meth c D cA base H locs cells slots ls F c1 c2 c3 c4 c5 c6)
theorem ms_newB {i : Nat} {v : Int32} {N : Nat} (hdg : decode d.2.1 pc = .ok (.anewarray i, 3)) (hw : Cond.classLink d.1.cls i "[[I" ∈ ms_big) (h0 : ¬ v < 0) (hN : v.toNatClampNeg = N) (hb : N * 4 ≤ 536870912) (k : ms_W x d P (pc + 3) lv (.ref n :: st) (n + 1) (ms_up G n (.inl (2, N, .inr (.inr (.inr (.inr (fun _ => none))))))) kr zr) : ms_W x d P pc lv (.int v :: st) n G (1 + kr) (N + zr) := by
  intro mc ms p l e s m args below meth c D cA base H locs cells slots ls F c1 c2 c3 c4 c5 c6
  subst hN
  refine W.anewA (t := .array .int) F.exec F.code F.own (F.big _ hw) (over_moved (u := s) (E := s) (Vm.Alike.refl s.vm) F.SE.2.2.2.2.1.2) rfl hdg rfl h0 hb (show cells + 1 ≤ mc by omega) (show slots + v.toNatClampNeg ≤ ms by omega) fun cB kA comp f1 f2 f3 f4 => ?_
  have hcB : cB = cA 2 := Option.some.inj (f1.symm.trans (F.K.2 2 _ rfl).2)
  subst hcB
  generalize hH1 : H.push ({ cls := cA 2, slots := Array.replicate v.toNatClampNeg .null, vm := .none } : Cell) = H1
  have z1 : H1.size = n + 1 := by rw [← hH1, Array.size_push, c3]
  have e1 : H1[n]? = some (arrV (cA 2) v.toNatClampNeg (fun _ => .null)) := by rw [← hH1, ← c3, Array.getElem?_push_size, ← arrV_new]
  have b1 : ∀ q : Nat, q < n → H1[q]? = H[q]? := fun q hq => by rw [← hH1, Array.getElem?_push, if_neg (by rw [c3]; omega)]
  rw [c3]
  exact k mc ms p l e s m args below meth c D cA base H1 locs (cells + 1) (slots + v.toNatClampNeg) ls F (by omega) (by omega) z1 (c4.new c3 (by have := F.low; have := c5.1; omega) e1 b1) ⟨by have := c5.1; omega, fun q h1 h2 => (b1 q (by have := c5.1; omega)).trans (c5.2.1 q h1 h2), c5.2.2⟩ c6
theorem ms_aastoreB {a N b M : Nat} {i : Int32} {g : Nat → Option Nat} {f : Nat → Option Nat} (hdg : decode d.2.1 pc = .ok (.aastore, 1)) (ha : G a = some (.inl (2, N, .inr (.inr (.inr (.inr f)))))) (hb : G b = some (.inl (4, M, .inr (.inr (.inr (.inr g)))))) (hin : vp_in i N) (k : ms_W x d P (pc + 1) lv st n (ms_up G a (.inl (2, N, .inr (.inr (.inr (.inr (va_up f i.toNatClampNeg (some b)))))))) kr zr) : ms_W x d P pc lv (.ref b :: .int i :: .ref a :: st) n G kr zr := by
  intro mc ms p l e s m args below meth c D cA base H locs cells slots ls F c1 c2 c3 c4 c5 c6
  have hba := (c4 a _ ha).2
  have hlt : i.toNatClampNeg < N := Nat.not_le.mp fun q => hin (Or.inr q)
  have h0 : ¬ i < 0 := fun q => hin (Or.inl q)
  have hcb : H[b]? = some (vp_cell (cA 4) (M, .inr (.inr (.inr (.inr g))))) := c4.P1 hb 0 _ rfl
  obtain ⟨comp, cB, kA, hcomp, -, hkA, hkind, hname⟩ := arrayOverA_spec (t := .array .int) (args := #[]) F.SE.2.2.2.2.1.2
  have hcB : cB = cA 2 := Option.some.inj (hname.symm.trans (F.K.2 2 _ rfl).2)
  subst hcB
  have hcm : comp = cA 4 := Option.some.inj (hcomp.symm.trans (F.K.2 4 _ rfl).2)
  subst hcm
  obtain ⟨kC, hkC, -⟩ := Vm.findClass_spec hcomp
  refine W.aast F.exec F.code (c4.P1 ha 0 _ rfl) (fun q h => by cases h) (fun h => by cases h) hkA hkind rfl hkC ⟨h0, by show _ < (arrV _ _ _).slots.size; rw [arrV_size]; exact hlt⟩ hcb (fun q h => by cases h) hkC (ms_asg _ _) rfl rfl hdg fun H1 h9 z oq => ?_
  refine k mc ms p l e s m args below meth c D cA base H1 _ cells slots ls F c1 c2 (z.trans c3) (c4.set ha ?_ oq) (c5.put z oq hba) c6
  show H1[a]? = some (vp_cell _ _)
  rw [h9]
  rw [vp_cell_q, vp_cell_q, arrV_store]
  congr 2
  funext q
  by_cases hq : q = i.toNatClampNeg
  · subst hq
    simp [updV, va_up, va_rf]
  · simp [updV, va_up, hq]
/-- rows of rows, copied -/
theorem ms_copyA {i a0 a n0 n1 : Nat} {f g : Nat → Option Nat} {sp dp z : Int32} (hdg : decode d.2.1 pc = .ok (.invokestatic i, 3)) (hw : ∀ w ∈ [Cond.methodLink d.1.cls i arraycopyName, Cond.native arraycopyName, Cond.static arraycopyName, Cond.initialized "java/lang/System"], w ∈ ms_big) (ha0 : G a0 = some (.inl (4, n0, .inr (.inr (.inr (.inr f)))))) (ha : G a = some (.inl (4, n1, .inr (.inr (.inr (.inr g))))))
    (h1 : ¬ sp < 0) (h2 : ¬ dp < 0) (h3 : ¬ z < 0) (h4 : sp.toNatClampNeg + z.toNatClampNeg ≤ n0) (h5 : dp.toNatClampNeg + z.toNatClampNeg ≤ n1) (hel : ∀ i, i < z.toNatClampNeg → ∀ y, f (sp.toNatClampNeg + i) = some y → ∃ M h, G y = some (.inl (0, M, .inl h))) (hR : 1 ≤ d.2.2.2.2.1 ∧ 8 + (nativeFrameWords "java/lang/System" "arraycopy" 5 + 11) ≤ d.2.2.2.2.2.1) (hW : (st.map fun v => v.category).sum ≤ 8)
    (k : ms_W x d P (pc + 3) lv st n (ms_up G a (.inl (4, n1, .inr (.inr (.inr (.inr (va_cpy f g sp.toNatClampNeg dp.toNatClampNeg z.toNatClampNeg))))))) kr zr) : ms_W x d P pc lv (.int z :: .int dp :: .ref a :: .int sp :: .ref a0 :: st) n G kr zr := by
  intro mc ms p l e s m args below meth c D cA base H locs cells slots ls F c1 c2 c3 c4 c5 c6
  have nn : ∀ z : Int32, ¬ z < 0 → z.toInt = (z.toNatClampNeg : Int) := by
    intro z hz
    have hz0 : (0 : Int) ≤ z.toInt := by
      have := Int32.not_lt.mp hz
      simpa using Int32.le_iff_toInt_le.mp this
    show z.toInt = ((z.toInt.toNat : Nat) : Int)
    omega
  intro T hT X
  have hc0 : H[a0]? = some (vp_cell (cA 4) (n0, .inr (.inr (.inr (.inr f))))) := c4.P1 ha0 0 _ rfl
  have hc1 : H[a]? = some (vp_cell (cA 4) (n1, .inr (.inr (.inr (.inr g))))) := c4.P1 ha 0 _ rfl
  obtain ⟨comp, cB, kA, hcomp, -, hkA, hkind, hname⟩ := arrayOverA_spec (t := .int) (args := #[]) F.SE.2.2.2.2.1.1
  have hcB : cB = cA 4 := Option.some.inj (hname.symm.trans (F.K.2 4 _ rfl).2)
  subst hcB
  have hcm : comp = cA 0 := Option.some.inj (hcomp.symm.trans (F.K.2 0 _ rfl).2)
  subst hcm
  obtain ⟨kC, hkC, -⟩ := Vm.findClass_spec hcomp
  obtain ⟨vm', X', step⟩ := X.arraycopy F.exec F.own (F.big (Cond.methodLink d.1.cls i arraycopyName) (hw _ (by simp))) (F.big (Cond.native arraycopyName) (hw _ (by simp))) (F.big (Cond.static arraycopyName) (hw _ (by simp))) (F.big (Cond.initialized "java/lang/System") (hw _ (by simp))) (src := a0) (dst := a) (cs := vp_cell (cA 4) (n0, .inr (.inr (.inr (.inr f))))) (cd := vp_cell (cA 4) (n1, .inr (.inr (.inr (.inr g))))) (srcPos := sp) (destPos := dp) (n := z) (by rw [hT]; exact hc0) (by rw [hT]; exact hc1)
    (fun _ h => by cases h) (fun _ h => by cases h) (fun h => by cases h) (fun h => by cases h) hkA hkA hkind hkind rfl h1 h2 h3
    (by rw [nn sp h1, nn z h3]; show ¬ _ > ((arrV (cA 4) n0 (fun j => va_rf (f j))).slots.size : Int); rw [arrV_size]; omega)
    (by rw [nn dp h2, nn z h3]; show ¬ _ > ((arrV (cA 4) n1 (fun j => va_rf (g j))).slots.size : Int); rw [arrV_size]; omega)
    (fun vm₁ hal i hi => by
      have e : (vp_cell (cA 4) (n0, .inr (.inr (.inr (.inr f))))).slots.getD (sp.toNatClampNeg + i) .null = va_rf (f (sp.toNatClampNeg + i)) := by
        show (arrV (cA 4) n0 (fun j => va_rf (f j))).slots.getD _ _ = _
        rw [Array.getD_eq_getD_getElem?, arrV_read _ _ (by omega)]
        rfl
      rw [e]
      cases hy : f (sp.toNatClampNeg + i) with
      | none => exact ⟨rfl, trivial⟩
      | some y =>
        obtain ⟨M, h, hG⟩ := hel i hi y hy
        have g1 : H[y]? = some (vp_cell (cA 0) (M, .inl h)) := c4.P1 hG 0 _ rfl
        obtain ⟨kC', hkC', -⟩ := hal.2.2 _ _ hkC
        refine ⟨rfl, _, (by show T.heap[y]? = _; rw [hT]; exact g1), (fun q h => by cases h), ⟨kC', hkC'⟩, ?_, ?_⟩
        · exact ⟨kC', hkC'⟩
        · exact ms_asg _ _)
    (g := F0 m pc ls (.int z :: .int dp :: .ref a :: .int sp :: .ref a0 :: st)) rfl (c6.1.trans F.2.2.2.1.symm) (rest := st) rfl (by rw [F.code]; exact hdg) hR.1 (by have := hR.2; show 2 * 0 + _ + _ ≤ d.2.2.2.2.2.1; omega)
  have e1 : copied (vp_cell (cA 4) (n0, .inr (.inr (.inr (.inr f))))) (vp_cell (cA 4) (n1, .inr (.inr (.inr (.inr g))))) sp dp z = vp_cell (cA 4) (n1, .inr (.inr (.inr (.inr (va_cpy f g sp.toNatClampNeg dp.toNatClampNeg z.toNatClampNeg))))) := by
    rw [vp_cell_q, vp_cell_q, vp_cell_q]
    exact va_copied (fun z => va_rf z) (cA 4) (cA 4) f g h4
  rw [e1] at X' step
  have hl : a < H.size := (Array.getElem?_eq_some_iff.mp hc1).1
  have hheap : ((T.setVm vm').setCell a (vp_cell (cA 4) (n1, .inr (.inr (.inr (.inr (va_cpy f g sp.toNatClampNeg dp.toNatClampNeg z.toNatClampNeg))))))).heap = H.setIfInBounds a (vp_cell (cA 4) (n1, .inr (.inr (.inr (.inr (va_cpy f g sp.toNatClampNeg dp.toNatClampNeg z.toNatClampNeg)))))) := by rw [← hT]; rfl
  have oq : ∀ q : Nat, q ≠ a → (H.setIfInBounds a (vp_cell (cA 4) (n1, .inr (.inr (.inr (.inr (va_cpy f g sp.toNatClampNeg dp.toNatClampNeg z.toNatClampNeg)))))))[q]? = H[q]? := fun q hq => by simp [Array.getElem?_setIfInBounds, Ne.symm hq]
  have hba := (c4 a _ ha).2
  obtain ⟨t, a1, b1⟩ := k mc ms p l e s m args below meth c D cA base _ _ cells slots ls F c1 c2 (by rw [Array.size_setIfInBounds]; exact c3) (c4.set ha (show (H.setIfInBounds a _)[a]? = some _ by simp [Array.getElem?_setIfInBounds, hl]) oq) ⟨by simp; exact c5.1, fun q g1 g2 => by
      rw [oq q (fun e => g2 (by rw [e]; exact hba))]
      exact c5.2.1 q g1 g2, fun q hq => by
      rcases List.mem_append.mp hq with h | h
      · exact c5.2.2 q h
      · obtain ⟨z, -, hz⟩ := List.mem_map.mp h
        rw [← hz]
        exact hba⟩ c6 _ hheap X'
  exact ⟨t, step t a1, b1⟩
/-- a virtual call of a method with handlers, that throws nothing -/
theorem ms_callVH {d' : ms_D} {P' : ms_P} {b ci i kc zc n9 : Nat} {As stk fs : List Value} (hdg : decode d.2.1 pc = .ok (.invokevirtual i, 3)) (hM : ms_X d' (.ref b :: As) n G kc zc P') (ok : ms_okVH d.1.cls i d' ci n9) (hb : G b = some (.inr (ci, fs))) (hn : As.length = n9) (hR : ms_okR d d') (hst : stk = As.reverse ++ .ref b :: st) (hW : (st.map fun v => v.category).sum ≤ 8)
    (k : ∀ (v : Option Value) (n1 : Nat) (G1 : ms_H), P' (.inl v) n1 G1 → ms_W x d P (pc + 3) lv (v.toList ++ st) n1 G1 kr zr) (kx : ∀ (E : String) (n1 : Nat) (G1 : ms_H), ¬ P' (.inr E) n1 G1) (hs9 : d'.2.2.2.2.2.2.2 = none ∨ d'.2.2.2.2.2.2.2 = d.2.2.2.2.2.2.2 := by first | exact Or.inl rfl | exact Or.inr rfl) : ms_W x d P pc lv stk n G (kc + kr) (zc + zr) := by
  intro mc ms p l e s m args below meth c D cA base H locs cells slots ls F c1 c2 c3 c4 c5 c6
  obtain ⟨o1, o2, ⟨T9, N9, o3⟩, o4, o5⟩ := ok
  have hws9 : ms_ws d' = .codeWith d'.1 d'.2.1 d'.2.2.1 d'.2.2.2.1 d'.2.2.2.2.2.2.1 :: ms_big := by unfold ms_ws; rw [ms_cd_cons o5]
  have hl : l.flags = flags0 := F.2.2.2.2.2.2.2.2.2.1
  refine ms_afterX (P' := P') (vx_runVX (hh := d'.2.2.2.2.2.2.1) (As := As) (rest := st) (C := d'.1.cls) (b := b) ⟨F.exec, F.code, F.2.2.2.1, F.own, F.big⟩ (hM l hl D cA base) (vx_cwVW n9 F.big (ms_good ?_) hws9 rfl rfl ⟨rfl, o4.1, o4.2.1, o4.2.2⟩ hR) ⟨ms_Pc.blind, va_recv F.K (c4.P1 hb) o3 (q0 := 0) rfl, fun U hU hW9 => ⟨rfl, by rw [hU]; exact c3, by rw [hU]; exact c4, F.SE.to hU hW9 c5, by have := F.low; have := c5.1; omega, F.sc hs9 hU hW9 c5⟩⟩ rfl hn c6.1 hst (by show 2 * 0 + _ ≤ 8; omega) hdg ⟨by show cells + kc ≤ mc; omega, by show slots + zc ≤ ms; omega⟩) c5 ?_ ?_
  · intro w hw
    unfold wsV ms_ws at hw
    rcases List.mem_append.mp hw with h | h
    · rcases List.mem_cons.mp h with h | h
      · rw [h]; exact o1
      · exact o2 w (by simp only [List.mem_cons] at h ⊢; rcases h with h | h | h | h <;> simp [h] <;> cases h)
    · rcases List.mem_cons.mp h with h | h
      · exact o2 w (by rw [h]; simp)
      · exact h
  · intro v G1 H1 locs1 hp hw hS
    exact k v H1.size G1 hp mc ms p l e s m args below meth c D cA base H1 locs1 (cells + kc) (slots + zc) ls F (by omega) (by omega) rfl hw hS c6
  · intro E G1 H1 locs1 q ce hp hw hS hce hcv hcl
    exact absurd hp (kx E H1.size G1)
end RULES

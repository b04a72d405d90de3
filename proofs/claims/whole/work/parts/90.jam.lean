/-! numbers: jams. jE: both are in a jam and beside each other; jR: one leads to the other; L: of each the least one of its jam -/
def jE (jb : Nat → Bool) (nb : Nat → Nat → Int32) (a b : Nat) : Prop := jb a = true ∧ jb b = true ∧ ∃ s, s < 4 ∧ nb a s = nI b
def jR (jb : Nat → Bool) (nb : Nat → Nat → Int32) (v k : Nat) : Prop := ∀ S : Nat → Prop, S v → (∀ a b, S a → jE jb nb a b → S b) → S k
theorem jR.rf {jb : Nat → Bool} {nb : Nat → Nat → Int32} {v : Nat} : jR jb nb v v := fun _ h _ => h
theorem jR.to {jb : Nat → Bool} {nb : Nat → Nat → Int32} {v a b : Nat} (h : jR jb nb v a) (e : jE jb nb a b) : jR jb nb v b := fun S h1 h2 => h2 a b (h S h1 h2) e
def jL (jb : Nat → Bool) (nb : Nat → Nat → Int32) (L : Nat → Nat) : Prop := (∀ k, jb k = true → L k ≤ k ∧ jb (L k) = true ∧ jR jb nb (L k) k) ∧ ∀ a b, jE jb nb a b → L a = L b
theorem jL.idem {jb : Nat → Bool} {nb : Nat → Nat → Int32} {L : Nat → Nat} (h : jL jb nb L) {k : Nat} (hk : jb k = true) : L (L k) = L k := by
  have h1 := (h.1 k hk).2.2 (fun o => L o = L (L k)) rfl (fun a b ha e => by
    show L b = _
    rw [← h.2 a b e]; exact ha)
  exact h1.symm
def jRt (jb : Nat → Bool) (L : Nat → Nat) (k : Nat) : Bool := decide (jb k = true ∧ L k = k)
def jIn (jb : Nat → Bool) (L : Nat → Nat) (v o : Nat) : Bool := decide (jb o = true ∧ L o = v)
def jLt (jb : Nat → Bool) (L : Nat → Nat) (i o : Nat) : Bool := decide (jb o = true ∧ L o < i)
def jNo (jb : Nat → Bool) (L : Nat → Nat) (i : Nat) : Nat → Int32 := fun o => if jb o = true ∧ L o < i then nI (ct (jRt jb L) (L o)) else -1
/-- what the gathering holds -/
def gI (jb : Nat → Bool) (L : Nat → Nat) (jo : Nat → Int32) (cn : Int32) (i cnt : Nat) (S : jmS) : Prop := S.2.length = ct (fun o => decide (o ∈ S.2)) cnt ∧ (∀ o ∈ S.2, jb o = true ∧ L o = i) ∧ S.1 = fun o => if o ∈ S.2 then cn else jo o
theorem gI.len {jb : Nat → Bool} {L : Nat → Nat} {jo : Nat → Int32} {cn : Int32} {i cnt : Nat} {S : jmS} (h : gI jb L jo cn i cnt S) : S.2.length ≤ cnt := by rw [h.1]; exact ct_le _ _
theorem gb1_g {jb : Nat → Bool} {nb : Nat → Nat → Int32} {L : Nat → Nat} {jo : Nat → Int32} {cn : Int32} {i cnt k s : Nat} {S : jmS} (hc : cnt ≤ 24) (hjb : ∀ o, jb o = true → o < cnt) (hL : jL jb nb L) (hcn : ¬ cn = -1) (hjo : ∀ o, jb o = true → L o = i → jo o = -1) (hs : s < 4) (hk : k ∈ S.2) (h : gI jb L jo cn i cnt S) :
    gI jb L jo cn i cnt (gb1 jb nb cn k s S) ∧ (∀ o, o ∈ S.2 → o ∈ (gb1 jb nb cn k s S).2) ∧ (∃ T, (gb1 jb nb cn k s S).2 = S.2 ++ T) ∧ ∀ o, jb o = true → nb k s = nI o → o ∈ (gb1 jb nb cn k s S).2 := by
  have hkj := h.2.1 k hk
  unfold gb1
  split
  · next hcn9 =>
    obtain ⟨⟨p1, p2, p3, p4⟩, p5⟩ := hcn9
    obtain ⟨o, ho, he⟩ := nI_of (Int32.not_lt.mpr p1)
    have ho24 : o < 24 := (nI_ltI ho (by omega)).mp (show nI o < nI 24 from by rw [← he]; exact p2)
    rw [he, nI_clamp (n := o) (by omega)] at p3 p4 ⊢
    have hLo : L o = i := by rw [← hkj.2]; exact (hL.2 k o ⟨hkj.1, p4, s, hs, he⟩).symm
    have hno : o ∉ S.2 := fun z => by
      rw [h.2.2] at p3
      simp only [if_pos z] at p3
      exact hcn p3
    refine ⟨⟨?_, ?_, ?_⟩, fun o9 h9 => List.mem_append_left _ h9, ⟨[o], rfl⟩, fun o9 h9 e9 => ?_⟩
    · show (S.2 ++ [o]).length = ct (fun x => decide (x ∈ S.2 ++ [o])) cnt
      rw [List.length_append, h.1]
      symm
      refine ct_add (p := fun x => decide (x ∈ S.2)) (j := o) (decide_eq_false hno) (decide_eq_true (by simp)) (fun x hx => ?_) (hjb o p4)
      refine ba ?_
      rw [decide_eq_true_eq, decide_eq_true_eq, List.mem_append, List.mem_singleton]
      exact ⟨fun z => z.resolve_right hx, Or.inl⟩
    · intro x hx
      rcases List.mem_append.mp hx with h1 | h1
      · exact h.2.1 x h1
      · rw [List.mem_singleton.mp h1]; exact ⟨p4, hLo⟩
    · show upd S.1 o cn = fun x => if x ∈ S.2 ++ [o] then cn else jo x
      funext x
      unfold upd
      by_cases e : x = o
      · rw [if_pos e, if_pos (by rw [e]; simp)]
      · rw [if_neg e, h.2.2]
        by_cases e2 : x ∈ S.2
        · simp only [if_pos e2]; rw [if_pos (List.mem_append_left _ e2)]
        · simp only [if_neg e2]; rw [if_neg (fun z => by rcases List.mem_append.mp z with z1 | z1; exact e2 z1; exact e (List.mem_singleton.mp z1))]
    · have h24 := hjb o9 h9
      have : o9 = o := ((nI_eq (by omega) (by omega)).mp e9).symm
      rw [this]
      simp
  · next hcn9 =>
    refine ⟨h, fun o h9 => h9, ⟨[], (List.append_nil _).symm⟩, fun o h9 e9 => ?_⟩
    have h24 := hjb o h9
    have hLo : L o = i := by rw [← hkj.2]; exact (hL.2 k o ⟨hkj.1, h9, s, hs, e9⟩).symm
    refine Decidable.byContradiction (fun hno => hcn9 ⟨⟨?_, ?_, ?_, ?_⟩, ?_⟩)
    · rw [e9]; exact nI_pos' (by omega)
    · rw [e9]; exact show nI o < nI 24 from nI_lt (by omega) (by omega)
    · rw [e9, nI_clamp (n := o) (by omega), h.2.2]
      simp only [if_neg hno]
      exact hjo o h9 hLo
    · rw [e9, nI_clamp (n := o) (by omega)]; exact h9
    · rw [h.1]
      exact Nat.lt_of_lt_of_le (ct_lt (j := o) (decide_eq_false hno) h24) hc
theorem gbS_g {jb : Nat → Bool} {nb : Nat → Nat → Int32} {L : Nat → Nat} {jo : Nat → Int32} {cn : Int32} {i cnt k : Nat} {S : jmS} (hc : cnt ≤ 24) (hjb : ∀ o, jb o = true → o < cnt) (hL : jL jb nb L) (hcn : ¬ cn = -1) (hjo : ∀ o, jb o = true → L o = i → jo o = -1) (hk : k ∈ S.2) (h : gI jb L jo cn i cnt S) : ∀ s, s ≤ 4 →
    gI jb L jo cn i cnt (gbS jb nb cn k S s) ∧ (∀ o, o ∈ S.2 → o ∈ (gbS jb nb cn k S s).2) ∧ (∃ T, (gbS jb nb cn k S s).2 = S.2 ++ T) ∧ ∀ o s9, s9 < s → jb o = true → nb k s9 = nI o → o ∈ (gbS jb nb cn k S s).2
  | 0, _ => ⟨h, fun o h9 => h9, ⟨[], (List.append_nil _).symm⟩, fun o s9 h9 => absurd h9 (Nat.not_lt_zero s9)⟩
  | s + 1, hs => by
    obtain ⟨a1, a2, ⟨T1, a3⟩, a4⟩ := gbS_g hc hjb hL hcn hjo hk h s (by omega)
    obtain ⟨b1, b2, ⟨T2, b3⟩, b4⟩ := gb1_g (s := s) hc hjb hL hcn hjo (by omega) (a2 k hk) a1
    refine ⟨b1, fun o h9 => b2 o (a2 o h9), ⟨T1 ++ T2, ?_⟩, fun o s9 h9 e1 e2 => ?_⟩
    · show (gb1 jb nb cn k s (gbS jb nb cn k S s)).2 = _
      rw [b3, a3, List.append_assoc]
    · by_cases e : s9 = s
      · subst e; exact b4 o e1 e2
      · exact b2 o (a4 o s9 (by omega) e1 e2)
theorem gbM_g {jb : Nat → Bool} {nb : Nat → Nat → Int32} {L : Nat → Nat} {jo : Nat → Int32} {cn : Int32} {i cnt : Nat} (hc : cnt ≤ 24) (hjb : ∀ o, jb o = true → o < cnt) (hL : jL jb nb L) (hcn : ¬ cn = -1) (hjo : ∀ o, jb o = true → L o = i → jo o = -1) : ∀ (r h : Nat) (S : jmS), 24 ≤ h + r → gI jb L jo cn i cnt S → (∀ q k, q < h → S.2[q]? = some k → ∀ o s9, s9 < 4 → jb o = true → nb k s9 = nI o → o ∈ S.2) →
    gI jb L jo cn i cnt (gbM jb nb cn r h S) ∧ (∀ o, o ∈ S.2 → o ∈ (gbM jb nb cn r h S).2) ∧ ∀ k, k ∈ (gbM jb nb cn r h S).2 → ∀ o s9, s9 < 4 → jb o = true → nb k s9 = nI o → o ∈ (gbM jb nb cn r h S).2
  | 0, h, S, hr, hS, hd => ⟨hS, fun o h9 => h9, fun k hk o s9 h1 h2 h3 => by
      obtain ⟨q, hq, e⟩ := List.getElem_of_mem (show k ∈ S.2 from hk)
      have := hS.len
      exact hd q k (by omega) (by rw [List.getElem?_eq_getElem hq, e]) o s9 h1 h2 h3⟩
  | r + 1, h, S, hr, hS, hd => by
    cases hq : S.2[h]? with
    | none =>
      rw [gbM_n hq]
      refine ⟨hS, fun o h9 => h9, fun k hk o s9 h1 h2 h3 => ?_⟩
      obtain ⟨q, hq2, e⟩ := List.getElem_of_mem hk
      have := List.getElem?_eq_none_iff.mp hq
      exact hd q k (by omega) (by rw [List.getElem?_eq_getElem hq2, e]) o s9 h1 h2 h3
    | some k =>
      rw [gbM_s hq]
      have hk : k ∈ S.2 := List.mem_of_getElem? hq
      obtain ⟨a1, a2, ⟨T, a3⟩, a4⟩ := gbS_g hc hjb hL hcn hjo hk hS 4 (Nat.le_refl 4)
      obtain ⟨b1, b2, b3⟩ := gbM_g hc hjb hL hcn hjo r (h + 1) (gbS jb nb cn k S 4) (by omega) a1 (fun q k2 hq2 e2 o s9 h1 h2 h3 => by
        have hlen : h < S.2.length := (List.getElem?_eq_some_iff.mp hq).1
        have e3 : S.2[q]? = some k2 := by
          rw [a3, List.getElem?_append_left (by omega)] at e2
          exact e2
        by_cases e : q = h
        · subst e
          rw [hq] at e3
          cases e3
          exact a4 o s9 h1 h2 h3
        · exact a2 o (hd q k2 (by omega) e3 o s9 h1 h2 h3))
      exact ⟨b1, fun o h9 => b2 o (a2 o h9), b3⟩
theorem gaX_g {jb : Nat → Bool} {nb : Nat → Nat → Int32} {L : Nat → Nat} {jo : Nat → Int32} {cn : Int32} {i cnt : Nat} (hc : cnt ≤ 24) (hjb : ∀ o, jb o = true → o < cnt) (hL : jL jb nb L) (hcn : ¬ cn = -1) (hjo : ∀ o, jb o = true → L o = i → jo o = -1) (hi : jb i = true) (hLi : L i = i) : (∀ o, o ∈ (gaX jb nb jo cn i).2 ↔ (jb o = true ∧ L o = i)) ∧ (gaX jb nb jo cn i).2.length = ct (jIn jb L i) cnt ∧ (gaX jb nb jo cn i).1 = fun o => if jb o = true ∧ L o = i then cn else jo o := by
  have h0 : gI jb L jo cn i cnt (upd jo i cn, [i]) := by
    refine ⟨?_, fun o ho => by rw [List.mem_singleton.mp ho]; exact ⟨hi, hLi⟩, ?_⟩
    · show 1 = ct (fun o => decide (o ∈ [i])) cnt
      symm
      refine (ct_add (p := fun _ => false) (j := i) rfl (decide_eq_true (by simp)) (fun x hx => decide_eq_false (by simp [hx])) (hjb i hi)).trans ?_
      rw [ct_0 (fun _ _ => rfl)]
    · show upd jo i cn = fun o => if o ∈ [i] then cn else jo o
      funext o
      unfold upd
      by_cases e : o = i
      · rw [if_pos e, if_pos (by rw [e]; simp)]
      · rw [if_neg e, if_neg (by simp [e])]
  obtain ⟨a1, a2, a3⟩ := gbM_g hc hjb hL hcn hjo 24 0 (upd jo i cn, [i]) (by omega) h0 (fun q k hq => absurd hq (Nat.not_lt_zero q))
  have hm : ∀ o, o ∈ (gaX jb nb jo cn i).2 ↔ (jb o = true ∧ L o = i) := fun o => by
    refine ⟨a1.2.1 o, fun ⟨h1, h2⟩ => ?_⟩
    have h3 := (hL.1 o h1).2.2
    rw [h2] at h3
    exact h3 (fun x => x ∈ (gbM jb nb cn 24 0 (upd jo i cn, [i])).2) (a2 i (by simp)) (fun a b ha e => by
      obtain ⟨e1, e2, s, hs, e3⟩ := e
      exact a3 a ha b s hs e2 e3)
  refine ⟨hm, ?_, ?_⟩
  · refine a1.1.trans (ct_congr (fun o _ => ba ?_))
    unfold jIn
    rw [decide_eq_true_eq, decide_eq_true_eq]
    exact hm o
  · refine a1.2.2.trans ?_
    funext o
    by_cases e : jb o = true ∧ L o = i
    · rw [if_pos e]; exact if_pos ((hm o).mpr e)
    · rw [if_neg e]; exact if_neg (fun z => e ((hm o).mp z))
/-- the greatest jam by the model: of the first k -/
def jMx (jb : Nat → Bool) (L : Nat → Nat) (cnt : Nat) : Nat → Int32
  | 0 => 0
  | k + 1 => if jMx jb L cnt k < nI (ct (jIn jb L k) cnt) then nI (ct (jIn jb L k) cnt) else jMx jb L cnt k
theorem jMx_0 {jb : Nat → Bool} {L : Nat → Nat} {cnt : Nat} (hc : cnt ≤ 24) : ∀ k, 0 ≤ jMx jb L cnt k
  | 0 => Int32.le_refl 0
  | k + 1 => by
    unfold jMx
    split
    · have := ct_le (jIn jb L k) cnt
      exact nI_pos' (by omega)
    · exact jMx_0 hc k
/-- all that is found, by L -/
theorem fdX_L {jb : Nat → Bool} {nb : Nat → Nat → Int32} {L : Nat → Nat} {cnt : Nat} (hc : cnt ≤ 24) (hjb : ∀ o, jb o = true → o < cnt) (hL : jL jb nb L) : ∀ i, i ≤ cnt →
    (fdX jb nb i).1 = jNo jb L i ∧ (fdX jb nb i).2.2.1 = ct (jRt jb L) i ∧ (fdX jb nb i).2.2.2 = nI (ct (jLt jb L i) cnt) ∧ (∀ v, v < i → jRt jb L v = true → (fdX jb nb i).2.1 (ct (jRt jb L) v) = nI (ct (jIn jb L v) cnt)) ∧ mx0 (fdX jb nb i).2.1 (ct (jRt jb L) i) = jMx jb L cnt i
  | 0, _ => by
    refine ⟨?_, rfl, ?_, fun v hv => absurd hv (Nat.not_lt_zero v), rfl⟩
    · funext o
      exact (if_neg (fun z => Nat.not_lt_zero _ z.2)).symm
    · show 0 = nI (ct (jLt jb L 0) cnt)
      rw [ct_0 (p := jLt jb L 0) (fun o _ => decide_eq_false (fun z => Nat.not_lt_zero _ z.2))]
      rfl
  | i + 1, hi => by
    obtain ⟨f1, f2, f3, f4, f5⟩ := fdX_L hc hjb hL i (by omega)
    have hci : ct (jRt jb L) i ≤ i := ct_le _ _
    have hi9 : (nI i).toNatClampNeg = i := nI_clamp (by omega)
    by_cases hr : jRt jb L i = true
    · -- a new jam
      have hr2 := of_decide_eq_true hr
      have hnew : pNew jb (fdX jb nb i).1 (nI i) ∧ (fdX jb nb i).2.2.1 < 24 := by
        refine ⟨⟨nI_pos' (by omega), show nI i < nI 24 from nI_lt (by omega) (by omega), ?_, by rw [hi9]; exact hr2.1⟩, by omega⟩
        rw [hi9, f1]
        exact if_neg (fun z => by have := z.2; omega)
      have hcn : ¬ nI (fdX jb nb i).2.2.1 = -1 := nI_m1 (by omega)
      have hjo : ∀ o, jb o = true → L o = i → (fdX jb nb i).1 o = -1 := fun o _ h2 => by
        rw [f1]; exact if_neg (fun z => by have := z.2; omega)
      obtain ⟨g1, g2, g3⟩ := gaX_g hc hjb hL hcn hjo hr2.1 hr2.2
      have e : fdX jb nb (i + 1) = ((gaX jb nb (fdX jb nb i).1 (nI (fdX jb nb i).2.2.1) i).1, upd (fdX jb nb i).2.1 (fdX jb nb i).2.2.1 (nI (gaX jb nb (fdX jb nb i).1 (nI (fdX jb nb i).2.2.1) i).2.length), (fdX jb nb i).2.2.1 + 1, (fdX jb nb i).2.2.2 + nI (gaX jb nb (fdX jb nb i).1 (nI (fdX jb nb i).2.2.1) i).2.length) := if_pos hnew
      have ec : ct (jRt jb L) (i + 1) = ct (jRt jb L) i + 1 := by show _ + (if jRt jb L i = true then 1 else 0) = _; rw [if_pos hr]
      rw [e, g2]
      refine ⟨?_, ?_, ?_, ?_, ?_⟩
      · show (gaX jb nb (fdX jb nb i).1 (nI (fdX jb nb i).2.2.1) i).1 = _
        rw [g3]
        funext o
        rw [f1, f2]
        unfold jNo
        by_cases h1 : jb o = true ∧ L o = i
        · rw [if_pos h1, if_pos ⟨h1.1, by omega⟩, h1.2]
        · rw [if_neg h1]
          by_cases h2 : jb o = true ∧ L o < i
          · rw [if_pos h2, if_pos ⟨h2.1, by omega⟩]
          · rw [if_neg h2, if_neg (fun z => by
              by_cases e9 : L o = i
              · exact h1 ⟨z.1, e9⟩
              · exact h2 ⟨z.1, by omega⟩)]
      · show (fdX jb nb i).2.2.1 + 1 = _
        rw [f2, ec]
      · show (fdX jb nb i).2.2.2 + nI (ct (jIn jb L i) cnt) = _
        rw [f3, nI_add]
        congr 1
        rw [ct_or (p := jLt jb L i) (q := jIn jb L i) (r := jLt jb L (i + 1))]
        intro k _
        unfold jLt jIn
        constructor
        · refine ba ?_
          rw [Bool.or_eq_true, decide_eq_true_eq, decide_eq_true_eq, decide_eq_true_eq]
          constructor
          · rintro ⟨z1, z2⟩
            by_cases e9 : L k = i
            · exact Or.inr ⟨z1, e9⟩
            · exact Or.inl ⟨z1, by omega⟩
          · rintro (⟨z1, z2⟩ | ⟨z1, z2⟩)
            · exact ⟨z1, by omega⟩
            · exact ⟨z1, by omega⟩
        · refine Bool.eq_false_iff.mpr (fun z => ?_)
          rw [Bool.and_eq_true, decide_eq_true_eq, decide_eq_true_eq] at z
          omega
      · intro v hv hrv
        show upd (fdX jb nb i).2.1 (fdX jb nb i).2.2.1 _ _ = _
        unfold upd
        by_cases e9 : v = i
        · subst e9
          rw [if_pos f2.symm]
        · have : ct (jRt jb L) v < ct (jRt jb L) i := by
            have hm : ∀ a b, a ≤ b → ct (jRt jb L) a ≤ ct (jRt jb L) b := fun a b hab => by
              induction b with
              | zero => rw [Nat.le_zero.mp hab]; exact Nat.le_refl _
              | succ b ihb =>
                rcases Nat.lt_or_eq_of_le hab with h9 | h9
                · have := ihb (by omega)
                  show _ ≤ ct (jRt jb L) b + _
                  omega
                · rw [h9]; exact Nat.le_refl _
            have h1 := hm (v + 1) i (by omega)
            have h2 : ct (jRt jb L) (v + 1) = ct (jRt jb L) v + 1 := by show _ + (if jRt jb L v = true then 1 else 0) = _; rw [if_pos hrv]
            omega
          rw [if_neg (by omega)]
          exact f4 v (by omega) hrv
      · rw [ec]
        have ex : ∀ n, n ≤ ct (jRt jb L) i → mx0 (upd (fdX jb nb i).2.1 (fdX jb nb i).2.2.1 (nI (ct (jIn jb L i) cnt))) n = mx0 (fdX jb nb i).2.1 n := fun n hn => by
          induction n with
          | zero => rfl
          | succ n ihn =>
            have e5 : upd (fdX jb nb i).2.1 (fdX jb nb i).2.2.1 (nI (ct (jIn jb L i) cnt)) n = (fdX jb nb i).2.1 n := if_neg (by omega)
            show (if mx0 (upd (fdX jb nb i).2.1 (fdX jb nb i).2.2.1 (nI (ct (jIn jb L i) cnt))) n < upd (fdX jb nb i).2.1 (fdX jb nb i).2.2.1 (nI (ct (jIn jb L i) cnt)) n then upd (fdX jb nb i).2.1 (fdX jb nb i).2.2.1 (nI (ct (jIn jb L i) cnt)) n else mx0 (upd (fdX jb nb i).2.1 (fdX jb nb i).2.2.1 (nI (ct (jIn jb L i) cnt))) n) = (if mx0 (fdX jb nb i).2.1 n < (fdX jb nb i).2.1 n then (fdX jb nb i).2.1 n else mx0 (fdX jb nb i).2.1 n)
            rw [ihn (by omega), e5]
        have e6 : upd (fdX jb nb i).2.1 (fdX jb nb i).2.2.1 (nI (ct (jIn jb L i) cnt)) (ct (jRt jb L) i) = nI (ct (jIn jb L i) cnt) := if_pos f2.symm
        show (if mx0 (upd (fdX jb nb i).2.1 (fdX jb nb i).2.2.1 (nI (ct (jIn jb L i) cnt))) (ct (jRt jb L) i) < upd (fdX jb nb i).2.1 (fdX jb nb i).2.2.1 (nI (ct (jIn jb L i) cnt)) (ct (jRt jb L) i) then upd (fdX jb nb i).2.1 (fdX jb nb i).2.2.1 (nI (ct (jIn jb L i) cnt)) (ct (jRt jb L) i) else mx0 (upd (fdX jb nb i).2.1 (fdX jb nb i).2.2.1 (nI (ct (jIn jb L i) cnt))) (ct (jRt jb L) i)) = _
        rw [ex _ (Nat.le_refl _), e6, f5]
        rfl
    · -- none
      have hrf : ¬ (jb i = true ∧ L i = i) := fun z => hr (decide_eq_true z)
      have hold : ¬ (pNew jb (fdX jb nb i).1 (nI i) ∧ (fdX jb nb i).2.2.1 < 24) := by
        rintro ⟨⟨-, -, z3, z4⟩, -⟩
        rw [hi9] at z3 z4
        rw [f1] at z3
        have h1 := hL.1 i z4
        have h2 : L i < i := Nat.lt_of_le_of_ne h1.1 (fun z => hrf ⟨z4, z⟩)
        unfold jNo at z3
        rw [if_pos ⟨z4, h2⟩] at z3
        have := ct_le (jRt jb L) (L i)
        exact nI_m1 (by omega) z3
      have e : fdX jb nb (i + 1) = fdX jb nb i := if_neg hold
      have ec : ct (jRt jb L) (i + 1) = ct (jRt jb L) i := by show _ + (if jRt jb L i = true then 1 else 0) = _; rw [if_neg hr]; rfl
      have hLi : ∀ o, jb o = true → ¬ L o = i := fun o ho z => hrf (by
        have h1 := hL.1 o ho
        have h2 := hL.idem ho
        rw [z] at h1 h2
        exact ⟨h1.2.1, h2⟩)
      have e0 : ct (jIn jb L i) cnt = 0 := ct_0 (fun o _ => decide_eq_false (fun z => hLi o z.1 z.2))
      rw [e]
      refine ⟨?_, by rw [f2, ec], ?_, fun v hv hrv => ?_, ?_⟩
      · rw [f1]
        funext o
        unfold jNo
        by_cases h2 : jb o = true ∧ L o < i
        · rw [if_pos h2, if_pos ⟨h2.1, by omega⟩]
        · rw [if_neg h2, if_neg (fun z => h2 ⟨z.1, Nat.lt_of_le_of_ne (Nat.lt_succ_iff.mp z.2) (hLi o z.1)⟩)]
      · rw [f3]
        congr 1
        refine ct_congr (fun o _ => ba ?_)
        unfold jLt
        rw [decide_eq_true_eq, decide_eq_true_eq]
        exact ⟨fun z => ⟨z.1, by omega⟩, fun z => ⟨z.1, Nat.lt_of_le_of_ne (Nat.lt_succ_iff.mp z.2) (hLi o z.1)⟩⟩
      · exact f4 v (Nat.lt_of_le_of_ne (Nat.lt_succ_iff.mp hv) (fun z => by subst z; exact hr hrv)) hrv
      · rw [ec, f5]
        show _ = (if jMx jb L cnt i < nI (ct (jIn jb L i) cnt) then nI (ct (jIn jb L i) cnt) else jMx jb L cnt i)
        rw [e0]
        exact (if_neg (Int32.not_lt.mpr (show nI 0 ≤ jMx jb L cnt i from jMx_0 hc i))).symm

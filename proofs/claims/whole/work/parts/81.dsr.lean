/-! numbers: the rows of distances behind wall, mark, reset -/
theorem rq_out {n : Nat} {ds d : Nat → Int32} {k g f : Nat} (h9 : n ≤ 196) (h : ¬ g = k) (hf : f < n) : rq n ds k d (g * 196 + f) = ds (g * 196 + f) := by
  unfold rq
  rw [if_neg (by omega)]
theorem dXa_get {n : Nat} {nr wl mk ds : Nat → Int32} {g f : Nat} (h9 : n ≤ 196) (hf : f < n) : ∀ k, g < k → dXa n nr wl mk ds k (g * 196 + f) = dXg n nr wl mk g f
  | 0, h => absurd h (Nat.not_lt_zero g)
  | k + 1, h => by
    show rq n (dXa n nr wl mk ds k) k (dXg n nr wl mk k) (g * 196 + f) = _
    by_cases e : g = k
    · subst e; exact rq_get hf
    · rw [rq_out h9 e hf]
      exact dXa_get h9 hf k (by omega)
theorem dsR_all {n : Nat} {nr wl mk ds : Nat → Int32} (h9 : n ≤ 196) : dsR n nr wl mk (dXa n nr wl mk ds 4) := fun g hg f hf => dXa_get h9 hf 4 hg
theorem filt_none {n : Nat} {st : Nat → Bool} (h : ∀ f, f < n → st f = false) : (List.range n).filter st = [] := by
  rw [List.filter_eq_nil_iff]
  intro f hf
  rw [h f (List.mem_range.mp hf)]
  exact Bool.false_ne_true
theorem bfD_none {nb : Nat → Nat → Int32} {fr st : Nat → Bool} {n : Nat} (h : ∀ f, st f = false) : bfD nb fr st n = fun _ => -1 := by
  have e : bf0 st n = ((fun _ => -1), []) := by
    unfold bf0
    rw [filt_none (fun f _ => h f)]
    congr 1
    funext f
    rw [h f]
    rfl
  unfold bfD
  rw [e]
  cases n with
  | zero => rfl
  | succ r => rw [bfM_n rfl]
theorem stX_0 {n g f : Nat} {wl : Nat → Int32} : stX n wl (fun _ => 0) g f = false := decide_eq_false (fun z => z.2.2 (Int32.zero_and))
theorem dsR_new {n : Nat} {nr wl : Nat → Int32} : dsR n nr wl (fun _ => 0) (fun _ => -1) := fun g hg f hf => by
  show -1 = bfD _ _ _ _ f
  rw [bfD_none (fun f => stX_0)]
theorem stX_mk {n g g2 f : Nat} {wl mk : Nat → Int32} (hg : g < 4) (hg2 : g2 < 4) (h : ¬ g2 = g) : stX n wl (mkF mk g f) g2 = stX n wl mk g2 := by
  funext j
  have e0 : mkF mk g f j = if j = f then mk f ^^^ bt g else mk j := rfl
  have e1 : mkF mk g f j &&& bt g2 = mk j &&& bt g2 := by
    rw [e0]
    by_cases e : j = f
    · rw [if_pos e, e]
      exact bt_oth (mk f) ⟨g, hg⟩ ⟨g2, hg2⟩ (fun z => h (congrArg Fin.val z).symm)
    · rw [if_neg e]
  show decide (j < n ∧ wl j = 0 ∧ ¬ mkF mk g f j &&& bt g2 = 0) = decide (j < n ∧ wl j = 0 ∧ ¬ mk j &&& bt g2 = 0)
  rw [e1]
theorem dsR_mark {n g f : Nat} {nr wl mk ds : Nat → Int32} (h9 : n ≤ 196) (hg : g < 4) (h : dsR n nr wl mk ds) : dsR n nr wl (mkF mk g f) (rq n ds g (dXg n nr wl (mkF mk g f) g)) := fun g2 hg2 f2 hf2 => by
  by_cases e : g2 = g
  · subst e; exact rq_get hf2
  · rw [rq_out h9 e hf2, h g2 hg2 f2 hf2]
    show bfD _ _ (stX n wl mk g2) _ _ = bfD _ _ (stX n wl (mkF mk g f) g2) _ _
    rw [stX_mk hg hg2 e]
/-- marks: none at first -/
theorem mmR_new {n : Nat} : mmR n (fun _ => 0) (fun _ => 0) := fun g hg f hf => by
  show 0 = ms_b (¬ (0 : Int32) &&& _ = 0)
  exact (if_neg (not_not_intro Int32.zero_and)).symm
theorem wdV_new {W H N : Nat} {X : cX} (h : ∀ f, X.2.2.1 f = -1) : wdV W H 0 N X := ⟨fun f hf => Or.inl ⟨h f, fun k hk => absurd hk (Nat.not_lt_zero k)⟩, fun k hk => absurd hk (Nat.not_lt_zero k), fun k hk => absurd hk (Nat.not_lt_zero k), fun k hk => absurd hk (Nat.not_lt_zero k)⟩

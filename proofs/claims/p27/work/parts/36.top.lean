/-! StarlingSquare: the whole object -/
def xs_at (G : ms_H) (x g q c j q2 c2 W H : Nat) (nr wl mk ds : Nat → Int32) (cnt : Nat) (dr pa : Int32) (X : cX) : Prop := G x = some (.inr (5, [.ref g, .ref q, .ref c, .ref j, .ref q2, .ref c2])) ∧ gr_at G g (nI (W * H)) (nI W) (nI H) nr ∧ (∃ qu, sq_at G g q wl mk ds qu) ∧ cw_at G g q c cnt dr pa X ∧ (∃ cn wi jo sz qu, jm_at G j cn wi jo sz qu) ∧ (∃ wl2 mk2 ds2 qu2, sq_at G g q2 wl2 mk2 ds2 qu2) ∧ (∃ hd2 on2 ht2 cm2 wk2, cr_at G g q2 c2 hd2 on2 ht2 cm2 wk2)
/-- in what order its cells lie -/
abbrev ox (x g q c j q2 c2 : Nat) : Prop := x < g ∧ g + 1 < q ∧ q + 4 < c ∧ c + 28 < j ∧ j + 3 < q2 ∧ q2 + 4 < c2
/-- a call that throws, or answers -/
def xq_P (n : Nat) (G : ms_H) (th : Option String) (v : Value) (Q : ms_H → Prop) : ms_P := fun r n1 G1 => n ≤ n1 ∧ match th with
  | some E => r = .inr E ∧ G1 = G
  | none => r = .inl (some v) ∧ Q G1
theorem xq_P.thr {n n1 : Nat} {G : ms_H} {th : Option String} {v : Value} {Q : ms_H → Prop} {E : String} (hn : n ≤ n1) (h : th = some E) : xq_P n G th v Q (.inr E) n1 G := ⟨hn, by rw [h]; exact ⟨rfl, rfl⟩⟩
theorem xq_P.ret {n : Nat} {G G1 : ms_H} {th : Option String} {v v' : Value} {Q : ms_H → Prop} (h : th = none) (hv : v' = v) (hQ : Q G1) : xq_P n G th v Q (.inl (some v')) n G1 := ⟨Nat.le_refl n, by rw [h, hv]; exact ⟨rfl, hQ⟩⟩
/-- one that doesn't throw -/
def xv_P (n : Nat) (v : Option Value) (Q : ms_H → Prop) : ms_P := fun r n1 G1 => r = .inl v ∧ n1 = n ∧ Q G1
abbrev IAE : String := "java/lang/IllegalArgumentException"
abbrev ISE : String := "java/lang/IllegalStateException"
abbrev IOB : String := "java/lang/IndexOutOfBoundsException"
set_option maxHeartbeats 4000000 in
set_option maxRecDepth 20000 in
theorem c_X5_makeNew {n x g q c j q2 c2 W H : Nat} {G : ms_H} {fl w h : Int32} {nr0 wl mk ds qu hd on ht cm : Nat → Int32} {wk : Nat → Nat → Int32} (ho : ox x g q c j q2 c2) (hX : G x = some (.inr (5, [.ref g, .ref q, .ref c, .ref j, .ref q2, .ref c2]))) (hG : gr_at G g fl w h nr0) (hQ : sq_at G g q wl mk ds qu) (hC : cr_at G g q c hd on ht cm wk) (hW : W ≤ 14) (hH : H ≤ 14) : ms_M m_X5_makeNew [.ref x, .int (nI W), .int (nI H)] n G 0 0 (xv_P n none (fun G1 => (∃ nr, gr_at G1 g (nI (W * H)) (nI W) (nI H) nr ∧ lk_ok W H (W * H) nr) ∧ (∃ qu, sq_at G1 g q (fun _ => 0) (fun _ => 0) (fun _ => -1) qu) ∧ (∃ cm, cr_at G1 g q c (h4 0 0 (hd 2) (hd 3)) (fun _ => -1) (fun _ => 0) cm wk) ∧ ms_fr g (c + 29 - g) G G1)) := by
  refine ms_M.of (by decide) (Nat.le_of_ble_eq_true rfl) ?_
  show ms_W false m_X5_makeNew _ 0 [(0, .ref x), (1, .int (nI W)), (2, .int (nI H))] [] n G 0 0
  obtain ⟨o1, o2, o3, o4, o5, o6⟩ := ho
  have hF : ms_fr g (c + 29 - g) G G := ms_fr.rf
  refine ms_run (pc' := 1) (lv' := [(0, .ref x), (1, .int (nI W)), (2, .int (nI H))]) (st' := [.ref x]) _ (ms_deC dX5_makeNew_0 ms_deN) rfl rfl ?_
  refine ms_getf dX5_makeNew_1 fg_X5_10 hX rfl ?_
  refine ms_run (pc' := 6) (lv' := [(0, .ref x), (1, .int (nI W)), (2, .int (nI H))]) (st' := [.int (nI H), .int (nI W), .ref g]) _ (ms_deC dX5_makeNew_4 (ms_deC dX5_makeNew_5 ms_deN)) rfl rfl ?_
  refine ms_callV0 (As := [.int (nI W), .int (nI H)]) dX5_makeNew_6 (c_X1_shape hW hH hG) cv_X5_273 hG.1 rfl ⟨Nat.le_of_ble_eq_true rfl, Nat.le_of_ble_eq_true rfl⟩ rfl (Nat.le_of_ble_eq_true rfl) (fun v9 n9 K_sh hp9 => ?_)
  obtain ⟨hv9, rfl, ⟨nr, hG9, hL9⟩, hF_sh⟩ := hp9
  cases hv9
  have hQ_1 : sq_at K_sh g q wl mk ds qu := sq_at.fr hQ hF_sh (by omega)
  have hC_2 : cr_at K_sh g q c hd on ht cm wk := cr_at.fr hC hF_sh (by omega)
  have hF_3 : ms_fr g (c + 29 - g) G K_sh := ms_fr.trans hF (ms_fr.mono hF_sh (by omega) (by omega))
  have hf_4 := (hF_sh x (by omega)).trans hX
  refine ms_run (pc' := 10) (lv' := [(0, .ref x), (1, .int (nI W)), (2, .int (nI H))]) (st' := [.ref x]) _ (ms_deC dX5_makeNew_9 ms_deN) rfl rfl ?_
  refine ms_getf dX5_makeNew_10 fg_X5_21 hf_4 rfl ?_
  refine ms_callV0 (As := []) dX5_makeNew_13 (c_X3_clear hQ_1) cv_X5_276 hQ_1.1 rfl ⟨Nat.le_of_ble_eq_true rfl, Nat.le_of_ble_eq_true rfl⟩ rfl (Nat.le_of_ble_eq_true rfl) (fun v9 n9 K_cl hp9 => ?_)
  obtain ⟨hv9, rfl, ⟨qu9, hQ9⟩, hF_cl⟩ := hp9
  cases hv9
  have hG9_5 : gr_at K_cl g (nI (W * H)) (nI W) (nI H) nr := gr_at.fr hG9 hF_cl (by omega)
  have hC_6 : cr_at K_cl g q c hd on ht cm wk := cr_at.fr hC_2 hF_cl (by omega)
  have hF_7 : ms_fr g (c + 29 - g) G K_cl := ms_fr.trans hF_3 (ms_fr.mono hF_cl (by omega) (by omega))
  have hf_8 := (hF_cl x (by omega)).trans hf_4
  refine ms_run (pc' := 17) (lv' := [(0, .ref x), (1, .int (nI W)), (2, .int (nI H))]) (st' := [.ref x]) _ (ms_deC dX5_makeNew_16 ms_deN) rfl rfl ?_
  refine ms_getf dX5_makeNew_17 fg_X5_30 hf_8 rfl ?_
  refine ms_callV0 (As := []) dX5_makeNew_20 (c_X0_clear hC_6) cv_X5_279 hC_6.1 rfl ⟨Nat.le_of_ble_eq_true rfl, Nat.le_of_ble_eq_true rfl⟩ rfl (Nat.le_of_ble_eq_true rfl) (fun v9 n9 K_cc hp9 => ?_)
  obtain ⟨hv9, rfl, ⟨cm9, hC9⟩, hF_cc⟩ := hp9
  cases hv9
  have hG9_9 : gr_at K_cc g (nI (W * H)) (nI W) (nI H) nr := gr_at.fr hG9_5 hF_cc (by omega)
  have hQ9_10 : sq_at K_cc g q (fun _ => 0) (fun _ => 0) (fun _ => -1) qu9 := sq_at.fr hQ9 hF_cc (by omega)
  have hF_11 : ms_fr g (c + 29 - g) G K_cc := ms_fr.trans hF_7 (ms_fr.mono hF_cc (by omega) (by omega))
  have hf_12 := (hF_cc x (by omega)).trans hf_8
  refine ms_retv (st := []) dX5_makeNew_23 rfl ?_
  exact ⟨rfl, rfl, ⟨nr, hG9_9, hL9⟩, ⟨_, hQ9_10⟩, ⟨_, hC9⟩, hF_11⟩

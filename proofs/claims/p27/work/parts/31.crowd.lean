/-! Crowd: aim, claim, go, goOrWait -/
def cr_Q (g q c n : Nat) (G : ms_H) (hd on ht cm : Nat → Int32) (wk : Nat → Nat → Int32) : ms_P := fun r n1 G1 => r = .inl none ∧ n1 = n ∧ cr_at G1 g q c hd on ht cm wk ∧ ms_fr c 29 G G1
def amT (nr : Nat → Int32) (u : Nat → Int32) (sd : Int32) : Int32 := if sd = 4 then -1 else gr_next nr (u 3) sd
def amC (fl : Int32) (cm : Nat → Int32) (T : Int32) : Nat → Int32 := if gr_has fl T then upd cm T.toNatClampNeg (-1) else cm
def amW (u : Nat → Int32) (sd T : Int32) : Nat → Int32 := upd (upd u 9 sd) 10 T
def clC (fl c0 : Int32) (wk : Nat → Nat → Int32) (i : Nat) (cm : Nat → Int32) : Nat → Int32 :=
  if gr_has fl (wk i 10) ∧ (pIs c0 (cm (wk i 10).toNatClampNeg) → wk (cm (wk i 10).toNatClampNeg).toNatClampNeg 5 < wk i 5) then upd cm (wk i 10).toNatClampNeg (nI i) else cm
def goW (mk : Prop) [Decidable mk] (tm : Int32) (u : Nat → Int32) : Nat → Int32 := if mk then upd (upd (upd (upd (upd u 4 (u 9)) 5 0) 6 (u 6 + 1)) 3 (-1)) 7 tm else upd (upd (upd (upd u 4 (u 9)) 5 0) 6 (u 6 + 1)) 3 (u 10)
def goO (mk : Prop) [Decidable mk] (i : Nat) (u : Nat → Int32) (on : Nat → Int32) : Nat → Int32 := if mk then upd on (u 3).toNatClampNeg (-1) else upd (upd on (u 3).toNatClampNeg (-1)) (u 10).toNatClampNeg (nI i)
def goH (u ht : Nat → Int32) : Nat → Int32 := upd ht (u 10).toNatClampNeg (ht (u 10).toNatClampNeg + 1)
def waW (u : Nat → Int32) : Nat → Int32 := upd u 5 (u 5 + 1)
set_option maxHeartbeats 4000000 in
set_option maxRecDepth 20000 in
theorem c_X0_aim {n g q c : Nat} {G : ms_H} {fl w h : Int32} {nr : Nat → Int32} (hG : gr_at G g fl w h nr) {hd on ht cm : Nat → Int32} {wk : Nat → Nat → Int32} (hC : cr_at G g q c hd on ht cm wk) (hs : g + 1 < q) (hs2 : q + 4 < c) {i : Nat} (hi : i < 24) (sd : Int32) : ms_M m_X0_aim [.ref c, .ref (c + 5 + i), .int sd] n G 0 0 (cr_Q g q c n G hd on ht (amC fl cm (amT nr (wk i) sd)) (va_up wk i (amW (wk i) sd (amT nr (wk i) sd)))) := by
  refine ms_M.of (by decide) (Nat.le_of_ble_eq_true rfl) ?_
  show ms_W false m_X0_aim _ 0 [(0, .ref c), (1, .ref (c + 5 + i)), (2, .int sd)] [] n G 0 0
  have hF : ms_fr c 29 G G := ms_fr.rf
  refine ms_run (pc' := 2) (lv' := [(0, .ref c), (1, .ref (c + 5 + i)), (2, .int sd)]) (st' := [.int sd, .ref (c + 5 + i)]) _ (ms_deC dX0_aim_0 (ms_deC dX0_aim_1 ms_deN)) rfl rfl ?_
  refine ms_putf dX0_aim_2 fp_X0_173 (hC.2.2.2.2.2 i hi) (Nat.le_of_ble_eq_true rfl) rfl rfl ?_
  obtain ⟨G_1, eG_1⟩ : ∃ K9 : ms_H, K9 = ms_up G (c + 5 + i) (.inr (4, cr_w (upd (wk i) 9 sd))) := ⟨_, rfl⟩
  refine ms_W.heq eG_1 ?_
  have hG_2 : gr_at G_1 g fl w h nr := by rw [eG_1]; exact gr_at.up hG (by omega)
  have hC_3 : cr_at G_1 g q c hd on ht cm (va_up wk i (upd (wk i) 9 sd)) := by rw [eG_1]; exact cr_at.s_wk hC (hi) (upd (wk i) 9 sd)
  have hF_4 : ms_fr c 29 G G_1 := by rw [eG_1]; exact ms_fr.up hF (by omega)
  have hf_5 : G_1 (c + 5 + i) = some (.inr (4, cr_w (upd (wk i) 9 sd))) := by rw [eG_1]; exact ms_up_s _ _ _
  refine ms_run (pc' := 8) (lv' := [(0, .ref c), (1, .ref (c + 5 + i)), (2, .int sd)]) (st' := [.int 4, .int sd, .ref (c + 5 + i)]) _ (ms_deC dX0_aim_5 (ms_deC dX0_aim_6 (ms_deC dX0_aim_7 ms_deN))) rfl rfl ?_
  refine ms_icmp_ne (tgt := 15) dX0_aim_8 (by decide) (fun h_8 => ?_) (fun h_8 => ?_)
  · skip
    have hT : amT nr (wk i) sd = gr_next nr (wk i 3) sd := if_neg h_8
    refine ms_run (pc' := 16) (lv' := [(0, .ref c), (1, .ref (c + 5 + i)), (2, .int sd)]) (st' := [.ref c, .ref (c + 5 + i)]) _ (ms_deC dX0_aim_15 ms_deN) rfl rfl ?_
    refine ms_getf dX0_aim_16 fg_X0_34 hC_3.1 rfl ?_
    refine ms_run (pc' := 20) (lv' := [(0, .ref c), (1, .ref (c + 5 + i)), (2, .int sd)]) (st' := [.ref (c + 5 + i), .ref g, .ref (c + 5 + i)]) _ (ms_deC dX0_aim_19 ms_deN) rfl rfl ?_
    refine ms_getf dX0_aim_20 fg_X0_98 hf_5 rfl ?_
    refine ms_run (pc' := 24) (lv' := [(0, .ref c), (1, .ref (c + 5 + i)), (2, .int sd)]) (st' := [.int sd, .int (wk i 3), .ref g, .ref (c + 5 + i)]) _ (ms_deC dX0_aim_23 ms_deN) rfl rfl ?_
    refine ms_callVp (As := [.int (wk i 3), .int sd]) dX0_aim_24 (c_X1_next hG_2 (wk i 3) sd) cv_X0_124 hG_2.1 rfl ⟨Nat.le_of_ble_eq_true rfl, Nat.le_of_ble_eq_true rfl⟩ rfl (Nat.le_of_ble_eq_true rfl) ?_
    refine ms_putf dX0_aim_27 fp_X0_176 hf_5 (Nat.le_of_ble_eq_true rfl) rfl rfl ?_
    obtain ⟨G_6, eG_6⟩ : ∃ K9 : ms_H, K9 = ms_up G_1 (c + 5 + i) (.inr (4, cr_w (upd (upd (wk i) 9 sd) 10 (gr_next nr (wk i 3) sd)))) := ⟨_, rfl⟩
    refine ms_W.heq eG_6 ?_
    have hG_7 : gr_at G_6 g fl w h nr := by rw [eG_6]; exact gr_at.up hG_2 (by omega)
    have hC_8 : cr_at G_6 g q c hd on ht cm (va_up (va_up wk i (upd (wk i) 9 sd)) i (upd (upd (wk i) 9 sd) 10 (gr_next nr (wk i 3) sd))) := by rw [eG_6]; exact cr_at.s_wk hC_3 (hi) (upd (upd (wk i) 9 sd) 10 (gr_next nr (wk i 3) sd))
    have hF_9 : ms_fr c 29 G G_6 := by rw [eG_6]; exact ms_fr.up hF_4 (by omega)
    have hf_10 : G_6 (c + 5 + i) = some (.inr (4, cr_w (upd (upd (wk i) 9 sd) 10 (gr_next nr (wk i 3) sd)))) := by rw [eG_6]; exact ms_up_s _ _ _
    refine ms_run (pc' := 31) (lv' := [(0, .ref c), (1, .ref (c + 5 + i)), (2, .int sd)]) (st' := [.ref c]) _ (ms_deC dX0_aim_30 ms_deN) rfl rfl ?_
    refine ms_getf dX0_aim_31 fg_X0_34 hC_8.1 rfl ?_
    refine ms_run (pc' := 35) (lv' := [(0, .ref c), (1, .ref (c + 5 + i)), (2, .int sd)]) (st' := [.ref (c + 5 + i), .ref g]) _ (ms_deC dX0_aim_34 ms_deN) rfl rfl ?_
    refine ms_getf dX0_aim_35 fg_X0_176 hf_10 rfl ?_
    refine ms_callVp (As := [.int (gr_next nr (wk i 3) sd)]) dX0_aim_38 (c_X1_has hG_7 (gr_next nr (wk i 3) sd)) cv_X0_77 hG_7.1 rfl ⟨Nat.le_of_ble_eq_true rfl, Nat.le_of_ble_eq_true rfl⟩ rfl (Nat.le_of_ble_eq_true rfl) ?_
    by_cases hc_38 : gr_has fl (gr_next nr (wk i 3) sd)
    · rw [show ms_b (gr_has fl (gr_next nr (wk i 3) sd)) = 1 from if_pos hc_38]
      refine ms_if_eq (tgt := 54) dX0_aim_41 (by decide) (fun h9 => absurd h9 (by decide)) (fun _ => ?_)
      refine ms_run (pc' := 45) (lv' := [(0, .ref c), (1, .ref (c + 5 + i)), (2, .int sd)]) (st' := [.ref c]) _ (ms_deC dX0_aim_44 ms_deN) rfl rfl ?_
      refine ms_getf dX0_aim_45 fg_X0_31 hC_8.1 rfl ?_
      refine ms_run (pc' := 49) (lv' := [(0, .ref c), (1, .ref (c + 5 + i)), (2, .int sd)]) (st' := [.ref (c + 5 + i), .ref (c + 4)]) _ (ms_deC dX0_aim_48 ms_deN) rfl rfl ?_
      refine ms_getf dX0_aim_49 fg_X0_176 hf_10 rfl ?_
      refine ms_run (pc' := 53) (lv' := [(0, .ref c), (1, .ref (c + 5 + i)), (2, .int sd)]) (st' := [.int (-1), .int (gr_next nr (wk i 3) sd), .ref (c + 4)]) _ (ms_deC dX0_aim_52 ms_deN) rfl rfl ?_
      refine ms_iastore dX0_aim_53 hC_8.2.2.2.2.1 (gr_hin (by assumption)) ?_
      obtain ⟨G_11, eG_11⟩ : ∃ K9 : ms_H, K9 = ms_up G_6 (c + 4) (.inl (0, 196, .inl (upd cm (gr_next nr (wk i 3) sd).toNatClampNeg (-1)))) := ⟨_, rfl⟩
      refine ms_W.heq eG_11 ?_
      have hG_12 : gr_at G_11 g fl w h nr := by rw [eG_11]; exact gr_at.up hG_7 (by omega)
      have hC_13 : cr_at G_11 g q c hd on ht (upd cm (gr_next nr (wk i 3) sd).toNatClampNeg (-1)) (va_up (va_up wk i (upd (wk i) 9 sd)) i (upd (upd (wk i) 9 sd) 10 (gr_next nr (wk i 3) sd))) := by rw [eG_11]; exact cr_at.s_cm hC_8 (upd cm (gr_next nr (wk i 3) sd).toNatClampNeg (-1))
      have hF_14 : ms_fr c 29 G G_11 := by rw [eG_11]; exact ms_fr.up hF_9 (by omega)
      have hf_15 := (congrFun eG_11 (c + 5 + i)).trans ((ms_up_n G_6 _ (by omega)).trans hf_10)
      refine ms_retv (st := []) dX0_aim_54 rfl ?_
      refine ⟨rfl, rfl, ?_, hF_14⟩
      unfold amC amW
      first | rw [hT, if_pos hc_38] | rw [hT, if_neg hc_38]
      have h9 := hC_13
      simp only [bx_uu] at h9
      exact h9
    · rw [show ms_b (gr_has fl (gr_next nr (wk i 3) sd)) = 0 from if_neg hc_38]
      refine ms_if_eq (tgt := 54) dX0_aim_41 (by decide) (fun _ => ?_) (fun h9 => absurd h9 (by decide))
      refine ms_retv (st := []) dX0_aim_54 rfl ?_
      refine ⟨rfl, rfl, ?_, hF_9⟩
      unfold amC amW
      first | rw [hT, if_pos hc_38] | rw [hT, if_neg hc_38]
      have h9 := hC_8
      simp only [bx_uu] at h9
      exact h9
  · skip
    have hT : amT nr (wk i) sd = -1 := if_pos h_8
    refine ms_run (pc' := 12) (lv' := [(0, .ref c), (1, .ref (c + 5 + i)), (2, .int sd)]) (st' := [.int (-1), .ref (c + 5 + i)]) _ (ms_deC dX0_aim_11 ms_deN) rfl rfl ?_
    refine ms_goto (tgt := 27) dX0_aim_12 (by decide) ?_
    refine ms_putf dX0_aim_27 fp_X0_176 hf_5 (Nat.le_of_ble_eq_true rfl) rfl rfl ?_
    obtain ⟨G_16, eG_16⟩ : ∃ K9 : ms_H, K9 = ms_up G_1 (c + 5 + i) (.inr (4, cr_w (upd (upd (wk i) 9 sd) 10 (-1)))) := ⟨_, rfl⟩
    refine ms_W.heq eG_16 ?_
    have hG_17 : gr_at G_16 g fl w h nr := by rw [eG_16]; exact gr_at.up hG_2 (by omega)
    have hC_18 : cr_at G_16 g q c hd on ht cm (va_up (va_up wk i (upd (wk i) 9 sd)) i (upd (upd (wk i) 9 sd) 10 (-1))) := by rw [eG_16]; exact cr_at.s_wk hC_3 (hi) (upd (upd (wk i) 9 sd) 10 (-1))
    have hF_19 : ms_fr c 29 G G_16 := by rw [eG_16]; exact ms_fr.up hF_4 (by omega)
    have hf_20 : G_16 (c + 5 + i) = some (.inr (4, cr_w (upd (upd (wk i) 9 sd) 10 (-1)))) := by rw [eG_16]; exact ms_up_s _ _ _
    refine ms_run (pc' := 31) (lv' := [(0, .ref c), (1, .ref (c + 5 + i)), (2, .int sd)]) (st' := [.ref c]) _ (ms_deC dX0_aim_30 ms_deN) rfl rfl ?_
    refine ms_getf dX0_aim_31 fg_X0_34 hC_18.1 rfl ?_
    refine ms_run (pc' := 35) (lv' := [(0, .ref c), (1, .ref (c + 5 + i)), (2, .int sd)]) (st' := [.ref (c + 5 + i), .ref g]) _ (ms_deC dX0_aim_34 ms_deN) rfl rfl ?_
    refine ms_getf dX0_aim_35 fg_X0_176 hf_20 rfl ?_
    refine ms_callVp (As := [.int (-1)]) dX0_aim_38 (c_X1_has hG_17 (-1)) cv_X0_77 hG_17.1 rfl ⟨Nat.le_of_ble_eq_true rfl, Nat.le_of_ble_eq_true rfl⟩ rfl (Nat.le_of_ble_eq_true rfl) ?_
    by_cases hc_38 : gr_has fl (-1)
    · rw [show ms_b (gr_has fl (-1)) = 1 from if_pos hc_38]
      exact absurd hc_38.1 (by decide)
    · rw [show ms_b (gr_has fl (-1)) = 0 from if_neg hc_38]
      refine ms_if_eq (tgt := 54) dX0_aim_41 (by decide) (fun _ => ?_) (fun h9 => absurd h9 (by decide))
      refine ms_retv (st := []) dX0_aim_54 rfl ?_
      refine ⟨rfl, rfl, ?_, hF_19⟩
      unfold amC amW
      first | rw [hT, if_pos hc_38] | rw [hT, if_neg hc_38]
      have h9 := hC_18
      simp only [bx_uu] at h9
      exact h9
set_option maxHeartbeats 4000000 in
set_option maxRecDepth 20000 in
theorem c_X0_claim {n g q c : Nat} {G : ms_H} {fl w h : Int32} {nr : Nat → Int32} (hG : gr_at G g fl w h nr) {hd on ht cm : Nat → Int32} {wk : Nat → Nat → Int32} (hC : cr_at G g q c hd on ht cm wk) (hs : g + 1 < q) (hs2 : q + 4 < c) {i : Nat} (hi : i < 24) {cnt : Nat} (hx : hd 0 = nI cnt) (hc : cnt ≤ 24) (hlt : i < cnt) : ms_M m_X0_claim [.ref c, .int (nI i)] n G 0 0 (cr_Q g q c n G hd on ht (clC fl (hd 0) wk i cm) wk) := by
  refine ms_M.of (by decide) (Nat.le_of_ble_eq_true rfl) ?_
  show ms_W false m_X0_claim _ 0 [(0, .ref c), (1, .int (nI i))] [] n G 0 0
  have hF : ms_fr c 29 G G := ms_fr.rf
  refine ms_run (pc' := 2) (lv' := [(0, .ref c), (1, .int (nI i))]) (st' := [.int (nI i), .ref c]) _ (ms_deC dX0_claim_0 (ms_deC dX0_claim_1 ms_deN)) rfl rfl ?_
  refine ms_callVp (As := [.int (nI i)]) dX0_claim_2 (c_X0_getI hC hx hc hlt) cv_X0_55 hC.1 rfl ⟨Nat.le_of_ble_eq_true rfl, Nat.le_of_ble_eq_true rfl⟩ rfl (Nat.le_of_ble_eq_true rfl) ?_
  refine ms_run (pc' := 7) (lv' := [(2, .ref (c + 5 + i)), (0, .ref c), (1, .int (nI i))]) (st' := [.ref (c + 5 + i)]) _ (ms_deC dX0_claim_5 (ms_deC dX0_claim_6 ms_deN)) rfl rfl ?_
  refine ms_ifnull dX0_claim_7 ?_
  refine ms_run (pc' := 11) (lv' := [(2, .ref (c + 5 + i)), (0, .ref c), (1, .int (nI i))]) (st' := [.ref c]) _ (ms_deC dX0_claim_10 ms_deN) rfl rfl ?_
  refine ms_getf dX0_claim_11 fg_X0_34 hC.1 rfl ?_
  refine ms_run (pc' := 15) (lv' := [(2, .ref (c + 5 + i)), (0, .ref c), (1, .int (nI i))]) (st' := [.ref (c + 5 + i), .ref g]) _ (ms_deC dX0_claim_14 ms_deN) rfl rfl ?_
  refine ms_getf dX0_claim_15 fg_X0_176 (hC.2.2.2.2.2 i hi) rfl ?_
  refine ms_callVp (As := [.int (wk i 10)]) dX0_claim_18 (c_X1_has hG (wk i 10)) cv_X0_77 hG.1 rfl ⟨Nat.le_of_ble_eq_true rfl, Nat.le_of_ble_eq_true rfl⟩ rfl (Nat.le_of_ble_eq_true rfl) ?_
  by_cases hc_18 : gr_has fl (wk i 10)
  · rw [show ms_b (gr_has fl (wk i 10)) = 1 from if_pos hc_18]
    refine ms_if_ne (tgt := 25) dX0_claim_21 (by decide) (fun _ => ?_) (fun h9 => absurd h9 (by decide))
    refine ms_run (pc' := 27) (lv' := [(2, .ref (c + 5 + i)), (0, .ref c), (1, .int (nI i))]) (st' := [.ref c, .ref c]) _ (ms_deC dX0_claim_25 (ms_deC dX0_claim_26 ms_deN)) rfl rfl ?_
    refine ms_getf dX0_claim_27 fg_X0_31 hC.1 rfl ?_
    refine ms_run (pc' := 31) (lv' := [(2, .ref (c + 5 + i)), (0, .ref c), (1, .int (nI i))]) (st' := [.ref (c + 5 + i), .ref (c + 4), .ref c]) _ (ms_deC dX0_claim_30 ms_deN) rfl rfl ?_
    refine ms_getf dX0_claim_31 fg_X0_176 (hC.2.2.2.2.2 i hi) rfl ?_
    refine ms_iaload dX0_claim_34 hC.2.2.2.2.1 (gr_hin (by assumption)) ?_
    refine ms_callVp (As := [.int (cm (wk i 10).toNatClampNeg)]) dX0_claim_35 (c_X0_get hC (cm (wk i 10).toNatClampNeg)) cv_X0_55 hC.1 rfl ⟨Nat.le_of_ble_eq_true rfl, Nat.le_of_ble_eq_true rfl⟩ rfl (Nat.le_of_ble_eq_true rfl) ?_
    by_cases hc_35 : pIs (hd 0) (cm (wk i 10).toNatClampNeg)
    · rw [show cr_get c (hd 0) (cm (wk i 10).toNatClampNeg) = .ref (c + 5 + (cm (wk i 10).toNatClampNeg).toNatClampNeg) from if_pos hc_35]
      have hrv := hC.2.2.2.2.2 (cm (wk i 10).toNatClampNeg).toNatClampNeg (pIs_lt hc_35)
      refine ms_run (pc' := 40) (lv' := [(3, .ref (c + 5 + (cm (wk i 10).toNatClampNeg).toNatClampNeg)), (2, .ref (c + 5 + i)), (0, .ref c), (1, .int (nI i))]) (st' := [.ref (c + 5 + (cm (wk i 10).toNatClampNeg).toNatClampNeg)]) _ (ms_deC dX0_claim_38 (ms_deC dX0_claim_39 ms_deN)) rfl rfl ?_
      refine ms_ifnull dX0_claim_40 ?_
      refine ms_run (pc' := 44) (lv' := [(3, .ref (c + 5 + (cm (wk i 10).toNatClampNeg).toNatClampNeg)), (2, .ref (c + 5 + i)), (0, .ref c), (1, .int (nI i))]) (st' := [.ref (c + 5 + i)]) _ (ms_deC dX0_claim_43 ms_deN) rfl rfl ?_
      refine ms_getf dX0_claim_44 fg_X0_118 (hC.2.2.2.2.2 i hi) rfl ?_
      refine ms_run (pc' := 48) (lv' := [(3, .ref (c + 5 + (cm (wk i 10).toNatClampNeg).toNatClampNeg)), (2, .ref (c + 5 + i)), (0, .ref c), (1, .int (nI i))]) (st' := [.ref (c + 5 + (cm (wk i 10).toNatClampNeg).toNatClampNeg), .int (wk i 5)]) _ (ms_deC dX0_claim_47 ms_deN) rfl rfl ?_
      refine ms_getf dX0_claim_48 fg_X0_118 hrv rfl ?_
      refine ms_icmp_le (tgt := 64) dX0_claim_51 (by decide) (fun h_51 => ?_) (fun h_51 => ?_)
      · skip
        refine ms_retv (st := []) dX0_claim_64 rfl ?_
        refine ⟨rfl, rfl, ?_, hF⟩
        unfold clC
        rw [if_neg (fun h8 => by first | exact hc_18 h8.1 | exact (Int32.not_lt.mpr h_51) (h8.2 hc_35))]
        exact hC
      · skip
        refine ms_run (pc' := 55) (lv' := [(3, .ref (c + 5 + (cm (wk i 10).toNatClampNeg).toNatClampNeg)), (2, .ref (c + 5 + i)), (0, .ref c), (1, .int (nI i))]) (st' := [.ref c]) _ (ms_deC dX0_claim_54 ms_deN) rfl rfl ?_
        refine ms_getf dX0_claim_55 fg_X0_31 hC.1 rfl ?_
        refine ms_run (pc' := 59) (lv' := [(3, .ref (c + 5 + (cm (wk i 10).toNatClampNeg).toNatClampNeg)), (2, .ref (c + 5 + i)), (0, .ref c), (1, .int (nI i))]) (st' := [.ref (c + 5 + i), .ref (c + 4)]) _ (ms_deC dX0_claim_58 ms_deN) rfl rfl ?_
        refine ms_getf dX0_claim_59 fg_X0_176 (hC.2.2.2.2.2 i hi) rfl ?_
        refine ms_run (pc' := 63) (lv' := [(3, .ref (c + 5 + (cm (wk i 10).toNatClampNeg).toNatClampNeg)), (2, .ref (c + 5 + i)), (0, .ref c), (1, .int (nI i))]) (st' := [.int (nI i), .int (wk i 10), .ref (c + 4)]) _ (ms_deC dX0_claim_62 ms_deN) rfl rfl ?_
        refine ms_iastore dX0_claim_63 hC.2.2.2.2.1 (gr_hin (by assumption)) ?_
        obtain ⟨G_1, eG_1⟩ : ∃ K9 : ms_H, K9 = ms_up G (c + 4) (.inl (0, 196, .inl (upd cm (wk i 10).toNatClampNeg (nI i)))) := ⟨_, rfl⟩
        refine ms_W.heq eG_1 ?_
        have hG_2 : gr_at G_1 g fl w h nr := by rw [eG_1]; exact gr_at.up hG (by omega)
        have hC_3 : cr_at G_1 g q c hd on ht (upd cm (wk i 10).toNatClampNeg (nI i)) wk := by rw [eG_1]; exact cr_at.s_cm hC (upd cm (wk i 10).toNatClampNeg (nI i))
        have hF_4 : ms_fr c 29 G G_1 := by rw [eG_1]; exact ms_fr.up hF (by omega)
        have hf_5 := (congrFun eG_1 (c + 5 + i)).trans ((ms_up_n G _ (by omega)).trans (hC.2.2.2.2.2 i hi))
        have hf_6 := (congrFun eG_1 (c + 5 + (cm (wk i 10).toNatClampNeg).toNatClampNeg)).trans ((ms_up_n G _ (by omega)).trans hrv)
        refine ms_retv (st := []) dX0_claim_64 rfl ?_
        refine ⟨rfl, rfl, ?_, hF_4⟩
        unfold clC
        rw [if_pos ⟨hc_18, fun h8 => by first | exact Int32.not_le.mp h_51 | exact absurd h8 hc_35⟩]
        exact hC_3
    · rw [show cr_get c (hd 0) (cm (wk i 10).toNatClampNeg) = .null from if_neg hc_35]
      refine ms_run (pc' := 40) (lv' := [(3, .null), (2, .ref (c + 5 + i)), (0, .ref c), (1, .int (nI i))]) (st' := [.null]) _ (ms_deC dX0_claim_38 (ms_deC dX0_claim_39 ms_deN)) rfl rfl ?_
      refine ms_ifnullN (tgt := 54) dX0_claim_40 (by decide) ?_
      refine ms_run (pc' := 55) (lv' := [(3, .null), (2, .ref (c + 5 + i)), (0, .ref c), (1, .int (nI i))]) (st' := [.ref c]) _ (ms_deC dX0_claim_54 ms_deN) rfl rfl ?_
      refine ms_getf dX0_claim_55 fg_X0_31 hC.1 rfl ?_
      refine ms_run (pc' := 59) (lv' := [(3, .null), (2, .ref (c + 5 + i)), (0, .ref c), (1, .int (nI i))]) (st' := [.ref (c + 5 + i), .ref (c + 4)]) _ (ms_deC dX0_claim_58 ms_deN) rfl rfl ?_
      refine ms_getf dX0_claim_59 fg_X0_176 (hC.2.2.2.2.2 i hi) rfl ?_
      refine ms_run (pc' := 63) (lv' := [(3, .null), (2, .ref (c + 5 + i)), (0, .ref c), (1, .int (nI i))]) (st' := [.int (nI i), .int (wk i 10), .ref (c + 4)]) _ (ms_deC dX0_claim_62 ms_deN) rfl rfl ?_
      refine ms_iastore dX0_claim_63 hC.2.2.2.2.1 (gr_hin (by assumption)) ?_
      obtain ⟨G_7, eG_7⟩ : ∃ K9 : ms_H, K9 = ms_up G (c + 4) (.inl (0, 196, .inl (upd cm (wk i 10).toNatClampNeg (nI i)))) := ⟨_, rfl⟩
      refine ms_W.heq eG_7 ?_
      have hG_8 : gr_at G_7 g fl w h nr := by rw [eG_7]; exact gr_at.up hG (by omega)
      have hC_9 : cr_at G_7 g q c hd on ht (upd cm (wk i 10).toNatClampNeg (nI i)) wk := by rw [eG_7]; exact cr_at.s_cm hC (upd cm (wk i 10).toNatClampNeg (nI i))
      have hF_10 : ms_fr c 29 G G_7 := by rw [eG_7]; exact ms_fr.up hF (by omega)
      have hf_11 := (congrFun eG_7 (c + 5 + i)).trans ((ms_up_n G _ (by omega)).trans (hC.2.2.2.2.2 i hi))
      refine ms_retv (st := []) dX0_claim_64 rfl ?_
      refine ⟨rfl, rfl, ?_, hF_10⟩
      unfold clC
      rw [if_pos ⟨hc_18, fun h8 => by first | exact Int32.not_le.mp h_51 | exact absurd h8 hc_35⟩]
      exact hC_9
  · rw [show ms_b (gr_has fl (wk i 10)) = 0 from if_neg hc_18]
    refine ms_if_ne (tgt := 25) dX0_claim_21 (by decide) (fun h9 => absurd h9 (by decide)) (fun _ => ?_)
    refine ms_retv (st := []) dX0_claim_24 rfl ?_
    refine ⟨rfl, rfl, ?_, hF⟩
    unfold clC
    rw [if_neg (fun h8 => by first | exact hc_18 h8.1 | exact (Int32.not_lt.mpr h_51) (h8.2 hc_35))]
    exact hC
set_option maxHeartbeats 4000000 in
set_option maxRecDepth 20000 in
theorem c_X0_go {n g q c : Nat} {G : ms_H} {fl w h : Int32} {nr : Nat → Int32} (hG : gr_at G g fl w h nr) {wl mk ds qu : Nat → Int32} (hQ : sq_at G g q wl mk ds qu) {hd on ht cm : Nat → Int32} {wk : Nat → Nat → Int32} (hC : cr_at G g q c hd on ht cm wk) (hs : g + 1 < q) (hs2 : q + 4 < c) {i : Nat} (hi : i < 24) (hp : gr_has fl (wk i 3)) (htg : gr_has fl (wk i 10)) : ms_M m_X0_go [.ref c, .ref (c + 5 + i), .int (nI i)] n G 0 0 (cr_Q g q c n G hd (goO (sq_mk fl mk (wk i 0) (wk i 10)) i (wk i) on) (goH (wk i) ht) cm (va_up wk i (goW (sq_mk fl mk (wk i 0) (wk i 10)) (hd 1) (wk i)))) := by
  refine ms_M.of (by decide) (Nat.le_of_ble_eq_true rfl) ?_
  show ms_W false m_X0_go _ 0 [(0, .ref c), (1, .ref (c + 5 + i)), (2, .int (nI i))] [] n G 0 0
  have hF : ms_fr c 29 G G := ms_fr.rf
  refine ms_run (pc' := 1) (lv' := [(0, .ref c), (1, .ref (c + 5 + i)), (2, .int (nI i))]) (st' := [.ref c]) _ (ms_deC dX0_go_0 ms_deN) rfl rfl ?_
  refine ms_getf dX0_go_1 fg_X0_34 hC.1 rfl ?_
  refine ms_run (pc' := 5) (lv' := [(0, .ref c), (1, .ref (c + 5 + i)), (2, .int (nI i))]) (st' := [.ref (c + 5 + i), .ref g]) _ (ms_deC dX0_go_4 ms_deN) rfl rfl ?_
  refine ms_getf dX0_go_5 fg_X0_98 (hC.2.2.2.2.2 i hi) rfl ?_
  refine ms_callVp (As := [.int (wk i 3)]) dX0_go_8 (c_X1_has hG (wk i 3)) cv_X0_77 hG.1 rfl ⟨Nat.le_of_ble_eq_true rfl, Nat.le_of_ble_eq_true rfl⟩ rfl (Nat.le_of_ble_eq_true rfl) ?_
  by_cases hc_8 : gr_has fl (wk i 3)
  · rw [show ms_b (gr_has fl (wk i 3)) = 1 from if_pos hc_8]
    refine ms_if_eq (tgt := 28) dX0_go_11 (by decide) (fun h9 => absurd h9 (by decide)) (fun _ => ?_)
    refine ms_run (pc' := 15) (lv' := [(0, .ref c), (1, .ref (c + 5 + i)), (2, .int (nI i))]) (st' := [.ref c]) _ (ms_deC dX0_go_14 ms_deN) rfl rfl ?_
    refine ms_getf dX0_go_15 fg_X0_34 hC.1 rfl ?_
    refine ms_run (pc' := 19) (lv' := [(0, .ref c), (1, .ref (c + 5 + i)), (2, .int (nI i))]) (st' := [.ref (c + 5 + i), .ref g]) _ (ms_deC dX0_go_18 ms_deN) rfl rfl ?_
    refine ms_getf dX0_go_19 fg_X0_176 (hC.2.2.2.2.2 i hi) rfl ?_
    refine ms_callVp (As := [.int (wk i 10)]) dX0_go_22 (c_X1_has hG (wk i 10)) cv_X0_77 hG.1 rfl ⟨Nat.le_of_ble_eq_true rfl, Nat.le_of_ble_eq_true rfl⟩ rfl (Nat.le_of_ble_eq_true rfl) ?_
    by_cases hc_22 : gr_has fl (wk i 10)
    · rw [show ms_b (gr_has fl (wk i 10)) = 1 from if_pos hc_22]
      refine ms_if_ne (tgt := 29) dX0_go_25 (by decide) (fun _ => ?_) (fun h9 => absurd h9 (by decide))
      refine ms_run (pc' := 30) (lv' := [(0, .ref c), (1, .ref (c + 5 + i)), (2, .int (nI i))]) (st' := [.ref c]) _ (ms_deC dX0_go_29 ms_deN) rfl rfl ?_
      refine ms_getf dX0_go_30 fg_X0_24 hC.1 rfl ?_
      refine ms_run (pc' := 34) (lv' := [(0, .ref c), (1, .ref (c + 5 + i)), (2, .int (nI i))]) (st' := [.ref (c + 5 + i), .ref (c + 2)]) _ (ms_deC dX0_go_33 ms_deN) rfl rfl ?_
      refine ms_getf dX0_go_34 fg_X0_98 (hC.2.2.2.2.2 i hi) rfl ?_
      refine ms_run (pc' := 38) (lv' := [(0, .ref c), (1, .ref (c + 5 + i)), (2, .int (nI i))]) (st' := [.int (-1), .int (wk i 3), .ref (c + 2)]) _ (ms_deC dX0_go_37 ms_deN) rfl rfl ?_
      refine ms_iastore dX0_go_38 hC.2.2.1 (gr_hin hp) ?_
      obtain ⟨G_1, eG_1⟩ : ∃ K9 : ms_H, K9 = ms_up G (c + 2) (.inl (0, 196, .inl (upd on (wk i 3).toNatClampNeg (-1)))) := ⟨_, rfl⟩
      refine ms_W.heq eG_1 ?_
      have hG_2 : gr_at G_1 g fl w h nr := by rw [eG_1]; exact gr_at.up hG (by omega)
      have hQ_3 : sq_at G_1 g q wl mk ds qu := by rw [eG_1]; exact sq_at.up hQ (by omega)
      have hC_4 : cr_at G_1 g q c hd (upd on (wk i 3).toNatClampNeg (-1)) ht cm wk := by rw [eG_1]; exact cr_at.s_on hC (upd on (wk i 3).toNatClampNeg (-1))
      have hF_5 : ms_fr c 29 G G_1 := by rw [eG_1]; exact ms_fr.up hF (by omega)
      have hf_6 := (congrFun eG_1 (c + 5 + i)).trans ((ms_up_n G _ (by omega)).trans (hC.2.2.2.2.2 i hi))
      have hf_7 := (congrFun eG_1 q).trans ((ms_up_n G _ (by omega)).trans hQ.1)
      refine ms_run (pc' := 41) (lv' := [(0, .ref c), (1, .ref (c + 5 + i)), (2, .int (nI i))]) (st' := [.ref (c + 5 + i), .ref (c + 5 + i)]) _ (ms_deC dX0_go_39 (ms_deC dX0_go_40 ms_deN)) rfl rfl ?_
      refine ms_getf dX0_go_41 fg_X0_173 hf_6 rfl ?_
      refine ms_putf dX0_go_44 fp_X0_115 hf_6 (Nat.le_of_ble_eq_true rfl) rfl rfl ?_
      obtain ⟨G_8, eG_8⟩ : ∃ K9 : ms_H, K9 = ms_up G_1 (c + 5 + i) (.inr (4, cr_w (upd (wk i) 4 (wk i 9)))) := ⟨_, rfl⟩
      refine ms_W.heq eG_8 ?_
      have hG_9 : gr_at G_8 g fl w h nr := by rw [eG_8]; exact gr_at.up hG_2 (by omega)
      have hQ_10 : sq_at G_8 g q wl mk ds qu := by rw [eG_8]; exact sq_at.up hQ_3 (by omega)
      have hC_11 : cr_at G_8 g q c hd (upd on (wk i 3).toNatClampNeg (-1)) ht cm (va_up wk i (upd (wk i) 4 (wk i 9))) := by rw [eG_8]; exact cr_at.s_wk hC_4 (hi) (upd (wk i) 4 (wk i 9))
      have hF_12 : ms_fr c 29 G G_8 := by rw [eG_8]; exact ms_fr.up hF_5 (by omega)
      have hf_13 : G_8 (c + 5 + i) = some (.inr (4, cr_w (upd (wk i) 4 (wk i 9)))) := by rw [eG_8]; exact ms_up_s _ _ _
      have hf_14 := (congrFun eG_8 q).trans ((ms_up_n G_1 _ (by omega)).trans hQ_3.1)
      refine ms_run (pc' := 49) (lv' := [(0, .ref c), (1, .ref (c + 5 + i)), (2, .int (nI i))]) (st' := [.int 0, .ref (c + 5 + i)]) _ (ms_deC dX0_go_47 (ms_deC dX0_go_48 ms_deN)) rfl rfl ?_
      refine ms_putf dX0_go_49 fp_X0_118 hf_13 (Nat.le_of_ble_eq_true rfl) rfl rfl ?_
      obtain ⟨G_15, eG_15⟩ : ∃ K9 : ms_H, K9 = ms_up G_8 (c + 5 + i) (.inr (4, cr_w (upd (upd (wk i) 4 (wk i 9)) 5 0))) := ⟨_, rfl⟩
      refine ms_W.heq eG_15 ?_
      have hG_16 : gr_at G_15 g fl w h nr := by rw [eG_15]; exact gr_at.up hG_9 (by omega)
      have hQ_17 : sq_at G_15 g q wl mk ds qu := by rw [eG_15]; exact sq_at.up hQ_10 (by omega)
      have hC_18 : cr_at G_15 g q c hd (upd on (wk i 3).toNatClampNeg (-1)) ht cm (va_up (va_up wk i (upd (wk i) 4 (wk i 9))) i (upd (upd (wk i) 4 (wk i 9)) 5 0)) := by rw [eG_15]; exact cr_at.s_wk hC_11 (hi) (upd (upd (wk i) 4 (wk i 9)) 5 0)
      have hF_19 : ms_fr c 29 G G_15 := by rw [eG_15]; exact ms_fr.up hF_12 (by omega)
      have hf_20 : G_15 (c + 5 + i) = some (.inr (4, cr_w (upd (upd (wk i) 4 (wk i 9)) 5 0))) := by rw [eG_15]; exact ms_up_s _ _ _
      have hf_21 := (congrFun eG_15 q).trans ((ms_up_n G_8 _ (by omega)).trans hQ_10.1)
      refine ms_run (pc' := 54) (lv' := [(0, .ref c), (1, .ref (c + 5 + i)), (2, .int (nI i))]) (st' := [.ref (c + 5 + i), .ref (c + 5 + i)]) _ (ms_deC dX0_go_52 (ms_deC dX0_go_53 ms_deN)) rfl rfl ?_
      refine ms_getf dX0_go_54 fg_X0_106 hf_20 rfl ?_
      refine ms_run (pc' := 59) (lv' := [(0, .ref c), (1, .ref (c + 5 + i)), (2, .int (nI i))]) (st' := [.int ((wk i 6) + 1), .ref (c + 5 + i)]) _ (ms_deC dX0_go_57 (ms_deC dX0_go_58 ms_deN)) rfl rfl ?_
      refine ms_putf dX0_go_59 fp_X0_106 hf_20 (Nat.le_of_ble_eq_true rfl) rfl rfl ?_
      obtain ⟨G_22, eG_22⟩ : ∃ K9 : ms_H, K9 = ms_up G_15 (c + 5 + i) (.inr (4, cr_w (upd (upd (upd (wk i) 4 (wk i 9)) 5 0) 6 ((wk i 6) + 1)))) := ⟨_, rfl⟩
      refine ms_W.heq eG_22 ?_
      have hG_23 : gr_at G_22 g fl w h nr := by rw [eG_22]; exact gr_at.up hG_16 (by omega)
      have hQ_24 : sq_at G_22 g q wl mk ds qu := by rw [eG_22]; exact sq_at.up hQ_17 (by omega)
      have hC_25 : cr_at G_22 g q c hd (upd on (wk i 3).toNatClampNeg (-1)) ht cm (va_up (va_up (va_up wk i (upd (wk i) 4 (wk i 9))) i (upd (upd (wk i) 4 (wk i 9)) 5 0)) i (upd (upd (upd (wk i) 4 (wk i 9)) 5 0) 6 ((wk i 6) + 1))) := by rw [eG_22]; exact cr_at.s_wk hC_18 (hi) (upd (upd (upd (wk i) 4 (wk i 9)) 5 0) 6 ((wk i 6) + 1))
      have hF_26 : ms_fr c 29 G G_22 := by rw [eG_22]; exact ms_fr.up hF_19 (by omega)
      have hf_27 : G_22 (c + 5 + i) = some (.inr (4, cr_w (upd (upd (upd (wk i) 4 (wk i 9)) 5 0) 6 ((wk i 6) + 1)))) := by rw [eG_22]; exact ms_up_s _ _ _
      have hf_28 := (congrFun eG_22 q).trans ((ms_up_n G_15 _ (by omega)).trans hQ_17.1)
      refine ms_run (pc' := 63) (lv' := [(0, .ref c), (1, .ref (c + 5 + i)), (2, .int (nI i))]) (st' := [.ref c]) _ (ms_deC dX0_go_62 ms_deN) rfl rfl ?_
      refine ms_getf dX0_go_63 fg_X0_28 hC_25.1 rfl ?_
      refine ms_run (pc' := 67) (lv' := [(0, .ref c), (1, .ref (c + 5 + i)), (2, .int (nI i))]) (st' := [.ref (c + 5 + i), .ref (c + 3)]) _ (ms_deC dX0_go_66 ms_deN) rfl rfl ?_
      refine ms_getf dX0_go_67 fg_X0_176 hf_27 rfl ?_
      refine ms_run (pc' := 71) (lv' := [(0, .ref c), (1, .ref (c + 5 + i)), (2, .int (nI i))]) (st' := [.int (wk i 10), .ref (c + 3), .int (wk i 10), .ref (c + 3)]) _ (ms_deC dX0_go_70 ms_deN) rfl rfl ?_
      refine ms_iaload dX0_go_71 hC_25.2.2.2.1 (gr_hin htg) ?_
      refine ms_run (pc' := 74) (lv' := [(0, .ref c), (1, .ref (c + 5 + i)), (2, .int (nI i))]) (st' := [.int ((ht (wk i 10).toNatClampNeg) + 1), .int (wk i 10), .ref (c + 3)]) _ (ms_deC dX0_go_72 (ms_deC dX0_go_73 ms_deN)) rfl rfl ?_
      refine ms_iastore dX0_go_74 hC_25.2.2.2.1 (gr_hin htg) ?_
      obtain ⟨G_29, eG_29⟩ : ∃ K9 : ms_H, K9 = ms_up G_22 (c + 3) (.inl (0, 196, .inl (upd ht (wk i 10).toNatClampNeg ((ht (wk i 10).toNatClampNeg) + 1)))) := ⟨_, rfl⟩
      refine ms_W.heq eG_29 ?_
      have hG_30 : gr_at G_29 g fl w h nr := by rw [eG_29]; exact gr_at.up hG_23 (by omega)
      have hQ_31 : sq_at G_29 g q wl mk ds qu := by rw [eG_29]; exact sq_at.up hQ_24 (by omega)
      have hC_32 : cr_at G_29 g q c hd (upd on (wk i 3).toNatClampNeg (-1)) (upd ht (wk i 10).toNatClampNeg ((ht (wk i 10).toNatClampNeg) + 1)) cm (va_up (va_up (va_up wk i (upd (wk i) 4 (wk i 9))) i (upd (upd (wk i) 4 (wk i 9)) 5 0)) i (upd (upd (upd (wk i) 4 (wk i 9)) 5 0) 6 ((wk i 6) + 1))) := by rw [eG_29]; exact cr_at.s_ht hC_25 (upd ht (wk i 10).toNatClampNeg ((ht (wk i 10).toNatClampNeg) + 1))
      have hF_33 : ms_fr c 29 G G_29 := by rw [eG_29]; exact ms_fr.up hF_26 (by omega)
      have hf_34 := (congrFun eG_29 (c + 5 + i)).trans ((ms_up_n G_22 _ (by omega)).trans hf_27)
      have hf_35 := (congrFun eG_29 q).trans ((ms_up_n G_22 _ (by omega)).trans hQ_24.1)
      refine ms_run (pc' := 76) (lv' := [(0, .ref c), (1, .ref (c + 5 + i)), (2, .int (nI i))]) (st' := [.ref c]) _ (ms_deC dX0_go_75 ms_deN) rfl rfl ?_
      refine ms_getf dX0_go_76 fg_X0_38 hC_32.1 rfl ?_
      refine ms_run (pc' := 80) (lv' := [(0, .ref c), (1, .ref (c + 5 + i)), (2, .int (nI i))]) (st' := [.ref (c + 5 + i), .ref q]) _ (ms_deC dX0_go_79 ms_deN) rfl rfl ?_
      refine ms_getf dX0_go_80 fg_X0_95 hf_34 rfl ?_
      refine ms_run (pc' := 84) (lv' := [(0, .ref c), (1, .ref (c + 5 + i)), (2, .int (nI i))]) (st' := [.ref (c + 5 + i), .int (wk i 0), .ref q]) _ (ms_deC dX0_go_83 ms_deN) rfl rfl ?_
      refine ms_getf dX0_go_84 fg_X0_176 hf_34 rfl ?_
      refine ms_callVp (As := [.int (wk i 0), .int (wk i 10)]) dX0_go_87 (c_X3_isMarked hG_30 hQ_31 (wk i 0) (wk i 10)) cv_X0_182 hQ_31.1 rfl ⟨Nat.le_of_ble_eq_true rfl, Nat.le_of_ble_eq_true rfl⟩ rfl (Nat.le_of_ble_eq_true rfl) ?_
      by_cases hc_87 : sq_mk fl mk (wk i 0) (wk i 10)
      · rw [show ms_b (sq_mk fl mk (wk i 0) (wk i 10)) = 1 from if_pos hc_87]
        refine ms_if_eq (tgt := 109) dX0_go_90 (by decide) (fun h9 => absurd h9 (by decide)) (fun _ => ?_)
        refine ms_run (pc' := 95) (lv' := [(0, .ref c), (1, .ref (c + 5 + i)), (2, .int (nI i))]) (st' := [.int (-1), .ref (c + 5 + i)]) _ (ms_deC dX0_go_93 (ms_deC dX0_go_94 ms_deN)) rfl rfl ?_
        refine ms_putf dX0_go_95 fp_X0_98 hf_34 (Nat.le_of_ble_eq_true rfl) rfl rfl ?_
        obtain ⟨G_36, eG_36⟩ : ∃ K9 : ms_H, K9 = ms_up G_29 (c + 5 + i) (.inr (4, cr_w (upd (upd (upd (upd (wk i) 4 (wk i 9)) 5 0) 6 ((wk i 6) + 1)) 3 (-1)))) := ⟨_, rfl⟩
        refine ms_W.heq eG_36 ?_
        have hG_37 : gr_at G_36 g fl w h nr := by rw [eG_36]; exact gr_at.up hG_30 (by omega)
        have hQ_38 : sq_at G_36 g q wl mk ds qu := by rw [eG_36]; exact sq_at.up hQ_31 (by omega)
        have hC_39 : cr_at G_36 g q c hd (upd on (wk i 3).toNatClampNeg (-1)) (upd ht (wk i 10).toNatClampNeg ((ht (wk i 10).toNatClampNeg) + 1)) cm (va_up (va_up (va_up (va_up wk i (upd (wk i) 4 (wk i 9))) i (upd (upd (wk i) 4 (wk i 9)) 5 0)) i (upd (upd (upd (wk i) 4 (wk i 9)) 5 0) 6 ((wk i 6) + 1))) i (upd (upd (upd (upd (wk i) 4 (wk i 9)) 5 0) 6 ((wk i 6) + 1)) 3 (-1))) := by rw [eG_36]; exact cr_at.s_wk hC_32 (hi) (upd (upd (upd (upd (wk i) 4 (wk i 9)) 5 0) 6 ((wk i 6) + 1)) 3 (-1))
        have hF_40 : ms_fr c 29 G G_36 := by rw [eG_36]; exact ms_fr.up hF_33 (by omega)
        have hf_41 : G_36 (c + 5 + i) = some (.inr (4, cr_w (upd (upd (upd (upd (wk i) 4 (wk i 9)) 5 0) 6 ((wk i 6) + 1)) 3 (-1)))) := by rw [eG_36]; exact ms_up_s _ _ _
        have hf_42 := (congrFun eG_36 q).trans ((ms_up_n G_29 _ (by omega)).trans hQ_31.1)
        refine ms_run (pc' := 100) (lv' := [(0, .ref c), (1, .ref (c + 5 + i)), (2, .int (nI i))]) (st' := [.ref c, .ref (c + 5 + i)]) _ (ms_deC dX0_go_98 (ms_deC dX0_go_99 ms_deN)) rfl rfl ?_
        refine ms_getf dX0_go_100 fg_X0_46 hC_39.1 rfl ?_
        refine ms_putf dX0_go_103 fp_X0_121 hf_41 (Nat.le_of_ble_eq_true rfl) rfl rfl ?_
        obtain ⟨G_43, eG_43⟩ : ∃ K9 : ms_H, K9 = ms_up G_36 (c + 5 + i) (.inr (4, cr_w (upd (upd (upd (upd (upd (wk i) 4 (wk i 9)) 5 0) 6 ((wk i 6) + 1)) 3 (-1)) 7 (hd 1)))) := ⟨_, rfl⟩
        refine ms_W.heq eG_43 ?_
        have hG_44 : gr_at G_43 g fl w h nr := by rw [eG_43]; exact gr_at.up hG_37 (by omega)
        have hQ_45 : sq_at G_43 g q wl mk ds qu := by rw [eG_43]; exact sq_at.up hQ_38 (by omega)
        have hC_46 : cr_at G_43 g q c hd (upd on (wk i 3).toNatClampNeg (-1)) (upd ht (wk i 10).toNatClampNeg ((ht (wk i 10).toNatClampNeg) + 1)) cm (va_up (va_up (va_up (va_up (va_up wk i (upd (wk i) 4 (wk i 9))) i (upd (upd (wk i) 4 (wk i 9)) 5 0)) i (upd (upd (upd (wk i) 4 (wk i 9)) 5 0) 6 ((wk i 6) + 1))) i (upd (upd (upd (upd (wk i) 4 (wk i 9)) 5 0) 6 ((wk i 6) + 1)) 3 (-1))) i (upd (upd (upd (upd (upd (wk i) 4 (wk i 9)) 5 0) 6 ((wk i 6) + 1)) 3 (-1)) 7 (hd 1))) := by rw [eG_43]; exact cr_at.s_wk hC_39 (hi) (upd (upd (upd (upd (upd (wk i) 4 (wk i 9)) 5 0) 6 ((wk i 6) + 1)) 3 (-1)) 7 (hd 1))
        have hF_47 : ms_fr c 29 G G_43 := by rw [eG_43]; exact ms_fr.up hF_40 (by omega)
        have hf_48 : G_43 (c + 5 + i) = some (.inr (4, cr_w (upd (upd (upd (upd (upd (wk i) 4 (wk i 9)) 5 0) 6 ((wk i 6) + 1)) 3 (-1)) 7 (hd 1)))) := by rw [eG_43]; exact ms_up_s _ _ _
        have hf_49 := (congrFun eG_43 q).trans ((ms_up_n G_36 _ (by omega)).trans hQ_38.1)
        refine ms_goto (tgt := 127) dX0_go_106 (by decide) ?_
        refine ms_retv (st := []) dX0_go_127 rfl ?_
        refine ⟨rfl, rfl, ?_, hF_47⟩
        unfold goW goO goH
        first | rw [if_pos hc_87, if_pos hc_87] | rw [if_neg hc_87, if_neg hc_87]
        have h9 := hC_46
        simp only [bx_uu] at h9
        exact h9
      · rw [show ms_b (sq_mk fl mk (wk i 0) (wk i 10)) = 0 from if_neg hc_87]
        refine ms_if_eq (tgt := 109) dX0_go_90 (by decide) (fun _ => ?_) (fun h9 => absurd h9 (by decide))
        refine ms_run (pc' := 111) (lv' := [(0, .ref c), (1, .ref (c + 5 + i)), (2, .int (nI i))]) (st' := [.ref (c + 5 + i), .ref (c + 5 + i)]) _ (ms_deC dX0_go_109 (ms_deC dX0_go_110 ms_deN)) rfl rfl ?_
        refine ms_getf dX0_go_111 fg_X0_176 hf_34 rfl ?_
        refine ms_putf dX0_go_114 fp_X0_98 hf_34 (Nat.le_of_ble_eq_true rfl) rfl rfl ?_
        obtain ⟨G_50, eG_50⟩ : ∃ K9 : ms_H, K9 = ms_up G_29 (c + 5 + i) (.inr (4, cr_w (upd (upd (upd (upd (wk i) 4 (wk i 9)) 5 0) 6 ((wk i 6) + 1)) 3 (wk i 10)))) := ⟨_, rfl⟩
        refine ms_W.heq eG_50 ?_
        have hG_51 : gr_at G_50 g fl w h nr := by rw [eG_50]; exact gr_at.up hG_30 (by omega)
        have hQ_52 : sq_at G_50 g q wl mk ds qu := by rw [eG_50]; exact sq_at.up hQ_31 (by omega)
        have hC_53 : cr_at G_50 g q c hd (upd on (wk i 3).toNatClampNeg (-1)) (upd ht (wk i 10).toNatClampNeg ((ht (wk i 10).toNatClampNeg) + 1)) cm (va_up (va_up (va_up (va_up wk i (upd (wk i) 4 (wk i 9))) i (upd (upd (wk i) 4 (wk i 9)) 5 0)) i (upd (upd (upd (wk i) 4 (wk i 9)) 5 0) 6 ((wk i 6) + 1))) i (upd (upd (upd (upd (wk i) 4 (wk i 9)) 5 0) 6 ((wk i 6) + 1)) 3 (wk i 10))) := by rw [eG_50]; exact cr_at.s_wk hC_32 (hi) (upd (upd (upd (upd (wk i) 4 (wk i 9)) 5 0) 6 ((wk i 6) + 1)) 3 (wk i 10))
        have hF_54 : ms_fr c 29 G G_50 := by rw [eG_50]; exact ms_fr.up hF_33 (by omega)
        have hf_55 : G_50 (c + 5 + i) = some (.inr (4, cr_w (upd (upd (upd (upd (wk i) 4 (wk i 9)) 5 0) 6 ((wk i 6) + 1)) 3 (wk i 10)))) := by rw [eG_50]; exact ms_up_s _ _ _
        have hf_56 := (congrFun eG_50 q).trans ((ms_up_n G_29 _ (by omega)).trans hQ_31.1)
        refine ms_run (pc' := 118) (lv' := [(0, .ref c), (1, .ref (c + 5 + i)), (2, .int (nI i))]) (st' := [.ref c]) _ (ms_deC dX0_go_117 ms_deN) rfl rfl ?_
        refine ms_getf dX0_go_118 fg_X0_24 hC_53.1 rfl ?_
        refine ms_run (pc' := 122) (lv' := [(0, .ref c), (1, .ref (c + 5 + i)), (2, .int (nI i))]) (st' := [.ref (c + 5 + i), .ref (c + 2)]) _ (ms_deC dX0_go_121 ms_deN) rfl rfl ?_
        refine ms_getf dX0_go_122 fg_X0_176 hf_55 rfl ?_
        refine ms_run (pc' := 126) (lv' := [(0, .ref c), (1, .ref (c + 5 + i)), (2, .int (nI i))]) (st' := [.int (nI i), .int (wk i 10), .ref (c + 2)]) _ (ms_deC dX0_go_125 ms_deN) rfl rfl ?_
        refine ms_iastore dX0_go_126 hC_53.2.2.1 (gr_hin htg) ?_
        obtain ⟨G_57, eG_57⟩ : ∃ K9 : ms_H, K9 = ms_up G_50 (c + 2) (.inl (0, 196, .inl (upd (upd on (wk i 3).toNatClampNeg (-1)) (wk i 10).toNatClampNeg (nI i)))) := ⟨_, rfl⟩
        refine ms_W.heq eG_57 ?_
        have hG_58 : gr_at G_57 g fl w h nr := by rw [eG_57]; exact gr_at.up hG_51 (by omega)
        have hQ_59 : sq_at G_57 g q wl mk ds qu := by rw [eG_57]; exact sq_at.up hQ_52 (by omega)
        have hC_60 : cr_at G_57 g q c hd (upd (upd on (wk i 3).toNatClampNeg (-1)) (wk i 10).toNatClampNeg (nI i)) (upd ht (wk i 10).toNatClampNeg ((ht (wk i 10).toNatClampNeg) + 1)) cm (va_up (va_up (va_up (va_up wk i (upd (wk i) 4 (wk i 9))) i (upd (upd (wk i) 4 (wk i 9)) 5 0)) i (upd (upd (upd (wk i) 4 (wk i 9)) 5 0) 6 ((wk i 6) + 1))) i (upd (upd (upd (upd (wk i) 4 (wk i 9)) 5 0) 6 ((wk i 6) + 1)) 3 (wk i 10))) := by rw [eG_57]; exact cr_at.s_on hC_53 (upd (upd on (wk i 3).toNatClampNeg (-1)) (wk i 10).toNatClampNeg (nI i))
        have hF_61 : ms_fr c 29 G G_57 := by rw [eG_57]; exact ms_fr.up hF_54 (by omega)
        have hf_62 := (congrFun eG_57 (c + 5 + i)).trans ((ms_up_n G_50 _ (by omega)).trans hf_55)
        have hf_63 := (congrFun eG_57 q).trans ((ms_up_n G_50 _ (by omega)).trans hQ_52.1)
        refine ms_retv (st := []) dX0_go_127 rfl ?_
        refine ⟨rfl, rfl, ?_, hF_61⟩
        unfold goW goO goH
        first | rw [if_pos hc_87, if_pos hc_87] | rw [if_neg hc_87, if_neg hc_87]
        have h9 := hC_60
        simp only [bx_uu] at h9
        exact h9
    · rw [show ms_b (gr_has fl (wk i 10)) = 0 from if_neg hc_22]
      exact absurd htg hc_22
  · rw [show ms_b (gr_has fl (wk i 3)) = 0 from if_neg hc_8]
    exact absurd hp hc_8
/-- whether the walker whose row is u goes -/
abbrev goP (fl : Int32) (cm u : Nat → Int32) (i : Nat) : Prop := gr_has fl (u 10) ∧ cm (u 10).toNatClampNeg = nI i
def gwO (fl : Int32) (mk cm : Nat → Int32) (i : Nat) (u on : Nat → Int32) : Nat → Int32 := if ¬ u 8 = 0 ∧ goP fl cm u i then goO (sq_mk fl mk (u 0) (u 10)) i u on else on
def gwH (fl : Int32) (cm : Nat → Int32) (i : Nat) (u ht : Nat → Int32) : Nat → Int32 := if ¬ u 8 = 0 ∧ goP fl cm u i then goH u ht else ht
def gwW (fl : Int32) (mk cm : Nat → Int32) (tm : Int32) (i : Nat) (u : Nat → Int32) : Nat → Int32 := if ¬ u 8 = 0 then (if goP fl cm u i then goW (sq_mk fl mk (u 0) (u 10)) tm u else waW u) else u
theorem va_up_id {α : Type} (f : Nat → α) (k : Nat) : va_up f k (f k) = f := by
  funext j
  unfold va_up
  by_cases e : j = k
  · subst e; exact if_pos rfl
  · exact if_neg e
set_option maxHeartbeats 4000000 in
set_option maxRecDepth 20000 in
theorem c_X0_goOrWait {n g q c : Nat} {G : ms_H} {fl w h : Int32} {nr : Nat → Int32} (hG : gr_at G g fl w h nr) {wl mk ds qu : Nat → Int32} (hQ : sq_at G g q wl mk ds qu) {hd on ht cm : Nat → Int32} {wk : Nat → Nat → Int32} (hC : cr_at G g q c hd on ht cm wk) (hs : g + 1 < q) (hs2 : q + 4 < c) {i : Nat} (hi : i < 24) {cnt : Nat} (hx : hd 0 = nI cnt) (hc : cnt ≤ 24) (hlt : i < cnt) (hp : ¬ wk i 8 = 0 → gr_has fl (wk i 3)) : ms_M m_X0_goOrWait [.ref c, .int (nI i)] n G 0 0 (cr_Q g q c n G hd (gwO fl mk cm i (wk i) on) (gwH fl cm i (wk i) ht) cm (va_up wk i (gwW fl mk cm (hd 1) i (wk i)))) := by
  refine ms_M.of (by decide) (Nat.le_of_ble_eq_true rfl) ?_
  show ms_W false m_X0_goOrWait _ 0 [(0, .ref c), (1, .int (nI i))] [] n G 0 0
  have hF : ms_fr c 29 G G := ms_fr.rf
  refine ms_run (pc' := 2) (lv' := [(0, .ref c), (1, .int (nI i))]) (st' := [.int (nI i), .ref c]) _ (ms_deC dX0_goOrWait_0 (ms_deC dX0_goOrWait_1 ms_deN)) rfl rfl ?_
  refine ms_callVp (As := [.int (nI i)]) dX0_goOrWait_2 (c_X0_getI hC hx hc hlt) cv_X0_55 hC.1 rfl ⟨Nat.le_of_ble_eq_true rfl, Nat.le_of_ble_eq_true rfl⟩ rfl (Nat.le_of_ble_eq_true rfl) ?_
  refine ms_run (pc' := 7) (lv' := [(2, .ref (c + 5 + i)), (0, .ref c), (1, .int (nI i))]) (st' := [.ref (c + 5 + i)]) _ (ms_deC dX0_goOrWait_5 (ms_deC dX0_goOrWait_6 ms_deN)) rfl rfl ?_
  refine ms_ifnull dX0_goOrWait_7 ?_
  refine ms_run (pc' := 11) (lv' := [(2, .ref (c + 5 + i)), (0, .ref c), (1, .int (nI i))]) (st' := [.ref (c + 5 + i)]) _ (ms_deC dX0_goOrWait_10 ms_deN) rfl rfl ?_
  refine ms_getf dX0_goOrWait_11 fg_X0_154 (hC.2.2.2.2.2 i hi) rfl ?_
  refine ms_if_ne (tgt := 18) dX0_goOrWait_14 (by decide) (fun h_14 => ?_) (fun h_14 => ?_)
  · skip
    refine ms_run (pc' := 19) (lv' := [(2, .ref (c + 5 + i)), (0, .ref c), (1, .int (nI i))]) (st' := [.ref c]) _ (ms_deC dX0_goOrWait_18 ms_deN) rfl rfl ?_
    refine ms_getf dX0_goOrWait_19 fg_X0_34 hC.1 rfl ?_
    refine ms_run (pc' := 23) (lv' := [(2, .ref (c + 5 + i)), (0, .ref c), (1, .int (nI i))]) (st' := [.ref (c + 5 + i), .ref g]) _ (ms_deC dX0_goOrWait_22 ms_deN) rfl rfl ?_
    refine ms_getf dX0_goOrWait_23 fg_X0_176 (hC.2.2.2.2.2 i hi) rfl ?_
    refine ms_callVp (As := [.int (wk i 10)]) dX0_goOrWait_26 (c_X1_has hG (wk i 10)) cv_X0_77 hG.1 rfl ⟨Nat.le_of_ble_eq_true rfl, Nat.le_of_ble_eq_true rfl⟩ rfl (Nat.le_of_ble_eq_true rfl) ?_
    by_cases hc_26 : gr_has fl (wk i 10)
    · rw [show ms_b (gr_has fl (wk i 10)) = 1 from if_pos hc_26]
      refine ms_if_eq (tgt := 54) dX0_goOrWait_29 (by decide) (fun h9 => absurd h9 (by decide)) (fun _ => ?_)
      refine ms_run (pc' := 33) (lv' := [(2, .ref (c + 5 + i)), (0, .ref c), (1, .int (nI i))]) (st' := [.ref c]) _ (ms_deC dX0_goOrWait_32 ms_deN) rfl rfl ?_
      refine ms_getf dX0_goOrWait_33 fg_X0_31 hC.1 rfl ?_
      refine ms_run (pc' := 37) (lv' := [(2, .ref (c + 5 + i)), (0, .ref c), (1, .int (nI i))]) (st' := [.ref (c + 5 + i), .ref (c + 4)]) _ (ms_deC dX0_goOrWait_36 ms_deN) rfl rfl ?_
      refine ms_getf dX0_goOrWait_37 fg_X0_176 (hC.2.2.2.2.2 i hi) rfl ?_
      refine ms_iaload dX0_goOrWait_40 hC.2.2.2.2.1 (gr_hin (by assumption)) ?_
      refine ms_run (pc' := 42) (lv' := [(2, .ref (c + 5 + i)), (0, .ref c), (1, .int (nI i))]) (st' := [.int (nI i), .int (cm (wk i 10).toNatClampNeg)]) _ (ms_deC dX0_goOrWait_41 ms_deN) rfl rfl ?_
      refine ms_icmp_ne (tgt := 54) dX0_goOrWait_42 (by decide) (fun h_42 => ?_) (fun h_42 => ?_)
      · skip
        refine ms_run (pc' := 56) (lv' := [(2, .ref (c + 5 + i)), (0, .ref c), (1, .int (nI i))]) (st' := [.ref (c + 5 + i), .ref (c + 5 + i)]) _ (ms_deC dX0_goOrWait_54 (ms_deC dX0_goOrWait_55 ms_deN)) rfl rfl ?_
        refine ms_getf dX0_goOrWait_56 fg_X0_118 (hC.2.2.2.2.2 i hi) rfl ?_
        refine ms_run (pc' := 61) (lv' := [(2, .ref (c + 5 + i)), (0, .ref c), (1, .int (nI i))]) (st' := [.int ((wk i 5) + 1), .ref (c + 5 + i)]) _ (ms_deC dX0_goOrWait_59 (ms_deC dX0_goOrWait_60 ms_deN)) rfl rfl ?_
        refine ms_putf dX0_goOrWait_61 fp_X0_118 (hC.2.2.2.2.2 i hi) (Nat.le_of_ble_eq_true rfl) rfl rfl ?_
        obtain ⟨G_1, eG_1⟩ : ∃ K9 : ms_H, K9 = ms_up G (c + 5 + i) (.inr (4, cr_w (upd (wk i) 5 ((wk i 5) + 1)))) := ⟨_, rfl⟩
        refine ms_W.heq eG_1 ?_
        have hG_2 : gr_at G_1 g fl w h nr := by rw [eG_1]; exact gr_at.up hG (by omega)
        have hQ_3 : sq_at G_1 g q wl mk ds qu := by rw [eG_1]; exact sq_at.up hQ (by omega)
        have hC_4 : cr_at G_1 g q c hd on ht cm (va_up wk i (upd (wk i) 5 ((wk i 5) + 1))) := by rw [eG_1]; exact cr_at.s_wk hC (hi) (upd (wk i) 5 ((wk i 5) + 1))
        have hF_5 : ms_fr c 29 G G_1 := by rw [eG_1]; exact ms_fr.up hF (by omega)
        have hf_6 : G_1 (c + 5 + i) = some (.inr (4, cr_w (upd (wk i) 5 ((wk i 5) + 1)))) := by rw [eG_1]; exact ms_up_s _ _ _
        have hf_7 := (congrFun eG_1 q).trans ((ms_up_n G _ (by omega)).trans hQ.1)
        refine ms_retv (st := []) dX0_goOrWait_64 rfl ?_
        refine ⟨rfl, rfl, ?_, hF_5⟩
        have h9 : ¬ goP fl cm (wk i) i := by first | exact fun h8 => hc_26 h8.1 | exact fun h8 => h_42 h8.2
        unfold gwO gwH gwW waW
        rw [if_neg (fun h8 => h9 h8.2), if_neg (fun h8 => h9 h8.2), if_pos h_14, if_neg h9]
        exact hC_4
      · skip
        refine ms_run (pc' := 48) (lv' := [(2, .ref (c + 5 + i)), (0, .ref c), (1, .int (nI i))]) (st' := [.int (nI i), .ref (c + 5 + i), .ref c]) _ (ms_deC dX0_goOrWait_45 (ms_deC dX0_goOrWait_46 (ms_deC dX0_goOrWait_47 ms_deN))) rfl rfl ?_
        refine ms_callV0 (As := [.ref (c + 5 + i), .int (nI i)]) dX0_goOrWait_48 (c_X0_go hG hQ hC hs hs2 hi (hp h_14) hc_26) cv_X0_179 hC.1 rfl ⟨Nat.le_of_ble_eq_true rfl, Nat.le_of_ble_eq_true rfl⟩ rfl (Nat.le_of_ble_eq_true rfl) (fun v9 n9 K_go hp9 => ?_)
        obtain ⟨hv9, rfl, hC9, hF9⟩ := hp9
        cases hv9
        refine ms_goto (tgt := 64) dX0_goOrWait_51 (by decide) ?_
        refine ms_retv (st := []) dX0_goOrWait_64 rfl ?_
        refine ⟨rfl, rfl, ?_, hF9⟩
        unfold gwO gwH gwW
        rw [if_pos ⟨h_14, hc_26, h_42⟩, if_pos ⟨h_14, hc_26, h_42⟩, if_pos h_14, if_pos ⟨hc_26, h_42⟩]
        exact hC9
    · rw [show ms_b (gr_has fl (wk i 10)) = 0 from if_neg hc_26]
      refine ms_if_eq (tgt := 54) dX0_goOrWait_29 (by decide) (fun _ => ?_) (fun h9 => absurd h9 (by decide))
      refine ms_run (pc' := 56) (lv' := [(2, .ref (c + 5 + i)), (0, .ref c), (1, .int (nI i))]) (st' := [.ref (c + 5 + i), .ref (c + 5 + i)]) _ (ms_deC dX0_goOrWait_54 (ms_deC dX0_goOrWait_55 ms_deN)) rfl rfl ?_
      refine ms_getf dX0_goOrWait_56 fg_X0_118 (hC.2.2.2.2.2 i hi) rfl ?_
      refine ms_run (pc' := 61) (lv' := [(2, .ref (c + 5 + i)), (0, .ref c), (1, .int (nI i))]) (st' := [.int ((wk i 5) + 1), .ref (c + 5 + i)]) _ (ms_deC dX0_goOrWait_59 (ms_deC dX0_goOrWait_60 ms_deN)) rfl rfl ?_
      refine ms_putf dX0_goOrWait_61 fp_X0_118 (hC.2.2.2.2.2 i hi) (Nat.le_of_ble_eq_true rfl) rfl rfl ?_
      obtain ⟨G_8, eG_8⟩ : ∃ K9 : ms_H, K9 = ms_up G (c + 5 + i) (.inr (4, cr_w (upd (wk i) 5 ((wk i 5) + 1)))) := ⟨_, rfl⟩
      refine ms_W.heq eG_8 ?_
      have hG_9 : gr_at G_8 g fl w h nr := by rw [eG_8]; exact gr_at.up hG (by omega)
      have hQ_10 : sq_at G_8 g q wl mk ds qu := by rw [eG_8]; exact sq_at.up hQ (by omega)
      have hC_11 : cr_at G_8 g q c hd on ht cm (va_up wk i (upd (wk i) 5 ((wk i 5) + 1))) := by rw [eG_8]; exact cr_at.s_wk hC (hi) (upd (wk i) 5 ((wk i 5) + 1))
      have hF_12 : ms_fr c 29 G G_8 := by rw [eG_8]; exact ms_fr.up hF (by omega)
      have hf_13 : G_8 (c + 5 + i) = some (.inr (4, cr_w (upd (wk i) 5 ((wk i 5) + 1)))) := by rw [eG_8]; exact ms_up_s _ _ _
      have hf_14 := (congrFun eG_8 q).trans ((ms_up_n G _ (by omega)).trans hQ.1)
      refine ms_retv (st := []) dX0_goOrWait_64 rfl ?_
      refine ⟨rfl, rfl, ?_, hF_12⟩
      have h9 : ¬ goP fl cm (wk i) i := by first | exact fun h8 => hc_26 h8.1 | exact fun h8 => h_42 h8.2
      unfold gwO gwH gwW waW
      rw [if_neg (fun h8 => h9 h8.2), if_neg (fun h8 => h9 h8.2), if_pos h_14, if_neg h9]
      exact hC_11
  · skip
    refine ms_retv (st := []) dX0_goOrWait_17 rfl ?_
    refine ⟨rfl, rfl, ?_, hF⟩
    unfold gwO gwH gwW
    rw [if_neg (fun h8 => h8.1 h_14), if_neg (fun h8 => h8.1 h_14), if_neg (fun h8 => h8 h_14), va_up_id]
    exact hC
def ad_P (g q c n : Nat) (G : ms_H) (v : Int32) (hd on ht : Nat → Int32) (wk : Nat → Nat → Int32) : ms_P := fun r n1 G1 => r = .inl (some (.int v)) ∧ n1 = n ∧ (∃ cm, cr_at G1 g q c hd on ht cm wk) ∧ ms_fr c 29 G G1
set_option maxHeartbeats 4000000 in
set_option maxRecDepth 20000 in
theorem c_X0_add {n g q c : Nat} {G : ms_H} {fl w h : Int32} {nr : Nat → Int32} (hG : gr_at G g fl w h nr) {hd on ht cm : Nat → Int32} {wk : Nat → Nat → Int32} (hC : cr_at G g q c hd on ht cm wk) (hs : g + 1 < q) (hs2 : q + 4 < c) {cnt : Nat} (hx : hd 0 = nI cnt) (hlt : cnt < 24) (go pa mo f : Int32) (hf : gr_has fl f) : ms_M m_X0_add [.ref c, .int go, .int pa, .int mo, .int f] n G 0 0 (ad_P g q c n G (nI cnt) (h4 (nI cnt + 1) (hd 1) (hd 2) (hd 3)) (upd on f.toNatClampNeg (nI cnt)) ht (va_up wk cnt (wk_come (wk cnt) go pa mo f))) := by
  refine ms_M.of (by decide) (Nat.le_of_ble_eq_true rfl) ?_
  show ms_W false m_X0_add _ 0 [(0, .ref c), (1, .int go), (2, .int pa), (3, .int mo), (4, .int f)] [] n G 0 0
  have hF : ms_fr c 29 G G := ms_fr.rf
  have hC0 := hC.1
  rw [hx] at hC0
  refine ms_run (pc' := 1) (lv' := [(0, .ref c), (1, .int go), (2, .int pa), (3, .int mo), (4, .int f)]) (st' := [.ref c]) _ (ms_deC dX0_add_0 ms_deN) rfl rfl ?_
  refine ms_getf dX0_add_1 fg_X0_43 hC0 rfl ?_
  refine ms_run (pc' := 6) (lv' := [(0, .ref c), (1, .int go), (2, .int pa), (3, .int mo), (4, .int f)]) (st' := [.int 24, .int (nI cnt)]) _ (ms_deC dX0_add_4 ms_deN) rfl rfl ?_
  refine ms_icmp_ge (tgt := 21) dX0_add_6 (by decide) (fun h_6 => ?_) (fun h_6 => ?_)
  · skip
    exact absurd h_6 (show ¬ nI 24 ≤ nI cnt from nI_ge (b := 24) hlt (by omega))
  · skip
    refine ms_run (pc' := 10) (lv' := [(0, .ref c), (1, .int go), (2, .int pa), (3, .int mo), (4, .int f)]) (st' := [.ref c]) _ (ms_deC dX0_add_9 ms_deN) rfl rfl ?_
    refine ms_getf dX0_add_10 fg_X0_34 hC0 rfl ?_
    refine ms_run (pc' := 15) (lv' := [(0, .ref c), (1, .int go), (2, .int pa), (3, .int mo), (4, .int f)]) (st' := [.int f, .ref g]) _ (ms_deC dX0_add_13 ms_deN) rfl rfl ?_
    refine ms_callVp (As := [.int f]) dX0_add_15 (c_X1_has hG f) cv_X0_77 hG.1 rfl ⟨Nat.le_of_ble_eq_true rfl, Nat.le_of_ble_eq_true rfl⟩ rfl (Nat.le_of_ble_eq_true rfl) ?_
    by_cases hc_15 : gr_has fl f
    · rw [show ms_b (gr_has fl f) = 1 from if_pos hc_15]
      refine ms_if_ne (tgt := 23) dX0_add_18 (by decide) (fun _ => ?_) (fun h9 => absurd h9 (by decide))
      refine ms_run (pc' := 24) (lv' := [(0, .ref c), (1, .int go), (2, .int pa), (3, .int mo), (4, .int f)]) (st' := [.ref c]) _ (ms_deC dX0_add_23 ms_deN) rfl rfl ?_
      refine ms_getf dX0_add_24 fg_X0_43 hC0 rfl ?_
      refine ms_run (pc' := 31) (lv' := [(5, .int (nI cnt)), (0, .ref c), (1, .int go), (2, .int pa), (3, .int mo), (4, .int f)]) (st' := [.ref c, .ref c]) _ (ms_deC dX0_add_27 (ms_deC dX0_add_29 (ms_deC dX0_add_30 ms_deN))) rfl rfl ?_
      refine ms_getf dX0_add_31 fg_X0_43 hC0 rfl ?_
      refine ms_run (pc' := 36) (lv' := [(5, .int (nI cnt)), (0, .ref c), (1, .int go), (2, .int pa), (3, .int mo), (4, .int f)]) (st' := [.int ((nI cnt) + 1), .ref c]) _ (ms_deC dX0_add_34 (ms_deC dX0_add_35 ms_deN)) rfl rfl ?_
      refine ms_putf dX0_add_36 fp_X0_43 hC0 (Nat.le_of_ble_eq_true rfl) rfl rfl ?_
      obtain ⟨G_1, eG_1⟩ : ∃ K9 : ms_H, K9 = ms_up G c (.inr (0, [.int ((nI cnt) + 1), .int (hd 1), .int (hd 2), .int (hd 3), .ref g, .ref q, .ref (c + 1), .ref (c + 2), .ref (c + 3), .ref (c + 4)])) := ⟨_, rfl⟩
      refine ms_W.heq eG_1 ?_
      have hG_2 : gr_at G_1 g fl w h nr := by rw [eG_1]; exact gr_at.up hG (by omega)
      have hC_3 : cr_at G_1 g q c (h4 ((nI cnt) + 1) (hd 1) (hd 2) (hd 3)) on ht cm wk := by rw [eG_1]; exact cr_at.s_hd hC ((nI cnt) + 1) (hd 1) (hd 2) (hd 3)
      have hF_4 : ms_fr c 29 G G_1 := by rw [eG_1]; exact ms_fr.up hF (by omega)
      refine ms_run (pc' := 42) (lv' := [(5, .int (nI cnt)), (0, .ref c), (1, .int go), (2, .int pa), (3, .int mo), (4, .int f)]) (st' := [.int (nI cnt), .ref c]) _ (ms_deC dX0_add_39 (ms_deC dX0_add_40 ms_deN)) rfl rfl ?_
      refine ms_callVp (As := [.int (nI cnt)]) dX0_add_42 (c_X0_getI (k := cnt) (cnt := cnt + 1) hC_3 (nI_1 cnt) (by omega) (by omega)) cv_X0_55 hC_3.1 rfl ⟨Nat.le_of_ble_eq_true rfl, Nat.le_of_ble_eq_true rfl⟩ rfl (Nat.le_of_ble_eq_true rfl) ?_
      refine ms_run (pc' := 49) (lv' := [(6, .ref (c + 5 + cnt)), (5, .int (nI cnt)), (0, .ref c), (1, .int go), (2, .int pa), (3, .int mo), (4, .int f)]) (st' := [.ref (c + 5 + cnt)]) _ (ms_deC dX0_add_45 (ms_deC dX0_add_47 ms_deN)) rfl rfl ?_
      refine ms_ifnull dX0_add_49 ?_
      refine ms_run (pc' := 59) (lv' := [(6, .ref (c + 5 + cnt)), (5, .int (nI cnt)), (0, .ref c), (1, .int go), (2, .int pa), (3, .int mo), (4, .int f)]) (st' := [.int f, .int mo, .int pa, .int go, .ref (c + 5 + cnt)]) _ (ms_deC dX0_add_52 (ms_deC dX0_add_54 (ms_deC dX0_add_55 (ms_deC dX0_add_56 (ms_deC dX0_add_57 ms_deN))))) rfl rfl ?_
      refine ms_callVp (As := [.int go, .int pa, .int mo, .int f]) dX0_add_59 (c_X4_come (hC_3.2.2.2.2.2 cnt hlt) go pa mo f) cv_X0_81 (hC_3.2.2.2.2.2 cnt hlt) rfl ⟨Nat.le_of_ble_eq_true rfl, Nat.le_of_ble_eq_true rfl⟩ rfl (Nat.le_of_ble_eq_true rfl) ?_
      obtain ⟨G_5, eG_5⟩ : ∃ K9 : ms_H, K9 = ms_up G_1 (c + 5 + cnt) (.inr (4, cr_w (wk_come (wk cnt) go pa mo f))) := ⟨_, rfl⟩
      refine ms_W.heq eG_5 ?_
      have hG_6 : gr_at G_5 g fl w h nr := by rw [eG_5]; exact gr_at.up hG_2 (by omega)
      have hC_7 : cr_at G_5 g q c (h4 ((nI cnt) + 1) (hd 1) (hd 2) (hd 3)) on ht cm (va_up wk cnt (wk_come (wk cnt) go pa mo f)) := by rw [eG_5]; exact cr_at.s_wk hC_3 (hlt) (wk_come (wk cnt) go pa mo f)
      have hF_8 : ms_fr c 29 G G_5 := by rw [eG_5]; exact ms_fr.up hF_4 (by omega)
      have hf_9 : G_5 (c + 5 + cnt) = some (.inr (4, cr_w (wk_come (wk cnt) go pa mo f))) := by rw [eG_5]; exact ms_up_s _ _ _
      refine ms_run (pc' := 63) (lv' := [(6, .ref (c + 5 + cnt)), (5, .int (nI cnt)), (0, .ref c), (1, .int go), (2, .int pa), (3, .int mo), (4, .int f)]) (st' := [.ref c]) _ (ms_deC dX0_add_62 ms_deN) rfl rfl ?_
      refine ms_getf dX0_add_63 fg_X0_24 hC_7.1 rfl ?_
      refine ms_run (pc' := 70) (lv' := [(6, .ref (c + 5 + cnt)), (5, .int (nI cnt)), (0, .ref c), (1, .int go), (2, .int pa), (3, .int mo), (4, .int f)]) (st' := [.int (nI cnt), .int f, .ref (c + 2)]) _ (ms_deC dX0_add_66 (ms_deC dX0_add_68 ms_deN)) rfl rfl ?_
      refine ms_iastore dX0_add_70 hC_7.2.2.1 (gr_hin hf) ?_
      obtain ⟨G_10, eG_10⟩ : ∃ K9 : ms_H, K9 = ms_up G_5 (c + 2) (.inl (0, 196, .inl (upd on f.toNatClampNeg (nI cnt)))) := ⟨_, rfl⟩
      refine ms_W.heq eG_10 ?_
      have hG_11 : gr_at G_10 g fl w h nr := by rw [eG_10]; exact gr_at.up hG_6 (by omega)
      have hC_12 : cr_at G_10 g q c (h4 ((nI cnt) + 1) (hd 1) (hd 2) (hd 3)) (upd on f.toNatClampNeg (nI cnt)) ht cm (va_up wk cnt (wk_come (wk cnt) go pa mo f)) := by rw [eG_10]; exact cr_at.s_on hC_7 (upd on f.toNatClampNeg (nI cnt))
      have hF_13 : ms_fr c 29 G G_10 := by rw [eG_10]; exact ms_fr.up hF_8 (by omega)
      have hf_14 := (congrFun eG_10 (c + 5 + cnt)).trans ((ms_up_n G_5 _ (by omega)).trans hf_9)
      refine ms_run (pc' := 73) (lv' := [(6, .ref (c + 5 + cnt)), (5, .int (nI cnt)), (0, .ref c), (1, .int go), (2, .int pa), (3, .int mo), (4, .int f)]) (st' := [.int (nI cnt)]) _ (ms_deC dX0_add_71 ms_deN) rfl rfl ?_
      refine ms_reti (st := []) (ty := .int) dX0_add_73 rfl rfl ?_
      exact ⟨rfl, rfl, ⟨_, hC_12⟩, hF_13⟩
    · rw [show ms_b (gr_has fl f) = 0 from if_neg hc_15]
      exact absurd hf hc_15
def pAny (on : Nat → Int32) (w h : Int32) (x y : Nat) : Bool := decide (¬ cr_on on (gr_num w h (nI x) (nI y)) = -1)
/-- whether one of the places from a on, r of them, has p -/
def anF (p : Nat → Bool) : Nat → Nat → Bool
  | _, 0 => false
  | a, r + 1 => p a || anF p (a + 1) r
theorem anF_t {p : Nat → Bool} {a r : Nat} (h : p a = true) : anF p a (r + 1) = true := by unfold anF; rw [h, Bool.true_or]
theorem anF_f {p : Nat → Bool} {a r : Nat} (h : p a = false) : anF p a (r + 1) = anF p (a + 1) r := by show (p a || anF p (a + 1) r) = _; rw [h, Bool.false_or]
set_option maxHeartbeats 2000000 in
set_option maxRecDepth 20000 in
theorem l2_X0_isAnyoneIn {n g q c : Nat} {G : ms_H} {fl w h : Int32} {nr : Nat → Int32} (hG : gr_at G g fl w h nr) {hd on ht cm : Nat → Int32} {wk : Nat → Nat → Int32} (hC : cr_at G g q c hd on ht cm wk) {lx rx ty by9 : Nat} (hx1 : rx < 100) (hy1 : by9 < 100) {yy : Nat} (hyy : yy ≤ by9) {V : Bool} : ∀ (r k : Nat), k + r = rx + 1 → (anF (fun x => pAny on w h x yy) k r = true → V = true) → (anF (fun x => pAny on w h x yy) k r = false → ms_W false m_X0_isAnyoneIn (ms_p1 (some (.int (if V = true then 1 else 0))) n G) 46 [(0, .ref c), (1, .int (nI lx)), (2, .int (nI ty)), (3, .int (nI rx)), (4, .int (nI by9)), (5, .int (nI yy))] [] n G 0 0) → ms_W false m_X0_isAnyoneIn (ms_p1 (some (.int (if V = true then 1 else 0))) n G) 13 [(0, .ref c), (1, .int (nI lx)), (2, .int (nI ty)), (3, .int (nI rx)), (4, .int (nI by9)), (5, .int (nI yy)), (6, .int (nI k))] [] n G 0 0 := by
  intro r
  induction r with
  | zero =>
    intro k hk ht kk
    have hkN : k = rx + 1 := by omega
    refine ms_run (pc' := 16) (lv' := [(0, .ref c), (1, .int (nI lx)), (2, .int (nI ty)), (3, .int (nI rx)), (4, .int (nI by9)), (5, .int (nI yy)), (6, .int (nI k))]) (st' := [.int (nI rx), .int (nI k)]) _ (ms_deC dX0_isAnyoneIn_13 (ms_deC dX0_isAnyoneIn_15 ms_deN)) rfl rfl ?_
    refine ms_icmp_gt (tgt := 46) dX0_isAnyoneIn_16 (by decide) (fun h_16 => ?_) (fun h_16 => ?_)
    · skip
      refine ms_W.sub (lv2 := [(0, _), (1, _), (2, _), (3, _), (4, _), (5, _)]) ?_ [0, 1, 2, 3, 4, 5] rfl
      exact kk rfl
    · skip
      exact absurd (nI_lt (by omega) (by omega)) h_16
  | succ r ih =>
    intro k hk ht kk
    have hlt : k < rx + 1 := by omega
    refine ms_run (pc' := 16) (lv' := [(0, .ref c), (1, .int (nI lx)), (2, .int (nI ty)), (3, .int (nI rx)), (4, .int (nI by9)), (5, .int (nI yy)), (6, .int (nI k))]) (st' := [.int (nI rx), .int (nI k)]) _ (ms_deC dX0_isAnyoneIn_13 (ms_deC dX0_isAnyoneIn_15 ms_deN)) rfl rfl ?_
    refine ms_icmp_gt (tgt := 46) dX0_isAnyoneIn_16 (by decide) (fun h_16 => ?_) (fun h_16 => ?_)
    · skip
      exact absurd h_16 (nI_nlt (by omega) (by omega))
    · skip
      refine ms_run (pc' := 21) (lv' := [(0, .ref c), (1, .int (nI lx)), (2, .int (nI ty)), (3, .int (nI rx)), (4, .int (nI by9)), (5, .int (nI yy)), (6, .int (nI k))]) (st' := [.ref c, .ref c]) _ (ms_deC dX0_isAnyoneIn_19 (ms_deC dX0_isAnyoneIn_20 ms_deN)) rfl rfl ?_
      refine ms_getf dX0_isAnyoneIn_21 fg_X0_34 hC.1 rfl ?_
      refine ms_run (pc' := 28) (lv' := [(0, .ref c), (1, .int (nI lx)), (2, .int (nI ty)), (3, .int (nI rx)), (4, .int (nI by9)), (5, .int (nI yy)), (6, .int (nI k))]) (st' := [.int (nI yy), .int (nI k), .ref g, .ref c]) _ (ms_deC dX0_isAnyoneIn_24 (ms_deC dX0_isAnyoneIn_26 ms_deN)) rfl rfl ?_
      refine ms_callVp (As := [.int (nI k), .int (nI yy)]) dX0_isAnyoneIn_28 (c_X1_number hG (nI k) (nI yy)) cv_X0_67 hG.1 rfl ⟨Nat.le_of_ble_eq_true rfl, Nat.le_of_ble_eq_true rfl⟩ rfl (Nat.le_of_ble_eq_true rfl) ?_
      refine ms_callVp (As := [.int (gr_num w h (nI k) (nI yy))]) dX0_isAnyoneIn_31 (c_X0_numberOn hC (gr_num w h (nI k) (nI yy))) cv_X0_73 hC.1 rfl ⟨Nat.le_of_ble_eq_true rfl, Nat.le_of_ble_eq_true rfl⟩ rfl (Nat.le_of_ble_eq_true rfl) ?_
      refine ms_run (pc' := 35) (lv' := [(0, .ref c), (1, .int (nI lx)), (2, .int (nI ty)), (3, .int (nI rx)), (4, .int (nI by9)), (5, .int (nI yy)), (6, .int (nI k))]) (st' := [.int (-1), .int (cr_on on (gr_num w h (nI k) (nI yy)))]) _ (ms_deC dX0_isAnyoneIn_34 ms_deN) rfl rfl ?_
      refine ms_icmp_eq (tgt := 40) dX0_isAnyoneIn_35 (by decide) (fun h_35 => ?_) (fun h_35 => ?_)
      · skip
        refine ms_run (pc' := 43) (lv' := [(6, .int ((nI k) + 1)), (0, .ref c), (1, .int (nI lx)), (2, .int (nI ty)), (3, .int (nI rx)), (4, .int (nI by9)), (5, .int (nI yy))]) (st' := []) _ (ms_deC dX0_isAnyoneIn_40 ms_deN) rfl rfl ?_
        refine ms_goto (tgt := 13) dX0_isAnyoneIn_43 (by decide) ?_
        have hp : (fun x => pAny on w h x yy) k = false := decide_eq_false (not_not_intro h_35)
        rw [anF_f (p := (fun x => pAny on w h x yy)) hp] at ht kk
        rw [nI_1 k]
        refine ms_W.sub (lv2 := [(0, _), (1, _), (2, _), (3, _), (4, _), (5, _), (6, _)]) ?_ [1, 2, 3, 4, 5, 6, 0] rfl
        exact ih (k + 1) (by omega) ht kk
      · skip
        refine ms_run (pc' := 39) (lv' := [(0, .ref c), (1, .int (nI lx)), (2, .int (nI ty)), (3, .int (nI rx)), (4, .int (nI by9)), (5, .int (nI yy)), (6, .int (nI k))]) (st' := [.int 1]) _ (ms_deC dX0_isAnyoneIn_38 ms_deN) rfl rfl ?_
        refine ms_reti (st := []) (ty := .boolean) dX0_isAnyoneIn_39 rfl rfl ?_
        exact ms_p1.mk (by rw [if_pos (ht (anF_t (p := (fun x => pAny on w h x yy)) (decide_eq_true h_35)))]) rfl
set_option maxHeartbeats 2000000 in
set_option maxRecDepth 20000 in
theorem l1_X0_isAnyoneIn {n g q c : Nat} {G : ms_H} {fl w h : Int32} {nr : Nat → Int32} (hG : gr_at G g fl w h nr) {hd on ht cm : Nat → Int32} {wk : Nat → Nat → Int32} (hC : cr_at G g q c hd on ht cm wk) {lx rx ty by9 : Nat} (hx1 : rx < 100) (hy1 : by9 < 100) (hlr : lx ≤ rx) {V : Bool} : ∀ (r k : Nat), k + r = by9 + 1 → anF (fun yy => anF (fun x => pAny on w h x yy) lx (rx + 1 - lx)) k r = V → ms_W false m_X0_isAnyoneIn (ms_p1 (some (.int (if V = true then 1 else 0))) n G) 3 [(0, .ref c), (1, .int (nI lx)), (2, .int (nI ty)), (3, .int (nI rx)), (4, .int (nI by9)), (5, .int (nI k))] [] n G 0 0 := by
  intro r
  induction r with
  | zero =>
    intro k hk hV
    have hkN : k = by9 + 1 := by omega
    refine ms_run (pc' := 7) (lv' := [(0, .ref c), (1, .int (nI lx)), (2, .int (nI ty)), (3, .int (nI rx)), (4, .int (nI by9)), (5, .int (nI k))]) (st' := [.int (nI by9), .int (nI k)]) _ (ms_deC dX0_isAnyoneIn_3 (ms_deC dX0_isAnyoneIn_5 ms_deN)) rfl rfl ?_
    refine ms_icmp_gt (tgt := 52) dX0_isAnyoneIn_7 (by decide) (fun h_7 => ?_) (fun h_7 => ?_)
    · skip
      refine ms_run (pc' := 53) (lv' := [(0, .ref c), (1, .int (nI lx)), (2, .int (nI ty)), (3, .int (nI rx)), (4, .int (nI by9)), (5, .int (nI k))]) (st' := [.int 0]) _ (ms_deC dX0_isAnyoneIn_52 ms_deN) rfl rfl ?_
      refine ms_reti (st := []) (ty := .boolean) dX0_isAnyoneIn_53 rfl rfl ?_
      exact ms_p1.mk (by rw [← hV]; rfl) rfl
    · skip
      exact absurd (nI_lt (by omega) (by omega)) h_7
  | succ r ih =>
    intro k hk hV
    have hlt : k < by9 + 1 := by omega
    refine ms_run (pc' := 7) (lv' := [(0, .ref c), (1, .int (nI lx)), (2, .int (nI ty)), (3, .int (nI rx)), (4, .int (nI by9)), (5, .int (nI k))]) (st' := [.int (nI by9), .int (nI k)]) _ (ms_deC dX0_isAnyoneIn_3 (ms_deC dX0_isAnyoneIn_5 ms_deN)) rfl rfl ?_
    refine ms_icmp_gt (tgt := 52) dX0_isAnyoneIn_7 (by decide) (fun h_7 => ?_) (fun h_7 => ?_)
    · skip
      exact absurd h_7 (nI_nlt (by omega) (by omega))
    · skip
      refine ms_run (pc' := 13) (lv' := [(6, .int (nI lx)), (0, .ref c), (1, .int (nI lx)), (2, .int (nI ty)), (3, .int (nI rx)), (4, .int (nI by9)), (5, .int (nI k))]) (st' := []) _ (ms_deC dX0_isAnyoneIn_10 (ms_deC dX0_isAnyoneIn_11 ms_deN)) rfl rfl ?_
      refine ms_W.sub (lv2 := [(0, _), (1, _), (2, _), (3, _), (4, _), (5, _), (6, _)]) ?_ [1, 2, 3, 4, 5, 6, 0] rfl
      refine l2_X0_isAnyoneIn hG hC hx1 hy1 (by omega) (rx + 1 - lx) lx (by omega) (fun h9 => by rw [← hV]; exact anF_t (p := (fun yy => anF (fun x => pAny on w h x yy) lx (rx + 1 - lx))) h9) (fun h9 => ?_)
      refine ms_run (pc' := 49) (lv' := [(5, .int ((nI k) + 1)), (0, .ref c), (1, .int (nI lx)), (2, .int (nI ty)), (3, .int (nI rx)), (4, .int (nI by9))]) (st' := []) _ (ms_deC dX0_isAnyoneIn_46 ms_deN) rfl rfl ?_
      refine ms_goto (tgt := 3) dX0_isAnyoneIn_49 (by decide) ?_
      rw [nI_1 k]
      refine ms_W.sub (lv2 := [(0, _), (1, _), (2, _), (3, _), (4, _), (5, _)]) ?_ [1, 2, 3, 4, 5, 0] rfl
      exact ih (k + 1) (by omega) (by rw [← anF_f (p := (fun yy => anF (fun x => pAny on w h x yy) lx (rx + 1 - lx))) h9]; exact hV)
set_option maxHeartbeats 2000000 in
set_option maxRecDepth 20000 in
theorem c_X0_isAnyoneIn {n g q c : Nat} {G : ms_H} {fl w h : Int32} {nr : Nat → Int32} (hG : gr_at G g fl w h nr) {hd on ht cm : Nat → Int32} {wk : Nat → Nat → Int32} (hC : cr_at G g q c hd on ht cm wk) {lx rx ty by9 : Nat} (hx1 : rx < 100) (hy1 : by9 < 100) (hlr : lx ≤ rx) (htb : ty ≤ by9) : ms_M m_X0_isAnyoneIn [.ref c, .int (nI lx), .int (nI ty), .int (nI rx), .int (nI by9)] n G 0 0 (ms_p1 (some (.int (if anF (fun yy => anF (fun x => pAny on w h x yy) lx (rx + 1 - lx)) ty (by9 + 1 - ty) = true then 1 else 0))) n G) := by
  refine ms_M.of (by decide) (Nat.le_of_ble_eq_true rfl) ?_
  show ms_W false m_X0_isAnyoneIn _ 0 [(0, .ref c), (1, .int (nI lx)), (2, .int (nI ty)), (3, .int (nI rx)), (4, .int (nI by9))] [] n G 0 0
  refine ms_run (pc' := 3) (lv' := [(5, .int (nI ty)), (0, .ref c), (1, .int (nI lx)), (2, .int (nI ty)), (3, .int (nI rx)), (4, .int (nI by9))]) (st' := []) _ (ms_deC dX0_isAnyoneIn_0 (ms_deC dX0_isAnyoneIn_1 ms_deN)) rfl rfl ?_
  refine ms_W.sub (lv2 := [(0, _), (1, _), (2, _), (3, _), (4, _), (5, _)]) ?_ [1, 2, 3, 4, 5, 0] rfl
  exact l1_X0_isAnyoneIn hG hC hx1 hy1 hlr (by9 + 1 - ty) ty (by omega) rfl

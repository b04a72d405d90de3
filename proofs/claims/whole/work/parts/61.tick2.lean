/-! the model: tickNow, then who goes -/
def gv (to sd : Nat → Int32) (u : Nat → Nat → Int32) (i : Nat) : Nat → Int32
  | 0 => ms_b (¬ to i = -1 ∧ ¬ sd i = 4)
  | k + 1 => if gv to sd u i k = 0 then 0 else if k = i ∨ ¬ to k = to i ∨ sd k = 4 then gv to sd u i k else ms_b (u k 5 - u i 5 < 0 ∨ (u k 5 - u i 5 = 0 ∧ i < k))
theorem gv_0 {to sd : Nat → Int32} {u : Nat → Nat → Int32} {i k : Nat} (h : gv to sd u i k = 0) : ∀ r, gv to sd u i (k + r) = 0
  | 0 => h
  | r + 1 => by show (if gv to sd u i (k + r) = 0 then 0 else _) = _; rw [if_pos (gv_0 h r)]
theorem gv_k {to sd : Nat → Int32} {u : Nat → Nat → Int32} {i k : Nat} (h0 : ¬ gv to sd u i k = 0) (h : k = i ∨ ¬ to k = to i ∨ sd k = 4) : gv to sd u i k = gv to sd u i (k + 1) := by
  show _ = (if _ then _ else if _ then _ else _)
  rw [if_neg h0, if_pos h]
theorem gv_s {to sd : Nat → Int32} {u : Nat → Nat → Int32} {i k : Nat} (h0 : ¬ gv to sd u i k = 0) (h : ¬ (k = i ∨ ¬ to k = to i ∨ sd k = 4)) : gv to sd u i (k + 1) = ms_b (u k 5 - u i 5 < 0 ∨ (u k 5 - u i 5 = 0 ∧ i < k)) := by
  show (if _ then _ else if _ then _ else _) = _
  rw [if_neg h0, if_neg h]
set_option maxHeartbeats 1000000 in
set_option maxRecDepth 20000 in
theorem l3_X6_tickNow {n m aw am ai ah W H cnt : Nat} {G : ms_H} {th cl dr pa : Int32} {wl mm ht : Nat → Int32} {u : Nat → Nat → Int32} (hl : md_lt n m aw am ai ah) (hW : W ≤ 14) (hH : H ≤ 14) (hc : cnt ≤ 24) {to sd : Nat → Int32} {fr i : Nat} (hi : i < cnt) {P : ms_P} {kr zr : Nat} : ∀ (r k : Nat), k + r = cnt → ∀ (K : ms_H), md_at K m aw am ai ah W H th cl dr pa cnt wl mm ht u → ms_fb (E3 m ai ah) n G K → K n = some (.inl (0, 24, .inl (fl2 to cnt))) → K (n + 1) = some (.inl (0, 24, .inl (fl2 sd cnt))) → K (n + 2) = some (.inl (1, 24, .inl (upd (fl2 (fun j => gv to sd u j cnt) i) i (gv to sd u i k)))) → (∀ (K : ms_H), md_at K m aw am ai ah W H th cl dr pa cnt wl mm ht u → ms_fb (E3 m ai ah) n G K → K n = some (.inl (0, 24, .inl (fl2 to cnt))) → K (n + 1) = some (.inl (0, 24, .inl (fl2 sd cnt))) → K (n + 2) = some (.inl (1, 24, .inl (upd (fl2 (fun j => gv to sd u j cnt) i) i (gv to sd u i cnt)))) → ms_W false m_X6_tickNow P 299 [(0, .ref m), (1, .ref fr), (2, .ref n), (3, .ref (n + 1)), (4, .ref (n + 2)), (5, .int (nI i))] [] (n + 3) K kr zr) → ms_W false m_X6_tickNow (P) 193 [(0, .ref m), (1, .ref fr), (2, .ref n), (3, .ref (n + 1)), (4, .ref (n + 2)), (5, .int (nI i)), (6, .int (nI k))] [] (n + 3) K kr zr := by
  obtain ⟨l1, l2, l3, l4, l5⟩ := hl
  have h196 := fd_196 hW hH
  intro r
  induction r with
  | zero =>
    intro k hk K hM9 hF hto hsi hgo kk
    have hkN : k = cnt := by omega
    obtain ⟨hm, hw_, hk_, ⟨it, hi_, hit⟩, hh_⟩ := hM9
    refine ms_run (pc' := 196) (lv' := [(0, .ref m), (1, .ref fr), (2, .ref n), (3, .ref (n + 1)), (4, .ref (n + 2)), (5, .int (nI i)), (6, .int (nI k))]) (st' := [.ref m, .int (nI k)]) _ (ms_deC dX6_tickNow_193 (ms_deC dX6_tickNow_195 ms_deN)) rfl rfl ?_
    refine ms_getf dX6_tickNow_196 fg_X6_36 hm rfl ?_
    refine ms_icmp_ge (tgt := 299) dX6_tickNow_199 (by decide) (fun h_199 => ?_) (fun h_199 => ?_)
    · skip
      refine ms_W.sub (lv2 := [(0, _), (1, _), (2, _), (3, _), (4, _), (5, _)]) ?_ [0, 1, 2, 3, 4, 5] rfl
      rw [hkN] at hgo
      exact kk K ⟨hm, hw_, hk_, ⟨it, hi_, hit⟩, hh_⟩ hF hto hsi hgo
    · skip
      exact absurd (by exact nI_le (b := k) (by omega) (by omega)) h_199
  | succ r ih =>
    intro k hk K hM9 hF hto hsi hgo kk
    have hlt : k < cnt := by omega
    obtain ⟨hm, hw_, hk_, ⟨it, hi_, hit⟩, hh_⟩ := hM9
    refine ms_run (pc' := 196) (lv' := [(0, .ref m), (1, .ref fr), (2, .ref n), (3, .ref (n + 1)), (4, .ref (n + 2)), (5, .int (nI i)), (6, .int (nI k))]) (st' := [.ref m, .int (nI k)]) _ (ms_deC dX6_tickNow_193 (ms_deC dX6_tickNow_195 ms_deN)) rfl rfl ?_
    refine ms_getf dX6_tickNow_196 fg_X6_36 hm rfl ?_
    refine ms_icmp_ge (tgt := 299) dX6_tickNow_199 (by decide) (fun h_199 => ?_) (fun h_199 => ?_)
    · skip
      exact absurd h_199 (by exact nI_ge (b := cnt) (by omega) (by omega))
    · skip
      refine ms_run (pc' := 206) (lv' := [(0, .ref m), (1, .ref fr), (2, .ref n), (3, .ref (n + 1)), (4, .ref (n + 2)), (5, .int (nI i)), (6, .int (nI k))]) (st' := [.int (nI i), .ref (n + 2)]) _ (ms_deC dX6_tickNow_202 (ms_deC dX6_tickNow_204 ms_deN)) rfl rfl ?_
      refine ms_zaload dX6_tickNow_206 hgo (vp_in_nI (by omega) (by omega)) ?_
      rw [nI_clamp (n := i) (by omega), upd_at]
      refine ms_if_eq (tgt := 299) dX6_tickNow_207 (by decide) (fun h_207 => ?_) (fun h_207 => ?_)
      · skip
        refine ms_W.sub (lv2 := [(0, _), (1, _), (2, _), (3, _), (4, _), (5, _)]) ?_ [0, 1, 2, 3, 4, 5] rfl
        have e7 : gv to sd u i cnt = gv to sd u i k := by rw [h_207, ← hk]; exact gv_0 h_207 _
        exact kk K ⟨hm, hw_, hk_, ⟨it, hi_, hit⟩, hh_⟩ hF hto hsi (by rw [e7]; exact hgo)
      · skip
        refine ms_run (pc' := 214) (lv' := [(0, .ref m), (1, .ref fr), (2, .ref n), (3, .ref (n + 1)), (4, .ref (n + 2)), (5, .int (nI i)), (6, .int (nI k))]) (st' := [.int (nI i), .int (nI k)]) _ (ms_deC dX6_tickNow_210 (ms_deC dX6_tickNow_212 ms_deN)) rfl rfl ?_
        refine ms_icmp_eq (tgt := 293) dX6_tickNow_214 (by decide) (fun h_214 => ?_) (fun h_214 => ?_)
        · skip
          refine ms_run (pc' := 296) (lv' := [(6, .int ((nI k) + 1)), (0, .ref m), (1, .ref fr), (2, .ref n), (3, .ref (n + 1)), (4, .ref (n + 2)), (5, .int (nI i))]) (st' := []) _ (ms_deC dX6_tickNow_293 ms_deN) rfl rfl ?_
          refine ms_goto (tgt := 193) dX6_tickNow_296 (by decide) ?_
          rw [nI_1 k]
          refine ms_W.sub (lv2 := [(0, _), (1, _), (2, _), (3, _), (4, _), (5, _), (6, _)]) ?_ [1, 2, 3, 4, 5, 6, 0] rfl
          exact ih (k + 1) (by omega) K ⟨hm, hw_, hk_, ⟨it, hi_, hit⟩, hh_⟩ hF hto hsi (by rw [← gv_k h_207 (by first | exact Or.inl ((nI_eq (by omega) (by omega)).mp h_214) | exact Or.inr (Or.inl h_225) | exact Or.inr (Or.inr (by first | exact h_233 | exact Decidable.not_not.mp h_233)))]; exact hgo) kk
        · skip
          refine ms_run (pc' := 220) (lv' := [(0, .ref m), (1, .ref fr), (2, .ref n), (3, .ref (n + 1)), (4, .ref (n + 2)), (5, .int (nI i)), (6, .int (nI k))]) (st' := [.int (nI k), .ref n]) _ (ms_deC dX6_tickNow_217 (ms_deC dX6_tickNow_218 ms_deN)) rfl rfl ?_
          refine ms_iaload dX6_tickNow_220 hto (vp_in_nI (by omega) (by omega)) ?_
          rw [nI_clamp (n := k) (by omega), fl2_at hlt]
          refine ms_run (pc' := 224) (lv' := [(0, .ref m), (1, .ref fr), (2, .ref n), (3, .ref (n + 1)), (4, .ref (n + 2)), (5, .int (nI i)), (6, .int (nI k))]) (st' := [.int (nI i), .ref n, .int (to k)]) _ (ms_deC dX6_tickNow_221 (ms_deC dX6_tickNow_222 ms_deN)) rfl rfl ?_
          refine ms_iaload dX6_tickNow_224 hto (vp_in_nI (by omega) (by omega)) ?_
          rw [nI_clamp (n := i) (by omega), fl2_at hi]
          refine ms_icmp_ne (tgt := 293) dX6_tickNow_225 (by decide) (fun h_225 => ?_) (fun h_225 => ?_)
          · skip
            refine ms_run (pc' := 296) (lv' := [(6, .int ((nI k) + 1)), (0, .ref m), (1, .ref fr), (2, .ref n), (3, .ref (n + 1)), (4, .ref (n + 2)), (5, .int (nI i))]) (st' := []) _ (ms_deC dX6_tickNow_293 ms_deN) rfl rfl ?_
            refine ms_goto (tgt := 193) dX6_tickNow_296 (by decide) ?_
            rw [nI_1 k]
            refine ms_W.sub (lv2 := [(0, _), (1, _), (2, _), (3, _), (4, _), (5, _), (6, _)]) ?_ [1, 2, 3, 4, 5, 6, 0] rfl
            exact ih (k + 1) (by omega) K ⟨hm, hw_, hk_, ⟨it, hi_, hit⟩, hh_⟩ hF hto hsi (by rw [← gv_k h_207 (by first | exact Or.inl ((nI_eq (by omega) (by omega)).mp h_214) | exact Or.inr (Or.inl h_225) | exact Or.inr (Or.inr (by first | exact h_233 | exact Decidable.not_not.mp h_233)))]; exact hgo) kk
          · skip
            refine ms_run (pc' := 231) (lv' := [(0, .ref m), (1, .ref fr), (2, .ref n), (3, .ref (n + 1)), (4, .ref (n + 2)), (5, .int (nI i)), (6, .int (nI k))]) (st' := [.int (nI k), .ref (n + 1)]) _ (ms_deC dX6_tickNow_228 (ms_deC dX6_tickNow_229 ms_deN)) rfl rfl ?_
            refine ms_iaload dX6_tickNow_231 hsi (vp_in_nI (by omega) (by omega)) ?_
            rw [nI_clamp (n := k) (by omega), fl2_at hlt]
            refine ms_run (pc' := 233) (lv' := [(0, .ref m), (1, .ref fr), (2, .ref n), (3, .ref (n + 1)), (4, .ref (n + 2)), (5, .int (nI i)), (6, .int (nI k))]) (st' := [.int 4, .int (sd k)]) _ (ms_deC dX6_tickNow_232 ms_deN) rfl rfl ?_
            refine ms_icmp_ne (tgt := 239) dX6_tickNow_233 (by decide) (fun h_233 => ?_) (fun h_233 => ?_)
            · skip
              refine ms_run (pc' := 240) (lv' := [(0, .ref m), (1, .ref fr), (2, .ref n), (3, .ref (n + 1)), (4, .ref (n + 2)), (5, .int (nI i)), (6, .int (nI k))]) (st' := [.ref m]) _ (ms_deC dX6_tickNow_239 ms_deN) rfl rfl ?_
              refine ms_getf dX6_tickNow_240 fg_X6_39 hm rfl ?_
              refine ms_run (pc' := 250) (lv' := [(0, .ref m), (1, .ref fr), (2, .ref n), (3, .ref (n + 1)), (4, .ref (n + 2)), (5, .int (nI i)), (6, .int (nI k))]) (st' := [.int (((nI k) * 8) + 5), .ref ai]) _ (ms_deC dX6_tickNow_243 (ms_deC dX6_tickNow_245 (ms_deC dX6_tickNow_247 (ms_deC dX6_tickNow_248 (ms_deC dX6_tickNow_249 ms_deN))))) rfl rfl ?_
              refine ms_iaload dX6_tickNow_250 hi_ (md_in (k := k) (j := 5) (Nat.lt_of_lt_of_le hlt hc) (by omega)) ?_
              rw [show it (((nI k) * 8) + 5).toNatClampNeg = u k 5 from md_it (k := k) (j := 5) hit hlt hc (by omega)]
              refine ms_run (pc' := 252) (lv' := [(0, .ref m), (1, .ref fr), (2, .ref n), (3, .ref (n + 1)), (4, .ref (n + 2)), (5, .int (nI i)), (6, .int (nI k))]) (st' := [.ref m, .int (u k 5)]) _ (ms_deC dX6_tickNow_251 ms_deN) rfl rfl ?_
              refine ms_getf dX6_tickNow_252 fg_X6_39 hm rfl ?_
              refine ms_run (pc' := 262) (lv' := [(0, .ref m), (1, .ref fr), (2, .ref n), (3, .ref (n + 1)), (4, .ref (n + 2)), (5, .int (nI i)), (6, .int (nI k))]) (st' := [.int (((nI i) * 8) + 5), .ref ai, .int (u k 5)]) _ (ms_deC dX6_tickNow_255 (ms_deC dX6_tickNow_257 (ms_deC dX6_tickNow_259 (ms_deC dX6_tickNow_260 (ms_deC dX6_tickNow_261 ms_deN))))) rfl rfl ?_
              refine ms_iaload dX6_tickNow_262 hi_ (md_in (k := i) (j := 5) (Nat.lt_of_lt_of_le hi hc) (by omega)) ?_
              rw [show it (((nI i) * 8) + 5).toNatClampNeg = u i 5 from md_it (k := i) (j := 5) hit hi hc (by omega)]
              refine ms_run (pc' := 272) (lv' := [(7, .int ((u k 5) - (u i 5))), (0, .ref m), (1, .ref fr), (2, .ref n), (3, .ref (n + 1)), (4, .ref (n + 2)), (5, .int (nI i)), (6, .int (nI k))]) (st' := [.int ((u k 5) - (u i 5)), .int (nI i), .ref (n + 2)]) _ (ms_deC dX6_tickNow_263 (ms_deC dX6_tickNow_264 (ms_deC dX6_tickNow_266 (ms_deC dX6_tickNow_268 (ms_deC dX6_tickNow_270 ms_deN))))) rfl rfl ?_
              refine ms_if_lt (tgt := 287) dX6_tickNow_272 (by decide) (fun h_272 => ?_) (fun h_272 => ?_)
              · skip
                refine ms_run (pc' := 288) (lv' := [(7, .int ((u k 5) - (u i 5))), (0, .ref m), (1, .ref fr), (2, .ref n), (3, .ref (n + 1)), (4, .ref (n + 2)), (5, .int (nI i)), (6, .int (nI k))]) (st' := [.int 1, .int (nI i), .ref (n + 2)]) _ (ms_deC dX6_tickNow_287 ms_deN) rfl rfl ?_
                refine ms_goto (tgt := 292) dX6_tickNow_288 (by decide) ?_
                refine ms_zastore dX6_tickNow_292 hgo (vp_in_nI (by omega) (by omega)) ?_
                have e6 : gv to sd u i (k + 1) = 1 := by rw [gv_s h_207 (by rintro (z9 | z9 | z9); exact h_214 (by rw [z9]); exact z9 h_225; exact h_233 z9)]; exact if_pos (by first | exact Or.inl h_272 | exact Or.inr ⟨by first | exact h_277 | exact Decidable.not_not.mp h_277, (nI_ltI (by omega) (by omega)).mp (by first | exact h_284 | exact Int32.not_le.mp h_284)⟩)
                rw [nI_clamp (n := i) (by omega), upd_upd, show vp_nar .boolean 1 = gv to sd u i (k + 1) from by rw [e6]; rfl]
                obtain ⟨G_1, eG_1⟩ : ∃ K9 : ms_H, K9 = ms_up K (n + 2) (.inl (1, 24, .inl (upd (fl2 (fun j => gv to sd u j cnt) i) i (gv to sd u i (k + 1))))) := ⟨_, rfl⟩
                refine ms_W.heq eG_1 ?_
                have hF_2 : ms_fb (E3 m ai ah) n G G_1 := by rw [eG_1]; exact ms_fb.up hF (by first | exact Or.inl (by omega) | exact Or.inr rfl | exact Or.inr (Or.inl rfl) | exact Or.inr (Or.inr (Or.inl rfl)) | exact Or.inr (Or.inr (Or.inr rfl)) | exact Or.inr (Or.inr rfl))
                have hf_3 := (congrFun eG_1 m).trans ((ms_up_n K _ (by omega)).trans hm)
                have hf_4 := (congrFun eG_1 aw).trans ((ms_up_n K _ (by omega)).trans hw_)
                have hf_5 := (congrFun eG_1 am).trans ((ms_up_n K _ (by omega)).trans hk_)
                have hf_6 := (congrFun eG_1 ai).trans ((ms_up_n K _ (by omega)).trans hi_)
                have hf_7 := (congrFun eG_1 ah).trans ((ms_up_n K _ (by omega)).trans hh_)
                have hf_8 := (congrFun eG_1 n).trans ((ms_up_n K _ (by omega)).trans hto)
                have hf_9 := (congrFun eG_1 (n + 1)).trans ((ms_up_n K _ (by omega)).trans hsi)
                have hf_10 : G_1 (n + 2) = some (.inl (1, 24, .inl (upd (fl2 (fun j => gv to sd u j cnt) i) i (gv to sd u i (k + 1))))) := by rw [eG_1]; exact ms_up_s _ _ _
                refine ms_run (pc' := 296) (lv' := [(6, .int ((nI k) + 1)), (7, .int ((u k 5) - (u i 5))), (0, .ref m), (1, .ref fr), (2, .ref n), (3, .ref (n + 1)), (4, .ref (n + 2)), (5, .int (nI i))]) (st' := []) _ (ms_deC dX6_tickNow_293 ms_deN) rfl rfl ?_
                refine ms_goto (tgt := 193) dX6_tickNow_296 (by decide) ?_
                rw [nI_1 k]
                refine ms_W.sub (lv2 := [(0, _), (1, _), (2, _), (3, _), (4, _), (5, _), (6, _)]) ?_ [2, 3, 4, 5, 6, 7, 0] rfl
                exact ih (k + 1) (by omega) G_1 ⟨hf_3, hf_4, hf_5, ⟨it, hf_6, hit⟩, hf_7⟩ hF_2 hf_8 hf_9 hf_10 kk
              · skip
                refine ms_run (pc' := 277) (lv' := [(7, .int ((u k 5) - (u i 5))), (0, .ref m), (1, .ref fr), (2, .ref n), (3, .ref (n + 1)), (4, .ref (n + 2)), (5, .int (nI i)), (6, .int (nI k))]) (st' := [.int ((u k 5) - (u i 5)), .int (nI i), .ref (n + 2)]) _ (ms_deC dX6_tickNow_275 ms_deN) rfl rfl ?_
                refine ms_if_ne (tgt := 291) dX6_tickNow_277 (by decide) (fun h_277 => ?_) (fun h_277 => ?_)
                · skip
                  refine ms_run (pc' := 292) (lv' := [(7, .int ((u k 5) - (u i 5))), (0, .ref m), (1, .ref fr), (2, .ref n), (3, .ref (n + 1)), (4, .ref (n + 2)), (5, .int (nI i)), (6, .int (nI k))]) (st' := [.int 0, .int (nI i), .ref (n + 2)]) _ (ms_deC dX6_tickNow_291 ms_deN) rfl rfl ?_
                  refine ms_zastore dX6_tickNow_292 hgo (vp_in_nI (by omega) (by omega)) ?_
                  have e6 : gv to sd u i (k + 1) = 0 := by rw [gv_s h_207 (by rintro (z9 | z9 | z9); exact h_214 (by rw [z9]); exact z9 h_225; exact h_233 z9)]; exact if_neg (by rintro (z9 | ⟨z9, z8⟩); exact h_272 z9; first | exact h_277 z9 | exact (Int32.not_lt.mpr h_284) ((nI_ltI (by omega) (by omega)).mpr z8))
                  rw [nI_clamp (n := i) (by omega), upd_upd, show vp_nar .boolean 0 = gv to sd u i (k + 1) from by rw [e6]; rfl]
                  obtain ⟨G_11, eG_11⟩ : ∃ K9 : ms_H, K9 = ms_up K (n + 2) (.inl (1, 24, .inl (upd (fl2 (fun j => gv to sd u j cnt) i) i (gv to sd u i (k + 1))))) := ⟨_, rfl⟩
                  refine ms_W.heq eG_11 ?_
                  have hF_12 : ms_fb (E3 m ai ah) n G G_11 := by rw [eG_11]; exact ms_fb.up hF (by first | exact Or.inl (by omega) | exact Or.inr rfl | exact Or.inr (Or.inl rfl) | exact Or.inr (Or.inr (Or.inl rfl)) | exact Or.inr (Or.inr (Or.inr rfl)) | exact Or.inr (Or.inr rfl))
                  have hf_13 := (congrFun eG_11 m).trans ((ms_up_n K _ (by omega)).trans hm)
                  have hf_14 := (congrFun eG_11 aw).trans ((ms_up_n K _ (by omega)).trans hw_)
                  have hf_15 := (congrFun eG_11 am).trans ((ms_up_n K _ (by omega)).trans hk_)
                  have hf_16 := (congrFun eG_11 ai).trans ((ms_up_n K _ (by omega)).trans hi_)
                  have hf_17 := (congrFun eG_11 ah).trans ((ms_up_n K _ (by omega)).trans hh_)
                  have hf_18 := (congrFun eG_11 n).trans ((ms_up_n K _ (by omega)).trans hto)
                  have hf_19 := (congrFun eG_11 (n + 1)).trans ((ms_up_n K _ (by omega)).trans hsi)
                  have hf_20 : G_11 (n + 2) = some (.inl (1, 24, .inl (upd (fl2 (fun j => gv to sd u j cnt) i) i (gv to sd u i (k + 1))))) := by rw [eG_11]; exact ms_up_s _ _ _
                  refine ms_run (pc' := 296) (lv' := [(6, .int ((nI k) + 1)), (7, .int ((u k 5) - (u i 5))), (0, .ref m), (1, .ref fr), (2, .ref n), (3, .ref (n + 1)), (4, .ref (n + 2)), (5, .int (nI i))]) (st' := []) _ (ms_deC dX6_tickNow_293 ms_deN) rfl rfl ?_
                  refine ms_goto (tgt := 193) dX6_tickNow_296 (by decide) ?_
                  rw [nI_1 k]
                  refine ms_W.sub (lv2 := [(0, _), (1, _), (2, _), (3, _), (4, _), (5, _), (6, _)]) ?_ [2, 3, 4, 5, 6, 7, 0] rfl
                  exact ih (k + 1) (by omega) G_11 ⟨hf_13, hf_14, hf_15, ⟨it, hf_16, hit⟩, hf_17⟩ hF_12 hf_18 hf_19 hf_20 kk
                · skip
                  refine ms_run (pc' := 284) (lv' := [(7, .int ((u k 5) - (u i 5))), (0, .ref m), (1, .ref fr), (2, .ref n), (3, .ref (n + 1)), (4, .ref (n + 2)), (5, .int (nI i)), (6, .int (nI k))]) (st' := [.int (nI k), .int (nI i), .int (nI i), .ref (n + 2)]) _ (ms_deC dX6_tickNow_280 (ms_deC dX6_tickNow_282 ms_deN)) rfl rfl ?_
                  refine ms_icmp_ge (tgt := 291) dX6_tickNow_284 (by decide) (fun h_284 => ?_) (fun h_284 => ?_)
                  · skip
                    refine ms_run (pc' := 292) (lv' := [(7, .int ((u k 5) - (u i 5))), (0, .ref m), (1, .ref fr), (2, .ref n), (3, .ref (n + 1)), (4, .ref (n + 2)), (5, .int (nI i)), (6, .int (nI k))]) (st' := [.int 0, .int (nI i), .ref (n + 2)]) _ (ms_deC dX6_tickNow_291 ms_deN) rfl rfl ?_
                    refine ms_zastore dX6_tickNow_292 hgo (vp_in_nI (by omega) (by omega)) ?_
                    have e6 : gv to sd u i (k + 1) = 0 := by rw [gv_s h_207 (by rintro (z9 | z9 | z9); exact h_214 (by rw [z9]); exact z9 h_225; exact h_233 z9)]; exact if_neg (by rintro (z9 | ⟨z9, z8⟩); exact h_272 z9; first | exact h_277 z9 | exact (Int32.not_lt.mpr h_284) ((nI_ltI (by omega) (by omega)).mpr z8))
                    rw [nI_clamp (n := i) (by omega), upd_upd, show vp_nar .boolean 0 = gv to sd u i (k + 1) from by rw [e6]; rfl]
                    obtain ⟨G_21, eG_21⟩ : ∃ K9 : ms_H, K9 = ms_up K (n + 2) (.inl (1, 24, .inl (upd (fl2 (fun j => gv to sd u j cnt) i) i (gv to sd u i (k + 1))))) := ⟨_, rfl⟩
                    refine ms_W.heq eG_21 ?_
                    have hF_22 : ms_fb (E3 m ai ah) n G G_21 := by rw [eG_21]; exact ms_fb.up hF (by first | exact Or.inl (by omega) | exact Or.inr rfl | exact Or.inr (Or.inl rfl) | exact Or.inr (Or.inr (Or.inl rfl)) | exact Or.inr (Or.inr (Or.inr rfl)) | exact Or.inr (Or.inr rfl))
                    have hf_23 := (congrFun eG_21 m).trans ((ms_up_n K _ (by omega)).trans hm)
                    have hf_24 := (congrFun eG_21 aw).trans ((ms_up_n K _ (by omega)).trans hw_)
                    have hf_25 := (congrFun eG_21 am).trans ((ms_up_n K _ (by omega)).trans hk_)
                    have hf_26 := (congrFun eG_21 ai).trans ((ms_up_n K _ (by omega)).trans hi_)
                    have hf_27 := (congrFun eG_21 ah).trans ((ms_up_n K _ (by omega)).trans hh_)
                    have hf_28 := (congrFun eG_21 n).trans ((ms_up_n K _ (by omega)).trans hto)
                    have hf_29 := (congrFun eG_21 (n + 1)).trans ((ms_up_n K _ (by omega)).trans hsi)
                    have hf_30 : G_21 (n + 2) = some (.inl (1, 24, .inl (upd (fl2 (fun j => gv to sd u j cnt) i) i (gv to sd u i (k + 1))))) := by rw [eG_21]; exact ms_up_s _ _ _
                    refine ms_run (pc' := 296) (lv' := [(6, .int ((nI k) + 1)), (7, .int ((u k 5) - (u i 5))), (0, .ref m), (1, .ref fr), (2, .ref n), (3, .ref (n + 1)), (4, .ref (n + 2)), (5, .int (nI i))]) (st' := []) _ (ms_deC dX6_tickNow_293 ms_deN) rfl rfl ?_
                    refine ms_goto (tgt := 193) dX6_tickNow_296 (by decide) ?_
                    rw [nI_1 k]
                    refine ms_W.sub (lv2 := [(0, _), (1, _), (2, _), (3, _), (4, _), (5, _), (6, _)]) ?_ [2, 3, 4, 5, 6, 7, 0] rfl
                    exact ih (k + 1) (by omega) G_21 ⟨hf_23, hf_24, hf_25, ⟨it, hf_26, hit⟩, hf_27⟩ hF_22 hf_28 hf_29 hf_30 kk
                  · skip
                    refine ms_run (pc' := 288) (lv' := [(7, .int ((u k 5) - (u i 5))), (0, .ref m), (1, .ref fr), (2, .ref n), (3, .ref (n + 1)), (4, .ref (n + 2)), (5, .int (nI i)), (6, .int (nI k))]) (st' := [.int 1, .int (nI i), .ref (n + 2)]) _ (ms_deC dX6_tickNow_287 ms_deN) rfl rfl ?_
                    refine ms_goto (tgt := 292) dX6_tickNow_288 (by decide) ?_
                    refine ms_zastore dX6_tickNow_292 hgo (vp_in_nI (by omega) (by omega)) ?_
                    have e6 : gv to sd u i (k + 1) = 1 := by rw [gv_s h_207 (by rintro (z9 | z9 | z9); exact h_214 (by rw [z9]); exact z9 h_225; exact h_233 z9)]; exact if_pos (by first | exact Or.inl h_272 | exact Or.inr ⟨by first | exact h_277 | exact Decidable.not_not.mp h_277, (nI_ltI (by omega) (by omega)).mp (by first | exact h_284 | exact Int32.not_le.mp h_284)⟩)
                    rw [nI_clamp (n := i) (by omega), upd_upd, show vp_nar .boolean 1 = gv to sd u i (k + 1) from by rw [e6]; rfl]
                    obtain ⟨G_31, eG_31⟩ : ∃ K9 : ms_H, K9 = ms_up K (n + 2) (.inl (1, 24, .inl (upd (fl2 (fun j => gv to sd u j cnt) i) i (gv to sd u i (k + 1))))) := ⟨_, rfl⟩
                    refine ms_W.heq eG_31 ?_
                    have hF_32 : ms_fb (E3 m ai ah) n G G_31 := by rw [eG_31]; exact ms_fb.up hF (by first | exact Or.inl (by omega) | exact Or.inr rfl | exact Or.inr (Or.inl rfl) | exact Or.inr (Or.inr (Or.inl rfl)) | exact Or.inr (Or.inr (Or.inr rfl)) | exact Or.inr (Or.inr rfl))
                    have hf_33 := (congrFun eG_31 m).trans ((ms_up_n K _ (by omega)).trans hm)
                    have hf_34 := (congrFun eG_31 aw).trans ((ms_up_n K _ (by omega)).trans hw_)
                    have hf_35 := (congrFun eG_31 am).trans ((ms_up_n K _ (by omega)).trans hk_)
                    have hf_36 := (congrFun eG_31 ai).trans ((ms_up_n K _ (by omega)).trans hi_)
                    have hf_37 := (congrFun eG_31 ah).trans ((ms_up_n K _ (by omega)).trans hh_)
                    have hf_38 := (congrFun eG_31 n).trans ((ms_up_n K _ (by omega)).trans hto)
                    have hf_39 := (congrFun eG_31 (n + 1)).trans ((ms_up_n K _ (by omega)).trans hsi)
                    have hf_40 : G_31 (n + 2) = some (.inl (1, 24, .inl (upd (fl2 (fun j => gv to sd u j cnt) i) i (gv to sd u i (k + 1))))) := by rw [eG_31]; exact ms_up_s _ _ _
                    refine ms_run (pc' := 296) (lv' := [(6, .int ((nI k) + 1)), (7, .int ((u k 5) - (u i 5))), (0, .ref m), (1, .ref fr), (2, .ref n), (3, .ref (n + 1)), (4, .ref (n + 2)), (5, .int (nI i))]) (st' := []) _ (ms_deC dX6_tickNow_293 ms_deN) rfl rfl ?_
                    refine ms_goto (tgt := 193) dX6_tickNow_296 (by decide) ?_
                    rw [nI_1 k]
                    refine ms_W.sub (lv2 := [(0, _), (1, _), (2, _), (3, _), (4, _), (5, _), (6, _)]) ?_ [2, 3, 4, 5, 6, 7, 0] rfl
                    exact ih (k + 1) (by omega) G_31 ⟨hf_33, hf_34, hf_35, ⟨it, hf_36, hit⟩, hf_37⟩ hF_32 hf_38 hf_39 hf_40 kk
            · skip
              refine ms_goto (tgt := 293) dX6_tickNow_236 (by decide) ?_
              refine ms_run (pc' := 296) (lv' := [(6, .int ((nI k) + 1)), (0, .ref m), (1, .ref fr), (2, .ref n), (3, .ref (n + 1)), (4, .ref (n + 2)), (5, .int (nI i))]) (st' := []) _ (ms_deC dX6_tickNow_293 ms_deN) rfl rfl ?_
              refine ms_goto (tgt := 193) dX6_tickNow_296 (by decide) ?_
              rw [nI_1 k]
              refine ms_W.sub (lv2 := [(0, _), (1, _), (2, _), (3, _), (4, _), (5, _), (6, _)]) ?_ [1, 2, 3, 4, 5, 6, 0] rfl
              exact ih (k + 1) (by omega) K ⟨hm, hw_, hk_, ⟨it, hi_, hit⟩, hh_⟩ hF hto hsi (by rw [← gv_k h_207 (by first | exact Or.inl ((nI_eq (by omega) (by omega)).mp h_214) | exact Or.inr (Or.inl h_225) | exact Or.inr (Or.inr (by first | exact h_233 | exact Decidable.not_not.mp h_233)))]; exact hgo) kk
set_option maxHeartbeats 1000000 in
set_option maxRecDepth 20000 in
theorem l2_X6_tickNow {n m aw am ai ah W H cnt : Nat} {G : ms_H} {th cl dr pa : Int32} {wl mm ht : Nat → Int32} {u : Nat → Nat → Int32} (hl : md_lt n m aw am ai ah) (hW : W ≤ 14) (hH : H ≤ 14) (hc : cnt ≤ 24) {to sd : Nat → Int32} {fr : Nat} {P : ms_P} {kr zr : Nat} : ∀ (r k : Nat), k + r = cnt → ∀ (K : ms_H), md_at K m aw am ai ah W H th cl dr pa cnt wl mm ht u → ms_fb (E3 m ai ah) n G K → K n = some (.inl (0, 24, .inl (fl2 to cnt))) → K (n + 1) = some (.inl (0, 24, .inl (fl2 sd cnt))) → K (n + 2) = some (.inl (1, 24, .inl (fl2 (fun j => gv to sd u j cnt) k))) → (∀ (K : ms_H), md_at K m aw am ai ah W H th cl dr pa cnt wl mm ht u → ms_fb (E3 m ai ah) n G K → K n = some (.inl (0, 24, .inl (fl2 to cnt))) → K (n + 1) = some (.inl (0, 24, .inl (fl2 sd cnt))) → K (n + 2) = some (.inl (1, 24, .inl (fl2 (fun j => gv to sd u j cnt) cnt))) → ms_W false m_X6_tickNow P 305 [(0, .ref m), (1, .ref fr), (2, .ref n), (3, .ref (n + 1)), (4, .ref (n + 2))] [] (n + 3) K kr zr) → ms_W false m_X6_tickNow (P) 155 [(0, .ref m), (1, .ref fr), (2, .ref n), (3, .ref (n + 1)), (4, .ref (n + 2)), (5, .int (nI k))] [] (n + 3) K kr zr := by
  obtain ⟨l1, l2, l3, l4, l5⟩ := hl
  have h196 := fd_196 hW hH
  intro r
  induction r with
  | zero =>
    intro k hk K hM9 hF hto hsi hgo kk
    have hkN : k = cnt := by omega
    obtain ⟨hm, hw_, hk_, ⟨it, hi_, hit⟩, hh_⟩ := hM9
    refine ms_run (pc' := 158) (lv' := [(0, .ref m), (1, .ref fr), (2, .ref n), (3, .ref (n + 1)), (4, .ref (n + 2)), (5, .int (nI k))]) (st' := [.ref m, .int (nI k)]) _ (ms_deC dX6_tickNow_155 (ms_deC dX6_tickNow_157 ms_deN)) rfl rfl ?_
    refine ms_getf dX6_tickNow_158 fg_X6_36 hm rfl ?_
    refine ms_icmp_ge (tgt := 305) dX6_tickNow_161 (by decide) (fun h_161 => ?_) (fun h_161 => ?_)
    · skip
      refine ms_W.sub (lv2 := [(0, _), (1, _), (2, _), (3, _), (4, _)]) ?_ [0, 1, 2, 3, 4] rfl
      rw [hkN] at hgo
      exact kk K ⟨hm, hw_, hk_, ⟨it, hi_, hit⟩, hh_⟩ hF hto hsi hgo
    · skip
      exact absurd (by exact nI_le (b := k) (by omega) (by omega)) h_161
  | succ r ih =>
    intro k hk K hM9 hF hto hsi hgo kk
    have hlt : k < cnt := by omega
    obtain ⟨hm, hw_, hk_, ⟨it, hi_, hit⟩, hh_⟩ := hM9
    refine ms_run (pc' := 158) (lv' := [(0, .ref m), (1, .ref fr), (2, .ref n), (3, .ref (n + 1)), (4, .ref (n + 2)), (5, .int (nI k))]) (st' := [.ref m, .int (nI k)]) _ (ms_deC dX6_tickNow_155 (ms_deC dX6_tickNow_157 ms_deN)) rfl rfl ?_
    refine ms_getf dX6_tickNow_158 fg_X6_36 hm rfl ?_
    refine ms_icmp_ge (tgt := 305) dX6_tickNow_161 (by decide) (fun h_161 => ?_) (fun h_161 => ?_)
    · skip
      exact absurd h_161 (by exact nI_ge (b := cnt) (by omega) (by omega))
    · skip
      refine ms_run (pc' := 171) (lv' := [(0, .ref m), (1, .ref fr), (2, .ref n), (3, .ref (n + 1)), (4, .ref (n + 2)), (5, .int (nI k))]) (st' := [.int (nI k), .ref n, .int (nI k), .ref (n + 2)]) _ (ms_deC dX6_tickNow_164 (ms_deC dX6_tickNow_166 (ms_deC dX6_tickNow_168 (ms_deC dX6_tickNow_169 ms_deN)))) rfl rfl ?_
      refine ms_iaload dX6_tickNow_171 hto (vp_in_nI (by omega) (by omega)) ?_
      rw [nI_clamp (n := k) (by omega), fl2_at hlt]
      refine ms_run (pc' := 173) (lv' := [(0, .ref m), (1, .ref fr), (2, .ref n), (3, .ref (n + 1)), (4, .ref (n + 2)), (5, .int (nI k))]) (st' := [.int (-1), .int (to k), .int (nI k), .ref (n + 2)]) _ (ms_deC dX6_tickNow_172 ms_deN) rfl rfl ?_
      refine ms_icmp_eq (tgt := 188) dX6_tickNow_173 (by decide) (fun h_173 => ?_) (fun h_173 => ?_)
      · skip
        refine ms_run (pc' := 189) (lv' := [(0, .ref m), (1, .ref fr), (2, .ref n), (3, .ref (n + 1)), (4, .ref (n + 2)), (5, .int (nI k))]) (st' := [.int 0, .int (nI k), .ref (n + 2)]) _ (ms_deC dX6_tickNow_188 ms_deN) rfl rfl ?_
        refine ms_zastore dX6_tickNow_189 hgo (vp_in_nI (by omega) (by omega)) ?_
        have e6 : gv to sd u k 0 = 0 := if_neg (by rintro ⟨z9, z8⟩; first | exact z9 h_173 | exact z8 h_181)
        rw [nI_clamp (n := k) (by omega), show vp_nar .boolean 0 = gv to sd u k 0 from by rw [e6]; rfl]
        obtain ⟨G_1, eG_1⟩ : ∃ K9 : ms_H, K9 = ms_up K (n + 2) (.inl (1, 24, .inl (upd (fl2 (fun j => gv to sd u j cnt) k) k (gv to sd u k 0)))) := ⟨_, rfl⟩
        refine ms_W.heq eG_1 ?_
        have hF_2 : ms_fb (E3 m ai ah) n G G_1 := by rw [eG_1]; exact ms_fb.up hF (by first | exact Or.inl (by omega) | exact Or.inr rfl | exact Or.inr (Or.inl rfl) | exact Or.inr (Or.inr (Or.inl rfl)) | exact Or.inr (Or.inr (Or.inr rfl)) | exact Or.inr (Or.inr rfl))
        have hf_3 := (congrFun eG_1 m).trans ((ms_up_n K _ (by omega)).trans hm)
        have hf_4 := (congrFun eG_1 aw).trans ((ms_up_n K _ (by omega)).trans hw_)
        have hf_5 := (congrFun eG_1 am).trans ((ms_up_n K _ (by omega)).trans hk_)
        have hf_6 := (congrFun eG_1 ai).trans ((ms_up_n K _ (by omega)).trans hi_)
        have hf_7 := (congrFun eG_1 ah).trans ((ms_up_n K _ (by omega)).trans hh_)
        have hf_8 := (congrFun eG_1 n).trans ((ms_up_n K _ (by omega)).trans hto)
        have hf_9 := (congrFun eG_1 (n + 1)).trans ((ms_up_n K _ (by omega)).trans hsi)
        have hf_10 : G_1 (n + 2) = some (.inl (1, 24, .inl (upd (fl2 (fun j => gv to sd u j cnt) k) k (gv to sd u k 0)))) := by rw [eG_1]; exact ms_up_s _ _ _
        refine ms_run (pc' := 193) (lv' := [(6, .int 0), (0, .ref m), (1, .ref fr), (2, .ref n), (3, .ref (n + 1)), (4, .ref (n + 2)), (5, .int (nI k))]) (st' := []) _ (ms_deC dX6_tickNow_190 (ms_deC dX6_tickNow_191 ms_deN)) rfl rfl ?_
        refine ms_W.sub (lv2 := [(0, _), (1, _), (2, _), (3, _), (4, _), (5, _), (6, _)]) ?_ [1, 2, 3, 4, 5, 6, 0] rfl
        refine l3_X6_tickNow ⟨l1, l2, l3, l4, l5⟩ hW hH hc hlt cnt 0 (by omega) G_1 ⟨hf_3, hf_4, hf_5, ⟨it, hf_6, hit⟩, hf_7⟩ hF_2 hf_8 hf_9 hf_10 (fun K9 k1 k2 k3 k4 k5 => ?_)
        refine ms_run (pc' := 302) (lv' := [(5, .int (nI k + 1)), (0, .ref m), (1, .ref fr), (2, .ref n), (3, .ref (n + 1)), (4, .ref (n + 2))]) (st' := []) _ (ms_deC dX6_tickNow_299 ms_deN) rfl rfl ?_
        refine ms_goto (tgt := 155) dX6_tickNow_302 (by decide) ?_
        rw [nI_1 k]
        refine ms_W.sub (lv2 := [(0, _), (1, _), (2, _), (3, _), (4, _), (5, _)]) ?_ [1, 2, 3, 4, 5, 0] rfl
        exact ih (k + 1) (by omega) K9 k1 k2 k3 k4 (by rw [← fl2_s]; exact k5) kk
      · skip
        refine ms_run (pc' := 179) (lv' := [(0, .ref m), (1, .ref fr), (2, .ref n), (3, .ref (n + 1)), (4, .ref (n + 2)), (5, .int (nI k))]) (st' := [.int (nI k), .ref (n + 1), .int (nI k), .ref (n + 2)]) _ (ms_deC dX6_tickNow_176 (ms_deC dX6_tickNow_177 ms_deN)) rfl rfl ?_
        refine ms_iaload dX6_tickNow_179 hsi (vp_in_nI (by omega) (by omega)) ?_
        rw [nI_clamp (n := k) (by omega), fl2_at hlt]
        refine ms_run (pc' := 181) (lv' := [(0, .ref m), (1, .ref fr), (2, .ref n), (3, .ref (n + 1)), (4, .ref (n + 2)), (5, .int (nI k))]) (st' := [.int 4, .int (sd k), .int (nI k), .ref (n + 2)]) _ (ms_deC dX6_tickNow_180 ms_deN) rfl rfl ?_
        refine ms_icmp_eq (tgt := 188) dX6_tickNow_181 (by decide) (fun h_181 => ?_) (fun h_181 => ?_)
        · skip
          refine ms_run (pc' := 189) (lv' := [(0, .ref m), (1, .ref fr), (2, .ref n), (3, .ref (n + 1)), (4, .ref (n + 2)), (5, .int (nI k))]) (st' := [.int 0, .int (nI k), .ref (n + 2)]) _ (ms_deC dX6_tickNow_188 ms_deN) rfl rfl ?_
          refine ms_zastore dX6_tickNow_189 hgo (vp_in_nI (by omega) (by omega)) ?_
          have e6 : gv to sd u k 0 = 0 := if_neg (by rintro ⟨z9, z8⟩; first | exact z9 h_173 | exact z8 h_181)
          rw [nI_clamp (n := k) (by omega), show vp_nar .boolean 0 = gv to sd u k 0 from by rw [e6]; rfl]
          obtain ⟨G_11, eG_11⟩ : ∃ K9 : ms_H, K9 = ms_up K (n + 2) (.inl (1, 24, .inl (upd (fl2 (fun j => gv to sd u j cnt) k) k (gv to sd u k 0)))) := ⟨_, rfl⟩
          refine ms_W.heq eG_11 ?_
          have hF_12 : ms_fb (E3 m ai ah) n G G_11 := by rw [eG_11]; exact ms_fb.up hF (by first | exact Or.inl (by omega) | exact Or.inr rfl | exact Or.inr (Or.inl rfl) | exact Or.inr (Or.inr (Or.inl rfl)) | exact Or.inr (Or.inr (Or.inr rfl)) | exact Or.inr (Or.inr rfl))
          have hf_13 := (congrFun eG_11 m).trans ((ms_up_n K _ (by omega)).trans hm)
          have hf_14 := (congrFun eG_11 aw).trans ((ms_up_n K _ (by omega)).trans hw_)
          have hf_15 := (congrFun eG_11 am).trans ((ms_up_n K _ (by omega)).trans hk_)
          have hf_16 := (congrFun eG_11 ai).trans ((ms_up_n K _ (by omega)).trans hi_)
          have hf_17 := (congrFun eG_11 ah).trans ((ms_up_n K _ (by omega)).trans hh_)
          have hf_18 := (congrFun eG_11 n).trans ((ms_up_n K _ (by omega)).trans hto)
          have hf_19 := (congrFun eG_11 (n + 1)).trans ((ms_up_n K _ (by omega)).trans hsi)
          have hf_20 : G_11 (n + 2) = some (.inl (1, 24, .inl (upd (fl2 (fun j => gv to sd u j cnt) k) k (gv to sd u k 0)))) := by rw [eG_11]; exact ms_up_s _ _ _
          refine ms_run (pc' := 193) (lv' := [(6, .int 0), (0, .ref m), (1, .ref fr), (2, .ref n), (3, .ref (n + 1)), (4, .ref (n + 2)), (5, .int (nI k))]) (st' := []) _ (ms_deC dX6_tickNow_190 (ms_deC dX6_tickNow_191 ms_deN)) rfl rfl ?_
          refine ms_W.sub (lv2 := [(0, _), (1, _), (2, _), (3, _), (4, _), (5, _), (6, _)]) ?_ [1, 2, 3, 4, 5, 6, 0] rfl
          refine l3_X6_tickNow ⟨l1, l2, l3, l4, l5⟩ hW hH hc hlt cnt 0 (by omega) G_11 ⟨hf_13, hf_14, hf_15, ⟨it, hf_16, hit⟩, hf_17⟩ hF_12 hf_18 hf_19 hf_20 (fun K9 k1 k2 k3 k4 k5 => ?_)
          refine ms_run (pc' := 302) (lv' := [(5, .int (nI k + 1)), (0, .ref m), (1, .ref fr), (2, .ref n), (3, .ref (n + 1)), (4, .ref (n + 2))]) (st' := []) _ (ms_deC dX6_tickNow_299 ms_deN) rfl rfl ?_
          refine ms_goto (tgt := 155) dX6_tickNow_302 (by decide) ?_
          rw [nI_1 k]
          refine ms_W.sub (lv2 := [(0, _), (1, _), (2, _), (3, _), (4, _), (5, _)]) ?_ [1, 2, 3, 4, 5, 0] rfl
          exact ih (k + 1) (by omega) K9 k1 k2 k3 k4 (by rw [← fl2_s]; exact k5) kk
        · skip
          refine ms_run (pc' := 185) (lv' := [(0, .ref m), (1, .ref fr), (2, .ref n), (3, .ref (n + 1)), (4, .ref (n + 2)), (5, .int (nI k))]) (st' := [.int 1, .int (nI k), .ref (n + 2)]) _ (ms_deC dX6_tickNow_184 ms_deN) rfl rfl ?_
          refine ms_goto (tgt := 189) dX6_tickNow_185 (by decide) ?_
          refine ms_zastore dX6_tickNow_189 hgo (vp_in_nI (by omega) (by omega)) ?_
          have e6 : gv to sd u k 0 = 1 := if_pos ⟨h_173, h_181⟩
          rw [nI_clamp (n := k) (by omega), show vp_nar .boolean 1 = gv to sd u k 0 from by rw [e6]; rfl]
          obtain ⟨G_21, eG_21⟩ : ∃ K9 : ms_H, K9 = ms_up K (n + 2) (.inl (1, 24, .inl (upd (fl2 (fun j => gv to sd u j cnt) k) k (gv to sd u k 0)))) := ⟨_, rfl⟩
          refine ms_W.heq eG_21 ?_
          have hF_22 : ms_fb (E3 m ai ah) n G G_21 := by rw [eG_21]; exact ms_fb.up hF (by first | exact Or.inl (by omega) | exact Or.inr rfl | exact Or.inr (Or.inl rfl) | exact Or.inr (Or.inr (Or.inl rfl)) | exact Or.inr (Or.inr (Or.inr rfl)) | exact Or.inr (Or.inr rfl))
          have hf_23 := (congrFun eG_21 m).trans ((ms_up_n K _ (by omega)).trans hm)
          have hf_24 := (congrFun eG_21 aw).trans ((ms_up_n K _ (by omega)).trans hw_)
          have hf_25 := (congrFun eG_21 am).trans ((ms_up_n K _ (by omega)).trans hk_)
          have hf_26 := (congrFun eG_21 ai).trans ((ms_up_n K _ (by omega)).trans hi_)
          have hf_27 := (congrFun eG_21 ah).trans ((ms_up_n K _ (by omega)).trans hh_)
          have hf_28 := (congrFun eG_21 n).trans ((ms_up_n K _ (by omega)).trans hto)
          have hf_29 := (congrFun eG_21 (n + 1)).trans ((ms_up_n K _ (by omega)).trans hsi)
          have hf_30 : G_21 (n + 2) = some (.inl (1, 24, .inl (upd (fl2 (fun j => gv to sd u j cnt) k) k (gv to sd u k 0)))) := by rw [eG_21]; exact ms_up_s _ _ _
          refine ms_run (pc' := 193) (lv' := [(6, .int 0), (0, .ref m), (1, .ref fr), (2, .ref n), (3, .ref (n + 1)), (4, .ref (n + 2)), (5, .int (nI k))]) (st' := []) _ (ms_deC dX6_tickNow_190 (ms_deC dX6_tickNow_191 ms_deN)) rfl rfl ?_
          refine ms_W.sub (lv2 := [(0, _), (1, _), (2, _), (3, _), (4, _), (5, _), (6, _)]) ?_ [1, 2, 3, 4, 5, 6, 0] rfl
          refine l3_X6_tickNow ⟨l1, l2, l3, l4, l5⟩ hW hH hc hlt cnt 0 (by omega) G_21 ⟨hf_23, hf_24, hf_25, ⟨it, hf_26, hit⟩, hf_27⟩ hF_22 hf_28 hf_29 hf_30 (fun K9 k1 k2 k3 k4 k5 => ?_)
          refine ms_run (pc' := 302) (lv' := [(5, .int (nI k + 1)), (0, .ref m), (1, .ref fr), (2, .ref n), (3, .ref (n + 1)), (4, .ref (n + 2))]) (st' := []) _ (ms_deC dX6_tickNow_299 ms_deN) rfl rfl ?_
          refine ms_goto (tgt := 155) dX6_tickNow_302 (by decide) ?_
          rw [nI_1 k]
          refine ms_W.sub (lv2 := [(0, _), (1, _), (2, _), (3, _), (4, _), (5, _)]) ?_ [1, 2, 3, 4, 5, 0] rfl
          exact ih (k + 1) (by omega) K9 k1 k2 k3 k4 (by rw [← fl2_s]; exact k5) kk

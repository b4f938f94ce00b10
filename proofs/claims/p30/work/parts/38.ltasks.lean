variable {ρ : List xSh}
/-! ===== tasks ===== -/
set_option maxRecDepth 100000 in
set_option maxHeartbeats 1000000 in
theorem c_L_tasks (d : Nat) (S : Nat → Nat → Int32) (G : Nat → Nat → Int64) (N : Nat) (xs : Nat → Int32) (hN : N ≤ 260) (s : sS) (hw : LW S s) (ht0 : (sTk s).1 = 0) : xCs (some (N, xs)) (d + 4) mL_tasks [.ref 0, .retAddr 0, .ref 55, .ref 56] (σF (τL []), S, G) 3 15 (fun r h' => r = some (.int 1) ∧ ∃ S' G' s', h' = (σF (τL [.inr (.inl 5), .inr (.inl 5), .inr (.inl 5)]), S', G') ∧ LW S' s' ∧ sGl s' = sGl s) := by
  refine xCs.of okL_tasks (Nat.le_of_ble_eq_true rfl) (L := [_, _, _, _, _, _, _, _, _, _, _, _]) rfl ?_
  have main : ∀ S1 G1, LW S1 s → xA (some (N, xs)) (d + 4) mL_tasks 3 15 3 15 15 [some (.ref 0), some (.retAddr 0), some (.ref 55), some (.ref 56), some (.ref 58), some (.ref 59), some (.ref 60), none, none, none, none, none] [] (σF (τL [.inr (.inl 5), .inr (.inl 5), .inr (.inl 5)]), S1, G1) (fun r h' => r = some (.int 1) ∧ ∃ S' G' s', h' = (σF (τL [.inr (.inl 5), .inr (.inl 5), .inr (.inl 5)]), S', G') ∧ LW S' s' ∧ sGl s' = sGl s) := by
    intro S1 G1 hw1
    have loopB : ∀ mt, mt ≤ 5 → ∀ S1 s1, LW S1 s1 → TK S1 s1 mt → sGl s1 = sGl s → ∀ k, k ≤ sP s1 → ∀ x9 x10 x11 : Option Value, xA (some (N, xs)) (d + 4) mL_tasks 3 15 3 15 137 [some (.ref 0), some (.retAddr 0), some (.ref 55), some (.ref 56), some (.ref 58), some (.ref 59), some (.ref 60), some (.int (nI mt)), some (.int (nI k)), x9, x10, x11] [] (σF (τL [.inr (.inl 5), .inr (.inl 5), .inr (.inl 5)]), S1, G1) (fun r h' => r = some (.int 1) ∧ ∃ S' G' s', h' = (σF (τL [.inr (.inl 5), .inr (.inl 5), .inr (.inl 5)]), S', G') ∧ LW S' s' ∧ sGl s' = sGl s) := by
      intro mt hmt S1 s1 hw1 ht1 hg1
      have hpl := hw1.2.2.2
      have hP3 := hpl.2.1
      refine xloop (sP s1) (fun k hk ihb => ?_) ?_
      · intro x9 x10 x11
        have hrl := (hpl.2.2.1 k hk).2.2.1
        have h17 := hrl.2.1
        have hg : ∀ i, i < lN' (sL s1 k) → lSp (sL s1 k) i < 360 := fun i hi => (hrl.2.2 i hi).2
        have inC : ∀ i, i ≤ mt → ∀ x11 : Option Value, xA (some (N, xs)) (d + 4) mL_tasks 3 15 3 15 151 [some (.ref 0), some (.retAddr 0), some (.ref 55), some (.ref 56), some (.ref 58), some (.ref 59), some (.ref 60), some (.int (nI mt)), some (.int (nI k)), some (.int (nI (obits (tds s1 (sL s1 k)) i))), some (.int (nI i)), x11] [] (σF (τL [.inr (.inl 5), .inr (.inl 5), .inr (.inl 5)]), S1, G1) (fun r h' => r = some (.int 1) ∧ ∃ S' G' s', h' = (σF (τL [.inr (.inl 5), .inr (.inl 5), .inr (.inl 5)]), S', G') ∧ LW S' s' ∧ sGl s' = sGl s) := by
          refine xloop mt (fun i hi ihc => ?_) ?_
          · intro x11
            refine xA.iload rfl rfl rfl ?_
            refine xA.iload rfl rfl rfl ?_
            refine xA.icmp_ge (tgt := 217) rfl rfl rfl (fun h155 => ?_) (fun h155 => ?_)
            · exact absurd h155 (nI_ge hi (by omega))
            · obtain ⟨rm, fr, to, q1, q2, q3, q4, q5, q6, q7, q8, q9⟩ := ht1.2.2 i hi
              have etd : tds s1 (sL s1 k) i = tdn (sL s1 k) rm fr to := by unfold tds; rw [q7, q8, q9, nI_clamp (by omega), nI_clamp (by omega), nI_clamp (by omega)]
              have inner : ∀ e, e ≤ to + 1 - fr → xA (some (N, xs)) (d + 4) mL_tasks 3 15 3 15 165 [some (.ref 0), some (.retAddr 0), some (.ref 55), some (.ref 56), some (.ref 58), some (.ref 59), some (.ref 60), some (.int (nI mt)), some (.int (nI k)), some (.int (nI (obits (tds s1 (sL s1 k)) i ||| (if tfl (sL s1 k) rm fr (fr + e) = true then 2 ^ i else 0)))), some (.int (nI i)), some (.int (nI (fr + e)))] [] (σF (τL [.inr (.inl 5), .inr (.inl 5), .inr (.inl 5)]), S1, G1) (fun r h' => r = some (.int 1) ∧ ∃ S' G' s', h' = (σF (τL [.inr (.inl 5), .inr (.inl 5), .inr (.inl 5)]), S', G') ∧ LW S' s' ∧ sGl s' = sGl s) := by
                refine xloop (to + 1 - fr) (fun e he ihd => ?_) ?_
                · skip
                  refine xA.iload rfl rfl rfl ?_
                  refine xA.aload rfl rfl rfl ?_
                  refine xA.iload rfl rfl rfl ?_
                  refine xA.iald rfl rfl (vp_in_nI (by omega) (by omega)) rfl ?_
                  refine xA.topi (rdA (by omega) q6) ?_
                  refine xA.icmp_gt (tgt := 211) rfl rfl rfl (fun h172 => ?_) (fun h172 => ?_)
                  · rw [nI_ltI (by omega) (by omega)] at h172
                    exact absurd h172 (by omega)
                  · rw [nI_ltI (by omega) (by omega)] at h172
                    refine xA.aload_n (i := 2) rfl rfl rfl rfl ?_
                    refine xA.aload_n (i := 3) rfl rfl rfl rfl ?_
                    refine xA.iload rfl rfl rfl ?_
                    refine xA.bipush (v := 8) rfl (by decide) rfl ?_
                    refine xA.iload rfl rfl rfl ?_
                    refine xA.imul rfl rfl ?_
                    refine xA.topi (nI_mul 8 _) ?_
                    refine xA.aload rfl rfl rfl ?_
                    refine xA.iload rfl rfl rfl ?_
                    refine xA.iald rfl rfl (vp_in_nI (by omega) (by omega)) rfl ?_
                    refine xA.topi (rdA (by omega) q4) ?_
                    refine xA.iadd rfl rfl ?_
                    refine xA.topi (show _ = nI (e8 ((fr + e) * 6 + rm)) from by rw [nI_add, e8_mk q1, Nat.mul_comm]) ?_
                    refine xA.gS (As := [_, _, _, _]) rfl k11_56 okL_there rfl rfl (Nat.le_of_ble_eq_true rfl) (Nat.le_of_ble_eq_true rfl) (Nat.le_of_ble_eq_true rfl) (c_L_there (d + 3) S1 G1 k (by omega) (sL s1 k) hrl ((fr + e) * 6 + rm) (by omega)) rfl rfl ?_
                    refine xA.if_le (tgt := 205) rfl rfl rfl (fun h193 => ?_) (fun h193 => ?_)
                    · rw [show (0 : Int32) = nI 0 from rfl, nI_leI (by have := thN_le (sL s1 k) ((fr + e) * 6 + rm); omega) (by omega)] at h193
                      refine xA.iinc (L' := [_, _, _, _, _, _, _, _, _, _, _, _]) rfl rfl (nI_1 _) rfl rfl ?_
                      refine xA.goto (q := 165) rfl rfl ?_
                      first
                      | (rw [show fr + (e + 1) = fr + e + 1 from rfl, tfl_f q1 (by omega)] at ihd; exact ihd)
                      | (rw [show fr + (e + 1) = fr + e + 1 from rfl, tfl_t q1 (by omega) (by omega), if_pos rfl] at ihd; exact ihd)
                    · rw [show (0 : Int32) = nI 0 from rfl, nI_leI (by have := thN_le (sL s1 k) ((fr + e) * 6 + rm); omega) (by omega)] at h193
                      refine xA.iload rfl rfl rfl ?_
                      refine xA.iconst (v := 1) rfl (by decide) rfl ?_
                      refine xA.iload rfl rfl rfl ?_
                      refine xA.ishl rfl rfl ?_
                      refine xA.topi (nI_shl i (by omega)) ?_
                      refine xA.ior rfl rfl ?_
                      refine xA.topi (show _ = nI (obits (tds s1 (sL s1 k)) i ||| 2 ^ i) from by rw [nI_or, or_any]) ?_
                      refine xA.istore (L' := [_, _, _, _, _, _, _, _, _, _, _, _]) rfl (Nat.le_of_ble_eq_true rfl) rfl rfl ?_
                      refine xA.iinc (L' := [_, _, _, _, _, _, _, _, _, _, _, _]) rfl rfl (nI_1 _) rfl rfl ?_
                      refine xA.goto (q := 165) rfl rfl ?_
                      first
                      | (rw [show fr + (e + 1) = fr + e + 1 from rfl, tfl_f q1 (by omega)] at ihd; exact ihd)
                      | (rw [show fr + (e + 1) = fr + e + 1 from rfl, tfl_t q1 (by omega) (by omega), if_pos rfl] at ihd; exact ihd)
                · skip
                  refine xA.iload rfl rfl rfl ?_
                  refine xA.aload rfl rfl rfl ?_
                  refine xA.iload rfl rfl rfl ?_
                  refine xA.iald rfl rfl (vp_in_nI (by omega) (by omega)) rfl ?_
                  refine xA.topi (rdA (by omega) q6) ?_
                  refine xA.icmp_gt (tgt := 211) rfl rfl rfl (fun h172 => ?_) (fun h172 => ?_)
                  · rw [nI_ltI (by omega) (by omega)] at h172
                    refine xA.iinc (L' := [_, _, _, _, _, _, _, _, _, _, _, _]) rfl rfl (nI_1 i) rfl rfl ?_
                    refine xA.goto (q := 151) rfl rfl ?_
                    have q := ihc (some (.int (nI (fr + (to + 1 - fr)))))
                    rw [obits, etd] at q
                    rw [show fr + (to + 1 - fr) = to + 1 by omega] at q ⊢
                    rw [tfl_end]
                    exact q
                  · rw [nI_ltI (by omega) (by omega)] at h172
                    exact absurd (show to < fr + (to + 1 - fr) by omega) h172
              refine xA.aload rfl rfl rfl ?_
              refine xA.iload rfl rfl rfl ?_
              refine xA.iald rfl rfl (vp_in_nI (by omega) (by omega)) rfl ?_
              refine xA.topi (rdA (by omega) q5) ?_
              refine xA.istore (L' := [_, _, _, _, _, _, _, _, _, _, _, _]) rfl (Nat.le_of_ble_eq_true rfl) rfl rfl ?_
              have q := inner 0 (Nat.zero_le _)
              rw [show fr + 0 = fr from rfl, tfl_0, if_neg (by decide), Nat.or_zero] at q
              exact q
          · intro x11
            refine xA.iload rfl rfl rfl ?_
            refine xA.iload rfl rfl rfl ?_
            refine xA.icmp_ge (tgt := 217) rfl rfl rfl (fun h155 => ?_) (fun h155 => ?_)
            · refine xA.aload_n (i := 0) rfl rfl rfl rfl ?_
              refine xA.iload rfl rfl rfl ?_
              refine xA.gV (As := [_]) rfl k11_119 okX9_done rfl rfl rfl rfl (Nat.le_of_ble_eq_true rfl) (Nat.le_of_ble_eq_true rfl) (Nat.le_of_ble_eq_true rfl) (c_X9_done d S1 G1 s1 hw1.1 (nI k)) rfl rfl ?_
              refine xA.topi (show _ = nI (obits (tds s1 (sL s1 k)) mt) from by rw [aDone, nI_clamp (by omega), if_pos (rg_of hk (by omega))]; exact done_eq ht1 hg) ?_
              refine xA.iload rfl rfl rfl ?_
              refine xA.icmp_eq (tgt := 230) rfl rfl rfl (fun h225 => ?_) (fun h225 => ?_)
              · refine xA.iinc (L' := [_, _, _, _, _, _, _, _, _, _, _, _]) rfl rfl (nI_1 k) rfl rfl ?_
                refine xA.goto (q := 137) rfl rfl ?_
                exact ihb _ _ _
              · exact absurd rfl h225
            · exact absurd (nI_le (Nat.le_refl _) (by omega)) h155
        refine xA.iload rfl rfl rfl ?_
        refine xA.aload_n (i := 2) rfl rfl rfl rfl ?_
        refine xA.iconst (v := 0) rfl (by decide) rfl ?_
        refine xA.iald rfl rfl (vp_in_nI (n := 0) (by decide) (by decide)) rfl ?_
        refine xA.topi (rdA (k := 0) (by decide) hpl.1) ?_
        refine xA.icmp_ge (tgt := 236) rfl rfl rfl (fun h142 => ?_) (fun h142 => ?_)
        · exact absurd h142 (nI_ge hk (by omega))
        · refine xA.iconst (v := 0) rfl (by decide) rfl ?_
          refine xA.istore (L' := [_, _, _, _, _, _, _, _, _, _, _, _]) rfl (Nat.le_of_ble_eq_true rfl) rfl rfl ?_
          refine xA.iconst (v := 0) rfl (by decide) rfl ?_
          refine xA.istore (L' := [_, _, _, _, _, _, _, _, _, _, _, _]) rfl (Nat.le_of_ble_eq_true rfl) rfl rfl ?_
          exact inC 0 (Nat.zero_le _) _
      · intro x9 x10 x11
        refine xA.iload rfl rfl rfl ?_
        refine xA.aload_n (i := 2) rfl rfl rfl rfl ?_
        refine xA.iconst (v := 0) rfl (by decide) rfl ?_
        refine xA.iald rfl rfl (vp_in_nI (n := 0) (by decide) (by decide)) rfl ?_
        refine xA.topi (rdA (k := 0) (by decide) hpl.1) ?_
        refine xA.icmp_ge (tgt := 236) rfl rfl rfl (fun h142 => ?_) (fun h142 => ?_)
        · refine xA.aload_n (i := 0) rfl rfl rfl rfl ?_
          refine xA.iconst (v := 3) rfl (by decide) rfl ?_
          refine xA.gV (As := [_]) rfl k11_71 okX9_count rfl rfl rfl rfl (Nat.le_of_ble_eq_true rfl) (Nat.le_of_ble_eq_true rfl) (Nat.le_of_ble_eq_true rfl) (c_X9_count (d + 2) S1 G1 s1 hw1.1 3) rfl rfl ?_
          refine xA.topi (show _ = nI mt from by rw [aCount, if_neg (by decide), if_neg (by decide), if_neg (by decide), if_pos rfl, ht1.1]) ?_
          refine xA.iload rfl rfl rfl ?_
          refine xA.icmp_ne (tgt := 268) rfl rfl rfl (fun h243 => ?_) (fun h243 => ?_)
          · exact absurd rfl h243
          · refine xA.iload rfl rfl rfl ?_
            refine xA.iconst (v := 5) rfl (by decide) rfl ?_
            refine xA.icmp_lt (tgt := 264) rfl rfl rfl (fun h249 => ?_) (fun h249 => ?_)
            · rw [show (5 : Int32) = nI 5 from rfl, nI_ltI (by omega) (by omega)] at h249
              refine xA.iconst (v := 1) rfl (by decide) rfl ?_
              refine xA.goto (q := 269) rfl rfl ?_
              first
              | exact xA.iret rfl rfl rfl ⟨rfl, S1, G1, s1, rfl, hw1, hg1⟩
              | exact xA.iret rfl rfl rfl ⟨rfl, S2, G1, s1, rfl, hw1.op hc2 hf2 rfl rfl rfl rfl rfl, hg1⟩
            · rw [show (5 : Int32) = nI 5 from rfl, nI_ltI (by omega) (by omega)] at h249
              refine xA.aload_n (i := 0) rfl rfl rfl rfl ?_
              refine xA.iconst (v := 0) rfl (by decide) rfl ?_
              refine xA.iconst (v := 0) rfl (by decide) rfl ?_
              refine xA.iconst (v := 0) rfl (by decide) rfl ?_
              refine xA.gO (As := [_, _, _]) rfl k11_122 okX9_task rfl rfl rfl (Nat.le_of_ble_eq_true rfl) (Nat.le_of_ble_eq_true rfl) (Nat.le_of_ble_eq_true rfl) (o_task (d + 2) s1 0 0 0) (hw1.1) rfl rfl ?_
              intro S2 hc2 hf2
              have h5 : (sTk s1).1 = 5 := by have := ht1.1; omega
              refine xA.topi (show _ = -104 from by rw [aTask, if_pos (by decide), if_pos (by decide), if_neg (by have := hw1.2.2.1; omega), if_pos h5]) ?_
              rw [show tTask s1 0 0 0 = s1 from by rw [tTask, if_neg (fun q => q.2.2.2 h5)]] at hc2
              refine xA.bipush (v := (-104)) rfl (by decide) rfl ?_
              refine xA.icmp_ne (tgt := 268) rfl rfl rfl (fun h261 => ?_) (fun h261 => ?_)
              · exact absurd rfl h261
              · refine xA.iconst (v := 1) rfl (by decide) rfl ?_
                refine xA.goto (q := 269) rfl rfl ?_
                first
                | exact xA.iret rfl rfl rfl ⟨rfl, S1, G1, s1, rfl, hw1, hg1⟩
                | exact xA.iret rfl rfl rfl ⟨rfl, S2, G1, s1, rfl, hw1.op hc2 hf2 rfl rfl rfl rfl rfl, hg1⟩
        · exact absurd (nI_le (Nat.le_refl _) (by omega)) h142
  
    have loopA : ∀ mt, mt ≤ 5 → ∀ i, i ≤ mt → ∀ S1 s1, LW S1 s1 → TK S1 s1 i → sGl s1 = sGl s → ∀ x9 : Option Value, xA (some (N, xs)) (d + 4) mL_tasks 3 15 3 15 31 [some (.ref 0), some (.retAddr 0), some (.ref 55), some (.ref 56), some (.ref 58), some (.ref 59), some (.ref 60), some (.int (nI mt)), some (.int (nI i)), x9, none, none] [] (σF (τL [.inr (.inl 5), .inr (.inl 5), .inr (.inl 5)]), S1, G1) (fun r h' => r = some (.int 1) ∧ ∃ S' G' s', h' = (σF (τL [.inr (.inl 5), .inr (.inl 5), .inr (.inl 5)]), S', G') ∧ LW S' s' ∧ sGl s' = sGl s) := by
      intro mt hmt
      refine xloop mt (fun i hi ih => ?_) ?_
      · intro S1 s1 hw1 ht1 hg1 x9
        have hi5 : i < 5 := by omega
        refine xA.iload rfl rfl rfl ?_
        refine xA.iload rfl rfl rfl ?_
        refine xA.icmp_ge (tgt := 134) rfl rfl rfl (fun h35 => ?_) (fun h35 => ?_)
        · exact absurd h35 (nI_ge hi (by omega))
        · refine xA.aloadX_n (i := 1) rfl rfl rfl rfl ?_
          refine xA.bipush (v := 15) rfl (by decide) rfl ?_
          refine xA.iload rfl rfl rfl ?_
          refine xA.iadd rfl rfl ?_
          refine xA.topi (nI_add 15 i) ?_
          refine xA.cell (k := 15 + i) hN rfl k11_8 rfl (Nat.le_of_ble_eq_true rfl) (Nat.le_of_ble_eq_true rfl) (Nat.le_of_ble_eq_true rfl) (rfl) (by omega) rfl (fun x => ?_)
          refine xA.istore (L' := [_, _, _, _, _, _, _, _, _, _, _, _]) rfl (Nat.le_of_ble_eq_true rfl) rfl rfl ?_
          refine xA.aload rfl rfl rfl ?_
          refine xA.iload rfl rfl rfl ?_
          refine xA.iload rfl rfl rfl ?_
          refine xA.bipush (v := 6) rfl (by decide) rfl ?_
          refine xA.at (N := 6) rfl k11_14 rfl (Nat.le_of_ble_eq_true rfl) (Nat.le_of_ble_eq_true rfl) (Nat.le_of_ble_eq_true rfl) (rfl) (by decide) (by decide) rfl (fun rm hrm => ?_)
          refine xA.iast rfl rfl (vp_in_nI (by omega) (by omega)) rfl ?_
          rw [nI_clamp (show i < 2 ^ 31 by omega)]
          refine xA.aload rfl rfl rfl ?_
          refine xA.iload rfl rfl rfl ?_
          refine xA.iload rfl rfl rfl ?_
          refine xA.iconst (v := 3) rfl (by decide) rfl ?_
          refine xA.ishr rfl rfl ?_
          refine xA.bipush (v := 60) rfl (by decide) rfl ?_
          refine xA.at (N := 60) rfl k11_14 rfl (Nat.le_of_ble_eq_true rfl) (Nat.le_of_ble_eq_true rfl) (Nat.le_of_ble_eq_true rfl) (rfl) (by decide) (by decide) rfl (fun fr hfr => ?_)
          refine xA.iast rfl rfl (vp_in_nI (by omega) (by omega)) rfl ?_
          rw [nI_clamp (show i < 2 ^ 31 by omega)]
          refine xA.aload rfl rfl rfl ?_
          refine xA.iload rfl rfl rfl ?_
          refine xA.aload rfl rfl rfl ?_
          refine xA.iload rfl rfl rfl ?_
          refine xA.iald rfl rfl (vp_in_nI (by omega) (by omega)) rfl ?_
          refine xA.topi (rdA (by omega) (show _ = nI fr from by rw [xu_at, iu_at])) ?_
          refine xA.iload rfl rfl rfl ?_
          refine xA.bipush (v := 9) rfl (by decide) rfl ?_
          refine xA.ishr rfl rfl ?_
          refine xA.bipush (v := 60) rfl (by decide) rfl ?_
          refine xA.aload rfl rfl rfl ?_
          refine xA.iload rfl rfl rfl ?_
          refine xA.iald rfl rfl (vp_in_nI (by omega) (by omega)) rfl ?_
          refine xA.topi (rdA (by omega) (show _ = nI fr from by rw [xu_at, iu_at])) ?_
          refine xA.isub rfl rfl ?_
          refine xA.topi (nI_sub (a := 60) (by omega)) ?_
          refine xA.at (N := 60 - fr) rfl k11_14 rfl (Nat.le_of_ble_eq_true rfl) (Nat.le_of_ble_eq_true rfl) (Nat.le_of_ble_eq_true rfl) (rfl) (by omega) (by omega) rfl (fun w hw60 => ?_)
          refine xA.iadd rfl rfl ?_
          refine xA.topi (nI_add fr w) ?_
          refine xA.iast rfl rfl (vp_in_nI (by omega) (by omega)) rfl ?_
          rw [nI_clamp (show i < 2 ^ 31 by omega)]
          refine xA.aload_n (i := 0) rfl rfl rfl rfl ?_
          refine xA.aload rfl rfl rfl ?_
          refine xA.iload rfl rfl rfl ?_
          refine xA.iald rfl rfl (vp_in_nI (by omega) (by omega)) rfl ?_
          refine xA.topi (rdA (by omega) (show _ = nI rm from by rw [xu_off (by decide), xu_off (by decide), xu_at, iu_at])) ?_
          refine xA.aload rfl rfl rfl ?_
          refine xA.iload rfl rfl rfl ?_
          refine xA.iald rfl rfl (vp_in_nI (by omega) (by omega)) rfl ?_
          refine xA.topi (rdA (by omega) (show _ = nI fr from by rw [xu_off (by decide), xu_at, iu_at])) ?_
          refine xA.aload rfl rfl rfl ?_
          refine xA.iload rfl rfl rfl ?_
          refine xA.iald rfl rfl (vp_in_nI (by omega) (by omega)) rfl ?_
          refine xA.topi (rdA (by omega) (show _ = nI (fr + w) from by rw [xu_at, iu_at])) ?_
          refine xA.gO (As := [_, _, _]) rfl k11_122 okX9_task rfl rfl rfl (Nat.le_of_ble_eq_true rfl) (Nat.le_of_ble_eq_true rfl) (Nat.le_of_ble_eq_true rfl) (o_task (d + 2) s1 (nI rm) (nI fr) (nI (fr + w))) ((hw1.to (fun j hj => by rw [xu_off (by omega), xu_off (by omega), xu_off (by omega)])).1) rfl rfl ?_
          intro S2 hc2 hf2
          have hto := task_ok (s := s1) ht1.1 hi5 hw1.2.2.1 hrm (show fr ≤ fr + w by omega) (by omega)
          refine xA.topi hto.1 ?_
          rw [hto.2] at hc2
          refine xA.iload rfl rfl rfl ?_
          refine xA.icmp_eq (tgt := 128) rfl rfl rfl (fun h123 => ?_) (fun h123 => ?_)
          · refine xA.iinc (L' := [_, _, _, _, _, _, _, _, _, _, _, _]) rfl rfl (nI_1 i) rfl rfl ?_
            refine xA.goto (q := 31) rfl rfl ?_
            have hw1' := hw1.to (S' := xu (xu (xu S1 58 i (nI rm)) 59 i (nI fr)) 60 i (nI (fr + w))) (fun j hj => by rw [xu_off (by omega), xu_off (by omega), xu_off (by omega)])
            exact ih S2 (taS s1 i rm fr (fr + w)) (hw1'.op hc2 hf2 rfl rfl rfl rfl rfl) (TK_add ht1 hi5 hrm (by omega) (by omega) (by rw [hf2 58 (by decide), xu_off (by decide), xu_off (by decide), xu_at]) (by rw [hf2 59 (by decide), xu_off (by decide), xu_at, xu_off (by decide)]) (by rw [hf2 60 (by decide), xu_at, xu_off (by decide), xu_off (by decide)])) hg1 _
          · exact absurd rfl h123
      · intro S1 s1 hw1 ht1 hg1 x9
        refine xA.iload rfl rfl rfl ?_
        refine xA.iload rfl rfl rfl ?_
        refine xA.icmp_ge (tgt := 134) rfl rfl rfl (fun h35 => ?_) (fun h35 => ?_)
        · refine xA.iconst (v := 0) rfl (by decide) rfl ?_
          refine xA.istore (L' := [_, _, _, _, _, _, _, _, _, _, _, _]) rfl (Nat.le_of_ble_eq_true rfl) rfl rfl ?_
          exact loopB mt hmt S1 s1 hw1 ht1 hg1 0 (Nat.zero_le _) _ _ _
        · exact absurd (nI_le (Nat.le_refl _) (by omega)) h35
  
    refine xA.aloadX_n (i := 1) rfl rfl rfl rfl ?_
    refine xA.bipush (v := 14) rfl (by decide) rfl ?_
    refine xA.cell (k := 14) hN rfl k11_8 rfl (Nat.le_of_ble_eq_true rfl) (Nat.le_of_ble_eq_true rfl) (Nat.le_of_ble_eq_true rfl) (rfl) (by decide) rfl (fun x => ?_)
    refine xA.bipush (v := 6) rfl (by decide) rfl ?_
    refine xA.at (N := 6) rfl k11_14 rfl (Nat.le_of_ble_eq_true rfl) (Nat.le_of_ble_eq_true rfl) (Nat.le_of_ble_eq_true rfl) (rfl) (by decide) (by decide) rfl (fun mt hmt => ?_)
    refine xA.istore (L' := [_, _, _, _, _, _, _, _, _, _, _, _]) rfl (Nat.le_of_ble_eq_true rfl) rfl rfl ?_
    refine xA.iconst (v := 0) rfl (by decide) rfl ?_
    refine xA.istore (L' := [_, _, _, _, _, _, _, _, _, _, _, _]) rfl (Nat.le_of_ble_eq_true rfl) rfl rfl ?_
    exact loopA mt (by omega) 0 (Nat.zero_le _) S1 s hw1 ⟨ht0, Nat.zero_le _, fun j hj => absurd hj (Nat.not_lt_zero _)⟩ rfl _
  refine xA.iconst (v := 5) rfl (by decide) rfl ?_
  refine xA.newa (N := 5) rfl w46 (by decide) (by decide) (Nat.le_of_ble_eq_true rfl) (Nat.le_of_ble_eq_true rfl) (Nat.le_of_ble_eq_true rfl) rfl ?_
  refine xA.shp (σ' := σF (τL [.inr (.inl 5)])) rfl ?_
  refine xA.top (k' := 58) rfl ?_
  refine xA.astore (L' := [_, _, _, _, _, _, _, _, _, _, _, _]) rfl (Nat.le_of_ble_eq_true rfl) rfl rfl ?_
  refine xA.iconst (v := 5) rfl (by decide) rfl ?_
  refine xA.newa (N := 5) rfl w46 (by decide) (by decide) (Nat.le_of_ble_eq_true rfl) (Nat.le_of_ble_eq_true rfl) (Nat.le_of_ble_eq_true rfl) rfl ?_
  refine xA.shp (σ' := σF (τL [.inr (.inl 5), .inr (.inl 5)])) rfl ?_
  refine xA.top (k' := 59) rfl ?_
  refine xA.astore (L' := [_, _, _, _, _, _, _, _, _, _, _, _]) rfl (Nat.le_of_ble_eq_true rfl) rfl rfl ?_
  refine xA.iconst (v := 5) rfl (by decide) rfl ?_
  refine xA.newa (N := 5) rfl w46 (by decide) (by decide) (Nat.le_of_ble_eq_true rfl) (Nat.le_of_ble_eq_true rfl) (Nat.le_of_ble_eq_true rfl) rfl ?_
  refine xA.shp (σ' := σF (τL [.inr (.inl 5), .inr (.inl 5), .inr (.inl 5)])) rfl ?_
  refine xA.top (k' := 60) rfl ?_
  refine xA.astore (L' := [_, _, _, _, _, _, _, _, _, _, _, _]) rfl (Nat.le_of_ble_eq_true rfl) rfl rfl ?_
  exact main _ _ (hw.to (fun j hj => (xz_off (k := 60) (by omega)).trans ((xz_off (k := 59) (by omega)).trans (xz_off (k := 58) (by omega)))))

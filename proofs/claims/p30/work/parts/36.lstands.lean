variable {ρ : List xSh}
/-! ===== stands ===== -/
set_option maxRecDepth 100000 in
set_option maxHeartbeats 1000000 in
theorem c_L_stands (d : Nat) (S : Nat → Nat → Int32) (G : Nat → Nat → Int64) (s : sS) (hw : LW S s) : xR (τL ρ) (d + 5) mL_stands [.ref 0, .ref 54, .ref 55, .ref 56] S G (some (.int 1)) S G := by
  refine xC.of okL_stands (Nat.le_of_ble_eq_true rfl) (L := [_, _, _, _, _, _, _, _, _, _, _, _, _]) rfl ?_
  obtain ⟨hc, hh, hr, hpl⟩ := id hw
  have hP3 := hpl.2.1
  have h4 : sP s ≤ 4 := by omega
  have hok := hw.hok.1
  have loop : ∀ k, k ≤ sP s → ∀ x5 x6 x7 x8 x9 x10 x11 x12 : Option Value, xA none (d + 5) mL_stands 0 0 0 0 3 [some (.ref 0), some (.ref 54), some (.ref 55), some (.ref 56), some (.int (nI k)), x5, x6, x7, x8, x9, x10, x11, x12] [] (σF (τL ρ), S, G) (fun r' h' => r' = some (.int 1) ∧ h' = (σF (τL ρ), S, G)) := by
    refine xloop (sP s) (fun k hk ih => ?_) ?_
    · intro x5 x6 x7 x8 x9 x10 x11 x12
      have hpk := hpl.2.2.1 k hk
      have hkd := hpk.2.1
      have hrl := hpk.2.2.1
      have h17 := hrl.2.1
      have hg : ∀ i, i < (lN' (sL s k)) → lSp (sL s k) i < 360 := fun i hi => (hrl.2.2 i hi).2
      have hab := a_about hk h4
      have hth17 := hw.lG hk
      have hlt17 : lTh (sL s k) ≤ 17 := hth17.2.2.1
      have r400 : ∀ (v mo : Nat) (wh x10 : Int32) (x11 x12 : Option Value), MT (sH s) (sKd s k) (sL s k) (lN' (sL s k)) 0 v → MO (sL s k) 0 mo wh → xA none (d + 5) mL_stands 0 0 0 0 400 [some (.ref 0), some (.ref 54), some (.ref 55), some (.ref 56), some (.int (nI k)), some (.int (nI (lN' (sL s k)))), some (.int (nI (lTh (sL s k)))), some (.int (nI v)), some (.int (nI mo)), some (.int wh), some (.int x10), x11, x12] [] (σF (τL ρ), S, G) (fun r' h' => r' = some (.int 1) ∧ h' = (σF (τL ρ), S, G)) := by
        intro v mo wh x10 x11 x12 hmt hmo
        have hv99 := hmt.le
        refine xA.aload_n (i := 0) rfl rfl rfl rfl ?_
        refine xA.iload rfl rfl rfl ?_
        refine xA.callVi (As := [_]) rfl k11_66 okX9_met rfl rfl rfl rfl (Nat.le_of_ble_eq_true rfl) (c_X9_met d S G s hc (nI k)) rfl rfl ?_
        refine xA.topi ((a_met hk h4).trans (hmt.fin hok hkd hg).symm) ?_
        refine xA.iload rfl rfl rfl ?_
        refine xA.bipush (v := 99) rfl (by decide) rfl ?_
        refine xA.icmp_ne (tgt := 417) rfl rfl rfl (fun h410 => ?_) (fun h410 => ?_)
        · rw [show (99 : Int32) = nI 99 from rfl, nI_eq (by omega) (by omega)] at h410
          refine xA.iload rfl rfl rfl ?_
          refine xA.icmp_ne (tgt := 460) rfl rfl rfl (fun h419 => ?_) (fun h419 => ?_)
          · first
            | exact absurd (if_pos h410) h419
            | exact absurd (if_neg h410) h419
          · refine xA.aload_n (i := 0) rfl rfl rfl rfl ?_
            refine xA.iload rfl rfl rfl ?_
            refine xA.iconst (v := 0) rfl (by decide) rfl ?_
            refine xA.callVi (As := [_, _]) rfl k11_68 okX9_most rfl rfl rfl rfl (Nat.le_of_ble_eq_true rfl) (c_X9_most (d + 1) S G s hc (nI k) 0) rfl rfl ?_
            refine xA.topi ((a_most hk h4).1.trans (congrArg nI (hmo.fin hg).1)) ?_
            refine xA.iload rfl rfl rfl ?_
            refine xA.icmp_ne (tgt := 460) rfl rfl rfl (fun h431 => ?_) (fun h431 => ?_)
            · exact absurd rfl h431
            · refine xA.aload_n (i := 0) rfl rfl rfl rfl ?_
              refine xA.iload rfl rfl rfl ?_
              refine xA.iconst (v := 1) rfl (by decide) rfl ?_
              refine xA.callVi (As := [_, _]) rfl k11_68 okX9_most rfl rfl rfl rfl (Nat.le_of_ble_eq_true rfl) (c_X9_most (d + 1) S G s hc (nI k) 1) rfl rfl ?_
              refine xA.topi ((a_most hk h4).2.trans (hmo.fin hg).2) ?_
              refine xA.iload rfl rfl rfl ?_
              refine xA.icmp_ne (tgt := 460) rfl rfl rfl (fun h443 => ?_) (fun h443 => ?_)
              · exact absurd rfl h443
              · refine xA.aload_n (i := 0) rfl rfl rfl rfl ?_
                refine xA.iload rfl rfl rfl ?_
                refine xA.iload rfl rfl rfl ?_
                refine xA.iconst (v := 0) rfl (by decide) rfl ?_
                refine xA.callVi (As := [_, _, _]) rfl k11_49 okX9_self rfl rfl rfl rfl (Nat.le_of_ble_eq_true rfl) (c_X9_self (d + 3) S G s hc (nI k) (nI (lN' (sL s k))) 0) rfl rfl ?_
                refine xA.topi (a_selfN (by omega) (Nat.le_refl _) h17) ?_
                refine xA.bipush (v := (-101)) rfl (by decide) rfl ?_
                refine xA.icmp_eq (tgt := 462) rfl rfl rfl (fun h457 => ?_) (fun h457 => ?_)
                · refine xA.iinc (L' := [_, _, _, _, _, _, _, _, _, _, _, _, _]) rfl rfl (nI_1 k) rfl rfl ?_
                  refine xA.goto (q := 3) rfl rfl ?_
                  exact ih _ _ _ _ _ _ _ _
                · exact absurd rfl h457
        · rw [show (99 : Int32) = nI 99 from rfl, nI_eq (by omega) (by omega)] at h410
          refine xA.iconst (v := (-1)) rfl (by decide) rfl ?_
          refine xA.goto (q := 419) rfl rfl ?_
          refine xA.icmp_ne (tgt := 460) rfl rfl rfl (fun h419 => ?_) (fun h419 => ?_)
          · first
            | exact absurd (if_pos h410) h419
            | exact absurd (if_neg h410) h419
          · refine xA.aload_n (i := 0) rfl rfl rfl rfl ?_
            refine xA.iload rfl rfl rfl ?_
            refine xA.iconst (v := 0) rfl (by decide) rfl ?_
            refine xA.callVi (As := [_, _]) rfl k11_68 okX9_most rfl rfl rfl rfl (Nat.le_of_ble_eq_true rfl) (c_X9_most (d + 1) S G s hc (nI k) 0) rfl rfl ?_
            refine xA.topi ((a_most hk h4).1.trans (congrArg nI (hmo.fin hg).1)) ?_
            refine xA.iload rfl rfl rfl ?_
            refine xA.icmp_ne (tgt := 460) rfl rfl rfl (fun h431 => ?_) (fun h431 => ?_)
            · exact absurd rfl h431
            · refine xA.aload_n (i := 0) rfl rfl rfl rfl ?_
              refine xA.iload rfl rfl rfl ?_
              refine xA.iconst (v := 1) rfl (by decide) rfl ?_
              refine xA.callVi (As := [_, _]) rfl k11_68 okX9_most rfl rfl rfl rfl (Nat.le_of_ble_eq_true rfl) (c_X9_most (d + 1) S G s hc (nI k) 1) rfl rfl ?_
              refine xA.topi ((a_most hk h4).2.trans (hmo.fin hg).2) ?_
              refine xA.iload rfl rfl rfl ?_
              refine xA.icmp_ne (tgt := 460) rfl rfl rfl (fun h443 => ?_) (fun h443 => ?_)
              · exact absurd rfl h443
              · refine xA.aload_n (i := 0) rfl rfl rfl rfl ?_
                refine xA.iload rfl rfl rfl ?_
                refine xA.iload rfl rfl rfl ?_
                refine xA.iconst (v := 0) rfl (by decide) rfl ?_
                refine xA.callVi (As := [_, _, _]) rfl k11_49 okX9_self rfl rfl rfl rfl (Nat.le_of_ble_eq_true rfl) (c_X9_self (d + 3) S G s hc (nI k) (nI (lN' (sL s k))) 0) rfl rfl ?_
                refine xA.topi (a_selfN (by omega) (Nat.le_refl _) h17) ?_
                refine xA.bipush (v := (-101)) rfl (by decide) rfl ?_
                refine xA.icmp_eq (tgt := 462) rfl rfl rfl (fun h457 => ?_) (fun h457 => ?_)
                · refine xA.iinc (L' := [_, _, _, _, _, _, _, _, _, _, _, _, _]) rfl rfl (nI_1 k) rfl rfl ?_
                  refine xA.goto (q := 3) rfl rfl ?_
                  exact ih _ _ _ _ _ _ _ _
                · exact absurd rfl h457
      have r287 : ∀ (v mo : Nat) (wh x10 : Int32) (x11 x12 : Option Value), MT (sH s) (sKd s k) (sL s k) (lN' (sL s k)) 0 v → MO (sL s k) 0 mo wh → xA none (d + 5) mL_stands 0 0 0 0 287 [some (.ref 0), some (.ref 54), some (.ref 55), some (.ref 56), some (.int (nI k)), some (.int (nI (lN' (sL s k)))), some (.int (nI (lTh (sL s k)))), some (.int (nI v)), some (.int (nI mo)), some (.int wh), some (.int x10), x11, x12] [] (σF (τL ρ), S, G) (fun r' h' => r' = some (.int 1) ∧ h' = (σF (τL ρ), S, G)) := by
        intro v mo wh x10 x11 x12 hmt hmo
        by_cases hN0 : (lN' (sL s k)) = 0
        · skip
          refine xA.iload rfl rfl rfl ?_
          refine xA.if_ne (tgt := 296) rfl rfl rfl (fun h289 => ?_) (fun h289 => ?_)
          · rw [show (0 : Int32) = nI 0 from rfl, nI_eq (by omega) (by omega)] at h289
            exact absurd hN0 h289
          · rw [show (0 : Int32) = nI 0 from rfl, nI_eq (by omega) (by omega)] at h289
            refine xA.iconst (v := (-1)) rfl (by decide) rfl ?_
            refine xA.goto (q := 308) rfl rfl ?_
            refine xA.istore (L' := [_, _, _, _, _, _, _, _, _, _, _, _, _]) rfl (Nat.le_of_ble_eq_true rfl) rfl rfl ?_
            refine xA.aload_n (i := 0) rfl rfl rfl rfl ?_
            refine xA.iload rfl rfl rfl ?_
            refine xA.iconst (v := 0) rfl (by decide) rfl ?_
            refine xA.callVi (As := [_, _]) rfl k11_63 okX9_about rfl rfl rfl rfl (Nat.le_of_ble_eq_true rfl) (c_X9_about (d + 2) S G s hc (nI k) 0) rfl rfl ?_
            refine xA.topi hab.1 ?_
            refine xA.aload_n (i := 2) rfl rfl rfl rfl ?_
            refine xA.iconst (v := 1) rfl (by decide) rfl ?_
            refine xA.iload rfl rfl rfl ?_
            refine xA.iadd rfl rfl ?_
            refine xA.topi (nI_add 1 k) ?_
            refine xA.iald rfl rfl (vp_in_nI (by omega) (by omega)) rfl ?_
            refine xA.topi (rdA (by omega) hpk.1) ?_
            refine xA.icmp_ne (tgt := 398) rfl rfl rfl (fun h323 => ?_) (fun h323 => ?_)
            · exact absurd rfl h323
            · refine xA.aload_n (i := 0) rfl rfl rfl rfl ?_
              refine xA.iload rfl rfl rfl ?_
              refine xA.iconst (v := 1) rfl (by decide) rfl ?_
              refine xA.callVi (As := [_, _]) rfl k11_63 okX9_about rfl rfl rfl rfl (Nat.le_of_ble_eq_true rfl) (c_X9_about (d + 2) S G s hc (nI k) 1) rfl rfl ?_
              refine xA.topi hab.2.1 ?_
              refine xA.iload rfl rfl rfl ?_
              refine xA.icmp_ne (tgt := 398) rfl rfl rfl (fun h335 => ?_) (fun h335 => ?_)
              · exact absurd rfl h335
              · refine xA.aload_n (i := 0) rfl rfl rfl rfl ?_
                refine xA.iload rfl rfl rfl ?_
                refine xA.iconst (v := 2) rfl (by decide) rfl ?_
                refine xA.callVi (As := [_, _]) rfl k11_63 okX9_about rfl rfl rfl rfl (Nat.le_of_ble_eq_true rfl) (c_X9_about (d + 2) S G s hc (nI k) 2) rfl rfl ?_
                refine xA.topi hab.2.2.1 ?_
                refine xA.iload rfl rfl rfl ?_
                refine xA.icmp_ne (tgt := 398) rfl rfl rfl (fun h347 => ?_) (fun h347 => ?_)
                · exact absurd rfl h347
                · refine xA.aload_n (i := 0) rfl rfl rfl rfl ?_
                  refine xA.iload rfl rfl rfl ?_
                  refine xA.iconst (v := 3) rfl (by decide) rfl ?_
                  refine xA.callVi (As := [_, _]) rfl k11_63 okX9_about rfl rfl rfl rfl (Nat.le_of_ble_eq_true rfl) (c_X9_about (d + 2) S G s hc (nI k) 3) rfl rfl ?_
                  refine xA.topi hab.2.2.2.1 ?_
                  refine xA.iload rfl rfl rfl ?_
                  refine xA.if_ne (tgt := 366) rfl rfl rfl (fun h359 => ?_) (fun h359 => ?_)
                  · rw [show (0 : Int32) = nI 0 from rfl, nI_eq (by omega) (by omega)] at h359
                    exact absurd hN0 h359
                  · rw [show (0 : Int32) = nI 0 from rfl, nI_eq (by omega) (by omega)] at h359
                    refine xA.iconst (v := (-1)) rfl (by decide) rfl ?_
                    refine xA.goto (q := 371) rfl rfl ?_
                    refine xA.icmp_ne (tgt := 398) rfl rfl rfl (fun h371 => ?_) (fun h371 => ?_)
                    · exact absurd (if_pos hN0) h371
                    · refine xA.aload_n (i := 0) rfl rfl rfl rfl ?_
                      refine xA.iload rfl rfl rfl ?_
                      refine xA.iconst (v := 4) rfl (by decide) rfl ?_
                      refine xA.callVi (As := [_, _]) rfl k11_63 okX9_about rfl rfl rfl rfl (Nat.le_of_ble_eq_true rfl) (c_X9_about (d + 2) S G s hc (nI k) 4) rfl rfl ?_
                      refine xA.topi hab.2.2.2.2 ?_
                      refine xA.iload rfl rfl rfl ?_
                      refine xA.if_ne (tgt := 390) rfl rfl rfl (fun h383 => ?_) (fun h383 => ?_)
                      · rw [show (0 : Int32) = nI 0 from rfl, nI_eq (by omega) (by omega)] at h383
                        exact absurd hN0 h383
                      · rw [show (0 : Int32) = nI 0 from rfl, nI_eq (by omega) (by omega)] at h383
                        refine xA.iconst (v := (-1)) rfl (by decide) rfl ?_
                        refine xA.goto (q := 395) rfl rfl ?_
                        refine xA.icmp_eq (tgt := 400) rfl rfl rfl (fun h395 => ?_) (fun h395 => ?_)
                        · exact r400 v mo wh _ x11 x12 hmt hmo
                        · exact absurd (if_pos hN0) h395
        · skip
          refine xA.iload rfl rfl rfl ?_
          refine xA.if_ne (tgt := 296) rfl rfl rfl (fun h289 => ?_) (fun h289 => ?_)
          · rw [show (0 : Int32) = nI 0 from rfl, nI_eq (by omega) (by omega)] at h289
            refine xA.aload_n (i := 3) rfl rfl rfl rfl ?_
            refine xA.bipush (v := 17) rfl (by decide) rfl ?_
            refine xA.iload rfl rfl rfl ?_
            refine xA.imul rfl rfl ?_
            refine xA.topi (nI_mul 17 k) ?_
            refine xA.iload rfl rfl rfl ?_
            refine xA.iadd rfl rfl ?_
            refine xA.topi (nI_add _ _) ?_
            refine xA.iconst (v := 1) rfl (by decide) rfl ?_
            refine xA.isub rfl rfl ?_
            refine xA.topi (show nI (17 * k + (lN' (sL s k))) - nI 1 = nI (17 * k + ((lN' (sL s k)) - 1)) from by rw [nI_sub (by omega)]; congr 1; omega) ?_
            refine xA.iald rfl rfl (vp_in_nI (by omega) (by omega)) rfl ?_
            refine xA.topi (rdA (by omega) (hrl.2.2 ((lN' (sL s k)) - 1) (by omega)).1) ?_
            refine xA.istore (L' := [_, _, _, _, _, _, _, _, _, _, _, _, _]) rfl (Nat.le_of_ble_eq_true rfl) rfl rfl ?_
            refine xA.aload_n (i := 0) rfl rfl rfl rfl ?_
            refine xA.iload rfl rfl rfl ?_
            refine xA.iconst (v := 0) rfl (by decide) rfl ?_
            refine xA.callVi (As := [_, _]) rfl k11_63 okX9_about rfl rfl rfl rfl (Nat.le_of_ble_eq_true rfl) (c_X9_about (d + 2) S G s hc (nI k) 0) rfl rfl ?_
            refine xA.topi hab.1 ?_
            refine xA.aload_n (i := 2) rfl rfl rfl rfl ?_
            refine xA.iconst (v := 1) rfl (by decide) rfl ?_
            refine xA.iload rfl rfl rfl ?_
            refine xA.iadd rfl rfl ?_
            refine xA.topi (nI_add 1 k) ?_
            refine xA.iald rfl rfl (vp_in_nI (by omega) (by omega)) rfl ?_
            refine xA.topi (rdA (by omega) hpk.1) ?_
            refine xA.icmp_ne (tgt := 398) rfl rfl rfl (fun h323 => ?_) (fun h323 => ?_)
            · exact absurd rfl h323
            · refine xA.aload_n (i := 0) rfl rfl rfl rfl ?_
              refine xA.iload rfl rfl rfl ?_
              refine xA.iconst (v := 1) rfl (by decide) rfl ?_
              refine xA.callVi (As := [_, _]) rfl k11_63 okX9_about rfl rfl rfl rfl (Nat.le_of_ble_eq_true rfl) (c_X9_about (d + 2) S G s hc (nI k) 1) rfl rfl ?_
              refine xA.topi hab.2.1 ?_
              refine xA.iload rfl rfl rfl ?_
              refine xA.icmp_ne (tgt := 398) rfl rfl rfl (fun h335 => ?_) (fun h335 => ?_)
              · exact absurd rfl h335
              · refine xA.aload_n (i := 0) rfl rfl rfl rfl ?_
                refine xA.iload rfl rfl rfl ?_
                refine xA.iconst (v := 2) rfl (by decide) rfl ?_
                refine xA.callVi (As := [_, _]) rfl k11_63 okX9_about rfl rfl rfl rfl (Nat.le_of_ble_eq_true rfl) (c_X9_about (d + 2) S G s hc (nI k) 2) rfl rfl ?_
                refine xA.topi hab.2.2.1 ?_
                refine xA.iload rfl rfl rfl ?_
                refine xA.icmp_ne (tgt := 398) rfl rfl rfl (fun h347 => ?_) (fun h347 => ?_)
                · exact absurd rfl h347
                · refine xA.aload_n (i := 0) rfl rfl rfl rfl ?_
                  refine xA.iload rfl rfl rfl ?_
                  refine xA.iconst (v := 3) rfl (by decide) rfl ?_
                  refine xA.callVi (As := [_, _]) rfl k11_63 okX9_about rfl rfl rfl rfl (Nat.le_of_ble_eq_true rfl) (c_X9_about (d + 2) S G s hc (nI k) 3) rfl rfl ?_
                  refine xA.topi hab.2.2.2.1 ?_
                  refine xA.iload rfl rfl rfl ?_
                  refine xA.if_ne (tgt := 366) rfl rfl rfl (fun h359 => ?_) (fun h359 => ?_)
                  · rw [show (0 : Int32) = nI 0 from rfl, nI_eq (by omega) (by omega)] at h359
                    refine xA.iload rfl rfl rfl ?_
                    refine xA.bipush (v := 8) rfl (by decide) rfl ?_
                    refine xA.idiv rfl (by decide) rfl ?_
                    refine xA.topi (e8I_div (hg _ (by omega))) ?_
                    refine xA.icmp_ne (tgt := 398) rfl rfl rfl (fun h371 => ?_) (fun h371 => ?_)
                    · exact absurd (if_neg hN0) h371
                    · refine xA.aload_n (i := 0) rfl rfl rfl rfl ?_
                      refine xA.iload rfl rfl rfl ?_
                      refine xA.iconst (v := 4) rfl (by decide) rfl ?_
                      refine xA.callVi (As := [_, _]) rfl k11_63 okX9_about rfl rfl rfl rfl (Nat.le_of_ble_eq_true rfl) (c_X9_about (d + 2) S G s hc (nI k) 4) rfl rfl ?_
                      refine xA.topi hab.2.2.2.2 ?_
                      refine xA.iload rfl rfl rfl ?_
                      refine xA.if_ne (tgt := 390) rfl rfl rfl (fun h383 => ?_) (fun h383 => ?_)
                      · rw [show (0 : Int32) = nI 0 from rfl, nI_eq (by omega) (by omega)] at h383
                        refine xA.iload rfl rfl rfl ?_
                        refine xA.bipush (v := 8) rfl (by decide) rfl ?_
                        refine xA.irem rfl (by decide) rfl ?_
                        refine xA.topi (e8I_mod (hg _ (by omega))) ?_
                        refine xA.icmp_eq (tgt := 400) rfl rfl rfl (fun h395 => ?_) (fun h395 => ?_)
                        · exact r400 v mo wh _ x11 x12 hmt hmo
                        · exact absurd (if_neg hN0) h395
                      · rw [show (0 : Int32) = nI 0 from rfl, nI_eq (by omega) (by omega)] at h383
                        exact absurd h383 hN0
                  · rw [show (0 : Int32) = nI 0 from rfl, nI_eq (by omega) (by omega)] at h359
                    exact absurd h359 hN0
          · rw [show (0 : Int32) = nI 0 from rfl, nI_eq (by omega) (by omega)] at h289
            exact absurd h289 hN0
      
      have r217 : ∀ v : Nat, MT (sH s) (sKd s k) (sL s k) (lN' (sL s k)) 0 v → ∀ u, u ≤ 60 → ∀ (mo : Nat) (wh : Int32) (x11 x12 : Option Value), mo ≤ 17 → MO (sL s k) u mo wh → xA none (d + 5) mL_stands 0 0 0 0 217 [some (.ref 0), some (.ref 54), some (.ref 55), some (.ref 56), some (.int (nI k)), some (.int (nI (lN' (sL s k)))), some (.int (nI (lTh (sL s k)))), some (.int (nI v)), some (.int (nI mo)), some (.int wh), some (.int (dI u)), x11, x12] [] (σF (τL ρ), S, G) (fun r' h' => r' = some (.int 1) ∧ h' = (σF (τL ρ), S, G)) := by
        intro v hmt u
        induction u with
        | zero =>
          intro _ mo wh x11 x12 hmo17 hmo
          refine xA.iload rfl rfl rfl ?_
          refine xA.if_lt (tgt := 287) rfl rfl rfl (fun h219 => ?_) (fun h219 => ?_)
          · exact r287 v mo wh _ x11 x12 hmt hmo
          · exact absurd (by decide) h219
        | succ u ihu =>
          intro hu mo wh x11 x12 hmo17 hmo
          have hmn := mnC_le (sL s k) u
          have inner : ∀ r, r ≤ 6 → xA none (d + 5) mL_stands 0 0 0 0 228 [some (.ref 0), some (.ref 54), some (.ref 55), some (.ref 56), some (.int (nI k)), some (.int (nI (lN' (sL s k)))), some (.int (nI (lTh (sL s k)))), some (.int (nI v)), some (.int (nI mo)), some (.int wh), some (.int (nI u)), some (.int (nI (rmC (sL s k) u r))), some (.int (nI r))] [] (σF (τL ρ), S, G) (fun r' h' => r' = some (.int 1) ∧ h' = (σF (τL ρ), S, G)) := by
            refine xloop 6 (fun r hr ihr => ?_) ?_
            · have hth := thN_le (sL s k) (u * 6 + r)
              have hrm := rmC_le (sL s k) u r
              refine xA.iload rfl rfl rfl ?_
              refine xA.bipush (v := 6) rfl (by decide) rfl ?_
              refine xA.icmp_ge (tgt := 261) rfl rfl rfl (fun h232 => ?_) (fun h232 => ?_)
              · exact absurd h232 (nI_ge (b := 6) hr (by decide))
              · refine xA.iload rfl rfl rfl ?_
                refine xA.aload_n (i := 2) rfl rfl rfl rfl ?_
                refine xA.aload_n (i := 3) rfl rfl rfl rfl ?_
                refine xA.iload rfl rfl rfl ?_
                refine xA.bipush (v := 8) rfl (by decide) rfl ?_
                refine xA.iload rfl rfl rfl ?_
                refine xA.imul rfl rfl ?_
                refine xA.topi (nI_mul 8 u) ?_
                refine xA.iload rfl rfl rfl ?_
                refine xA.iadd rfl rfl ?_
                refine xA.topi (show _ = nI (e8 (u * 6 + r)) from by rw [nI_add, e8_mk (by omega), Nat.mul_comm]) ?_
                refine xA.callSi (As := [_, _, _, _]) rfl k11_56 okL_there rfl rfl (Nat.le_of_ble_eq_true rfl) (c_L_there (d + 4) S G k (by omega) (sL s k) hrl (u * 6 + r) (by omega)) rfl rfl ?_
                refine xA.iadd rfl rfl ?_
                refine xA.topi (show _ = nI (rmC (sL s k) u (r + 1)) from by rw [nI_add, rmC_add (by omega)]) ?_
                refine xA.istore (L' := [_, _, _, _, _, _, _, _, _, _, _, _, _]) rfl (Nat.le_of_ble_eq_true rfl) rfl rfl ?_
                refine xA.iinc (L' := [_, _, _, _, _, _, _, _, _, _, _, _, _]) rfl rfl (nI_1 r) rfl rfl ?_
                refine xA.goto (q := 228) rfl rfl ?_
                exact ihr
            · skip
              refine xA.iload rfl rfl rfl ?_
              refine xA.bipush (v := 6) rfl (by decide) rfl ?_
              refine xA.icmp_ge (tgt := 261) rfl rfl rfl (fun h232 => ?_) (fun h232 => ?_)
              · rw [rmC_6]
                refine xA.iload rfl rfl rfl ?_
                refine xA.if_le (tgt := 281) rfl rfl rfl (fun h263 => ?_) (fun h263 => ?_)
                · rw [show (0 : Int32) = nI 0 from rfl, nI_leI (by omega) (by omega)] at h263
                  refine xA.iinc (L' := [_, _, _, _, _, _, _, _, _, _, _, _, _]) rfl rfl (dI_dec u (by omega)) rfl rfl ?_
                  refine xA.goto (q := 217) rfl rfl ?_
                  first
                  | exact ihu (by omega) _ _ _ _ (by omega) (hmo.take (by omega) (by omega) (by omega))
                  | exact ihu (by omega) _ _ _ _ (by omega) (hmo.keep (by omega))
                · rw [show (0 : Int32) = nI 0 from rfl, nI_leI (by omega) (by omega)] at h263
                  refine xA.iload rfl rfl rfl ?_
                  refine xA.iload rfl rfl rfl ?_
                  refine xA.icmp_lt (tgt := 281) rfl rfl rfl (fun h270 => ?_) (fun h270 => ?_)
                  · rw [nI_ltI (by omega) (by omega)] at h270
                    refine xA.iinc (L' := [_, _, _, _, _, _, _, _, _, _, _, _, _]) rfl rfl (dI_dec u (by omega)) rfl rfl ?_
                    refine xA.goto (q := 217) rfl rfl ?_
                    first
                    | exact ihu (by omega) _ _ _ _ (by omega) (hmo.take (by omega) (by omega) (by omega))
                    | exact ihu (by omega) _ _ _ _ (by omega) (hmo.keep (by omega))
                  · rw [nI_ltI (by omega) (by omega)] at h270
                    refine xA.iload rfl rfl rfl ?_
                    refine xA.istore (L' := [_, _, _, _, _, _, _, _, _, _, _, _, _]) rfl (Nat.le_of_ble_eq_true rfl) rfl rfl ?_
                    refine xA.iload rfl rfl rfl ?_
                    refine xA.istore (L' := [_, _, _, _, _, _, _, _, _, _, _, _, _]) rfl (Nat.le_of_ble_eq_true rfl) rfl rfl ?_
                    refine xA.iinc (L' := [_, _, _, _, _, _, _, _, _, _, _, _, _]) rfl rfl (dI_dec u (by omega)) rfl rfl ?_
                    refine xA.goto (q := 217) rfl rfl ?_
                    first
                    | exact ihu (by omega) _ _ _ _ (by omega) (hmo.take (by omega) (by omega) (by omega))
                    | exact ihu (by omega) _ _ _ _ (by omega) (hmo.keep (by omega))
              · exact absurd (nI_le (a := 6) (b := 6) (Nat.le_refl _) (by decide)) h232
          refine xA.iload rfl rfl rfl ?_
          refine xA.if_lt (tgt := 287) rfl rfl rfl (fun h219 => ?_) (fun h219 => ?_)
          · exact absurd h219 (nI_pos (by omega))
          · refine xA.iconst (v := 0) rfl (by decide) rfl ?_
            refine xA.istore (L' := [_, _, _, _, _, _, _, _, _, _, _, _, _]) rfl (Nat.le_of_ble_eq_true rfl) rfl rfl ?_
            refine xA.iconst (v := 0) rfl (by decide) rfl ?_
            refine xA.istore (L' := [_, _, _, _, _, _, _, _, _, _, _, _, _]) rfl (Nat.le_of_ble_eq_true rfl) rfl rfl ?_
            have q := inner 0 (Nat.zero_le _)
            rw [rmC_0] at q
            exact q
      
      have r35 : ∀ i, i ≤ (lN' (sL s k)) → ∀ v, MT (sH s) (sKd s k) (sL s k) i 0 v → ∀ x11 x12 : Option Value, xA none (d + 5) mL_stands 0 0 0 0 35 [some (.ref 0), some (.ref 54), some (.ref 55), some (.ref 56), some (.int (nI k)), some (.int (nI (lN' (sL s k)))), some (.int (nI (cn (fun t => decide (lSp (sL s k) (t + 1) / 6 < lSp (sL s k) t / 6)) (i - 1)))), some (.int (nI v)), some (.int (nI 0)), some (.int (-1)), some (.int (nI i)), x11, x12] [] (σF (τL ρ), S, G) (fun r' h' => r' = some (.int 1) ∧ h' = (σF (τL ρ), S, G)) := by
        refine xloop (lN' (sL s k)) (fun i hi ihi => ?_) ?_
        · intro v hmt x11 x12
          have hgi := hg i hi
          have hgp := hg (i - 1) (by omega)
          refine xA.iload rfl rfl rfl ?_
          refine xA.iload rfl rfl rfl ?_
          refine xA.icmp_ge (tgt := 213) rfl rfl rfl (fun h39 => ?_) (fun h39 => ?_)
          · exact absurd h39 (nI_ge hi (by omega))
          · refine xA.aload_n (i := 3) rfl rfl rfl rfl ?_
            refine xA.bipush (v := 17) rfl (by decide) rfl ?_
            refine xA.iload rfl rfl rfl ?_
            refine xA.imul rfl rfl ?_
            refine xA.topi (nI_mul 17 k) ?_
            refine xA.iload rfl rfl rfl ?_
            refine xA.iadd rfl rfl ?_
            refine xA.topi (nI_add _ _) ?_
            refine xA.iald rfl rfl (vp_in_nI (by omega) (by omega)) rfl ?_
            refine xA.topi (rdA (by omega) (hrl.2.2 i hi).1) ?_
            refine xA.istore (L' := [_, _, _, _, _, _, _, _, _, _, _, _, _]) rfl (Nat.le_of_ble_eq_true rfl) rfl rfl ?_
            refine xA.aload_n (i := 0) rfl rfl rfl rfl ?_
            refine xA.iload rfl rfl rfl ?_
            refine xA.iload rfl rfl rfl ?_
            refine xA.iconst (v := 0) rfl (by decide) rfl ?_
            refine xA.callVi (As := [_, _, _]) rfl k11_49 okX9_self rfl rfl rfl rfl (Nat.le_of_ble_eq_true rfl) (c_X9_self (d + 3) S G s hc (nI k) (nI i) 0) rfl rfl ?_
            refine xA.topi (a_self hk h4 hi h17).1 ?_
            refine xA.iload rfl rfl rfl ?_
            refine xA.bipush (v := 8) rfl (by decide) rfl ?_
            refine xA.idiv rfl (by decide) rfl ?_
            refine xA.topi (e8I_div hgi) ?_
            refine xA.icmp_ne (tgt := 116) rfl rfl rfl (fun h68 => ?_) (fun h68 => ?_)
            · exact absurd rfl h68
            · refine xA.aload_n (i := 0) rfl rfl rfl rfl ?_
              refine xA.iload rfl rfl rfl ?_
              refine xA.iload rfl rfl rfl ?_
              refine xA.iconst (v := 1) rfl (by decide) rfl ?_
              refine xA.callVi (As := [_, _, _]) rfl k11_49 okX9_self rfl rfl rfl rfl (Nat.le_of_ble_eq_true rfl) (c_X9_self (d + 3) S G s hc (nI k) (nI i) 1) rfl rfl ?_
              refine xA.topi (a_self hk h4 hi h17).2 ?_
              refine xA.iload rfl rfl rfl ?_
              refine xA.bipush (v := 8) rfl (by decide) rfl ?_
              refine xA.irem rfl (by decide) rfl ?_
              refine xA.topi (e8I_mod hgi) ?_
              refine xA.icmp_ne (tgt := 116) rfl rfl rfl (fun h85 => ?_) (fun h85 => ?_)
              · exact absurd rfl h85
              · refine xA.aload_n (i := 0) rfl rfl rfl rfl ?_
                refine xA.iload rfl rfl rfl ?_
                refine xA.iload rfl rfl rfl ?_
                refine xA.bipush (v := 8) rfl (by decide) rfl ?_
                refine xA.idiv rfl (by decide) rfl ?_
                refine xA.topi (e8I_div hgi) ?_
                refine xA.iload rfl rfl rfl ?_
                refine xA.bipush (v := 8) rfl (by decide) rfl ?_
                refine xA.irem rfl (by decide) rfl ?_
                refine xA.topi (e8I_mod hgi) ?_
                refine xA.callVi (As := [_, _, _]) rfl k11_53 okX9_there rfl rfl rfl rfl (Nat.le_of_ble_eq_true rfl) (c_X9_there (d + 2) S G s hc (nI k) (nI (lSp (sL s k) i / 6)) (nI (lSp (sL s k) i % 6))) rfl rfl ?_
                refine xA.topi (a_there hk h4 hg hgi) ?_
                refine xA.aload_n (i := 2) rfl rfl rfl rfl ?_
                refine xA.aload_n (i := 3) rfl rfl rfl rfl ?_
                refine xA.iload rfl rfl rfl ?_
                refine xA.iload rfl rfl rfl ?_
                refine xA.callSi (As := [_, _, _, _]) rfl k11_56 okL_there rfl rfl (Nat.le_of_ble_eq_true rfl) (c_L_there (d + 4) S G k (by omega) (sL s k) hrl (lSp (sL s k) i) hgi) rfl rfl ?_
                refine xA.icmp_eq (tgt := 118) rfl rfl rfl (fun h113 => ?_) (fun h113 => ?_)
                · have r149 : ∀ pv : Nat, pv = cn (fun t => decide (lSp (sL s k) (t + 1) / 6 < lSp (sL s k) t / 6)) i → xA none (d + 5) mL_stands 0 0 0 0 149 [some (.ref 0), some (.ref 54), some (.ref 55), some (.ref 56), some (.int (nI k)), some (.int (nI (lN' (sL s k)))), some (.int (nI pv)), some (.int (nI v)), some (.int (nI 0)), some (.int (-1)), some (.int (nI i)), some (.int (nI (e8 (lSp (sL s k) i)))), x12] [] (σF (τL ρ), S, G) (fun r' h' => r' = some (.int 1) ∧ h' = (σF (τL ρ), S, G)) := by
                    intro pv epv
                    subst epv
                    have inner : ∀ j, j ≤ i → ∀ v, MT (sH s) (sKd s k) (sL s k) i j v → xA none (d + 5) mL_stands 0 0 0 0 152 [some (.ref 0), some (.ref 54), some (.ref 55), some (.ref 56), some (.int (nI k)), some (.int (nI (lN' (sL s k)))), some (.int (nI (cn (fun t => decide (lSp (sL s k) (t + 1) / 6 < lSp (sL s k) t / 6)) i))), some (.int (nI v)), some (.int (nI 0)), some (.int (-1)), some (.int (nI i)), some (.int (nI (e8 (lSp (sL s k) i)))), some (.int (nI j))] [] (σF (τL ρ), S, G) (fun r' h' => r' = some (.int 1) ∧ h' = (σF (τL ρ), S, G)) := by
                      refine xloop i (fun j hj ihj => ?_) ?_
                      · intro v hm2
                        have hv99 := hm2.le
                        refine xA.iload rfl rfl rfl ?_
                        refine xA.iload rfl rfl rfl ?_
                        refine xA.icmp_ge (tgt := 207) rfl rfl rfl (fun h156 => ?_) (fun h156 => ?_)
                        · exact absurd h156 (nI_ge hj (by omega))
                        · refine xA.aload_n (i := 1) rfl rfl rfl rfl ?_
                          refine xA.aload_n (i := 2) rfl rfl rfl rfl ?_
                          refine xA.iconst (v := 1) rfl (by decide) rfl ?_
                          refine xA.iload rfl rfl rfl ?_
                          refine xA.iadd rfl rfl ?_
                          refine xA.topi (nI_add 1 k) ?_
                          refine xA.iald rfl rfl (vp_in_nI (by omega) (by omega)) rfl ?_
                          refine xA.topi (rdA (by omega) hpk.1) ?_
                          refine xA.iload rfl rfl rfl ?_
                          refine xA.aload_n (i := 3) rfl rfl rfl rfl ?_
                          refine xA.bipush (v := 17) rfl (by decide) rfl ?_
                          refine xA.iload rfl rfl rfl ?_
                          refine xA.imul rfl rfl ?_
                          refine xA.topi (nI_mul 17 k) ?_
                          refine xA.iload rfl rfl rfl ?_
                          refine xA.iadd rfl rfl ?_
                          refine xA.topi (nI_add _ _) ?_
                          refine xA.iald rfl rfl (vp_in_nI (by omega) (by omega)) rfl ?_
                          refine xA.topi (rdA (by omega) (hrl.2.2 j (by omega)).1) ?_
                          refine xA.callSi (As := [_, _, _, _]) rfl k11_59 okL_met rfl rfl (Nat.le_of_ble_eq_true rfl) (c_L_met (d + 4) S G (sH s) hh (fun a => hok.2.2.2.2.2.2.2.2.1 a) (sKd s k) (lSp (sL s k) i) (lSp (sL s k) j) hkd hgi (hg j (by omega))) rfl rfl ?_
                          refine xA.if_eq (tgt := 201) rfl rfl rfl (fun h181 => ?_) (fun h181 => ?_)
                          · rw [xb_eq0] at h181
                            refine xA.iinc (L' := [_, _, _, _, _, _, _, _, _, _, _, _, _]) rfl rfl (nI_1 j) rfl rfl ?_
                            refine xA.goto (q := 152) rfl rfl ?_
                            first
                            | exact ihj _ (hm2.skip h181)
                            | exact ihj _ (hm2.keep h191)
                            | exact ihj _ (hm2.take hj h181 h191 (by omega))
                          · rw [xb_ne0] at h181
                            refine xA.iload rfl rfl rfl ?_
                            refine xA.bipush (v := 8) rfl (by decide) rfl ?_
                            refine xA.idiv rfl (by decide) rfl ?_
                            refine xA.topi (e8I_div hgi) ?_
                            refine xA.iload rfl rfl rfl ?_
                            refine xA.icmp_ge (tgt := 201) rfl rfl rfl (fun h191 => ?_) (fun h191 => ?_)
                            · rw [nI_leI (by omega) (by omega)] at h191
                              refine xA.iinc (L' := [_, _, _, _, _, _, _, _, _, _, _, _, _]) rfl rfl (nI_1 j) rfl rfl ?_
                              refine xA.goto (q := 152) rfl rfl ?_
                              first
                              | exact ihj _ (hm2.skip h181)
                              | exact ihj _ (hm2.keep h191)
                              | exact ihj _ (hm2.take hj h181 h191 (by omega))
                            · rw [nI_leI (by omega) (by omega)] at h191
                              refine xA.iload rfl rfl rfl ?_
                              refine xA.bipush (v := 8) rfl (by decide) rfl ?_
                              refine xA.idiv rfl (by decide) rfl ?_
                              refine xA.topi (e8I_div hgi) ?_
                              refine xA.istore (L' := [_, _, _, _, _, _, _, _, _, _, _, _, _]) rfl (Nat.le_of_ble_eq_true rfl) rfl rfl ?_
                              refine xA.iinc (L' := [_, _, _, _, _, _, _, _, _, _, _, _, _]) rfl rfl (nI_1 j) rfl rfl ?_
                              refine xA.goto (q := 152) rfl rfl ?_
                              first
                              | exact ihj _ (hm2.skip h181)
                              | exact ihj _ (hm2.keep h191)
                              | exact ihj _ (hm2.take hj h181 h191 (by omega))
                      · intro v hm2
                        refine xA.iload rfl rfl rfl ?_
                        refine xA.iload rfl rfl rfl ?_
                        refine xA.icmp_ge (tgt := 207) rfl rfl rfl (fun h156 => ?_) (fun h156 => ?_)
                        · refine xA.iinc (L' := [_, _, _, _, _, _, _, _, _, _, _, _, _]) rfl rfl (nI_1 i) rfl rfl ?_
                          refine xA.goto (q := 35) rfl rfl ?_
                          exact ihi v hm2.next _ _
                        · exact absurd (nI_le (Nat.le_refl _) (by omega)) h156
                    refine xA.iconst (v := 0) rfl (by decide) rfl ?_
                    refine xA.istore (L' := [_, _, _, _, _, _, _, _, _, _, _, _, _]) rfl (Nat.le_of_ble_eq_true rfl) rfl rfl ?_
                    exact inner 0 (Nat.zero_le _) v hmt
                  refine xA.iload rfl rfl rfl ?_
                  refine xA.if_le (tgt := 149) rfl rfl rfl (fun h120 => ?_) (fun h120 => ?_)
                  · rw [show (0 : Int32) = nI 0 from rfl, nI_leI (by omega) (by omega)] at h120
                    first
                    | exact r149 _ (pas_0 (by omega))
                    | exact r149 _ (pas_f (by omega) (pas_d (by omega) (by omega)))
                    | exact r149 _ (pas_t (by omega) (pas_e (by omega) (by omega)))
                  · rw [show (0 : Int32) = nI 0 from rfl, nI_leI (by omega) (by omega)] at h120
                    refine xA.iload rfl rfl rfl ?_
                    refine xA.bipush (v := 8) rfl (by decide) rfl ?_
                    refine xA.idiv rfl (by decide) rfl ?_
                    refine xA.topi (e8I_div hgi) ?_
                    refine xA.aload_n (i := 3) rfl rfl rfl rfl ?_
                    refine xA.bipush (v := 17) rfl (by decide) rfl ?_
                    refine xA.iload rfl rfl rfl ?_
                    refine xA.imul rfl rfl ?_
                    refine xA.topi (nI_mul 17 k) ?_
                    refine xA.iload rfl rfl rfl ?_
                    refine xA.iadd rfl rfl ?_
                    refine xA.topi (nI_add _ _) ?_
                    refine xA.iconst (v := 1) rfl (by decide) rfl ?_
                    refine xA.isub rfl rfl ?_
                    refine xA.topi (show nI (17 * k + i) - nI 1 = nI (17 * k + (i - 1)) from by rw [nI_sub (by omega)]; congr 1; omega) ?_
                    refine xA.iald rfl rfl (vp_in_nI (by omega) (by omega)) rfl ?_
                    refine xA.topi (rdA (by omega) (hrl.2.2 (i - 1) (by omega)).1) ?_
                    refine xA.bipush (v := 8) rfl (by decide) rfl ?_
                    refine xA.idiv rfl (by decide) rfl ?_
                    refine xA.topi (e8I_div (hg _ (by omega))) ?_
                    refine xA.icmp_ge (tgt := 149) rfl rfl rfl (fun h143 => ?_) (fun h143 => ?_)
                    · rw [nI_leI (by omega) (by omega)] at h143
                      first
                      | exact r149 _ (pas_0 (by omega))
                      | exact r149 _ (pas_f (by omega) (pas_d (by omega) (by omega)))
                      | exact r149 _ (pas_t (by omega) (pas_e (by omega) (by omega)))
                    · rw [nI_leI (by omega) (by omega)] at h143
                      refine xA.iinc (L' := [_, _, _, _, _, _, _, _, _, _, _, _, _]) rfl rfl (nI_1 _) rfl rfl ?_
                      first
                      | exact r149 _ (pas_0 (by omega))
                      | exact r149 _ (pas_f (by omega) (pas_d (by omega) (by omega)))
                      | exact r149 _ (pas_t (by omega) (pas_e (by omega) (by omega)))
                · exact absurd rfl h113
        · intro v hmt x11 x12
          refine xA.iload rfl rfl rfl ?_
          refine xA.iload rfl rfl rfl ?_
          refine xA.icmp_ge (tgt := 213) rfl rfl rfl (fun h39 => ?_) (fun h39 => ?_)
          · refine xA.bipush (v := 59) rfl (by decide) rfl ?_
            refine xA.istore (L' := [_, _, _, _, _, _, _, _, _, _, _, _, _]) rfl (Nat.le_of_ble_eq_true rfl) rfl rfl ?_
            rw [show cn _ _ = lDn (sL s k) from rfl, ← hpk.2.2.2]
            exact r217 v hmt 60 (Nat.le_refl _) 0 (-1) x11 x12 (by decide) (MO.first hg)
          · exact absurd (nI_le (Nat.le_refl _) (by omega)) h39
      
      refine xA.iload rfl rfl rfl ?_
      refine xA.aload_n (i := 2) rfl rfl rfl rfl ?_
      refine xA.iconst (v := 0) rfl (by decide) rfl ?_
      refine xA.iald rfl rfl (vp_in_nI (n := 0) (by decide) (by decide)) rfl ?_
      refine xA.topi (rdA (k := 0) (by decide) hpl.1) ?_
      refine xA.icmp_ge (tgt := 468) rfl rfl rfl (fun h8 => ?_) (fun h8 => ?_)
      · exact absurd h8 (nI_ge hk (by omega))
      · refine xA.aload_n (i := 2) rfl rfl rfl rfl ?_
        refine xA.iconst (v := 5) rfl (by decide) rfl ?_
        refine xA.iload rfl rfl rfl ?_
        refine xA.iadd rfl rfl ?_
        refine xA.topi (nI_add 5 k) ?_
        refine xA.iald rfl rfl (vp_in_nI (by omega) (by omega)) rfl ?_
        refine xA.topi (rdA (by omega) hrl.1) ?_
        refine xA.istore (L' := [_, _, _, _, _, _, _, _, _, _, _, _, _]) rfl (Nat.le_of_ble_eq_true rfl) rfl rfl ?_
        refine xA.iconst (v := 0) rfl (by decide) rfl ?_
        refine xA.istore (L' := [_, _, _, _, _, _, _, _, _, _, _, _, _]) rfl (Nat.le_of_ble_eq_true rfl) rfl rfl ?_
        refine xA.bipush (v := 99) rfl (by decide) rfl ?_
        refine xA.istore (L' := [_, _, _, _, _, _, _, _, _, _, _, _, _]) rfl (Nat.le_of_ble_eq_true rfl) rfl rfl ?_
        refine xA.iconst (v := 0) rfl (by decide) rfl ?_
        refine xA.istore (L' := [_, _, _, _, _, _, _, _, _, _, _, _, _]) rfl (Nat.le_of_ble_eq_true rfl) rfl rfl ?_
        refine xA.iconst (v := (-1)) rfl (by decide) rfl ?_
        refine xA.istore (L' := [_, _, _, _, _, _, _, _, _, _, _, _, _]) rfl (Nat.le_of_ble_eq_true rfl) rfl rfl ?_
        refine xA.iconst (v := 0) rfl (by decide) rfl ?_
        refine xA.istore (L' := [_, _, _, _, _, _, _, _, _, _, _, _, _]) rfl (Nat.le_of_ble_eq_true rfl) rfl rfl ?_
        exact r35 0 (Nat.zero_le _) 99 MT.zero _ _
    · intro x5 x6 x7 x8 x9 x10 x11 x12
      refine xA.iload rfl rfl rfl ?_
      refine xA.aload_n (i := 2) rfl rfl rfl rfl ?_
      refine xA.iconst (v := 0) rfl (by decide) rfl ?_
      refine xA.iald rfl rfl (vp_in_nI (n := 0) (by decide) (by decide)) rfl ?_
      refine xA.topi (rdA (k := 0) (by decide) hpl.1) ?_
      refine xA.icmp_ge (tgt := 468) rfl rfl rfl (fun h8 => ?_) (fun h8 => ?_)
      · refine xA.aload_n (i := 0) rfl rfl rfl rfl ?_
        refine xA.iconst (v := 2) rfl (by decide) rfl ?_
        refine xA.callVi (As := [_]) rfl k11_71 okX9_count rfl rfl rfl rfl (Nat.le_of_ble_eq_true rfl) (c_X9_count (d + 3) S G s hc 2) rfl rfl ?_
        refine xA.topi (show _ = nI (sP s) from by rw [aCount, if_neg (by decide), if_neg (by decide), if_pos rfl]) ?_
        refine xA.aload_n (i := 2) rfl rfl rfl rfl ?_
        refine xA.iconst (v := 0) rfl (by decide) rfl ?_
        refine xA.iald rfl rfl (vp_in_nI (n := 0) (by decide) (by decide)) rfl ?_
        refine xA.topi (rdA (k := 0) (by decide) hpl.1) ?_
        refine xA.icmp_ne (tgt := 483) rfl rfl rfl (fun h476 => ?_) (fun h476 => ?_)
        · exact absurd rfl h476
        · refine xA.iconst (v := 1) rfl (by decide) rfl ?_
          refine xA.goto (q := 484) rfl rfl ?_
          exact xA.iret rfl rfl rfl ⟨rfl, rfl⟩
      · exact absurd (nI_le (Nat.le_refl _) (by omega)) h8
  refine xA.iconst (v := 0) rfl (by decide) rfl ?_
  refine xA.istore (L' := [_, _, _, _, _, _, _, _, _, _, _, _, _]) rfl (Nat.le_of_ble_eq_true rfl) rfl rfl ?_
  exact loop 0 (Nat.zero_le _) _ _ _ _ _ _ _ _

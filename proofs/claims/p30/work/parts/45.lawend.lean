variable {ρ : List xSh}
/-! ===== the law: what is refused ===== -/
set_option maxRecDepth 100000 in
set_option maxHeartbeats 4000000 in
theorem law_end (d : Nat) (N : Nat) (xs : Nat → Int32) (hN : N ≤ 260) (s : sS) (S : Nat → Nat → Int32) (G : Nat → Nat → Int64) (hw : LW S s) (n6 x7 : Int32) (x8 x9 x10 x11 x12 x13 x14 x15 x16 x17 x18 x19 x20 x21 : Option Value) : xA (some (N, xs)) (d + 8) mL_law 600000 7302250 600000 7302250 701 [some (.retAddr 0), some (.ref 0), some (.ref 54), some (.ref 55), some (.ref 56), some (.ref 57), some (.int (n6)), some (.int (x7)), x8, x9, x10, x11, x12, x13, x14, x15, x16, x17, x18, x19, x20, x21] [] (σF (τL [.inr (.inl 5), .inr (.inl 5), .inr (.inl 5), .inr (.inl 8)]), S, G) (fun r _ => r = some (.int 1)) := by
  obtain ⟨hc, hh, hr, hpl⟩ := id hw
  have hP3 := hpl.2.1
  refine xA.aload_n (i := 3) rfl rfl rfl rfl ?_
  refine xA.iconst (v := 0) rfl (by decide) rfl ?_
  refine xA.iald rfl rfl (vp_in_nI (n := 0) (by decide) (by decide)) rfl ?_
  refine xA.topi (rdA (k := 0) (by decide) hpl.1) ?_
  refine xA.istore (L' := [_, _, _, _, _, _, _, _, _, _, _, _, _, _, _, _, _, _, _, _, _, _]) rfl (Nat.le_of_ble_eq_true rfl) rfl rfl ?_
  refine xA.aload_n (i := 1) rfl rfl rfl rfl ?_
  refine xA.bipush (v := 6) rfl (by decide) rfl ?_
  refine xA.iconst (v := 0) rfl (by decide) rfl ?_
  refine xA.gV (As := [_, _]) rfl k11_83 okX9_between rfl rfl rfl rfl (Nat.le_of_ble_eq_true rfl) (Nat.le_of_ble_eq_true rfl) (Nat.le_of_ble_eq_true rfl) (c_X9_between (d + 5) S G s hc 6 0) rfl rfl ?_
  refine xA.topi (show _ = -101 from by rw [aBetween, if_neg (by decide)]) ?_
  refine xA.bipush (v := (-101)) rfl (by decide) rfl ?_
  refine xA.icmp_ne (tgt := 1051) rfl rfl rfl (fun h715 => ?_) (fun h715 => ?_)
  · exact absurd rfl h715
  · refine xA.aload_n (i := 1) rfl rfl rfl rfl ?_
    refine xA.iconst (v := 5) rfl (by decide) rfl ?_
    refine xA.gO (As := [_]) rfl k11_31 okX9_person rfl rfl rfl (Nat.le_of_ble_eq_true rfl) (Nat.le_of_ble_eq_true rfl) (Nat.le_of_ble_eq_true rfl) (o_person (d + 5) s 5) (hc) rfl rfl ?_
    intro S1 hc1 hf1
    refine xA.topi (show _ = -102 from by rw [aPerson, if_neg (by decide)]) ?_
    rw [show tPerson s 5 = s from by rw [tPerson, if_neg (fun q => absurd q.1 (by decide))]] at hc1
    refine xA.bipush (v := (-102)) rfl (by decide) rfl ?_
    refine xA.icmp_ne (tgt := 1051) rfl rfl rfl (fun h725 => ?_) (fun h725 => ?_)
    · exact absurd rfl h725
    · refine xA.aload_n (i := 1) rfl rfl rfl rfl ?_
      refine xA.iload rfl rfl rfl ?_
      refine xA.gO (As := [_]) rfl k11_46 okX9_life rfl rfl rfl (Nat.le_of_ble_eq_true rfl) (Nat.le_of_ble_eq_true rfl) (Nat.le_of_ble_eq_true rfl) (o_life (d + 1) s (nI (sP s))) (hc1) rfl rfl ?_
      intro S2 hc2 hf2
      refine xA.topi (show _ = -101 from by rw [aLife, if_neg (rg_no (Nat.le_refl _) (by omega))]) ?_
      rw [show tLife s (nI (sP s)) = s from by rw [tLife, if_neg (rg_no (Nat.le_refl _) (by omega))]] at hc2
      refine xA.bipush (v := (-101)) rfl (by decide) rfl ?_
      refine xA.icmp_ne (tgt := 1051) rfl rfl rfl (fun h736 => ?_) (fun h736 => ?_)
      · exact absurd rfl h736
      · refine xA.aload_n (i := 1) rfl rfl rfl rfl ?_
        refine xA.iload rfl rfl rfl ?_
        refine xA.iconst (v := 0) rfl (by decide) rfl ?_
        refine xA.gV (As := [_, _]) rfl k11_63 okX9_about rfl rfl rfl rfl (Nat.le_of_ble_eq_true rfl) (Nat.le_of_ble_eq_true rfl) (Nat.le_of_ble_eq_true rfl) (c_X9_about (d + 5) S2 G s hc2 (nI (sP s)) 0) rfl rfl ?_
        refine xA.topi (show _ = -101 from by rw [aAbout, if_neg (rg_no (Nat.le_refl _) (by omega))]) ?_
        refine xA.bipush (v := (-101)) rfl (by decide) rfl ?_
        refine xA.icmp_ne (tgt := 1051) rfl rfl rfl (fun h748 => ?_) (fun h748 => ?_)
        · exact absurd rfl h748
        · refine xA.aload_n (i := 1) rfl rfl rfl rfl ?_
          refine xA.iload rfl rfl rfl ?_
          refine xA.iconst (v := 0) rfl (by decide) rfl ?_
          refine xA.gV (As := [_, _]) rfl k11_94 okX9_as rfl rfl rfl rfl (Nat.le_of_ble_eq_true rfl) (Nat.le_of_ble_eq_true rfl) (Nat.le_of_ble_eq_true rfl) (c_X9_as (d + 6) S2 G s hc2 (nI (sP s)) 0) rfl rfl ?_
          refine xA.topi (show _ = -101 from by rw [aAs, if_neg (rg_no (Nat.le_refl _) (by omega))]) ?_
          refine xA.bipush (v := (-101)) rfl (by decide) rfl ?_
          refine xA.icmp_ne (tgt := 1051) rfl rfl rfl (fun h760 => ?_) (fun h760 => ?_)
          · exact absurd rfl h760
          · refine xA.aload_n (i := 1) rfl rfl rfl rfl ?_
            refine xA.iload rfl rfl rfl ?_
            refine xA.iconst (v := 0) rfl (by decide) rfl ?_
            refine xA.iconst (v := 0) rfl (by decide) rfl ?_
            refine xA.gV (As := [_, _, _]) rfl k11_49 okX9_self rfl rfl rfl rfl (Nat.le_of_ble_eq_true rfl) (Nat.le_of_ble_eq_true rfl) (Nat.le_of_ble_eq_true rfl) (c_X9_self (d + 6) S2 G s hc2 (nI (sP s)) 0 0) rfl rfl ?_
            refine xA.topi (show _ = -101 from by rw [aSelf, if_neg (fun q => (rg_no (Nat.le_refl _) (by omega)) q.1)]) ?_
            refine xA.bipush (v := (-101)) rfl (by decide) rfl ?_
            refine xA.icmp_ne (tgt := 1051) rfl rfl rfl (fun h773 => ?_) (fun h773 => ?_)
            · exact absurd rfl h773
            · refine xA.aload_n (i := 1) rfl rfl rfl rfl ?_
              refine xA.iload rfl rfl rfl ?_
              refine xA.iconst (v := 0) rfl (by decide) rfl ?_
              refine xA.iconst (v := 0) rfl (by decide) rfl ?_
              refine xA.gV (As := [_, _, _]) rfl k11_53 okX9_there rfl rfl rfl rfl (Nat.le_of_ble_eq_true rfl) (Nat.le_of_ble_eq_true rfl) (Nat.le_of_ble_eq_true rfl) (c_X9_there (d + 5) S2 G s hc2 (nI (sP s)) 0 0) rfl rfl ?_
              refine xA.topi (show _ = -101 from by rw [aThere, if_neg (fun q => (rg_no (Nat.le_refl _) (by omega)) q.1)]) ?_
              refine xA.bipush (v := (-101)) rfl (by decide) rfl ?_
              refine xA.icmp_ne (tgt := 1051) rfl rfl rfl (fun h786 => ?_) (fun h786 => ?_)
              · exact absurd rfl h786
              · refine xA.aload_n (i := 1) rfl rfl rfl rfl ?_
                refine xA.iload rfl rfl rfl ?_
                refine xA.gV (As := [_]) rfl k11_66 okX9_met rfl rfl rfl rfl (Nat.le_of_ble_eq_true rfl) (Nat.le_of_ble_eq_true rfl) (Nat.le_of_ble_eq_true rfl) (c_X9_met (d + 3) S2 G s hc2 (nI (sP s))) rfl rfl ?_
                refine xA.topi (show _ = -101 from by rw [aMet, if_neg (rg_no (Nat.le_refl _) (by omega))]) ?_
                refine xA.bipush (v := (-101)) rfl (by decide) rfl ?_
                refine xA.icmp_ne (tgt := 1051) rfl rfl rfl (fun h797 => ?_) (fun h797 => ?_)
                · exact absurd rfl h797
                · refine xA.aload_n (i := 1) rfl rfl rfl rfl ?_
                  refine xA.iload rfl rfl rfl ?_
                  refine xA.iconst (v := 0) rfl (by decide) rfl ?_
                  refine xA.gV (As := [_, _]) rfl k11_68 okX9_most rfl rfl rfl rfl (Nat.le_of_ble_eq_true rfl) (Nat.le_of_ble_eq_true rfl) (Nat.le_of_ble_eq_true rfl) (c_X9_most (d + 4) S2 G s hc2 (nI (sP s)) 0) rfl rfl ?_
                  refine xA.topi (show _ = -101 from by rw [aMost, if_neg (rg_no (Nat.le_refl _) (by omega))]) ?_
                  refine xA.bipush (v := (-101)) rfl (by decide) rfl ?_
                  refine xA.icmp_ne (tgt := 1051) rfl rfl rfl (fun h809 => ?_) (fun h809 => ?_)
                  · exact absurd rfl h809
                  · refine xA.aload_n (i := 1) rfl rfl rfl rfl ?_
                    refine xA.iload rfl rfl rfl ?_
                    refine xA.gV (As := [_]) rfl k11_119 okX9_done rfl rfl rfl rfl (Nat.le_of_ble_eq_true rfl) (Nat.le_of_ble_eq_true rfl) (Nat.le_of_ble_eq_true rfl) (c_X9_done (d + 4) S2 G s hc2 (nI (sP s))) rfl rfl ?_
                    refine xA.topi (show _ = -101 from by rw [aDone, if_neg (rg_no (Nat.le_refl _) (by omega))]) ?_
                    refine xA.bipush (v := (-101)) rfl (by decide) rfl ?_
                    refine xA.icmp_ne (tgt := 1051) rfl rfl rfl (fun h820 => ?_) (fun h820 => ?_)
                    · exact absurd rfl h820
                    · refine xA.aload_n (i := 1) rfl rfl rfl rfl ?_
                      refine xA.bipush (v := 6) rfl (by decide) rfl ?_
                      refine xA.iconst (v := 0) rfl (by decide) rfl ?_
                      refine xA.iconst (v := 0) rfl (by decide) rfl ?_
                      refine xA.gO (As := [_, _, _]) rfl k11_122 okX9_task rfl rfl rfl (Nat.le_of_ble_eq_true rfl) (Nat.le_of_ble_eq_true rfl) (Nat.le_of_ble_eq_true rfl) (o_task (d + 6) s 6 0 0) (hc2) rfl rfl ?_
                      intro S3 hc3 hf3
                      refine xA.topi (show _ = -101 from by rw [aTask, if_neg (by decide)]) ?_
                      rw [show tTask s 6 0 0 = s from by rw [tTask, if_neg (fun q => absurd q.1 (by decide))]] at hc3
                      refine xA.bipush (v := (-101)) rfl (by decide) rfl ?_
                      refine xA.icmp_ne (tgt := 1051) rfl rfl rfl (fun h833 => ?_) (fun h833 => ?_)
                      · exact absurd rfl h833
                      · refine xA.aload_n (i := 1) rfl rfl rfl rfl ?_
                        refine xA.iconst (v := 0) rfl (by decide) rfl ?_
                        refine xA.iconst (v := (-1)) rfl (by decide) rfl ?_
                        refine xA.iconst (v := 0) rfl (by decide) rfl ?_
                        refine xA.gO (As := [_, _, _]) rfl k11_122 okX9_task rfl rfl rfl (Nat.le_of_ble_eq_true rfl) (Nat.le_of_ble_eq_true rfl) (Nat.le_of_ble_eq_true rfl) (o_task (d + 6) s 0 (-1) 0) (hc3) rfl rfl ?_
                        intro S4 hc4 hf4
                        refine xA.topi (show _ = -102 from by rw [aTask, if_pos (by decide), if_neg (by decide)]) ?_
                        rw [show tTask s 0 (-1) 0 = s from by rw [tTask, if_neg (fun q => absurd q.2.1 (by decide))]] at hc4
                        refine xA.bipush (v := (-102)) rfl (by decide) rfl ?_
                        refine xA.icmp_ne (tgt := 1051) rfl rfl rfl (fun h845 => ?_) (fun h845 => ?_)
                        · exact absurd rfl h845
                        · refine xA.aload_n (i := 1) rfl rfl rfl rfl ?_
                          refine xA.iconst (v := 0) rfl (by decide) rfl ?_
                          refine xA.iconst (v := 5) rfl (by decide) rfl ?_
                          refine xA.iconst (v := 4) rfl (by decide) rfl ?_
                          refine xA.gO (As := [_, _, _]) rfl k11_122 okX9_task rfl rfl rfl (Nat.le_of_ble_eq_true rfl) (Nat.le_of_ble_eq_true rfl) (Nat.le_of_ble_eq_true rfl) (o_task (d + 6) s 0 5 4) (hc4) rfl rfl ?_
                          intro S5 hc5 hf5
                          refine xA.topi (show _ = -102 from by rw [aTask, if_pos (by decide), if_neg (by decide)]) ?_
                          rw [show tTask s 0 5 4 = s from by rw [tTask, if_neg (fun q => absurd q.2.1 (by decide))]] at hc5
                          refine xA.bipush (v := (-102)) rfl (by decide) rfl ?_
                          refine xA.icmp_ne (tgt := 1051) rfl rfl rfl (fun h857 => ?_) (fun h857 => ?_)
                          · exact absurd rfl h857
                          · refine xA.aload_n (i := 1) rfl rfl rfl rfl ?_
                            refine xA.iconst (v := 0) rfl (by decide) rfl ?_
                            refine xA.iconst (v := 0) rfl (by decide) rfl ?_
                            refine xA.bipush (v := 60) rfl (by decide) rfl ?_
                            refine xA.gO (As := [_, _, _]) rfl k11_122 okX9_task rfl rfl rfl (Nat.le_of_ble_eq_true rfl) (Nat.le_of_ble_eq_true rfl) (Nat.le_of_ble_eq_true rfl) (o_task (d + 6) s 0 0 60) (hc5) rfl rfl ?_
                            intro S6 hc6 hf6
                            refine xA.topi (show _ = -102 from by rw [aTask, if_pos (by decide), if_neg (by decide)]) ?_
                            rw [show tTask s 0 0 60 = s from by rw [tTask, if_neg (fun q => absurd q.2.1 (by decide))]] at hc6
                            refine xA.bipush (v := (-102)) rfl (by decide) rfl ?_
                            refine xA.icmp_ne (tgt := 1051) rfl rfl rfl (fun h870 => ?_) (fun h870 => ?_)
                            · exact absurd rfl h870
                            · refine xA.aload_n (i := 1) rfl rfl rfl rfl ?_
                              refine xA.bipush (v := 60) rfl (by decide) rfl ?_
                              refine xA.iconst (v := 0) rfl (by decide) rfl ?_
                              refine xA.gO (As := [_, _]) rfl k11_125 okX9_glimpse rfl rfl rfl (Nat.le_of_ble_eq_true rfl) (Nat.le_of_ble_eq_true rfl) (Nat.le_of_ble_eq_true rfl) (o_glimpse (d + 6) s 60 0) (hc6) rfl rfl ?_
                              intro S7 hc7 hf7
                              refine xA.topi (show _ = -102 from by rw [aGlimpse, if_neg (by decide)]) ?_
                              rw [show tGlimpse s 60 0 = s from by rw [tGlimpse, if_neg (fun q => absurd q.1 (by decide))]] at hc7
                              refine xA.bipush (v := (-102)) rfl (by decide) rfl ?_
                              refine xA.icmp_ne (tgt := 1051) rfl rfl rfl (fun h882 => ?_) (fun h882 => ?_)
                              · exact absurd rfl h882
                              · refine xA.aload_n (i := 1) rfl rfl rfl rfl ?_
                                refine xA.iconst (v := 0) rfl (by decide) rfl ?_
                                refine xA.bipush (v := 6) rfl (by decide) rfl ?_
                                refine xA.gO (As := [_, _]) rfl k11_125 okX9_glimpse rfl rfl rfl (Nat.le_of_ble_eq_true rfl) (Nat.le_of_ble_eq_true rfl) (Nat.le_of_ble_eq_true rfl) (o_glimpse (d + 6) s 0 6) (hc7) rfl rfl ?_
                                intro S8 hc8 hf8
                                refine xA.topi (show _ = -101 from by rw [aGlimpse, if_pos (by decide), if_neg (by decide)]) ?_
                                rw [show tGlimpse s 0 6 = s from by rw [tGlimpse, if_neg (fun q => absurd q.2.1 (by decide))]] at hc8
                                refine xA.bipush (v := (-101)) rfl (by decide) rfl ?_
                                refine xA.icmp_ne (tgt := 1051) rfl rfl rfl (fun h894 => ?_) (fun h894 => ?_)
                                · exact absurd rfl h894
                                · refine xA.aload_n (i := 1) rfl rfl rfl rfl ?_
                                  refine xA.iconst (v := 5) rfl (by decide) rfl ?_
                                  refine xA.iconst (v := 0) rfl (by decide) rfl ?_
                                  refine xA.iconst (v := 1) rfl (by decide) rfl ?_
                                  refine xA.iconst (v := 0) rfl (by decide) rfl ?_
                                  refine xA.iconst (v := 0) rfl (by decide) rfl ?_
                                  refine xA.gO (As := [_, _, _, _, _]) rfl k11_115 okX9_lives rfl rfl rfl (Nat.le_of_ble_eq_true rfl) (Nat.le_of_ble_eq_true rfl) (Nat.le_of_ble_eq_true rfl) (o_lives (d + 2) s 5 0 1 0 0) (hc8) rfl rfl ?_
                                  intro S9 hc9 hf9
                                  refine xA.topi (show _ = -102 from by rw [aLives, if_neg (by decide)]) ?_
                                  refine xA.bipush (v := (-102)) rfl (by decide) rfl ?_
                                  refine xA.icmp_ne (tgt := 1051) rfl rfl rfl (fun h908 => ?_) (fun h908 => ?_)
                                  · exact absurd rfl h908
                                  · refine xA.aload_n (i := 1) rfl rfl rfl rfl ?_
                                    refine xA.iconst (v := 0) rfl (by decide) rfl ?_
                                    refine xA.bipush (v := 6) rfl (by decide) rfl ?_
                                    refine xA.iconst (v := 1) rfl (by decide) rfl ?_
                                    refine xA.iconst (v := 0) rfl (by decide) rfl ?_
                                    refine xA.iconst (v := 0) rfl (by decide) rfl ?_
                                    refine xA.gO (As := [_, _, _, _, _]) rfl k11_115 okX9_lives rfl rfl rfl (Nat.le_of_ble_eq_true rfl) (Nat.le_of_ble_eq_true rfl) (Nat.le_of_ble_eq_true rfl) (o_lives (d + 2) s 0 6 1 0 0) (hc9) rfl rfl ?_
                                    intro S10 hc10 hf10
                                    refine xA.topi (show _ = -101 from by rw [aLives, if_pos (by decide), if_neg (by decide)]) ?_
                                    refine xA.bipush (v := (-101)) rfl (by decide) rfl ?_
                                    refine xA.icmp_ne (tgt := 1051) rfl rfl rfl (fun h923 => ?_) (fun h923 => ?_)
                                    · exact absurd rfl h923
                                    · refine xA.aload_n (i := 1) rfl rfl rfl rfl ?_
                                      refine xA.iconst (v := 0) rfl (by decide) rfl ?_
                                      refine xA.iconst (v := 0) rfl (by decide) rfl ?_
                                      refine xA.iconst (v := 0) rfl (by decide) rfl ?_
                                      refine xA.iconst (v := 0) rfl (by decide) rfl ?_
                                      refine xA.iconst (v := 0) rfl (by decide) rfl ?_
                                      refine xA.gO (As := [_, _, _, _, _]) rfl k11_115 okX9_lives rfl rfl rfl (Nat.le_of_ble_eq_true rfl) (Nat.le_of_ble_eq_true rfl) (Nat.le_of_ble_eq_true rfl) (o_lives (d + 2) s 0 0 0 0 0) (hc10) rfl rfl ?_
                                      intro S11 hc11 hf11
                                      refine xA.topi (show _ = -102 from by rw [aLives, if_pos (by decide), if_pos (by decide), if_neg (by decide)]) ?_
                                      refine xA.bipush (v := (-102)) rfl (by decide) rfl ?_
                                      refine xA.icmp_ne (tgt := 1051) rfl rfl rfl (fun h937 => ?_) (fun h937 => ?_)
                                      · exact absurd rfl h937
                                      · refine xA.aload_n (i := 1) rfl rfl rfl rfl ?_
                                        refine xA.iconst (v := 0) rfl (by decide) rfl ?_
                                        refine xA.iconst (v := 0) rfl (by decide) rfl ?_
                                        refine xA.bipush (v := 17) rfl (by decide) rfl ?_
                                        refine xA.iconst (v := 0) rfl (by decide) rfl ?_
                                        refine xA.iconst (v := 0) rfl (by decide) rfl ?_
                                        refine xA.gO (As := [_, _, _, _, _]) rfl k11_115 okX9_lives rfl rfl rfl (Nat.le_of_ble_eq_true rfl) (Nat.le_of_ble_eq_true rfl) (Nat.le_of_ble_eq_true rfl) (o_lives (d + 2) s 0 0 17 0 0) (hc11) rfl rfl ?_
                                        intro S12 hc12 hf12
                                        refine xA.topi (show _ = -102 from by rw [aLives, if_pos (by decide), if_pos (by decide), if_neg (by decide)]) ?_
                                        refine xA.bipush (v := (-102)) rfl (by decide) rfl ?_
                                        refine xA.icmp_ne (tgt := 1051) rfl rfl rfl (fun h952 => ?_) (fun h952 => ?_)
                                        · exact absurd rfl h952
                                        · refine xA.aload_n (i := 1) rfl rfl rfl rfl ?_
                                          refine xA.iconst (v := 0) rfl (by decide) rfl ?_
                                          refine xA.iconst (v := 0) rfl (by decide) rfl ?_
                                          refine xA.iconst (v := 1) rfl (by decide) rfl ?_
                                          refine xA.iconst (v := (-1)) rfl (by decide) rfl ?_
                                          refine xA.iconst (v := 0) rfl (by decide) rfl ?_
                                          refine xA.gO (As := [_, _, _, _, _]) rfl k11_115 okX9_lives rfl rfl rfl (Nat.le_of_ble_eq_true rfl) (Nat.le_of_ble_eq_true rfl) (Nat.le_of_ble_eq_true rfl) (o_lives (d + 2) s 0 0 1 (-1) 0) (hc12) rfl rfl ?_
                                          intro S13 hc13 hf13
                                          refine xA.topi (show _ = -102 from by rw [aLives, if_pos (by decide), if_pos (by decide), if_neg (by decide)]) ?_
                                          refine xA.bipush (v := (-102)) rfl (by decide) rfl ?_
                                          refine xA.icmp_ne (tgt := 1051) rfl rfl rfl (fun h966 => ?_) (fun h966 => ?_)
                                          · exact absurd rfl h966
                                          · refine xA.aload_n (i := 1) rfl rfl rfl rfl ?_
                                            refine xA.iconst (v := 0) rfl (by decide) rfl ?_
                                            refine xA.iconst (v := 0) rfl (by decide) rfl ?_
                                            refine xA.iconst (v := 1) rfl (by decide) rfl ?_
                                            refine xA.iconst (v := 0) rfl (by decide) rfl ?_
                                            refine xA.iconst (v := 4) rfl (by decide) rfl ?_
                                            refine xA.gO (As := [_, _, _, _, _]) rfl k11_115 okX9_lives rfl rfl rfl (Nat.le_of_ble_eq_true rfl) (Nat.le_of_ble_eq_true rfl) (Nat.le_of_ble_eq_true rfl) (o_lives (d + 2) s 0 0 1 0 4) (hc13) rfl rfl ?_
                                            intro S14 hc14 hf14
                                            refine xA.topi (show _ = -102 from by rw [aLives, if_pos (by decide), if_pos (by decide), if_neg (by decide)]) ?_
                                            refine xA.bipush (v := (-102)) rfl (by decide) rfl ?_
                                            refine xA.icmp_ne (tgt := 1051) rfl rfl rfl (fun h980 => ?_) (fun h980 => ?_)
                                            · exact absurd rfl h980
                                            · refine xA.iload rfl rfl rfl ?_
                                              refine xA.if_eq (tgt := 1047) rfl rfl rfl (fun h985 => ?_) (fun h985 => ?_)
                                              · rw [show (0 : Int32) = nI 0 from rfl, nI_eq (by omega) (by omega)] at h985
                                                refine xA.iconst (v := 1) rfl (by decide) rfl ?_
                                                refine xA.goto (q := 1052) rfl rfl ?_
                                                exact xA.iret rfl rfl rfl rfl
                                              · rw [show (0 : Int32) = nI 0 from rfl, nI_eq (by omega) (by omega)] at h985
                                                refine xA.aload_n (i := 1) rfl rfl rfl rfl ?_
                                                refine xA.iconst (v := 0) rfl (by decide) rfl ?_
                                                refine xA.iconst (v := 5) rfl (by decide) rfl ?_
                                                refine xA.gV (As := [_, _]) rfl k11_63 okX9_about rfl rfl rfl rfl (Nat.le_of_ble_eq_true rfl) (Nat.le_of_ble_eq_true rfl) (Nat.le_of_ble_eq_true rfl) (c_X9_about (d + 5) S14 G s hc14 0 5) rfl rfl ?_
                                                refine xA.topi (show _ = -102 from by rw [aAbout, if_pos (show rg 0 (sP s) from rg_of (j := 0) (by omega) (by omega)), if_neg (by decide), if_neg (by decide), if_neg (by decide), if_neg (by decide), if_neg (by decide)]) ?_
                                                refine xA.bipush (v := (-102)) rfl (by decide) rfl ?_
                                                refine xA.icmp_ne (tgt := 1051) rfl rfl rfl (fun h996 => ?_) (fun h996 => ?_)
                                                · exact absurd rfl h996
                                                · refine xA.aload_n (i := 1) rfl rfl rfl rfl ?_
                                                  refine xA.iconst (v := 0) rfl (by decide) rfl ?_
                                                  refine xA.iconst (v := 5) rfl (by decide) rfl ?_
                                                  refine xA.gV (As := [_, _]) rfl k11_94 okX9_as rfl rfl rfl rfl (Nat.le_of_ble_eq_true rfl) (Nat.le_of_ble_eq_true rfl) (Nat.le_of_ble_eq_true rfl) (c_X9_as (d + 6) S14 G s hc14 0 5) rfl rfl ?_
                                                  refine xA.topi (show _ = -102 from by rw [aAs, if_pos (show rg 0 (sP s) from rg_of (j := 0) (by omega) (by omega)), if_neg (by decide)]) ?_
                                                  refine xA.bipush (v := (-102)) rfl (by decide) rfl ?_
                                                  refine xA.icmp_ne (tgt := 1051) rfl rfl rfl (fun h1007 => ?_) (fun h1007 => ?_)
                                                  · exact absurd rfl h1007
                                                  · refine xA.aload_n (i := 1) rfl rfl rfl rfl ?_
                                                    refine xA.iconst (v := 0) rfl (by decide) rfl ?_
                                                    refine xA.bipush (v := 60) rfl (by decide) rfl ?_
                                                    refine xA.iconst (v := 0) rfl (by decide) rfl ?_
                                                    refine xA.gV (As := [_, _, _]) rfl k11_53 okX9_there rfl rfl rfl rfl (Nat.le_of_ble_eq_true rfl) (Nat.le_of_ble_eq_true rfl) (Nat.le_of_ble_eq_true rfl) (c_X9_there (d + 5) S14 G s hc14 0 60 0) rfl rfl ?_
                                                    refine xA.topi (show _ = -102 from by rw [aThere, if_pos ⟨(show rg 0 (sP s) from rg_of (j := 0) (by omega) (by omega)), by decide⟩, if_neg (by decide)]) ?_
                                                    refine xA.bipush (v := (-102)) rfl (by decide) rfl ?_
                                                    refine xA.icmp_ne (tgt := 1051) rfl rfl rfl (fun h1020 => ?_) (fun h1020 => ?_)
                                                    · exact absurd rfl h1020
                                                    · refine xA.aload_n (i := 1) rfl rfl rfl rfl ?_
                                                      refine xA.iconst (v := 0) rfl (by decide) rfl ?_
                                                      refine xA.iconst (v := 0) rfl (by decide) rfl ?_
                                                      refine xA.bipush (v := 6) rfl (by decide) rfl ?_
                                                      refine xA.gV (As := [_, _, _]) rfl k11_53 okX9_there rfl rfl rfl rfl (Nat.le_of_ble_eq_true rfl) (Nat.le_of_ble_eq_true rfl) (Nat.le_of_ble_eq_true rfl) (c_X9_there (d + 5) S14 G s hc14 0 0 6) rfl rfl ?_
                                                      refine xA.topi (show _ = -101 from by rw [aThere, if_neg (fun q => absurd q.2 (by decide))]) ?_
                                                      refine xA.bipush (v := (-101)) rfl (by decide) rfl ?_
                                                      refine xA.icmp_ne (tgt := 1051) rfl rfl rfl (fun h1033 => ?_) (fun h1033 => ?_)
                                                      · exact absurd rfl h1033
                                                      · refine xA.aload_n (i := 1) rfl rfl rfl rfl ?_
                                                        refine xA.iconst (v := 0) rfl (by decide) rfl ?_
                                                        refine xA.iconst (v := 2) rfl (by decide) rfl ?_
                                                        refine xA.gV (As := [_, _]) rfl k11_68 okX9_most rfl rfl rfl rfl (Nat.le_of_ble_eq_true rfl) (Nat.le_of_ble_eq_true rfl) (Nat.le_of_ble_eq_true rfl) (c_X9_most (d + 4) S14 G s hc14 0 2) rfl rfl ?_
                                                        refine xA.topi (show _ = -102 from by rw [aMost, if_pos (show rg 0 (sP s) from rg_of (j := 0) (by omega) (by omega)), if_neg (by decide)]) ?_
                                                        refine xA.bipush (v := (-102)) rfl (by decide) rfl ?_
                                                        refine xA.icmp_ne (tgt := 1051) rfl rfl rfl (fun h1044 => ?_) (fun h1044 => ?_)
                                                        · exact absurd rfl h1044
                                                        · refine xA.iconst (v := 1) rfl (by decide) rfl ?_
                                                          refine xA.goto (q := 1052) rfl rfl ?_
                                                          exact xA.iret rfl rfl rfl rfl

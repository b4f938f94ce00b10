variable {ρ : List xSh}
/-! ===== glimpses ===== -/
set_option maxRecDepth 100000 in
set_option maxHeartbeats 2000000 in
theorem c_L_glimpses (d : Nat) (S : Nat → Nat → Int32) (G : Nat → Nat → Int64) (N : Nat) (xs : Nat → Int32) (hN : N ≤ 260) (s : sS) (hw : LW S s) (hg0 : (sGl s).1 = 0) : xCs (some (N, xs)) (d + 4) mL_glimpses [.ref 0, .retAddr 0, .ref 55, .ref 56] (σF (τL [.inr (.inl 5), .inr (.inl 5), .inr (.inl 5)]), S, G) 1 8 (fun r h' => r = some (.int 1) ∧ ∃ S' G' s', h' = (σF (τL [.inr (.inl 5), .inr (.inl 5), .inr (.inl 5), .inr (.inl 8)]), S', G') ∧ LW S' s') := by
  refine xCs.of okL_glimpses (Nat.le_of_ble_eq_true rfl) (L := [_, _, _, _, _, _, _, _, _, _, _, _, _]) rfl ?_
  have main : ∀ S1 G1, LW S1 s → xA (some (N, xs)) (d + 4) mL_glimpses 1 8 1 8 6 [some (.ref 0), some (.retAddr 0), some (.ref 55), some (.ref 56), some (.ref 61), none, none, none, none, none, none, none, none] [] (σF (τL [.inr (.inl 5), .inr (.inl 5), .inr (.inl 5), .inr (.inl 8)]), S1, G1) (fun r h' => r = some (.int 1) ∧ ∃ S' G' s', h' = (σF (τL [.inr (.inl 5), .inr (.inl 5), .inr (.inl 5), .inr (.inl 8)]), S', G') ∧ LW S' s') := by
    intro S1 G1 hw1
    have chk : ∀ gm i, gm ≤ 8 → i ≤ gm → ∀ S1 s1, LW S1 s1 → GL S1 s1 i → (∀ (x7 : Int32) (x8 x9 x10 x11 x12 : Option Value), xA (some (N, xs)) (d + 4) mL_glimpses 1 8 1 8 241 [some (.ref 0), some (.retAddr 0), some (.ref 55), some (.ref 56), some (.ref 61), some (.int (nI gm)), some (.int (nI i)), some (.int (x7)), x8, x9, x10, x11, x12] [] (σF (τL [.inr (.inl 5), .inr (.inl 5), .inr (.inl 5), .inr (.inl 8)]), S1, G1) (fun r h' => r = some (.int 1) ∧ ∃ S' G' s', h' = (σF (τL [.inr (.inl 5), .inr (.inl 5), .inr (.inl 5), .inr (.inl 8)]), S', G') ∧ LW S' s')) → ∀ x7 x8 x9 x10 x11 x12 : Option Value, xA (some (N, xs)) (d + 4) mL_glimpses 1 8 1 8 29 [some (.ref 0), some (.retAddr 0), some (.ref 55), some (.ref 56), some (.ref 61), some (.int (nI gm)), some (.int (nI i)), x7, x8, x9, x10, x11, x12] [] (σF (τL [.inr (.inl 5), .inr (.inl 5), .inr (.inl 5), .inr (.inl 8)]), S1, G1) (fun r h' => r = some (.int 1) ∧ ∃ S' G' s', h' = (σF (τL [.inr (.inl 5), .inr (.inl 5), .inr (.inl 5), .inr (.inl 8)]), S', G') ∧ LW S' s') := by
      intro gm i hgm hi S1 s1 hw1 hgl cont x7 x8 x9 x10 x11 x12
      have hc1 := hw1.1
      have hpl := hw1.2.2.2
      have hP3 := hpl.2.1
      have h4 : sP s1 ≤ 4 := by omega
      have loopK : ∀ k, k ≤ sP s1 → ∀ x9 x10 x11 x12 : Option Value, xA (some (N, xs)) (d + 4) mL_glimpses 1 8 1 8 35 [some (.ref 0), some (.retAddr 0), some (.ref 55), some (.ref 56), some (.ref 61), some (.int (nI gm)), some (.int (nI i)), some (.int (nI (obits (fun p => allN (sGl s1) (sL s1 p)) k))), some (.int (nI k)), x9, x10, x11, x12] [] (σF (τL [.inr (.inl 5), .inr (.inl 5), .inr (.inl 5), .inr (.inl 8)]), S1, G1) (fun r h' => r = some (.int 1) ∧ ∃ S' G' s', h' = (σF (τL [.inr (.inl 5), .inr (.inl 5), .inr (.inl 5), .inr (.inl 8)]), S', G') ∧ LW S' s') := by
        refine xloop (sP s1) (fun k hk ihk => ?_) ?_
        · intro x9 x10 x11 x12
          have hrl := (hpl.2.2.1 k hk).2.2.1
          have hg : ∀ i, i < lN' (sL s1 k) → lSp (sL s1 k) i < 360 := fun i hi => (hrl.2.2 i hi).2
          have h17 := hrl.2.1
          have inB : ∀ x9 : Int32, ∀ b, b ≤ sP s1 → ∀ x11 x12 : Option Value, xA (some (N, xs)) (d + 4) mL_glimpses 1 8 1 8 108 [some (.ref 0), some (.retAddr 0), some (.ref 55), some (.ref 56), some (.ref 61), some (.int (nI gm)), some (.int (nI i)), some (.int (nI (obits (fun p => allN (sGl s1) (sL s1 p)) (k + 1)))), some (.int (nI k)), some (.int (x9)), some (.int (nI b)), x11, x12] [] (σF (τL [.inr (.inl 5), .inr (.inl 5), .inr (.inl 5), .inr (.inl 8)]), S1, G1) (fun r h' => r = some (.int 1) ∧ ∃ S' G' s', h' = (σF (τL [.inr (.inl 5), .inr (.inl 5), .inr (.inl 5), .inr (.inl 8)]), S', G') ∧ LW S' s') := by
            intro x9
            refine xloop (sP s1) (fun b hb ihb => ?_) ?_
            · intro x11 x12
              have hrb := (hpl.2.2.1 b hb).2.2.1
              have hgb : ∀ i, i < lN' (sL s1 b) → lSp (sL s1 b) i < 360 := fun i hi => (hrb.2.2 i hi).2
              have h17b := hrb.2.1
              have inW : ∀ j, j ≤ i → xA (some (N, xs)) (d + 4) mL_glimpses 1 8 1 8 122 [some (.ref 0), some (.retAddr 0), some (.ref 55), some (.ref 56), some (.ref 61), some (.int (nI gm)), some (.int (nI i)), some (.int (nI (obits (fun p => allN (sGl s1) (sL s1 p)) (k + 1)))), some (.int (nI k)), some (.int (x9)), some (.int (nI b)), some (.int (prI (pF s1 k b) j)), some (.int (nI j))] [] (σF (τL [.inr (.inl 5), .inr (.inl 5), .inr (.inl 5), .inr (.inl 8)]), S1, G1) (fun r h' => r = some (.int 1) ∧ ∃ S' G' s', h' = (σF (τL [.inr (.inl 5), .inr (.inl 5), .inr (.inl 5), .inr (.inl 8)]), S', G') ∧ LW S' s') := by
                refine xloop i (fun j hj ihw => ?_) ?_
                · have ht1 := thN_le (sL s1 k) ((sGl s1).2 j)
                  have ht2 := thN_le (sL s1 b) ((sGl s1).2 j)
                  refine xA.iload rfl rfl rfl ?_
                  refine xA.iload rfl rfl rfl ?_
                  refine xA.icmp_ge (tgt := 181) rfl rfl rfl (fun h126 => ?_) (fun h126 => ?_)
                  · exact absurd h126 (nI_ge hj (by omega))
                  · refine xA.iload rfl rfl rfl ?_
                    refine xA.aload_n (i := 2) rfl rfl rfl rfl ?_
                    refine xA.aload_n (i := 3) rfl rfl rfl rfl ?_
                    refine xA.iload rfl rfl rfl ?_
                    refine xA.aload rfl rfl rfl ?_
                    refine xA.iload rfl rfl rfl ?_
                    refine xA.iald rfl rfl (vp_in_nI (by omega) (by omega)) rfl ?_
                    refine xA.topi (rdA (by omega) (hgl.2.2 j hj).2) ?_
                    refine xA.gS (As := [_, _, _, _]) rfl k11_56 okL_there rfl rfl (Nat.le_of_ble_eq_true rfl) (Nat.le_of_ble_eq_true rfl) (Nat.le_of_ble_eq_true rfl) (c_L_there (d + 3) S1 G1 k (by omega) (sL s1 k) hrl ((sGl s1).2 j) (hgl.2.2 j hj).1) rfl rfl ?_
                    refine xA.if_le (tgt := 150) rfl rfl rfl (fun h143 => ?_) (fun h143 => ?_)
                    · rw [show (0 : Int32) = nI 0 from rfl, nI_leI (by omega) (by omega)] at h143
                      have h143 := Nat.not_lt.mpr h143
                      refine xA.iconst (v := 0) rfl (by decide) rfl ?_
                      refine xA.aload_n (i := 2) rfl rfl rfl rfl ?_
                      refine xA.aload_n (i := 3) rfl rfl rfl rfl ?_
                      refine xA.iload rfl rfl rfl ?_
                      refine xA.aload rfl rfl rfl ?_
                      refine xA.iload rfl rfl rfl ?_
                      refine xA.iald rfl rfl (vp_in_nI (by omega) (by omega)) rfl ?_
                      refine xA.topi (rdA (by omega) (hgl.2.2 j hj).2) ?_
                      refine xA.gS (As := [_, _, _, _]) rfl k11_56 okL_there rfl rfl (Nat.le_of_ble_eq_true rfl) (Nat.le_of_ble_eq_true rfl) (Nat.le_of_ble_eq_true rfl) (c_L_there (d + 3) S1 G1 b (by omega) (sL s1 b) hrb ((sGl s1).2 j) (hgl.2.2 j hj).1) rfl rfl ?_
                      refine xA.if_le (tgt := 170) rfl rfl rfl (fun h163 => ?_) (fun h163 => ?_)
                      · rw [show (0 : Int32) = nI 0 from rfl, nI_leI (by omega) (by omega)] at h163
                        have h163 := Nat.not_lt.mpr h163
                        refine xA.iconst (v := 0) rfl (by decide) rfl ?_
                        refine xA.iadd rfl rfl ?_
                        refine xA.imul rfl rfl ?_
                        refine xA.topi (show _ = prI (pF s1 k b) (j + 1) from by first | exact pF_tt h143 h163 | exact pF_tf h143 h163 | exact pF_ft h143 h163 | exact pF_ff h143 h163) ?_
                        refine xA.istore (L' := [_, _, _, _, _, _, _, _, _, _, _, _, _]) rfl (Nat.le_of_ble_eq_true rfl) rfl rfl ?_
                        refine xA.iinc (L' := [_, _, _, _, _, _, _, _, _, _, _, _, _]) rfl rfl (nI_1 j) rfl rfl ?_
                        refine xA.goto (q := 122) rfl rfl ?_
                        exact ihw
                      · rw [show (0 : Int32) = nI 0 from rfl, nI_leI (by omega) (by omega)] at h163
                        have h163 := Nat.not_le.mp h163
                        refine xA.iconst (v := 1) rfl (by decide) rfl ?_
                        refine xA.goto (q := 171) rfl rfl ?_
                        refine xA.iadd rfl rfl ?_
                        refine xA.imul rfl rfl ?_
                        refine xA.topi (show _ = prI (pF s1 k b) (j + 1) from by first | exact pF_tt h143 h163 | exact pF_tf h143 h163 | exact pF_ft h143 h163 | exact pF_ff h143 h163) ?_
                        refine xA.istore (L' := [_, _, _, _, _, _, _, _, _, _, _, _, _]) rfl (Nat.le_of_ble_eq_true rfl) rfl rfl ?_
                        refine xA.iinc (L' := [_, _, _, _, _, _, _, _, _, _, _, _, _]) rfl rfl (nI_1 j) rfl rfl ?_
                        refine xA.goto (q := 122) rfl rfl ?_
                        exact ihw
                    · rw [show (0 : Int32) = nI 0 from rfl, nI_leI (by omega) (by omega)] at h143
                      have h143 := Nat.not_le.mp h143
                      refine xA.iconst (v := 1) rfl (by decide) rfl ?_
                      refine xA.goto (q := 151) rfl rfl ?_
                      refine xA.aload_n (i := 2) rfl rfl rfl rfl ?_
                      refine xA.aload_n (i := 3) rfl rfl rfl rfl ?_
                      refine xA.iload rfl rfl rfl ?_
                      refine xA.aload rfl rfl rfl ?_
                      refine xA.iload rfl rfl rfl ?_
                      refine xA.iald rfl rfl (vp_in_nI (by omega) (by omega)) rfl ?_
                      refine xA.topi (rdA (by omega) (hgl.2.2 j hj).2) ?_
                      refine xA.gS (As := [_, _, _, _]) rfl k11_56 okL_there rfl rfl (Nat.le_of_ble_eq_true rfl) (Nat.le_of_ble_eq_true rfl) (Nat.le_of_ble_eq_true rfl) (c_L_there (d + 3) S1 G1 b (by omega) (sL s1 b) hrb ((sGl s1).2 j) (hgl.2.2 j hj).1) rfl rfl ?_
                      refine xA.if_le (tgt := 170) rfl rfl rfl (fun h163 => ?_) (fun h163 => ?_)
                      · rw [show (0 : Int32) = nI 0 from rfl, nI_leI (by omega) (by omega)] at h163
                        have h163 := Nat.not_lt.mpr h163
                        refine xA.iconst (v := 0) rfl (by decide) rfl ?_
                        refine xA.iadd rfl rfl ?_
                        refine xA.imul rfl rfl ?_
                        refine xA.topi (show _ = prI (pF s1 k b) (j + 1) from by first | exact pF_tt h143 h163 | exact pF_tf h143 h163 | exact pF_ft h143 h163 | exact pF_ff h143 h163) ?_
                        refine xA.istore (L' := [_, _, _, _, _, _, _, _, _, _, _, _, _]) rfl (Nat.le_of_ble_eq_true rfl) rfl rfl ?_
                        refine xA.iinc (L' := [_, _, _, _, _, _, _, _, _, _, _, _, _]) rfl rfl (nI_1 j) rfl rfl ?_
                        refine xA.goto (q := 122) rfl rfl ?_
                        exact ihw
                      · rw [show (0 : Int32) = nI 0 from rfl, nI_leI (by omega) (by omega)] at h163
                        have h163 := Nat.not_le.mp h163
                        refine xA.iconst (v := 1) rfl (by decide) rfl ?_
                        refine xA.goto (q := 171) rfl rfl ?_
                        refine xA.iadd rfl rfl ?_
                        refine xA.imul rfl rfl ?_
                        refine xA.topi (show _ = prI (pF s1 k b) (j + 1) from by first | exact pF_tt h143 h163 | exact pF_tf h143 h163 | exact pF_ft h143 h163 | exact pF_ff h143 h163) ?_
                        refine xA.istore (L' := [_, _, _, _, _, _, _, _, _, _, _, _, _]) rfl (Nat.le_of_ble_eq_true rfl) rfl rfl ?_
                        refine xA.iinc (L' := [_, _, _, _, _, _, _, _, _, _, _, _, _]) rfl rfl (nI_1 j) rfl rfl ?_
                        refine xA.goto (q := 122) rfl rfl ?_
                        exact ihw
                · skip
                  refine xA.iload rfl rfl rfl ?_
                  refine xA.iload rfl rfl rfl ?_
                  refine xA.icmp_ge (tgt := 181) rfl rfl rfl (fun h126 => ?_) (fun h126 => ?_)
                  · refine xA.aload_n (i := 0) rfl rfl rfl rfl ?_
                    refine xA.iload rfl rfl rfl ?_
                    refine xA.iload rfl rfl rfl ?_
                    refine xA.gV (As := [_, _]) rfl k11_128 okX9_pair rfl rfl rfl rfl (Nat.le_of_ble_eq_true rfl) (Nat.le_of_ble_eq_true rfl) (Nat.le_of_ble_eq_true rfl) (c_X9_pair d S1 G1 s1 hc1 (nI k) (nI b)) rfl rfl ?_
                    refine xA.iload rfl rfl rfl ?_
                    refine xA.iload rfl rfl rfl ?_
                    refine xA.icmp_ne (tgt := 201) rfl rfl rfl (fun h193 => ?_) (fun h193 => ?_)
                    · rw [nI_eq (by omega) (by omega)] at h193
                      refine xA.iload rfl rfl rfl ?_
                      refine xA.icmp_eq (tgt := 208) rfl rfl rfl (fun h203 => ?_) (fun h203 => ?_)
                      · refine xA.iinc (L' := [_, _, _, _, _, _, _, _, _, _, _, _, _]) rfl rfl (nI_1 b) rfl rfl ?_
                        refine xA.goto (q := 108) rfl rfl ?_
                        exact ihb _ _
                      · first
                        | exact absurd (a_pair hgl hk hb h4 h193 hg hgb) h203
                        | exact absurd (a_pairE h193) h203
                    · rw [nI_eq (by omega) (by omega)] at h193
                      refine xA.bipush (v := (-101)) rfl (by decide) rfl ?_
                      refine xA.goto (q := 203) rfl rfl ?_
                      refine xA.icmp_eq (tgt := 208) rfl rfl rfl (fun h203 => ?_) (fun h203 => ?_)
                      · refine xA.iinc (L' := [_, _, _, _, _, _, _, _, _, _, _, _, _]) rfl rfl (nI_1 b) rfl rfl ?_
                        refine xA.goto (q := 108) rfl rfl ?_
                        exact ihb _ _
                      · first
                        | exact absurd (a_pair hgl hk hb h4 h193 hg hgb) h203
                        | exact absurd (a_pairE h193) h203
                  · exact absurd (nI_le (Nat.le_refl _) (by omega)) h126
              refine xA.iload rfl rfl rfl ?_
              refine xA.aload_n (i := 2) rfl rfl rfl rfl ?_
              refine xA.iconst (v := 0) rfl (by decide) rfl ?_
              refine xA.iald rfl rfl (vp_in_nI (n := 0) (by decide) (by decide)) rfl ?_
              refine xA.topi (rdA (k := 0) (by decide) hpl.1) ?_
              refine xA.icmp_ge (tgt := 214) rfl rfl rfl (fun h113 => ?_) (fun h113 => ?_)
              · exact absurd h113 (nI_ge hb (by omega))
              · refine xA.iconst (v := 1) rfl (by decide) rfl ?_
                refine xA.istore (L' := [_, _, _, _, _, _, _, _, _, _, _, _, _]) rfl (Nat.le_of_ble_eq_true rfl) rfl rfl ?_
                refine xA.iconst (v := 0) rfl (by decide) rfl ?_
                refine xA.istore (L' := [_, _, _, _, _, _, _, _, _, _, _, _, _]) rfl (Nat.le_of_ble_eq_true rfl) rfl rfl ?_
                exact inW 0 (Nat.zero_le _)
            · intro x11 x12
              refine xA.iload rfl rfl rfl ?_
              refine xA.aload_n (i := 2) rfl rfl rfl rfl ?_
              refine xA.iconst (v := 0) rfl (by decide) rfl ?_
              refine xA.iald rfl rfl (vp_in_nI (n := 0) (by decide) (by decide)) rfl ?_
              refine xA.topi (rdA (k := 0) (by decide) hpl.1) ?_
              refine xA.icmp_ge (tgt := 214) rfl rfl rfl (fun h113 => ?_) (fun h113 => ?_)
              · refine xA.iinc (L' := [_, _, _, _, _, _, _, _, _, _, _, _, _]) rfl rfl (nI_1 k) rfl rfl ?_
                refine xA.goto (q := 35) rfl rfl ?_
                exact ihk _ _ _ _
              · exact absurd (nI_le (Nat.le_refl _) (by omega)) h113
          
          have inJ : ∀ j, j ≤ i → xA (some (N, xs)) (d + 4) mL_glimpses 1 8 1 8 49 [some (.ref 0), some (.retAddr 0), some (.ref 55), some (.ref 56), some (.ref 61), some (.int (nI gm)), some (.int (nI i)), some (.int (nI (obits (fun p => allN (sGl s1) (sL s1 p)) k))), some (.int (nI k)), some (.int (xb (zcN s1 (sL s1 k) j = 0))), some (.int (nI j)), x11, x12] [] (σF (τL [.inr (.inl 5), .inr (.inl 5), .inr (.inl 5), .inr (.inl 8)]), S1, G1) (fun r h' => r = some (.int 1) ∧ ∃ S' G' s', h' = (σF (τL [.inr (.inl 5), .inr (.inl 5), .inr (.inl 5), .inr (.inl 8)]), S', G') ∧ LW S' s') := by
            refine xloop i (fun j hj ihj => ?_) ?_
            · have ht1 := thN_le (sL s1 k) ((sGl s1).2 j)
              refine xA.iload rfl rfl rfl ?_
              refine xA.iload rfl rfl rfl ?_
              refine xA.icmp_ge (tgt := 87) rfl rfl rfl (fun h53 => ?_) (fun h53 => ?_)
              · exact absurd h53 (nI_ge hj (by omega))
              · refine xA.iload rfl rfl rfl ?_
                refine xA.aload_n (i := 2) rfl rfl rfl rfl ?_
                refine xA.aload_n (i := 3) rfl rfl rfl rfl ?_
                refine xA.iload rfl rfl rfl ?_
                refine xA.aload rfl rfl rfl ?_
                refine xA.iload rfl rfl rfl ?_
                refine xA.iald rfl rfl (vp_in_nI (by omega) (by omega)) rfl ?_
                refine xA.topi (rdA (by omega) (hgl.2.2 j hj).2) ?_
                refine xA.gS (As := [_, _, _, _]) rfl k11_56 okL_there rfl rfl (Nat.le_of_ble_eq_true rfl) (Nat.le_of_ble_eq_true rfl) (Nat.le_of_ble_eq_true rfl) (c_L_there (d + 3) S1 G1 k (by omega) (sL s1 k) hrl ((sGl s1).2 j) (hgl.2.2 j hj).1) rfl rfl ?_
                refine xA.if_le (tgt := 77) rfl rfl rfl (fun h70 => ?_) (fun h70 => ?_)
                · rw [show (0 : Int32) = nI 0 from rfl, nI_leI (by omega) (by omega)] at h70
                  have h70 := Nat.not_lt.mpr h70
                  refine xA.iconst (v := 0) rfl (by decide) rfl ?_
                  refine xA.iand rfl rfl ?_
                  refine xA.topi (show _ = xb (zcN s1 (sL s1 k) (j + 1) = 0) from by first | exact zc_1 h70 | exact zc_0 h70) ?_
                  refine xA.istore (L' := [_, _, _, _, _, _, _, _, _, _, _, _, _]) rfl (Nat.le_of_ble_eq_true rfl) rfl rfl ?_
                  refine xA.iinc (L' := [_, _, _, _, _, _, _, _, _, _, _, _, _]) rfl rfl (nI_1 j) rfl rfl ?_
                  refine xA.goto (q := 49) rfl rfl ?_
                  exact ihj
                · rw [show (0 : Int32) = nI 0 from rfl, nI_leI (by omega) (by omega)] at h70
                  have h70 := Nat.not_le.mp h70
                  refine xA.iconst (v := 1) rfl (by decide) rfl ?_
                  refine xA.goto (q := 78) rfl rfl ?_
                  refine xA.iand rfl rfl ?_
                  refine xA.topi (show _ = xb (zcN s1 (sL s1 k) (j + 1) = 0) from by first | exact zc_1 h70 | exact zc_0 h70) ?_
                  refine xA.istore (L' := [_, _, _, _, _, _, _, _, _, _, _, _, _]) rfl (Nat.le_of_ble_eq_true rfl) rfl rfl ?_
                  refine xA.iinc (L' := [_, _, _, _, _, _, _, _, _, _, _, _, _]) rfl rfl (nI_1 j) rfl rfl ?_
                  refine xA.goto (q := 49) rfl rfl ?_
                  exact ihj
            · skip
              refine xA.iload rfl rfl rfl ?_
              refine xA.iload rfl rfl rfl ?_
              refine xA.icmp_ge (tgt := 87) rfl rfl rfl (fun h53 => ?_) (fun h53 => ?_)
              · refine xA.iload rfl rfl rfl ?_
                refine xA.iload rfl rfl rfl ?_
                refine xA.if_eq (tgt := 101) rfl rfl rfl (fun h91 => ?_) (fun h91 => ?_)
                · rw [xb_eq0] at h91
                  refine xA.iconst (v := 0) rfl (by decide) rfl ?_
                  refine xA.ior rfl rfl ?_
                  refine xA.topi (show _ = nI (obits (fun p => allN (sGl s1) (sL s1 p)) (k + 1)) from by first | exact who_t ((all_iff hgl hg).mpr h91) | exact who_f (fun q => h91 ((all_iff hgl hg).mp q))) ?_
                  refine xA.istore (L' := [_, _, _, _, _, _, _, _, _, _, _, _, _]) rfl (Nat.le_of_ble_eq_true rfl) rfl rfl ?_
                  refine xA.iconst (v := 0) rfl (by decide) rfl ?_
                  refine xA.istore (L' := [_, _, _, _, _, _, _, _, _, _, _, _, _]) rfl (Nat.le_of_ble_eq_true rfl) rfl rfl ?_
                  exact inB _ 0 (Nat.zero_le _) _ _
                · rw [xb_ne0] at h91
                  refine xA.iconst (v := 1) rfl (by decide) rfl ?_
                  refine xA.iload rfl rfl rfl ?_
                  refine xA.ishl rfl rfl ?_
                  refine xA.topi (nI_shl k (by omega)) ?_
                  refine xA.goto (q := 102) rfl rfl ?_
                  refine xA.ior rfl rfl ?_
                  refine xA.topi (show _ = nI (obits (fun p => allN (sGl s1) (sL s1 p)) (k + 1)) from by first | exact who_t ((all_iff hgl hg).mpr h91) | exact who_f (fun q => h91 ((all_iff hgl hg).mp q))) ?_
                  refine xA.istore (L' := [_, _, _, _, _, _, _, _, _, _, _, _, _]) rfl (Nat.le_of_ble_eq_true rfl) rfl rfl ?_
                  refine xA.iconst (v := 0) rfl (by decide) rfl ?_
                  refine xA.istore (L' := [_, _, _, _, _, _, _, _, _, _, _, _, _]) rfl (Nat.le_of_ble_eq_true rfl) rfl rfl ?_
                  exact inB _ 0 (Nat.zero_le _) _ _
              · exact absurd (nI_le (Nat.le_refl _) (by omega)) h53
          refine xA.iload rfl rfl rfl ?_
          refine xA.aload_n (i := 2) rfl rfl rfl rfl ?_
          refine xA.iconst (v := 0) rfl (by decide) rfl ?_
          refine xA.iald rfl rfl (vp_in_nI (n := 0) (by decide) (by decide)) rfl ?_
          refine xA.topi (rdA (k := 0) (by decide) hpl.1) ?_
          refine xA.icmp_ge (tgt := 220) rfl rfl rfl (fun h40 => ?_) (fun h40 => ?_)
          · exact absurd h40 (nI_ge hk (by omega))
          · refine xA.iconst (v := 1) rfl (by decide) rfl ?_
            refine xA.istore (L' := [_, _, _, _, _, _, _, _, _, _, _, _, _]) rfl (Nat.le_of_ble_eq_true rfl) rfl rfl ?_
            refine xA.iconst (v := 0) rfl (by decide) rfl ?_
            refine xA.istore (L' := [_, _, _, _, _, _, _, _, _, _, _, _, _]) rfl (Nat.le_of_ble_eq_true rfl) rfl rfl ?_
            have q := inJ 0 (Nat.zero_le _)
            rw [show zcN s1 (sL s1 k) 0 = 0 from rfl, xb_t rfl] at q
            exact q
        · intro x9 x10 x11 x12
          refine xA.iload rfl rfl rfl ?_
          refine xA.aload_n (i := 2) rfl rfl rfl rfl ?_
          refine xA.iconst (v := 0) rfl (by decide) rfl ?_
          refine xA.iald rfl rfl (vp_in_nI (n := 0) (by decide) (by decide)) rfl ?_
          refine xA.topi (rdA (k := 0) (by decide) hpl.1) ?_
          refine xA.icmp_ge (tgt := 220) rfl rfl rfl (fun h40 => ?_) (fun h40 => ?_)
          · refine xA.aload_n (i := 0) rfl rfl rfl rfl ?_
            refine xA.gV (As := []) rfl k11_131 okX9_whose rfl rfl rfl rfl (Nat.le_of_ble_eq_true rfl) (Nat.le_of_ble_eq_true rfl) (Nat.le_of_ble_eq_true rfl) (c_X9_whose d S1 G1 s1 hc1) rfl rfl ?_
            refine xA.topi (whose_eq h4) ?_
            refine xA.iload rfl rfl rfl ?_
            refine xA.icmp_ne (tgt := 239) rfl rfl rfl (fun h226 => ?_) (fun h226 => ?_)
            · exact absurd rfl h226
            · refine xA.aload_n (i := 0) rfl rfl rfl rfl ?_
              refine xA.iconst (v := 4) rfl (by decide) rfl ?_
              refine xA.gV (As := [_]) rfl k11_71 okX9_count rfl rfl rfl rfl (Nat.le_of_ble_eq_true rfl) (Nat.le_of_ble_eq_true rfl) (Nat.le_of_ble_eq_true rfl) (c_X9_count (d + 2) S1 G1 s1 hc1 4) rfl rfl ?_
              refine xA.topi (show _ = nI i from by rw [aCount, if_neg (by decide), if_neg (by decide), if_neg (by decide), if_neg (by decide), if_pos rfl, hgl.1]) ?_
              refine xA.iload rfl rfl rfl ?_
              refine xA.icmp_eq (tgt := 241) rfl rfl rfl (fun h236 => ?_) (fun h236 => ?_)
              · exact cont _ _ _ _ _ _
              · exact absurd rfl h236
          · exact absurd (nI_le (Nat.le_refl _) (by omega)) h40
      refine xA.iconst (v := 0) rfl (by decide) rfl ?_
      refine xA.istore (L' := [_, _, _, _, _, _, _, _, _, _, _, _, _]) rfl (Nat.le_of_ble_eq_true rfl) rfl rfl ?_
      refine xA.iconst (v := 0) rfl (by decide) rfl ?_
      refine xA.istore (L' := [_, _, _, _, _, _, _, _, _, _, _, _, _]) rfl (Nat.le_of_ble_eq_true rfl) rfl rfl ?_
      exact loopK 0 (Nat.zero_le _) _ _ _ _
  
    have r399 : ∀ gm S1 s1, gm ≤ 8 → LW S1 s1 → GL S1 s1 gm → ∀ x7 x8 x9 x10 x11 x12 : Option Value, xA (some (N, xs)) (d + 4) mL_glimpses 1 8 1 8 399 [some (.ref 0), some (.retAddr 0), some (.ref 55), some (.ref 56), some (.ref 61), some (.int (nI gm)), some (.int (nI (gm + 1))), x7, x8, x9, x10, x11, x12] [] (σF (τL [.inr (.inl 5), .inr (.inl 5), .inr (.inl 5), .inr (.inl 8)]), S1, G1) (fun r h' => r = some (.int 1) ∧ ∃ S' G' s', h' = (σF (τL [.inr (.inl 5), .inr (.inl 5), .inr (.inl 5), .inr (.inl 8)]), S', G') ∧ LW S' s') := by
      intro gm S1 s1 hgm hw1 hgl x7 x8 x9 x10 x11 x12
      have hpl := hw1.2.2.2
      have hP3 := hpl.2.1
      have h4 : sP s1 ≤ 4 := by omega
      refine xA.iload rfl rfl rfl ?_
      refine xA.bipush (v := 8) rfl (by decide) rfl ?_
      refine xA.icmp_ne (tgt := 448) rfl rfl rfl (fun h403 => ?_) (fun h403 => ?_)
      · rw [show (8 : Int32) = nI 8 from rfl, nI_eq (by omega) (by omega)] at h403
        refine xA.aload_n (i := 0) rfl rfl rfl rfl ?_
        refine xA.gO (As := []) rfl k11_134 okX9_forget rfl rfl rfl (Nat.le_of_ble_eq_true rfl) (Nat.le_of_ble_eq_true rfl) (Nat.le_of_ble_eq_true rfl) (o_forget (d + 2) s1) (hw1.1) rfl rfl ?_
        intro S2 hc2 hf2
        refine xA.topi (show _ = nI gm from by rw [hgl.1]) ?_
        refine xA.iload rfl rfl rfl ?_
        refine xA.icmp_ne (tgt := 468) rfl rfl rfl (fun h454 => ?_) (fun h454 => ?_)
        · exact absurd rfl h454
        · refine xA.aload_n (i := 0) rfl rfl rfl rfl ?_
          refine xA.gO (As := []) rfl k11_134 okX9_forget rfl rfl rfl (Nat.le_of_ble_eq_true rfl) (Nat.le_of_ble_eq_true rfl) (Nat.le_of_ble_eq_true rfl) (o_forget (d + 2) (tForget s1)) (hc2) rfl rfl ?_
          intro S3 hc3 hf3
          refine xA.topi (show _ = 0 from rfl) ?_
          refine xA.if_ne (tgt := 468) rfl rfl rfl (fun h461 => ?_) (fun h461 => ?_)
          · exact absurd rfl h461
          · refine xA.iconst (v := 1) rfl (by decide) rfl ?_
            refine xA.goto (q := 469) rfl rfl ?_
            first
            | exact xA.iret rfl rfl rfl ⟨rfl, S3, G1, _, rfl, (hw1.op hc2 hf2 rfl rfl rfl rfl rfl).op hc3 hf3 rfl rfl rfl rfl rfl⟩
            | exact xA.iret rfl rfl rfl ⟨rfl, S3, G1, _, rfl, ((hw1.op (s' := s1) hc2 hf2 rfl rfl rfl rfl rfl).op hc3 hf3 rfl rfl rfl rfl rfl)⟩
      · rw [show (8 : Int32) = nI 8 from rfl, nI_eq (by omega) (by omega)] at h403
        refine xA.aload_n (i := 0) rfl rfl rfl rfl ?_
        refine xA.iconst (v := 0) rfl (by decide) rfl ?_
        refine xA.iconst (v := 0) rfl (by decide) rfl ?_
        refine xA.gO (As := [_, _]) rfl k11_125 okX9_glimpse rfl rfl rfl (Nat.le_of_ble_eq_true rfl) (Nat.le_of_ble_eq_true rfl) (Nat.le_of_ble_eq_true rfl) (o_glimpse (d + 2) s1 0 0) (hw1.1) rfl rfl ?_
        intro S2 hc2 hf2
        have h8 : (sGl s1).1 = 8 := by have := hgl.1; omega
        refine xA.topi (show _ = -104 from by rw [aGlimpse, if_pos (by decide), if_pos (by decide), if_neg (by have := hw1.2.2.1; omega), if_pos h8]) ?_
        rw [show tGlimpse s1 0 0 = s1 from by rw [tGlimpse, if_neg (fun q => q.2.2.2 h8)]] at hc2
        refine xA.bipush (v := (-104)) rfl (by decide) rfl ?_
        refine xA.icmp_ne (tgt := 444) rfl rfl rfl (fun h414 => ?_) (fun h414 => ?_)
        · exact absurd rfl h414
        · refine xA.aload_n (i := 0) rfl rfl rfl rfl ?_
          refine xA.gO (As := []) rfl k11_134 okX9_forget rfl rfl rfl (Nat.le_of_ble_eq_true rfl) (Nat.le_of_ble_eq_true rfl) (Nat.le_of_ble_eq_true rfl) (o_forget (d + 2) s1) (hc2) rfl rfl ?_
          intro S3 hc3 hf3
          refine xA.topi (show _ = nI 8 from by rw [hgl.1, h403]) ?_
          refine xA.bipush (v := 8) rfl (by decide) rfl ?_
          refine xA.icmp_ne (tgt := 444) rfl rfl rfl (fun h423 => ?_) (fun h423 => ?_)
          · exact absurd rfl h423
          · refine xA.aload_n (i := 0) rfl rfl rfl rfl ?_
            refine xA.gV (As := []) rfl k11_131 okX9_whose rfl rfl rfl rfl (Nat.le_of_ble_eq_true rfl) (Nat.le_of_ble_eq_true rfl) (Nat.le_of_ble_eq_true rfl) (c_X9_whose d S3 G1 (tForget s1) hc3) rfl rfl ?_
            refine xA.topi ((whose_eq (s := tForget s1) h4).trans (congrArg nI (obits_all (fun _ => all_none rfl) _ hP3) : _ = nI (2 ^ sP s1 - 1))) ?_
            refine xA.iconst (v := 1) rfl (by decide) rfl ?_
            refine xA.aload_n (i := 2) rfl rfl rfl rfl ?_
            refine xA.iconst (v := 0) rfl (by decide) rfl ?_
            refine xA.iald rfl rfl (vp_in_nI (n := 0) (by decide) (by decide)) rfl ?_
            refine xA.topi (rdA (k := 0) (by decide) (show _ = nI (sP s1) from by rw [hf3 55 (by decide), hf2 55 (by decide)]; exact hpl.1)) ?_
            refine xA.ishl rfl rfl ?_
            refine xA.topi (nI_shl _ (by omega)) ?_
            refine xA.iconst (v := 1) rfl (by decide) rfl ?_
            refine xA.isub rfl rfl ?_
            refine xA.topi (show nI (2 ^ sP s1) - nI 1 = nI (2 ^ sP s1 - 1) from nI_sub (Nat.one_le_two_pow)) ?_
            refine xA.icmp_ne (tgt := 444) rfl rfl rfl (fun h437 => ?_) (fun h437 => ?_)
            · exact absurd rfl h437
            · refine xA.iconst (v := 1) rfl (by decide) rfl ?_
              refine xA.goto (q := 469) rfl rfl ?_
              first
              | exact xA.iret rfl rfl rfl ⟨rfl, S3, G1, _, rfl, (hw1.op hc2 hf2 rfl rfl rfl rfl rfl).op hc3 hf3 rfl rfl rfl rfl rfl⟩
              | exact xA.iret rfl rfl rfl ⟨rfl, S3, G1, _, rfl, ((hw1.op (s' := s1) hc2 hf2 rfl rfl rfl rfl rfl).op hc3 hf3 rfl rfl rfl rfl rfl)⟩
    have loop : ∀ gm, gm ≤ 8 → ∀ i, i ≤ gm → ∀ S1 s1, LW S1 s1 → GL S1 s1 i → ∀ x7 x8 x9 x10 x11 x12 : Option Value, xA (some (N, xs)) (d + 4) mL_glimpses 1 8 1 8 22 [some (.ref 0), some (.retAddr 0), some (.ref 55), some (.ref 56), some (.ref 61), some (.int (nI gm)), some (.int (nI i)), x7, x8, x9, x10, x11, x12] [] (σF (τL [.inr (.inl 5), .inr (.inl 5), .inr (.inl 5), .inr (.inl 8)]), S1, G1) (fun r h' => r = some (.int 1) ∧ ∃ S' G' s', h' = (σF (τL [.inr (.inl 5), .inr (.inl 5), .inr (.inl 5), .inr (.inl 8)]), S', G') ∧ LW S' s') := by
      intro gm hgm
      refine xloop gm (fun i hi ih => ?_) ?_
      · intro S1 s1 hw1 hgl x7 x8 x9 x10 x11 x12
        have hpl := hw1.2.2.2
        have hP3 := hpl.2.1
        refine xA.iload rfl rfl rfl ?_
        refine xA.iload rfl rfl rfl ?_
        refine xA.icmp_gt (tgt := 399) rfl rfl rfl (fun h26 => ?_) (fun h26 => ?_)
        · rw [nI_ltI (by omega) (by omega)] at h26
          exact absurd h26 (by omega)
        · rw [nI_ltI (by omega) (by omega)] at h26
          refine chk gm i hgm (by omega) S1 s1 hw1 hgl ?_ _ _ _ _ _ _
          intro x7 x8 x9 x10 x11 x12
          refine xA.iload rfl rfl rfl ?_
          refine xA.iload rfl rfl rfl ?_
          refine xA.icmp_ne (tgt := 251) rfl rfl rfl (fun h245 => ?_) (fun h245 => ?_)
          · rw [nI_eq (by omega) (by omega)] at h245
            refine xA.aloadX_n (i := 1) rfl rfl rfl rfl ?_
            refine xA.bipush (v := 21) rfl (by decide) rfl ?_
            refine xA.iload rfl rfl rfl ?_
            refine xA.iconst (v := 4) rfl (by decide) rfl ?_
            refine xA.irem rfl (by decide) rfl ?_
            refine xA.topi (nI_rem (b := 4) (by omega) (by decide) (by decide)) ?_
            refine xA.iadd rfl rfl ?_
            refine xA.topi (nI_add 21 _) ?_
            refine xA.cell (k := 21 + i % 4) hN rfl k11_8 rfl (Nat.le_of_ble_eq_true rfl) (Nat.le_of_ble_eq_true rfl) (Nat.le_of_ble_eq_true rfl) (rfl) (by omega) rfl (fun w => ?_)
            refine xA.bipush (v := 7) rfl (by decide) rfl ?_
            refine xA.iload rfl rfl rfl ?_
            refine xA.iconst (v := 4) rfl (by decide) rfl ?_
            refine xA.idiv rfl (by decide) rfl ?_
            refine xA.topi (nI_div (b := 4) (by omega) (by decide) (by decide)) ?_
            refine xA.imul rfl rfl ?_
            refine xA.topi (nI_mul 7 _) ?_
            refine xA.ishr rfl rfl ?_
            generalize w >>> (nI (7 * (i / 4)) &&& 31) = x
            refine xA.istore (L' := [_, _, _, _, _, _, _, _, _, _, _, _, _]) rfl (Nat.le_of_ble_eq_true rfl) rfl rfl ?_
            have r363 : ∀ k q : Nat, k < 4 → q < 360 → xA (some (N, xs)) (d + 4) mL_glimpses 1 8 1 8 363 [some (.ref 0), some (.retAddr 0), some (.ref 55), some (.ref 56), some (.ref 61), some (.int (nI gm)), some (.int (nI i)), some (.int (x7)), some (.int (x)), some (.int (nI k)), x10, x11, x12] [.int (nI (e8 q)), .int (nI i), .ref 61] (σF (τL [.inr (.inl 5), .inr (.inl 5), .inr (.inl 5), .inr (.inl 8)]), S1, G1) (fun r h' => r = some (.int 1) ∧ ∃ S' G' s', h' = (σF (τL [.inr (.inl 5), .inr (.inl 5), .inr (.inl 5), .inr (.inl 8)]), S', G') ∧ LW S' s') := by
              intro k q hk4 hq
              refine xA.iast rfl rfl (vp_in_nI (by omega) (by omega)) rfl ?_
              rw [nI_clamp (show i < 2 ^ 31 by omega)]
              refine xA.aload_n (i := 0) rfl rfl rfl rfl ?_
              refine xA.aload rfl rfl rfl ?_
              refine xA.iload rfl rfl rfl ?_
              refine xA.iald rfl rfl (vp_in_nI (by omega) (by omega)) rfl ?_
              refine xA.topi (rdA (by omega) (show _ = nI (e8 q) from by rw [xu_at, iu_at])) ?_
              refine xA.bipush (v := 8) rfl (by decide) rfl ?_
              refine xA.idiv rfl (by decide) rfl ?_
              refine xA.topi (e8I_div hq) ?_
              refine xA.aload rfl rfl rfl ?_
              refine xA.iload rfl rfl rfl ?_
              refine xA.iald rfl rfl (vp_in_nI (by omega) (by omega)) rfl ?_
              refine xA.topi (rdA (by omega) (show _ = nI (e8 q) from by rw [xu_at, iu_at])) ?_
              refine xA.bipush (v := 8) rfl (by decide) rfl ?_
              refine xA.irem rfl (by decide) rfl ?_
              refine xA.topi (e8I_mod hq) ?_
              refine xA.gO (As := [_, _]) rfl k11_125 okX9_glimpse rfl rfl rfl (Nat.le_of_ble_eq_true rfl) (Nat.le_of_ble_eq_true rfl) (Nat.le_of_ble_eq_true rfl) (o_glimpse (d + 2) s1 (nI (q / 6)) (nI (q % 6))) ((hw1.to (fun j hj => by rw [xu_off (by omega)])).1) rfl rfl ?_
              intro S2 hc2 hf2
              have hgo := glimpse_ok (s := s1) hgl.1 (by omega : i < 8) hw1.2.2.1 hq
              refine xA.topi hgo.1 ?_
              rw [hgo.2] at hc2
              refine xA.iload rfl rfl rfl ?_
              refine xA.iconst (v := 1) rfl (by decide) rfl ?_
              refine xA.iadd rfl rfl ?_
              refine xA.topi (nI_1 i) ?_
              refine xA.icmp_eq (tgt := 393) rfl rfl rfl (fun h388 => ?_) (fun h388 => ?_)
              · refine xA.iinc (L' := [_, _, _, _, _, _, _, _, _, _, _, _, _]) rfl rfl (nI_1 i) rfl rfl ?_
                refine xA.goto (q := 22) rfl rfl ?_
                exact ih S2 (gaS s1 i q) ((hw1.to (S' := xu S1 61 i (nI (e8 q))) (fun j hj => by rw [xu_off (by omega)])).op hc2 hf2 rfl rfl rfl rfl rfl) (GL_add hgl (by omega) hq (by rw [hf2 61 (by decide), xu_at])) _ _ _ _ _ _
              · exact absurd rfl h388
            have r290 : ∀ k : Nat, (k < sP s1 ∨ (sP s1 = 0 ∧ k = 0)) → xA (some (N, xs)) (d + 4) mL_glimpses 1 8 1 8 290 [some (.ref 0), some (.retAddr 0), some (.ref 55), some (.ref 56), some (.ref 61), some (.int (nI gm)), some (.int (nI i)), some (.int (x7)), some (.int (x)), x9, x10, x11, x12] [.int (nI k)] (σF (τL [.inr (.inl 5), .inr (.inl 5), .inr (.inl 5), .inr (.inl 8)]), S1, G1) (fun r h' => r = some (.int 1) ∧ ∃ S' G' s', h' = (σF (τL [.inr (.inl 5), .inr (.inl 5), .inr (.inl 5), .inr (.inl 8)]), S', G') ∧ LW S' s') := by
              rintro k (hk | ⟨hP0, rfl⟩)
              · have hrl := (hpl.2.2.1 k hk).2.2.1
                have hg : ∀ i, i < lN' (sL s1 k) → lSp (sL s1 k) i < 360 := fun i hi => (hrl.2.2 i hi).2
                have h17 := hrl.2.1
                refine xA.istore (L' := [_, _, _, _, _, _, _, _, _, _, _, _, _]) rfl (Nat.le_of_ble_eq_true rfl) rfl rfl ?_
                refine xA.aload rfl rfl rfl ?_
                refine xA.iload rfl rfl rfl ?_
                refine xA.iload rfl rfl rfl ?_
                refine xA.iconst (v := 2) rfl (by decide) rfl ?_
                refine xA.ishr rfl rfl ?_
                refine xA.bipush (v := 6) rfl (by decide) rfl ?_
                refine xA.at (N := 6) rfl k11_14 rfl (Nat.le_of_ble_eq_true rfl) (Nat.le_of_ble_eq_true rfl) (Nat.le_of_ble_eq_true rfl) (rfl) (by decide) (by decide) rfl (fun a ha => ?_)
                refine xA.if_eq (tgt := 317) rfl rfl rfl (fun h305 => ?_) (fun h305 => ?_)
                · refine xA.bipush (v := 8) rfl (by decide) rfl ?_
                  refine xA.iload rfl rfl rfl ?_
                  refine xA.iconst (v := 3) rfl (by decide) rfl ?_
                  refine xA.ishr rfl rfl ?_
                  refine xA.bipush (v := 60) rfl (by decide) rfl ?_
                  refine xA.at (N := 60) rfl k11_14 rfl (Nat.le_of_ble_eq_true rfl) (Nat.le_of_ble_eq_true rfl) (Nat.le_of_ble_eq_true rfl) (rfl) (by decide) (by decide) rfl (fun mm hmm => ?_)
                  refine xA.imul rfl rfl ?_
                  refine xA.topi (nI_mul 8 mm) ?_
                  refine xA.iload rfl rfl rfl ?_
                  refine xA.iconst (v := 4) rfl (by decide) rfl ?_
                  refine xA.ishr rfl rfl ?_
                  refine xA.bipush (v := 6) rfl (by decide) rfl ?_
                  refine xA.at (N := 6) rfl k11_14 rfl (Nat.le_of_ble_eq_true rfl) (Nat.le_of_ble_eq_true rfl) (Nat.le_of_ble_eq_true rfl) (rfl) (by decide) (by decide) rfl (fun rr hrr => ?_)
                  refine xA.iadd rfl rfl ?_
                  refine xA.topi (show _ = nI (e8 (mm * 6 + rr)) from by rw [nI_add, e8_mk hrr, Nat.mul_comm]) ?_
                  refine xA.goto (q := 363) rfl rfl ?_
                  first
                  | exact r363 _ _ (by omega) (by omega)
                  | exact r363 _ _ (by omega) (hg t ht)
                · refine xA.aload_n (i := 2) rfl rfl rfl rfl ?_
                  refine xA.iconst (v := 5) rfl (by decide) rfl ?_
                  refine xA.iload rfl rfl rfl ?_
                  refine xA.iadd rfl rfl ?_
                  refine xA.topi (nI_add 5 _) ?_
                  refine xA.iald rfl rfl (vp_in_nI (by omega) (by omega)) rfl ?_
                  refine xA.topi (rdA (by omega) hrl.1) ?_
                  refine xA.if_ne (tgt := 342) rfl rfl rfl (fun h314 => ?_) (fun h314 => ?_)
                  · rw [show (0 : Int32) = nI 0 from rfl, nI_eq (by omega) (by omega)] at h314
                    refine xA.aload_n (i := 3) rfl rfl rfl rfl ?_
                    refine xA.bipush (v := 17) rfl (by decide) rfl ?_
                    refine xA.iload rfl rfl rfl ?_
                    refine xA.imul rfl rfl ?_
                    refine xA.topi (nI_mul 17 k) ?_
                    refine xA.iload rfl rfl rfl ?_
                    refine xA.iconst (v := 3) rfl (by decide) rfl ?_
                    refine xA.ishr rfl rfl ?_
                    refine xA.aload_n (i := 2) rfl rfl rfl rfl ?_
                    refine xA.iconst (v := 5) rfl (by decide) rfl ?_
                    refine xA.iload rfl rfl rfl ?_
                    refine xA.iadd rfl rfl ?_
                    refine xA.topi (nI_add 5 k) ?_
                    refine xA.iald rfl rfl (vp_in_nI (by omega) (by omega)) rfl ?_
                    refine xA.topi (rdA (by omega) hrl.1) ?_
                    refine xA.at (N := lN' (sL s1 k)) rfl k11_14 rfl (Nat.le_of_ble_eq_true rfl) (Nat.le_of_ble_eq_true rfl) (Nat.le_of_ble_eq_true rfl) (rfl) (by omega) (by omega) rfl (fun t ht => ?_)
                    refine xA.iadd rfl rfl ?_
                    refine xA.topi (nI_add _ _) ?_
                    refine xA.iald rfl rfl (vp_in_nI (by omega) (by omega)) rfl ?_
                    refine xA.topi (rdA (by omega) (hrl.2.2 t ht).1) ?_
                    first
                    | exact r363 _ _ (by omega) (by omega)
                    | exact r363 _ _ (by omega) (hg t ht)
                  · rw [show (0 : Int32) = nI 0 from rfl, nI_eq (by omega) (by omega)] at h314
                    refine xA.bipush (v := 8) rfl (by decide) rfl ?_
                    refine xA.iload rfl rfl rfl ?_
                    refine xA.iconst (v := 3) rfl (by decide) rfl ?_
                    refine xA.ishr rfl rfl ?_
                    refine xA.bipush (v := 60) rfl (by decide) rfl ?_
                    refine xA.at (N := 60) rfl k11_14 rfl (Nat.le_of_ble_eq_true rfl) (Nat.le_of_ble_eq_true rfl) (Nat.le_of_ble_eq_true rfl) (rfl) (by decide) (by decide) rfl (fun mm hmm => ?_)
                    refine xA.imul rfl rfl ?_
                    refine xA.topi (nI_mul 8 mm) ?_
                    refine xA.iload rfl rfl rfl ?_
                    refine xA.iconst (v := 4) rfl (by decide) rfl ?_
                    refine xA.ishr rfl rfl ?_
                    refine xA.bipush (v := 6) rfl (by decide) rfl ?_
                    refine xA.at (N := 6) rfl k11_14 rfl (Nat.le_of_ble_eq_true rfl) (Nat.le_of_ble_eq_true rfl) (Nat.le_of_ble_eq_true rfl) (rfl) (by decide) (by decide) rfl (fun rr hrr => ?_)
                    refine xA.iadd rfl rfl ?_
                    refine xA.topi (show _ = nI (e8 (mm * 6 + rr)) from by rw [nI_add, e8_mk hrr, Nat.mul_comm]) ?_
                    refine xA.goto (q := 363) rfl rfl ?_
                    first
                    | exact r363 _ _ (by omega) (by omega)
                    | exact r363 _ _ (by omega) (hg t ht)
              · skip
                refine xA.istore (L' := [_, _, _, _, _, _, _, _, _, _, _, _, _]) rfl (Nat.le_of_ble_eq_true rfl) rfl rfl ?_
                refine xA.aload rfl rfl rfl ?_
                refine xA.iload rfl rfl rfl ?_
                refine xA.iload rfl rfl rfl ?_
                refine xA.iconst (v := 2) rfl (by decide) rfl ?_
                refine xA.ishr rfl rfl ?_
                refine xA.bipush (v := 6) rfl (by decide) rfl ?_
                refine xA.at (N := 6) rfl k11_14 rfl (Nat.le_of_ble_eq_true rfl) (Nat.le_of_ble_eq_true rfl) (Nat.le_of_ble_eq_true rfl) (rfl) (by decide) (by decide) rfl (fun a ha => ?_)
                refine xA.if_eq (tgt := 317) rfl rfl rfl (fun h305 => ?_) (fun h305 => ?_)
                · refine xA.bipush (v := 8) rfl (by decide) rfl ?_
                  refine xA.iload rfl rfl rfl ?_
                  refine xA.iconst (v := 3) rfl (by decide) rfl ?_
                  refine xA.ishr rfl rfl ?_
                  refine xA.bipush (v := 60) rfl (by decide) rfl ?_
                  refine xA.at (N := 60) rfl k11_14 rfl (Nat.le_of_ble_eq_true rfl) (Nat.le_of_ble_eq_true rfl) (Nat.le_of_ble_eq_true rfl) (rfl) (by decide) (by decide) rfl (fun mm hmm => ?_)
                  refine xA.imul rfl rfl ?_
                  refine xA.topi (nI_mul 8 mm) ?_
                  refine xA.iload rfl rfl rfl ?_
                  refine xA.iconst (v := 4) rfl (by decide) rfl ?_
                  refine xA.ishr rfl rfl ?_
                  refine xA.bipush (v := 6) rfl (by decide) rfl ?_
                  refine xA.at (N := 6) rfl k11_14 rfl (Nat.le_of_ble_eq_true rfl) (Nat.le_of_ble_eq_true rfl) (Nat.le_of_ble_eq_true rfl) (rfl) (by decide) (by decide) rfl (fun rr hrr => ?_)
                  refine xA.iadd rfl rfl ?_
                  refine xA.topi (show _ = nI (e8 (mm * 6 + rr)) from by rw [nI_add, e8_mk hrr, Nat.mul_comm]) ?_
                  refine xA.goto (q := 363) rfl rfl ?_
                  exact r363 0 _ (by omega) (by omega)
                · refine xA.aload_n (i := 2) rfl rfl rfl rfl ?_
                  refine xA.iconst (v := 5) rfl (by decide) rfl ?_
                  refine xA.iload rfl rfl rfl ?_
                  refine xA.iadd rfl rfl ?_
                  refine xA.topi (nI_add 5 _) ?_
                  refine xA.iald rfl rfl (vp_in_nI (n := 5) (by decide) (by decide)) rfl ?_
                  refine xA.topi (rdA (k := 5) (by decide) (hpl.2.2.2 hP0)) ?_
                  refine xA.if_ne (tgt := 342) rfl rfl rfl (fun h314 => ?_) (fun h314 => ?_)
                  · skip
                    exact absurd rfl h314
                  · skip
                    refine xA.bipush (v := 8) rfl (by decide) rfl ?_
                    refine xA.iload rfl rfl rfl ?_
                    refine xA.iconst (v := 3) rfl (by decide) rfl ?_
                    refine xA.ishr rfl rfl ?_
                    refine xA.bipush (v := 60) rfl (by decide) rfl ?_
                    refine xA.at (N := 60) rfl k11_14 rfl (Nat.le_of_ble_eq_true rfl) (Nat.le_of_ble_eq_true rfl) (Nat.le_of_ble_eq_true rfl) (rfl) (by decide) (by decide) rfl (fun mm hmm => ?_)
                    refine xA.imul rfl rfl ?_
                    refine xA.topi (nI_mul 8 mm) ?_
                    refine xA.iload rfl rfl rfl ?_
                    refine xA.iconst (v := 4) rfl (by decide) rfl ?_
                    refine xA.ishr rfl rfl ?_
                    refine xA.bipush (v := 6) rfl (by decide) rfl ?_
                    refine xA.at (N := 6) rfl k11_14 rfl (Nat.le_of_ble_eq_true rfl) (Nat.le_of_ble_eq_true rfl) (Nat.le_of_ble_eq_true rfl) (rfl) (by decide) (by decide) rfl (fun rr hrr => ?_)
                    refine xA.iadd rfl rfl ?_
                    refine xA.topi (show _ = nI (e8 (mm * 6 + rr)) from by rw [nI_add, e8_mk hrr, Nat.mul_comm]) ?_
                    refine xA.goto (q := 363) rfl rfl ?_
                    exact r363 0 _ (by omega) (by omega)
            
            refine xA.aload_n (i := 2) rfl rfl rfl rfl ?_
            refine xA.iconst (v := 0) rfl (by decide) rfl ?_
            refine xA.iald rfl rfl (vp_in_nI (n := 0) (by decide) (by decide)) rfl ?_
            refine xA.topi (rdA (k := 0) (by decide) hpl.1) ?_
            refine xA.if_ne (tgt := 282) rfl rfl rfl (fun h275 => ?_) (fun h275 => ?_)
            · rw [show (0 : Int32) = nI 0 from rfl, nI_eq (by omega) (by omega)] at h275
              refine xA.iload rfl rfl rfl ?_
              refine xA.aload_n (i := 2) rfl rfl rfl rfl ?_
              refine xA.iconst (v := 0) rfl (by decide) rfl ?_
              refine xA.iald rfl rfl (vp_in_nI (n := 0) (by decide) (by decide)) rfl ?_
              refine xA.topi (rdA (k := 0) (by decide) hpl.1) ?_
              refine xA.at (N := sP s1) rfl k11_14 rfl (Nat.le_of_ble_eq_true rfl) (Nat.le_of_ble_eq_true rfl) (Nat.le_of_ble_eq_true rfl) (rfl) (by omega) (by omega) rfl (fun kk hkk => ?_)
              first
              | exact r290 _ (Or.inl hkk)
              | exact r290 0 (Or.inr ⟨by omega, rfl⟩)
            · rw [show (0 : Int32) = nI 0 from rfl, nI_eq (by omega) (by omega)] at h275
              refine xA.iconst (v := 0) rfl (by decide) rfl ?_
              refine xA.goto (q := 290) rfl rfl ?_
              first
              | exact r290 _ (Or.inl hkk)
              | exact r290 0 (Or.inr ⟨by omega, rfl⟩)
          · rw [nI_eq (by omega) (by omega)] at h245
            exact absurd h245 (by omega)
      · intro S1 s1 hw1 hgl x7 x8 x9 x10 x11 x12
        refine xA.iload rfl rfl rfl ?_
        refine xA.iload rfl rfl rfl ?_
        refine xA.icmp_gt (tgt := 399) rfl rfl rfl (fun h26 => ?_) (fun h26 => ?_)
        · rw [nI_ltI (by omega) (by omega)] at h26
          exact absurd h26 (by omega)
        · rw [nI_ltI (by omega) (by omega)] at h26
          refine chk gm gm hgm (Nat.le_refl _) S1 s1 hw1 hgl ?_ _ _ _ _ _ _
          intro x7 x8 x9 x10 x11 x12
          refine xA.iload rfl rfl rfl ?_
          refine xA.iload rfl rfl rfl ?_
          refine xA.icmp_ne (tgt := 251) rfl rfl rfl (fun h245 => ?_) (fun h245 => ?_)
          · exact absurd rfl h245
          · refine xA.goto (q := 393) rfl rfl ?_
            refine xA.iinc (L' := [_, _, _, _, _, _, _, _, _, _, _, _, _]) rfl rfl (nI_1 gm) rfl rfl ?_
            refine xA.goto (q := 22) rfl rfl ?_
            refine xA.iload rfl rfl rfl ?_
            refine xA.iload rfl rfl rfl ?_
            refine xA.icmp_gt (tgt := 399) rfl rfl rfl (fun h26 => ?_) (fun h26 => ?_)
            · rw [nI_ltI (by omega) (by omega)] at h26
              exact r399 gm S1 s1 hgm hw1 hgl _ _ _ _ _ _
            · rw [nI_ltI (by omega) (by omega)] at h26
              exact absurd (show gm < gm + 1 by omega) h26
  
    refine xA.aloadX_n (i := 1) rfl rfl rfl rfl ?_
    refine xA.bipush (v := 20) rfl (by decide) rfl ?_
    refine xA.cell (k := 20) hN rfl k11_8 rfl (Nat.le_of_ble_eq_true rfl) (Nat.le_of_ble_eq_true rfl) (Nat.le_of_ble_eq_true rfl) (rfl) (by decide) rfl (fun x => ?_)
    refine xA.bipush (v := 9) rfl (by decide) rfl ?_
    refine xA.at (N := 9) rfl k11_14 rfl (Nat.le_of_ble_eq_true rfl) (Nat.le_of_ble_eq_true rfl) (Nat.le_of_ble_eq_true rfl) (rfl) (by decide) (by decide) rfl (fun gm hgm => ?_)
    refine xA.istore (L' := [_, _, _, _, _, _, _, _, _, _, _, _, _]) rfl (Nat.le_of_ble_eq_true rfl) rfl rfl ?_
    refine xA.iconst (v := 0) rfl (by decide) rfl ?_
    refine xA.istore (L' := [_, _, _, _, _, _, _, _, _, _, _, _, _]) rfl (Nat.le_of_ble_eq_true rfl) rfl rfl ?_
    exact loop gm (by omega) 0 (Nat.zero_le _) S1 s hw1 ⟨hg0, Nat.zero_le _, fun j hj => absurd hj (Nat.not_lt_zero _)⟩ _ _ _ _ _ _
  refine xA.bipush (v := 8) rfl (by decide) rfl ?_
  refine xA.newa (N := 8) rfl w46 (by decide) (by decide) (Nat.le_of_ble_eq_true rfl) (Nat.le_of_ble_eq_true rfl) (Nat.le_of_ble_eq_true rfl) rfl ?_
  refine xA.shp (σ' := σF (τL [.inr (.inl 5), .inr (.inl 5), .inr (.inl 5), .inr (.inl 8)])) rfl ?_
  refine xA.top (k' := 61) rfl ?_
  refine xA.astore (L' := [_, _, _, _, _, _, _, _, _, _, _, _, _]) rfl (Nat.le_of_ble_eq_true rfl) rfl rfl ?_
  exact main _ _ (hw.to (fun j hj => xz_off (k := 61) (by omega)))

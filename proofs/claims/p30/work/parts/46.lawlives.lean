variable {ρ : List xSh}
/-! ===== the law: lives by a seed ===== -/
theorem lg_cmp_self (x : Int64) : lg_cmp x x = 0 := by
  simp [lg_cmp]
set_option maxRecDepth 100000 in
set_option maxHeartbeats 8000000 in
theorem law_lives (d : Nat) (N : Nat) (xs : Nat → Int32) (hN : N ≤ 260) (s : sS) (G : Nat → Nat → Int64) (n6 : Int32) : ∀ t, t ≤ 3 → ∀ S, LW S s → ∀ x8 x9 x10 x11 x12 x13 x14 x15 x16 x17 x18 x19 x20 x21 : Option Value, xA (some (N, xs)) (d + 8) mL_law 600000 7302250 600000 7302250 343 [some (.retAddr 0), some (.ref 0), some (.ref 54), some (.ref 55), some (.ref 56), some (.ref 57), some (.int (n6)), some (.int (nI t)), x8, x9, x10, x11, x12, x13, x14, x15, x16, x17, x18, x19, x20, x21] [] (σF (τL [.inr (.inl 5), .inr (.inl 5), .inr (.inl 5), .inr (.inl 8)]), S, G) (fun r _ => r = some (.int 1)) := by
  refine xloop 3 (fun t ht iht => ?_) ?_
  · intro S hw x8 x9 x10 x11 x12 x13 x14 x15 x16 x17 x18 x19 x20 x21
    obtain ⟨hc, hh, hr, hpl⟩ := id hw
    obtain ⟨hsd0, -⟩ := hc.2.1.2.2.2 hr
    have hlo : hLo (sH s) < 6 := hsd0.2.1.2.2.2.2.2.1 (by have := hsd0.2.2; omega)
    have hbb := hsd0.2.1.2.2.2.2.2.2.1 hsd0.2.2
    have hba := hbb.2
    have hlp1 : ∀ kd, 1 ≤ lpN (sH s) kd := fun kd => by unfold lpN; split <;> omega
    refine xA.iload rfl rfl rfl ?_
    refine xA.iconst (v := 3) rfl (by decide) rfl ?_
    refine xA.icmp_ge (tgt := 701) rfl rfl rfl (fun h346 => ?_) (fun h346 => ?_)
    · exact absurd h346 (nI_ge (b := 3) ht (by decide))
    · refine xA.aloadX_n (i := 0) rfl rfl rfl rfl ?_
      refine xA.bipush (v := 26) rfl (by decide) rfl ?_
      refine xA.iload rfl rfl rfl ?_
      refine xA.iadd rfl rfl ?_
      refine xA.topi (nI_add 26 t) ?_
      refine xA.cell (k := 26 + t) hN rfl k11_8 rfl (Nat.le_of_ble_eq_true rfl) (Nat.le_of_ble_eq_true rfl) (Nat.le_of_ble_eq_true rfl) (rfl) (by omega) rfl (fun x => ?_)
      refine xA.istore (L' := [_, _, _, _, _, _, _, _, _, _, _, _, _, _, _, _, _, _, _, _, _, _]) rfl (Nat.le_of_ble_eq_true rfl) rfl rfl ?_
      refine xA.iload rfl rfl rfl ?_
      refine xA.iconst (v := 5) rfl (by decide) rfl ?_
      refine xA.at (N := 5) rfl k11_14 rfl (Nat.le_of_ble_eq_true rfl) (Nat.le_of_ble_eq_true rfl) (Nat.le_of_ble_eq_true rfl) (rfl) (by decide) (by decide) rfl (fun kd hkd => ?_)
      refine xA.istore (L' := [_, _, _, _, _, _, _, _, _, _, _, _, _, _, _, _, _, _, _, _, _, _]) rfl (Nat.le_of_ble_eq_true rfl) rfl rfl ?_
      have rest : ∀ r, r < 6 → xA (some (N, xs)) (d + 8) mL_law 600000 7302250 600000 7302250 395 [some (.retAddr 0), some (.ref 0), some (.ref 54), some (.ref 55), some (.ref 56), some (.ref 57), some (.int (n6)), some (.int (nI t)), some (.int (x)), some (.int (nI kd)), x10, x11, x12, x13, x14, x15, x16, x17, x18, x19, x20, x21] [.int (nI r)] (σF (τL [.inr (.inl 5), .inr (.inl 5), .inr (.inl 5), .inr (.inl 8)]), S, G) (fun r _ => r = some (.int 1)) := by
        intro r hr6
        refine xA.istore (L' := [_, _, _, _, _, _, _, _, _, _, _, _, _, _, _, _, _, _, _, _, _, _]) rfl (Nat.le_of_ble_eq_true rfl) rfl rfl ?_
        refine xA.iconst (v := 1) rfl (by decide) rfl ?_
        refine xA.iload rfl rfl rfl ?_
        refine xA.bipush (v := 7) rfl (by decide) rfl ?_
        refine xA.ishr rfl rfl ?_
        refine xA.bipush (v := 16) rfl (by decide) rfl ?_
        refine xA.at (N := 16) rfl k11_14 rfl (Nat.le_of_ble_eq_true rfl) (Nat.le_of_ble_eq_true rfl) (Nat.le_of_ble_eq_true rfl) (rfl) (by decide) (by decide) rfl (fun jj hjj => ?_)
        refine xA.iadd rfl rfl ?_
        refine xA.topi (nI_add 1 jj) ?_
        refine xA.istore (L' := [_, _, _, _, _, _, _, _, _, _, _, _, _, _, _, _, _, _, _, _, _, _]) rfl (Nat.le_of_ble_eq_true rfl) rfl rfl ?_
        refine xA.aloadX_n (i := 0) rfl rfl rfl rfl ?_
        refine xA.bipush (v := 29) rfl (by decide) rfl ?_
        refine xA.iload rfl rfl rfl ?_
        refine xA.iadd rfl rfl ?_
        refine xA.topi (nI_add 29 t) ?_
        refine xA.cell (k := 29 + t) hN rfl k11_8 rfl (Nat.le_of_ble_eq_true rfl) (Nat.le_of_ble_eq_true rfl) (Nat.le_of_ble_eq_true rfl) (rfl) (by omega) rfl (fun w => ?_)
        refine xA.ldc (v := 2147483647) rfl w701 rfl ?_
        refine xA.iand rfl rfl ?_
        obtain ⟨sd, hsd, esd⟩ := and31 w
        refine xA.topi esd ?_
        generalize hst : 1 + jj = st at *
        have hst1 : 1 ≤ st := by omega
        have hst16 : st ≤ 16 := by omega
        have r613 : ∀ (sp : Nat) (th : Int32) (X : Nat), sp < 360 → X < 2 ^ 31 → (sp, th, nI X) = livesN s kd r st (nI sd) → ∀ x17 x18 x19 x20 x21 : Option Value, xA (some (N, xs)) (d + 8) mL_law 600000 7302250 600000 7302250 613 [some (.retAddr 0), some (.ref 0), some (.ref 54), some (.ref 55), some (.ref 56), some (.ref 57), some (.int (n6)), some (.int (nI t)), some (.int (x)), some (.int (nI kd)), some (.int (nI r)), some (.int (nI st)), some (.int (nI sd)), some (.int (nI (e8 sp))), some (.int (th)), some (.long (lN X)), none, x17, x18, x19, x20, x21] [] (σF (τL [.inr (.inl 5), .inr (.inl 5), .inr (.inl 5), .inr (.inl 8)]), S, G) (fun r _ => r = some (.int 1)) := by
          intro sp th X hsp hX hW x17 x18 x19 x20 x21
          have hal := a_lives (s := s) (kd := kd) (r := r) (st := st) (sd := sd) hkd hr6 hst1 hst16 hsd hr
          have hc0 := hc
          refine xA.aload_n (i := 1) rfl rfl rfl rfl ?_
          refine xA.iload rfl rfl rfl ?_
          refine xA.iload rfl rfl rfl ?_
          refine xA.iload rfl rfl rfl ?_
          refine xA.iload rfl rfl rfl ?_
          refine xA.iconst (v := 0) rfl (by decide) rfl ?_
          refine xA.gO (As := [_, _, _, _, _]) rfl k11_115 okX9_lives rfl rfl rfl (Nat.le_of_ble_eq_true rfl) (Nat.le_of_ble_eq_true rfl) (Nat.le_of_ble_eq_true rfl) (o_lives (d + 2) s (nI kd) (nI r) (nI st) (nI sd) 0) (hc0) rfl rfl ?_
          intro S1 hc1 hf1
          refine xA.topi (hal.1.trans (congrArg (fun z : Nat × Int32 × Int32 => nI (z.1 / 6)) hW.symm)) ?_
          refine xA.iload rfl rfl rfl ?_
          refine xA.bipush (v := 8) rfl (by decide) rfl ?_
          refine xA.idiv rfl (by decide) rfl ?_
          refine xA.topi (e8I_div hsp) ?_
          refine xA.icmp_ne (tgt := 693) rfl rfl rfl (fun h631 => ?_) (fun h631 => ?_)
          · exact absurd rfl h631
          · refine xA.aload_n (i := 1) rfl rfl rfl rfl ?_
            refine xA.iload rfl rfl rfl ?_
            refine xA.iload rfl rfl rfl ?_
            refine xA.iload rfl rfl rfl ?_
            refine xA.iload rfl rfl rfl ?_
            refine xA.iconst (v := 1) rfl (by decide) rfl ?_
            refine xA.gO (As := [_, _, _, _, _]) rfl k11_115 okX9_lives rfl rfl rfl (Nat.le_of_ble_eq_true rfl) (Nat.le_of_ble_eq_true rfl) (Nat.le_of_ble_eq_true rfl) (o_lives (d + 2) s (nI kd) (nI r) (nI st) (nI sd) 1) (hc1) rfl rfl ?_
            intro S2 hc2 hf2
            refine xA.topi (hal.2.1.trans (congrArg (fun z : Nat × Int32 × Int32 => nI (z.1 % 6)) hW.symm)) ?_
            refine xA.iload rfl rfl rfl ?_
            refine xA.bipush (v := 8) rfl (by decide) rfl ?_
            refine xA.irem rfl (by decide) rfl ?_
            refine xA.topi (e8I_mod hsp) ?_
            refine xA.icmp_ne (tgt := 693) rfl rfl rfl (fun h652 => ?_) (fun h652 => ?_)
            · exact absurd rfl h652
            · refine xA.aload_n (i := 1) rfl rfl rfl rfl ?_
              refine xA.iload rfl rfl rfl ?_
              refine xA.iload rfl rfl rfl ?_
              refine xA.iload rfl rfl rfl ?_
              refine xA.iload rfl rfl rfl ?_
              refine xA.iconst (v := 2) rfl (by decide) rfl ?_
              refine xA.gO (As := [_, _, _, _, _]) rfl k11_115 okX9_lives rfl rfl rfl (Nat.le_of_ble_eq_true rfl) (Nat.le_of_ble_eq_true rfl) (Nat.le_of_ble_eq_true rfl) (o_lives (d + 2) s (nI kd) (nI r) (nI st) (nI sd) 2) (hc2) rfl rfl ?_
              intro S3 hc3 hf3
              refine xA.topi (hal.2.2.1.trans (congrArg (fun z : Nat × Int32 × Int32 => z.2.1) hW.symm)) ?_
              refine xA.iload rfl rfl rfl ?_
              refine xA.icmp_ne (tgt := 693) rfl rfl rfl (fun h670 => ?_) (fun h670 => ?_)
              · exact absurd rfl h670
              · refine xA.aload_n (i := 1) rfl rfl rfl rfl ?_
                refine xA.iload rfl rfl rfl ?_
                refine xA.iload rfl rfl rfl ?_
                refine xA.iload rfl rfl rfl ?_
                refine xA.iload rfl rfl rfl ?_
                refine xA.iconst (v := 3) rfl (by decide) rfl ?_
                refine xA.gO (As := [_, _, _, _, _]) rfl k11_115 okX9_lives rfl rfl rfl (Nat.le_of_ble_eq_true rfl) (Nat.le_of_ble_eq_true rfl) (Nat.le_of_ble_eq_true rfl) (o_lives (d + 2) s (nI kd) (nI r) (nI st) (nI sd) 3) (hc3) rfl rfl ?_
                intro S4 hc4 hf4
                refine xA.topi (hal.2.2.2.trans (congrArg (fun z : Nat × Int32 × Int32 => z.2.2) hW.symm)) ?_
                refine xA.i2l rfl rfl ?_
                refine xA.topl (nI_l hX) ?_
                refine xA.lload rfl rfl rfl ?_
                refine xA.lcmp rfl rfl ?_
                refine xA.topi (lg_cmp_self _) ?_
                refine xA.if_eq (tgt := 695) rfl rfl rfl (fun h690 => ?_) (fun h690 => ?_)
                · refine xA.iinc (L' := [_, _, _, _, _, _, _, _, _, _, _, _, _, _, _, _, _, _, _, _, _, _]) rfl rfl (nI_1 t) rfl rfl ?_
                  refine xA.goto (q := 343) rfl rfl ?_
                  exact iht S4 ((((hw.op hc1 hf1 rfl rfl rfl rfl rfl).op hc2 hf2 rfl rfl rfl rfl rfl).op hc3 hf3 rfl rfl rfl rfl rfl).op hc4 hf4 rfl rfl rfl rfl rfl) _ _ _ _ _ _ _ _ _ _ _ _ _ _
                · exact absurd rfl h690
        have r444 : ∀ i, i ≤ st → ∀ (sp : Nat) (th : Int32) (X : Nat), sp < 360 → X < 2 ^ 31 → wgo (hD (sH s)) (hLo (sH s)) (lpN (sH s) kd) (st - i) sp th (nI X) = livesN s kd r st (nI sd) → ∀ x18 x19 x20 x21 : Option Value, xA (some (N, xs)) (d + 8) mL_law 600000 7302250 600000 7302250 444 [some (.retAddr 0), some (.ref 0), some (.ref 54), some (.ref 55), some (.ref 56), some (.ref 57), some (.int (n6)), some (.int (nI t)), some (.int (x)), some (.int (nI kd)), some (.int (nI r)), some (.int (nI st)), some (.int (nI sd)), some (.int (nI (e8 sp))), some (.int (th)), some (.long (lN X)), none, some (.int (nI i)), x18, x19, x20, x21] [] (σF (τL [.inr (.inl 5), .inr (.inl 5), .inr (.inl 5), .inr (.inl 8)]), S, G) (fun r _ => r = some (.int 1)) := by
          refine xloop st (fun i hi ihw => ?_) ?_
          · intro sp th X hsp hX hW x18 x19 x20 x21
            have inC : ∀ j, j ≤ 8 → ∀ x20 x21 : Option Value, xA (some (N, xs)) (d + 8) mL_law 600000 7302250 600000 7302250 457 [some (.retAddr 0), some (.ref 0), some (.ref 54), some (.ref 55), some (.ref 56), some (.ref 57), some (.int (n6)), some (.int (nI t)), some (.int (x)), some (.int (nI kd)), some (.int (nI r)), some (.int (nI st)), some (.int (nI sd)), some (.int (nI (e8 sp))), some (.int (th)), some (.long (lN X)), none, some (.int (nI i)), some (.int (nI (cn (mayF (hD (sH s)) (hLo (sH s)) (sp / 6) (sp % 6) (lpN (sH s) kd)) j))), some (.int (nI j)), x20, x21] [] (σF (τL [.inr (.inl 5), .inr (.inl 5), .inr (.inl 5), .inr (.inl 8)]), S, G) (fun r _ => r = some (.int 1)) := by
              refine xloop 8 (fun j hj ihc => ?_) ?_
              · intro x20 x21
                refine xA.iload rfl rfl rfl ?_
                refine xA.bipush (v := 8) rfl (by decide) rfl ?_
                refine xA.icmp_ge (tgt := 493) rfl rfl rfl (fun h461 => ?_) (fun h461 => ?_)
                · exact absurd h461 (nI_ge (b := 8) hj (by decide))
                · refine xA.iload rfl rfl rfl ?_
                  refine xA.aload_n (i := 2) rfl rfl rfl rfl ?_
                  refine xA.iload rfl rfl rfl ?_
                  refine xA.iload rfl rfl rfl ?_
                  refine xA.iload rfl rfl rfl ?_
                  refine xA.gS (As := [_, _, _, _]) rfl k11_27 okL_step rfl rfl (Nat.le_of_ble_eq_true rfl) (Nat.le_of_ble_eq_true rfl) (Nat.le_of_ble_eq_true rfl) (c_L_step (d + 6) S G (sH s) hh hlo hba kd (sp / 6) (sp % 6) j hkd (by omega) (by omega) (by omega)) rfl rfl ?_
                  refine xA.if_ge (tgt := 483) rfl rfl rfl (fun h476 => ?_) (fun h476 => ?_)
                  · rw [o8_ge (by omega) (by omega) hj] at h476
                    refine xA.iconst (v := 1) rfl (by decide) rfl ?_
                    refine xA.iadd rfl rfl ?_
                    refine xA.topi (show _ = nI (cn (mayF (hD (sH s)) (hLo (sH s)) (sp / 6) (sp % 6) (lpN (sH s) kd)) (j + 1)) from by first | exact cn_t h476 | exact cn_f h476) ?_
                    refine xA.istore (L' := [_, _, _, _, _, _, _, _, _, _, _, _, _, _, _, _, _, _, _, _, _, _]) rfl (Nat.le_of_ble_eq_true rfl) rfl rfl ?_
                    refine xA.iinc (L' := [_, _, _, _, _, _, _, _, _, _, _, _, _, _, _, _, _, _, _, _, _, _]) rfl rfl (nI_1 j) rfl rfl ?_
                    refine xA.goto (q := 457) rfl rfl ?_
                    exact ihc _ _
                  · rw [o8_ge (by omega) (by omega) hj, Bool.not_eq_true] at h476
                    refine xA.iconst (v := 0) rfl (by decide) rfl ?_
                    refine xA.goto (q := 484) rfl rfl ?_
                    refine xA.iadd rfl rfl ?_
                    refine xA.topi (show _ = nI (cn (mayF (hD (sH s)) (hLo (sH s)) (sp / 6) (sp % 6) (lpN (sH s) kd)) (j + 1)) from by first | exact cn_t h476 | exact cn_f h476) ?_
                    refine xA.istore (L' := [_, _, _, _, _, _, _, _, _, _, _, _, _, _, _, _, _, _, _, _, _, _]) rfl (Nat.le_of_ble_eq_true rfl) rfl rfl ?_
                    refine xA.iinc (L' := [_, _, _, _, _, _, _, _, _, _, _, _, _, _, _, _, _, _, _, _, _, _]) rfl rfl (nI_1 j) rfl rfl ?_
                    refine xA.goto (q := 457) rfl rfl ?_
                    exact ihc _ _
              · intro x20 x21
                refine xA.iload rfl rfl rfl ?_
                refine xA.bipush (v := 8) rfl (by decide) rfl ?_
                refine xA.icmp_ge (tgt := 493) rfl rfl rfl (fun h461 => ?_) (fun h461 => ?_)
                · refine xA.iload rfl rfl rfl ?_
                  refine xA.if_ne (tgt := 501) rfl rfl rfl (fun h495 => ?_) (fun h495 => ?_)
                  · rw [show (0 : Int32) = nI 0 from rfl, nI_eq (by have := cn_le (mayF (hD (sH s)) (hLo (sH s)) (sp / 6) (sp % 6) (lpN (sH s) kd)) 8; omega) (by omega)] at h495
                    have hok := ws_ok (D := hD (sH s)) (low := hLo (sH s)) (lp := (lpN (sH s) kd)) (sp := sp) (X := X) hsp h495
                    have hw8 : cn (mayF (hD (sH s)) (hLo (sH s)) (sp / 6) (sp % 6) (lpN (sH s) kd)) 8 ≤ 8 := cn_le _ _
                    have r583 : ∀ (z : Int32) (u : Nat), xA (some (N, xs)) (d + 8) mL_law 600000 7302250 600000 7302250 583 [some (.retAddr 0), some (.ref 0), some (.ref 54), some (.ref 55), some (.ref 56), some (.ref 57), some (.int (n6)), some (.int (nI t)), some (.int (x)), some (.int (nI kd)), some (.int (nI r)), some (.int (nI st)), some (.int (nI sd)), some (.int (nI (e8 sp))), some (.int (th)), some (.long (lN (sdV X))), none, some (.int (nI i)), some (.int (nI (cn (mayF (hD (sH s)) (hLo (sH s)) (sp / 6) (sp % 6) (lpN (sH s) kd)) 8))), some (.int (z)), some (.int (nI (e8 (wqN (hD (sH s)) (hLo (sH s)) (lpN (sH s) kd) sp X)))), some (.int (nI u))] [] (σF (τL [.inr (.inl 5), .inr (.inl 5), .inr (.inl 5), .inr (.inl 8)]), S, G) (fun r _ => r = some (.int 1)) := by
                      intro z u
                      refine xA.iload rfl rfl rfl ?_
                      refine xA.iload rfl rfl rfl ?_
                      refine xA.iload rfl rfl rfl ?_
                      refine xA.bipush (v := 7) rfl (by decide) rfl ?_
                      refine xA.isub rfl rfl ?_
                      refine xA.icmp_ge (tgt := 599) rfl rfl rfl (fun h592 => ?_) (fun h592 => ?_)
                      · rw [cmp7 (e8_lt hsp) (e8_lt hok.2.1), back7 hok.2.2 (hlp1 kd) hok.1 hsp] at h592
                        refine xA.iconst (v := 0) rfl (by decide) rfl ?_
                        refine xA.iadd rfl rfl ?_
                        refine xA.topi (show _ = th + (if (wsN (hD (sH s)) (hLo (sH s)) (lpN (sH s) kd) sp X) = 7 then 1 else 0) from by first | rw [if_pos h592] | rw [if_neg h592]) ?_
                        refine xA.istore (L' := [_, _, _, _, _, _, _, _, _, _, _, _, _, _, _, _, _, _, _, _, _, _]) rfl (Nat.le_of_ble_eq_true rfl) rfl rfl ?_
                        refine xA.iload rfl rfl rfl ?_
                        refine xA.istore (L' := [_, _, _, _, _, _, _, _, _, _, _, _, _, _, _, _, _, _, _, _, _, _]) rfl (Nat.le_of_ble_eq_true rfl) rfl rfl ?_
                        refine xA.iinc (L' := [_, _, _, _, _, _, _, _, _, _, _, _, _, _, _, _, _, _, _, _, _, _]) rfl rfl (nI_1 i) rfl rfl ?_
                        refine xA.goto (q := 444) rfl rfl ?_
                        exact ihw (wqN (hD (sH s)) (hLo (sH s)) (lpN (sH s) kd) sp X) _ (sdV X) hok.2.1 (sdV_lt X) (by rw [← wgo_step hX h495, show st - (i + 1) + 1 = st - i by omega]; exact hW) _ _ _ _
                      · rw [cmp7 (e8_lt hsp) (e8_lt hok.2.1), back7 hok.2.2 (hlp1 kd) hok.1 hsp] at h592
                        have h592 := Decidable.not_not.mp h592
                        refine xA.iconst (v := 1) rfl (by decide) rfl ?_
                        refine xA.goto (q := 600) rfl rfl ?_
                        refine xA.iadd rfl rfl ?_
                        refine xA.topi (show _ = th + (if (wsN (hD (sH s)) (hLo (sH s)) (lpN (sH s) kd) sp X) = 7 then 1 else 0) from by first | rw [if_pos h592] | rw [if_neg h592]) ?_
                        refine xA.istore (L' := [_, _, _, _, _, _, _, _, _, _, _, _, _, _, _, _, _, _, _, _, _, _]) rfl (Nat.le_of_ble_eq_true rfl) rfl rfl ?_
                        refine xA.iload rfl rfl rfl ?_
                        refine xA.istore (L' := [_, _, _, _, _, _, _, _, _, _, _, _, _, _, _, _, _, _, _, _, _, _]) rfl (Nat.le_of_ble_eq_true rfl) rfl rfl ?_
                        refine xA.iinc (L' := [_, _, _, _, _, _, _, _, _, _, _, _, _, _, _, _, _, _, _, _, _, _]) rfl rfl (nI_1 i) rfl rfl ?_
                        refine xA.goto (q := 444) rfl rfl ?_
                        exact ihw (wqN (hD (sH s)) (hLo (sH s)) (lpN (sH s) kd) sp X) _ (sdV X) hok.2.1 (sdV_lt X) (by rw [← wgo_step hX h495, show st - (i + 1) + 1 = st - i by omega]; exact hW) _ _ _ _
                    have inF : ∀ u, u ≤ 8 → ∀ z, PF u z → xA (some (N, xs)) (d + 8) mL_law 600000 7302250 600000 7302250 537 [some (.retAddr 0), some (.ref 0), some (.ref 54), some (.ref 55), some (.ref 56), some (.ref 57), some (.int (n6)), some (.int (nI t)), some (.int (x)), some (.int (nI kd)), some (.int (nI r)), some (.int (nI st)), some (.int (nI sd)), some (.int (nI (e8 sp))), some (.int (th)), some (.long (lN (sdV X))), none, some (.int (nI i)), some (.int (nI (cn (mayF (hD (sH s)) (hLo (sH s)) (sp / 6) (sp % 6) (lpN (sH s) kd)) 8))), some (.int (z)), some (.int (nI (e8 (wqN (hD (sH s)) (hLo (sH s)) (lpN (sH s) kd) sp X)))), some (.int (nI u))] [] (σF (τL [.inr (.inl 5), .inr (.inl 5), .inr (.inl 5), .inr (.inl 8)]), S, G) (fun r _ => r = some (.int 1)) := by
                      refine xloop 8 (fun u hu ihf => ?_) ?_
                      · intro z hz
                        refine xA.iload rfl rfl rfl ?_
                        refine xA.bipush (v := 8) rfl (by decide) rfl ?_
                        refine xA.icmp_ge (tgt := 583) rfl rfl rfl (fun h541 => ?_) (fun h541 => ?_)
                        · exact absurd h541 (nI_ge (b := 8) hu (by decide))
                        · refine xA.aload_n (i := 2) rfl rfl rfl rfl ?_
                          refine xA.iload rfl rfl rfl ?_
                          refine xA.iload rfl rfl rfl ?_
                          refine xA.iload rfl rfl rfl ?_
                          refine xA.gS (As := [_, _, _, _]) rfl k11_27 okL_step rfl rfl (Nat.le_of_ble_eq_true rfl) (Nat.le_of_ble_eq_true rfl) (Nat.le_of_ble_eq_true rfl) (c_L_step (d + 6) S G (sH s) hh hlo hba kd (sp / 6) (sp % 6) u hkd (by omega) (by omega) (by omega)) rfl rfl ?_
                          refine xA.if_lt (tgt := 577) rfl rfl rfl (fun h554 => ?_) (fun h554 => ?_)
                          · rw [o8_lt (by omega) (by omega) hu] at h554
                            refine xA.iinc (L' := [_, _, _, _, _, _, _, _, _, _, _, _, _, _, _, _, _, _, _, _, _, _]) rfl rfl (nI_1 u) rfl rfl ?_
                            refine xA.goto (q := 537) rfl rfl ?_
                            first
                            | (have _z := h562; exact ihf _ (hz.next (by omega)))
                            | exact ihf _ hz.skip
                          · rw [o8_lt (by omega) (by omega) hu, Bool.not_eq_false] at h554
                            refine xA.iload rfl rfl rfl ?_
                            refine xA.iinc (L' := [_, _, _, _, _, _, _, _, _, _, _, _, _, _, _, _, _, _, _, _, _, _]) rfl rfl (rfl) rfl rfl ?_
                            refine xA.if_ne (tgt := 577) rfl rfl rfl (fun h562 => ?_) (fun h562 => ?_)
                            · skip
                              refine xA.iinc (L' := [_, _, _, _, _, _, _, _, _, _, _, _, _, _, _, _, _, _, _, _, _, _]) rfl rfl (nI_1 u) rfl rfl ?_
                              refine xA.goto (q := 537) rfl rfl ?_
                              first
                              | (have _z := h562; exact ihf _ (hz.next (by omega)))
                              | exact ihf _ hz.skip
                            · skip
                              exact absurd h562 hz.ne
                      · intro z hz
                        refine xA.iload rfl rfl rfl ?_
                        refine xA.bipush (v := 8) rfl (by decide) rfl ?_
                        refine xA.icmp_ge (tgt := 583) rfl rfl rfl (fun h541 => ?_) (fun h541 => ?_)
                        · exact r583 z 8
                        · exact absurd (nI_le (a := 8) (b := 8) (Nat.le_refl _) (by decide)) h541
                    have inN : ∀ u, u ≤ 8 → ∀ z, PN (mayF (hD (sH s)) (hLo (sH s)) (sp / 6) (sp % 6) (lpN (sH s) kd)) (sdV X / 65536 % cn (mayF (hD (sH s)) (hLo (sH s)) (sp / 6) (sp % 6) (lpN (sH s) kd)) 8) u z → xA (some (N, xs)) (d + 8) mL_law 600000 7302250 600000 7302250 537 [some (.retAddr 0), some (.ref 0), some (.ref 54), some (.ref 55), some (.ref 56), some (.ref 57), some (.int (n6)), some (.int (nI t)), some (.int (x)), some (.int (nI kd)), some (.int (nI r)), some (.int (nI st)), some (.int (nI sd)), some (.int (nI (e8 sp))), some (.int (th)), some (.long (lN (sdV X))), none, some (.int (nI i)), some (.int (nI (cn (mayF (hD (sH s)) (hLo (sH s)) (sp / 6) (sp % 6) (lpN (sH s) kd)) 8))), some (.int (z)), some (.int (nI (e8 sp))), some (.int (nI u))] [] (σF (τL [.inr (.inl 5), .inr (.inl 5), .inr (.inl 5), .inr (.inl 8)]), S, G) (fun r _ => r = some (.int 1)) := by
                      refine xloop 8 (fun u hu ihn => ?_) ?_
                      · intro z hz
                        refine xA.iload rfl rfl rfl ?_
                        refine xA.bipush (v := 8) rfl (by decide) rfl ?_
                        refine xA.icmp_ge (tgt := 583) rfl rfl rfl (fun h541 => ?_) (fun h541 => ?_)
                        · exact absurd h541 (nI_ge (b := 8) hu (by decide))
                        · refine xA.aload_n (i := 2) rfl rfl rfl rfl ?_
                          refine xA.iload rfl rfl rfl ?_
                          refine xA.iload rfl rfl rfl ?_
                          refine xA.iload rfl rfl rfl ?_
                          refine xA.gS (As := [_, _, _, _]) rfl k11_27 okL_step rfl rfl (Nat.le_of_ble_eq_true rfl) (Nat.le_of_ble_eq_true rfl) (Nat.le_of_ble_eq_true rfl) (c_L_step (d + 6) S G (sH s) hh hlo hba kd (sp / 6) (sp % 6) u hkd (by omega) (by omega) (by omega)) rfl rfl ?_
                          refine xA.if_lt (tgt := 577) rfl rfl rfl (fun h554 => ?_) (fun h554 => ?_)
                          · rw [o8_lt (by omega) (by omega) hu] at h554
                            refine xA.iinc (L' := [_, _, _, _, _, _, _, _, _, _, _, _, _, _, _, _, _, _, _, _, _, _]) rfl rfl (nI_1 u) rfl rfl ?_
                            refine xA.goto (q := 537) rfl rfl ?_
                            first
                            | (have _z := hus; exact inF (u + 1) (by omega) _ PF.first)
                            | (have _z := h562; exact ihn _ (hz.next hu h554 h562))
                            | exact ihn _ (hz.skip hu h554)
                          · rw [o8_lt (by omega) (by omega) hu, Bool.not_eq_false] at h554
                            refine xA.iload rfl rfl rfl ?_
                            refine xA.iinc (L' := [_, _, _, _, _, _, _, _, _, _, _, _, _, _, _, _, _, _, _, _, _, _]) rfl rfl (rfl) rfl rfl ?_
                            refine xA.if_ne (tgt := 577) rfl rfl rfl (fun h562 => ?_) (fun h562 => ?_)
                            · skip
                              refine xA.iinc (L' := [_, _, _, _, _, _, _, _, _, _, _, _, _, _, _, _, _, _, _, _, _, _]) rfl rfl (nI_1 u) rfl rfl ?_
                              refine xA.goto (q := 537) rfl rfl ?_
                              first
                              | (have _z := hus; exact inF (u + 1) (by omega) _ PF.first)
                              | (have _z := h562; exact ihn _ (hz.next hu h554 h562))
                              | exact ihn _ (hz.skip hu h554)
                            · skip
                              refine xA.aload_n (i := 2) rfl rfl rfl rfl ?_
                              refine xA.iload rfl rfl rfl ?_
                              refine xA.iload rfl rfl rfl ?_
                              refine xA.iload rfl rfl rfl ?_
                              refine xA.gS (As := [_, _, _, _]) rfl k11_27 okL_step rfl rfl (Nat.le_of_ble_eq_true rfl) (Nat.le_of_ble_eq_true rfl) (Nat.le_of_ble_eq_true rfl) (c_L_step (d + 6) S G (sH s) hh hlo hba kd (sp / 6) (sp % 6) u hkd (by omega) (by omega) (by omega)) rfl rfl ?_
                              subst h562
                              have hus : (wsN (hD (sH s)) (hLo (sH s)) (lpN (sH s) kd) sp X) = u := hz.here hu h554
                              refine xA.topi (show _ = nI (e8 (wqN (hD (sH s)) (hLo (sH s)) (lpN (sH s) kd) sp X)) from by have e := hok.2.2; rw [hus] at e; rw [e]; rfl) ?_
                              refine xA.istore (L' := [_, _, _, _, _, _, _, _, _, _, _, _, _, _, _, _, _, _, _, _, _, _]) rfl (Nat.le_of_ble_eq_true rfl) rfl rfl ?_
                              refine xA.iinc (L' := [_, _, _, _, _, _, _, _, _, _, _, _, _, _, _, _, _, _, _, _, _, _]) rfl rfl (nI_1 u) rfl rfl ?_
                              refine xA.goto (q := 537) rfl rfl ?_
                              first
                              | (have _z := hus; exact inF (u + 1) (by omega) _ PF.first)
                              | (have _z := h562; exact ihn _ (hz.next hu h554 h562))
                              | exact ihn _ (hz.skip hu h554)
                      · intro z hz
                        refine xA.iload rfl rfl rfl ?_
                        refine xA.bipush (v := 8) rfl (by decide) rfl ?_
                        refine xA.icmp_ge (tgt := 583) rfl rfl rfl (fun h541 => ?_) (fun h541 => ?_)
                        · exact absurd hz.last id
                        · exact absurd (nI_le (a := 8) (b := 8) (Nat.le_refl _) (by decide)) h541
                    
                    refine xA.lload rfl rfl rfl ?_
                    refine xA.ldc2 (v := 1103515245) rfl w702 rfl ?_
                    refine xA.lmul rfl rfl ?_
                    refine xA.ldc2 (v := 12345) rfl w703 rfl ?_
                    refine xA.ladd rfl rfl ?_
                    refine xA.ldc2 (v := 2147483648) rfl w704 rfl ?_
                    refine xA.lrem rfl (by decide) rfl ?_
                    refine xA.topl (sd_long hX) ?_
                    refine xA.lstore (L' := [_, _, _, _, _, _, _, _, _, _, _, _, _, _, _, _, _, _, _, _, _, _]) rfl (Nat.le_of_ble_eq_true rfl) rfl rfl ?_
                    refine xA.lload rfl rfl rfl ?_
                    refine xA.ldc2 (v := 65536) rfl w705 rfl ?_
                    refine xA.ldiv rfl (by decide) rfl ?_
                    refine xA.iload rfl rfl rfl ?_
                    refine xA.i2l rfl rfl ?_
                    refine xA.topl (nI_l (by omega)) ?_
                    refine xA.lrem rfl (fun z => h495 ((pk_lEQ (b := 0) (by omega) (by decide)).mp z)) rfl ?_
                    refine xA.l2i rfl rfl ?_
                    refine xA.topi (dr_long (sdV_lt X) (by omega) hw8) ?_
                    refine xA.istore (L' := [_, _, _, _, _, _, _, _, _, _, _, _, _, _, _, _, _, _, _, _, _, _]) rfl (Nat.le_of_ble_eq_true rfl) rfl rfl ?_
                    refine xA.iload rfl rfl rfl ?_
                    refine xA.istore (L' := [_, _, _, _, _, _, _, _, _, _, _, _, _, _, _, _, _, _, _, _, _, _]) rfl (Nat.le_of_ble_eq_true rfl) rfl rfl ?_
                    refine xA.iconst (v := 0) rfl (by decide) rfl ?_
                    refine xA.istore (L' := [_, _, _, _, _, _, _, _, _, _, _, _, _, _, _, _, _, _, _, _, _, _]) rfl (Nat.le_of_ble_eq_true rfl) rfl rfl ?_
                    exact inN 0 (Nat.zero_le _) _ (PN.first (Nat.mod_lt _ (by omega)))
                  · rw [show (0 : Int32) = nI 0 from rfl, nI_eq (by have := cn_le (mayF (hD (sH s)) (hLo (sH s)) (sp / 6) (sp % 6) (lpN (sH s) kd)) 8; omega) (by omega)] at h495
                    refine xA.goto (q := 613) rfl rfl ?_
                    exact r613 sp th X hsp hX ((wgo_stop h495).symm.trans hW) _ _ _ _ _
                · exact absurd (nI_le (a := 8) (b := 8) (Nat.le_refl _) (by decide)) h461
            refine xA.iload rfl rfl rfl ?_
            refine xA.iload rfl rfl rfl ?_
            refine xA.icmp_ge (tgt := 613) rfl rfl rfl (fun h448 => ?_) (fun h448 => ?_)
            · exact absurd h448 (nI_ge hi (by omega))
            · refine xA.iconst (v := 0) rfl (by decide) rfl ?_
              refine xA.istore (L' := [_, _, _, _, _, _, _, _, _, _, _, _, _, _, _, _, _, _, _, _, _, _]) rfl (Nat.le_of_ble_eq_true rfl) rfl rfl ?_
              refine xA.iconst (v := 0) rfl (by decide) rfl ?_
              refine xA.istore (L' := [_, _, _, _, _, _, _, _, _, _, _, _, _, _, _, _, _, _, _, _, _, _]) rfl (Nat.le_of_ble_eq_true rfl) rfl rfl ?_
              exact inC 0 (Nat.zero_le _) _ _
          · intro sp th X hsp hX hW x18 x19 x20 x21
            refine xA.iload rfl rfl rfl ?_
            refine xA.iload rfl rfl rfl ?_
            refine xA.icmp_ge (tgt := 613) rfl rfl rfl (fun h448 => ?_) (fun h448 => ?_)
            · exact r613 sp th X hsp hX (by rw [Nat.sub_self] at hW; exact hW) _ _ _ _ _
            · exact absurd (nI_le (Nat.le_refl _) (by omega)) h448
        refine xA.istore (L' := [_, _, _, _, _, _, _, _, _, _, _, _, _, _, _, _, _, _, _, _, _, _]) rfl (Nat.le_of_ble_eq_true rfl) rfl rfl ?_
        refine xA.sipush (v := 240) rfl (by decide) rfl ?_
        refine xA.iload rfl rfl rfl ?_
        refine xA.iadd rfl rfl ?_
        refine xA.topi (show _ = nI (e8 (30 * 6 + r)) from by rw [e8_mk hr6]; exact nI_add 240 r) ?_
        refine xA.istore (L' := [_, _, _, _, _, _, _, _, _, _, _, _, _, _, _, _, _, _, _, _, _, _]) rfl (Nat.le_of_ble_eq_true rfl) rfl rfl ?_
        refine xA.iconst (v := 0) rfl (by decide) rfl ?_
        refine xA.istore (L' := [_, _, _, _, _, _, _, _, _, _, _, _, _, _, _, _, _, _, _, _, _, _]) rfl (Nat.le_of_ble_eq_true rfl) rfl rfl ?_
        refine xA.iload rfl rfl rfl ?_
        refine xA.i2l rfl rfl ?_
        refine xA.topl (nI_l hsd) ?_
        refine xA.lstore (L' := [_, _, _, _, _, _, _, _, _, _, _, _, _, _, _, _, _, _, _, _, _, _]) rfl (Nat.le_of_ble_eq_true rfl) rfl rfl ?_
        refine xA.iconst (v := 0) rfl (by decide) rfl ?_
        refine xA.istore (L' := [_, _, _, _, _, _, _, _, _, _, _, _, _, _, _, _, _, _, _, _, _, _]) rfl (Nat.le_of_ble_eq_true rfl) rfl rfl ?_
        exact r444 0 (Nat.zero_le _) (30 * 6 + r) 0 sd (by omega) hsd rfl _ _ _ _
      refine xA.iload rfl rfl rfl ?_
      refine xA.iconst (v := 3) rfl (by decide) rfl ?_
      refine xA.ishr rfl rfl ?_
      refine xA.iconst (v := 2) rfl (by decide) rfl ?_
      refine xA.at (N := 2) rfl k11_14 rfl (Nat.le_of_ble_eq_true rfl) (Nat.le_of_ble_eq_true rfl) (Nat.le_of_ble_eq_true rfl) (rfl) (by decide) (by decide) rfl (fun e he => ?_)
      refine xA.if_ne (tgt := 386) rfl rfl rfl (fun h376 => ?_) (fun h376 => ?_)
      · refine xA.iload rfl rfl rfl ?_
        refine xA.iconst (v := 4) rfl (by decide) rfl ?_
        refine xA.ishr rfl rfl ?_
        refine xA.bipush (v := 6) rfl (by decide) rfl ?_
        refine xA.at (N := 6) rfl k11_14 rfl (Nat.le_of_ble_eq_true rfl) (Nat.le_of_ble_eq_true rfl) (Nat.le_of_ble_eq_true rfl) (rfl) (by decide) (by decide) rfl (fun r hr6 => ?_)
        first
        | exact rest r hr6
        | exact rest (hLo (sH s)) hlo
      · refine xA.aload_n (i := 2) rfl rfl rfl rfl ?_
        refine xA.bipush (v := 12) rfl (by decide) rfl ?_
        refine xA.iald rfl rfl (vp_in_nI (n := 12) (by decide) (by decide)) rfl ?_
        refine xA.topi (rdA (k := 12) (by decide) hh.1) ?_
        refine xA.goto (q := 395) rfl rfl ?_
        first
        | exact rest r hr6
        | exact rest (hLo (sH s)) hlo
  · intro S hw x8 x9 x10 x11 x12 x13 x14 x15 x16 x17 x18 x19 x20 x21
    refine xA.iload rfl rfl rfl ?_
    refine xA.iconst (v := 3) rfl (by decide) rfl ?_
    refine xA.icmp_ge (tgt := 701) rfl rfl rfl (fun h346 => ?_) (fun h346 => ?_)
    · exact law_end d N xs hN s S G hw n6 _ _ _ _ _ _ _ _ _ _ _ _ _ _ _
    · exact absurd (nI_le (a := 3) (b := 3) (Nat.le_refl _) (by decide)) h346

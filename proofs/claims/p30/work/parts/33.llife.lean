variable {ρ : List xSh}
/-! ===== lifeText ===== -/
set_option maxRecDepth 100000 in
set_option maxHeartbeats 1000000 in
theorem c_L_lifeText (d : Nat) (S : Nat → Nat → Int32) (G : Nat → Nat → Int64) (x y z : Int32) (h : hS) (hh : RH (S 54) h) (hlo : hLo h < 6) (hba1 : 1 ≤ hBa h) (hba : hBa h ≤ 9) (kd k : Nat) (hkd : kd < 5) (hk3 : k < 3) : xC (d + 2) mL_lifeText [.int x, .int y, .int z, .ref 54, .int (nI kd), .int (nI k), .ref 55, .ref 56, .ref 57] (σF (τL ρ), S, G) 0 0 (fun r h' => ∃ S' n l, h' = (σF (τL ρ), S', G) ∧ r = some (.int (nI n)) ∧ LI S S' (hD h) (hLo h) (lpN h kd) k n l) := by
  refine xC.of okL_lifeText (Nat.le_of_ble_eq_true rfl) (L := [_, _, _, _, _, _, _, _, _, _, _, _, _, _, _, _]) rfl ?_
  have hlp : 1 ≤ lpN h kd := by unfold lpN; split <;> omega
  have loop : ∀ st, st ≤ 16 → ∀ i, i ≤ st → ∀ S1 n l a, LI S S1 (hD h) (hLo h) (lpN h kd) k n l → n ≤ 3 + i → a = lSp l (lN' l - 1) → ∀ x13 x14 x15 : Option Value, xA none (d + 2) mL_lifeText 0 0 0 0 127 [some (.int (x)), some (.int (y)), some (.int (z)), some (.ref 54), some (.int (nI kd)), some (.int (nI k)), some (.ref 55), some (.ref 56), some (.ref 57), some (.int (nI (e8 a))), some (.int (nI n)), some (.int (nI st)), some (.int (nI i)), x13, x14, x15] [] (σF (τL ρ), S1, G) (fun r h' => ∃ S' n l, h' = (σF (τL ρ), S', G) ∧ r = some (.int (nI n)) ∧ LI S S' (hD h) (hLo h) (lpN h kd) k n l) := by
    intro st hst
    refine xloop st (fun i hist ih => ?_) ?_
    · intro S1 n l a hi hn3 ea x13 x14 x15
      subst ea
      obtain ⟨hf, -, -, hlx, hrl, -, h1⟩ := id hi
      have hN : lN' l + 2 = n := hlx.choose_spec.2.2.2.2.2
      have hll := (hrl.2.2 (lN' l - 1) (by omega)).2
      refine xA.iload rfl rfl rfl ?_
      refine xA.iload rfl rfl rfl ?_
      refine xA.icmp_ge (tgt := 306) rfl rfl rfl (fun h131 => ?_) (fun h131 => ?_)
      · exact absurd h131 (nI_ge hist (by omega))
      · refine xA.iload rfl rfl rfl ?_
        refine xA.bipush (v := 8) rfl (by decide) rfl ?_
        refine xA.icmp_ge (tgt := 145) rfl rfl rfl (fun h138 => ?_) (fun h138 => ?_)
        · refine xA.iload_n (i := 2) rfl rfl rfl rfl ?_
          refine xA.iconst (v := 3) rfl (by decide) rfl ?_
          refine xA.iload rfl rfl rfl ?_
          refine xA.bipush (v := 8) rfl (by decide) rfl ?_
          refine xA.irem rfl (by decide) rfl ?_
          refine xA.topi (nI_rem (b := 8) (by omega) (by decide) (by decide)) ?_
          refine xA.imul rfl rfl ?_
          refine xA.topi (nI_mul 3 _) ?_
          refine xA.ishr rfl rfl ?_
          refine xA.bipush (v := 8) rfl (by decide) rfl ?_
          refine xA.at (N := 8) rfl k11_14 rfl (Nat.le_of_ble_eq_true rfl) (Nat.le_of_ble_eq_true rfl) (Nat.le_of_ble_eq_true rfl) (rfl) (by decide) (by decide) rfl (fun p hp => ?_)
          refine xA.istore (L' := [_, _, _, _, _, _, _, _, _, _, _, _, _, _, _, _]) rfl (Nat.le_of_ble_eq_true rfl) rfl rfl ?_
          have found : ∀ s q j : Nat, s < 8 → nxH (hD h) (hLo h) (lSp l (lN' l - 1) / 6) (lSp l (lN' l - 1) % 6) s (lpN h kd) = some q → xA none (d + 2) mL_lifeText 0 0 0 0 220 [some (.int (x)), some (.int (y)), some (.int (z)), some (.ref 54), some (.int (nI kd)), some (.int (nI k)), some (.ref 55), some (.ref 56), some (.ref 57), some (.int (nI (e8 (lSp l (lN' l - 1))))), some (.int (nI n)), some (.int (nI st)), some (.int (nI i)), some (.int (nI p)), some (.int (nI s)), some (.int (nI j))] [] (σF (τL ρ), S1, G) (fun r h' => ∃ S' n l, h' = (σF (τL ρ), S', G) ∧ r = some (.int (nI n)) ∧ LI S S' (hD h) (hLo h) (lpN h kd) k n l) := by
            intro s q j hs hq
            refine xA.iload rfl rfl rfl ?_
            refine xA.if_ge (tgt := 228) rfl rfl rfl (fun h222 => ?_) (fun h222 => ?_)
            · skip
              refine xA.aload_n (i := 3) rfl rfl rfl rfl ?_
              refine xA.iload rfl rfl rfl ?_
              refine xA.iload rfl rfl rfl ?_
              refine xA.iload rfl rfl rfl ?_
              refine xA.callSi (As := [_, _, _, _]) rfl k11_27 okL_step rfl rfl (Nat.le_of_ble_eq_true rfl) (c_L_step d S1 G h (by rw [hf 54 (by decide) (by decide) (by decide)]; exact hh) hlo hba kd (lSp l (lN' l - 1) / 6) (lSp l (lN' l - 1) % 6) s hkd (by omega) (by omega) (by omega)) rfl rfl ?_
              refine xA.topi (show _ = nI (e8 q) from by rw [hq]; rfl) ?_
              refine xA.istore (L' := [_, _, _, _, _, _, _, _, _, _, _, _, _, _, _, _]) rfl (Nat.le_of_ble_eq_true rfl) rfl rfl ?_
              refine xA.aload rfl rfl rfl ?_
              refine xA.bipush (v := 17) rfl (by decide) rfl ?_
              refine xA.iload rfl rfl rfl ?_
              refine xA.imul rfl rfl ?_
              refine xA.topi (nI_mul 17 k) ?_
              refine xA.aload rfl rfl rfl ?_
              refine xA.iconst (v := 5) rfl (by decide) rfl ?_
              refine xA.iload rfl rfl rfl ?_
              refine xA.iadd rfl rfl ?_
              refine xA.topi (nI_add 5 k) ?_
              refine xA.dup2 rfl rfl rfl rfl ?_
              refine xA.iald rfl rfl (vp_in_nI (by omega) (by omega)) rfl ?_
              refine xA.topi (rdA (by omega) hrl.1) ?_
              refine xA.dup_x2 rfl rfl rfl rfl rfl ?_
              refine xA.iconst (v := 1) rfl (by decide) rfl ?_
              refine xA.iadd rfl rfl ?_
              refine xA.topi (nI_1 _) ?_
              refine xA.iast rfl rfl (vp_in_nI (by omega) (by omega)) rfl ?_
              rw [nI_clamp (show 5 + k < 2 ^ 31 by omega)]
              refine xA.iadd rfl rfl ?_
              refine xA.topi (nI_add _ _) ?_
              refine xA.iload rfl rfl rfl ?_
              refine xA.iast rfl rfl (vp_in_nI (by omega) (by omega)) rfl ?_
              rw [nI_clamp (show 17 * k + lN' l < 2 ^ 31 by omega)]
              refine xA.aload rfl rfl rfl ?_
              refine xA.iload rfl rfl rfl ?_
              refine xA.iinc (L' := [_, _, _, _, _, _, _, _, _, _, _, _, _, _, _, _]) rfl rfl (nI_1 n) rfl rfl ?_
              refine xA.iload rfl rfl rfl ?_
              refine xA.bipush (v := 6) rfl (by decide) rfl ?_
              refine xA.icmp_ne (tgt := 282) rfl rfl rfl (fun h274 => ?_) (fun h274 => ?_)
              · rw [show (6 : Int32) = nI 6 from rfl, nI_eq (by omega) (by omega)] at h274
                refine xA.iload rfl rfl rfl ?_
                refine xA.bipush (v := 7) rfl (by decide) rfl ?_
                refine xA.icmp_ne (tgt := 294) rfl rfl rfl (fun h286 => ?_) (fun h286 => ?_)
                · rw [show (7 : Int32) = nI 7 from rfl, nI_eq (by omega) (by omega)] at h286
                  refine xA.bipush (v := 48) rfl (by decide) rfl ?_
                  refine xA.iload rfl rfl rfl ?_
                  refine xA.iadd rfl rfl ?_
                  refine xA.topi (nI_add 48 s) ?_
                  refine xA.iast rfl rfl (vp_in_nI (by omega) (by omega)) rfl ?_
                  rw [nI_clamp (show n < 2 ^ 31 by omega)]
                  refine xA.iinc (L' := [_, _, _, _, _, _, _, _, _, _, _, _, _, _, _, _]) rfl rfl (nI_1 i) rfl rfl ?_
                  refine xA.goto (q := 127) rfl rfl ?_
                  first
                  | (subst h274; exact ih _ (n + 1) (lnext (hD h) l 6 q) q (hi.next hlp (by omega) hs hq) (by omega) nu_same.symm _ _ _)
                  | (subst h286; exact ih _ (n + 1) (lnext (hD h) l 7 q) q (hi.next hlp (by omega) hs hq) (by omega) nu_same.symm _ _ _)
                  | (have hL := hi.next hlp (by omega) hs hq
                     rw [show ltr s = 48 + s from by unfold ltr; rw [if_neg h274, if_neg h286]] at hL
                     exact ih _ (n + 1) (lnext (hD h) l s q) q hL (by omega) nu_same.symm _ _ _)
                · rw [show (7 : Int32) = nI 7 from rfl, nI_eq (by omega) (by omega)] at h286
                  refine xA.bipush (v := 116) rfl (by decide) rfl ?_
                  refine xA.topi ((rfl : (116 : Int32) = nI 116)) ?_
                  refine xA.goto (q := 299) rfl rfl ?_
                  refine xA.iast rfl rfl (vp_in_nI (by omega) (by omega)) rfl ?_
                  rw [nI_clamp (show n < 2 ^ 31 by omega)]
                  refine xA.iinc (L' := [_, _, _, _, _, _, _, _, _, _, _, _, _, _, _, _]) rfl rfl (nI_1 i) rfl rfl ?_
                  refine xA.goto (q := 127) rfl rfl ?_
                  first
                  | (subst h274; exact ih _ (n + 1) (lnext (hD h) l 6 q) q (hi.next hlp (by omega) hs hq) (by omega) nu_same.symm _ _ _)
                  | (subst h286; exact ih _ (n + 1) (lnext (hD h) l 7 q) q (hi.next hlp (by omega) hs hq) (by omega) nu_same.symm _ _ _)
                  | (have hL := hi.next hlp (by omega) hs hq
                     rw [show ltr s = 48 + s from by unfold ltr; rw [if_neg h274, if_neg h286]] at hL
                     exact ih _ (n + 1) (lnext (hD h) l s q) q hL (by omega) nu_same.symm _ _ _)
              · rw [show (6 : Int32) = nI 6 from rfl, nI_eq (by omega) (by omega)] at h274
                refine xA.bipush (v := 46) rfl (by decide) rfl ?_
                refine xA.topi ((rfl : (46 : Int32) = nI 46)) ?_
                refine xA.goto (q := 299) rfl rfl ?_
                refine xA.iast rfl rfl (vp_in_nI (by omega) (by omega)) rfl ?_
                rw [nI_clamp (show n < 2 ^ 31 by omega)]
                refine xA.iinc (L' := [_, _, _, _, _, _, _, _, _, _, _, _, _, _, _, _]) rfl rfl (nI_1 i) rfl rfl ?_
                refine xA.goto (q := 127) rfl rfl ?_
                first
                | (subst h274; exact ih _ (n + 1) (lnext (hD h) l 6 q) q (hi.next hlp (by omega) hs hq) (by omega) nu_same.symm _ _ _)
                | (subst h286; exact ih _ (n + 1) (lnext (hD h) l 7 q) q (hi.next hlp (by omega) hs hq) (by omega) nu_same.symm _ _ _)
                | (have hL := hi.next hlp (by omega) hs hq
                   rw [show ltr s = 48 + s from by unfold ltr; rw [if_neg h274, if_neg h286]] at hL
                   exact ih _ (n + 1) (lnext (hD h) l s q) q hL (by omega) nu_same.symm _ _ _)
            · skip
              exact absurd (nI_pos' (by omega)) h222
          have lost : ∀ j : Nat, xA none (d + 2) mL_lifeText 0 0 0 0 220 [some (.int (x)), some (.int (y)), some (.int (z)), some (.ref 54), some (.int (nI kd)), some (.int (nI k)), some (.ref 55), some (.ref 56), some (.ref 57), some (.int (nI (e8 (lSp l (lN' l - 1))))), some (.int (nI n)), some (.int (nI st)), some (.int (nI i)), some (.int (nI p)), some (.int (-1)), some (.int (nI j))] [] (σF (τL ρ), S1, G) (fun r h' => ∃ S' n l, h' = (σF (τL ρ), S', G) ∧ r = some (.int (nI n)) ∧ LI S S' (hD h) (hLo h) (lpN h kd) k n l) := by
            intro j
            refine xA.iload rfl rfl rfl ?_
            refine xA.if_ge (tgt := 228) rfl rfl rfl (fun h222 => ?_) (fun h222 => ?_)
            · exact absurd h222 (by decide)
            · refine xA.goto (q := 300) rfl rfl ?_
              refine xA.iinc (L' := [_, _, _, _, _, _, _, _, _, _, _, _, _, _, _, _]) rfl rfl (nI_1 i) rfl rfl ?_
              refine xA.goto (q := 127) rfl rfl ?_
              exact ih S1 n l _ hi (by omega) rfl _ _ _
          have found2 : ∀ s q j : Nat, s < 8 → j ≤ 8 → nxH (hD h) (hLo h) (lSp l (lN' l - 1) / 6) (lSp l (lN' l - 1) % 6) s (lpN h kd) = some q → xA none (d + 2) mL_lifeText 0 0 0 0 167 [some (.int (x)), some (.int (y)), some (.int (z)), some (.ref 54), some (.int (nI kd)), some (.int (nI k)), some (.ref 55), some (.ref 56), some (.ref 57), some (.int (nI (e8 (lSp l (lN' l - 1))))), some (.int (nI n)), some (.int (nI st)), some (.int (nI i)), some (.int (nI p)), some (.int (nI s)), some (.int (nI j))] [] (σF (τL ρ), S1, G) (fun r h' => ∃ S' n l, h' = (σF (τL ρ), S', G) ∧ r = some (.int (nI n)) ∧ LI S S' (hD h) (hLo h) (lpN h kd) k n l) := by
            intro s q j hs hj hq
            refine xA.iload rfl rfl rfl ?_
            refine xA.bipush (v := 8) rfl (by decide) rfl ?_
            refine xA.icmp_ge (tgt := 220) rfl rfl rfl (fun h171 => ?_) (fun h171 => ?_)
            · exact found s q j hs hq
            · refine xA.iload rfl rfl rfl ?_
              refine xA.if_ge (tgt := 220) rfl rfl rfl (fun h176 => ?_) (fun h176 => ?_)
              · skip
                exact found s q j hs hq
              · skip
                exact absurd (nI_pos' (by omega)) h176
          have inner : ∀ j, j ≤ 8 → xA none (d + 2) mL_lifeText 0 0 0 0 167 [some (.int (x)), some (.int (y)), some (.int (z)), some (.ref 54), some (.int (nI kd)), some (.int (nI k)), some (.ref 55), some (.ref 56), some (.ref 57), some (.int (nI (e8 (lSp l (lN' l - 1))))), some (.int (nI n)), some (.int (nI st)), some (.int (nI i)), some (.int (nI p)), some (.int (-1)), some (.int (nI j))] [] (σF (τL ρ), S1, G) (fun r h' => ∃ S' n l, h' = (σF (τL ρ), S', G) ∧ r = some (.int (nI n)) ∧ LI S S' (hD h) (hLo h) (lpN h kd) k n l) := by
            refine xloop 8 (fun j hj ihj => ?_) ?_
            · skip
              refine xA.iload rfl rfl rfl ?_
              refine xA.bipush (v := 8) rfl (by decide) rfl ?_
              refine xA.icmp_ge (tgt := 220) rfl rfl rfl (fun h171 => ?_) (fun h171 => ?_)
              · exact absurd h171 (nI_ge (b := 8) hj (by decide))
              · refine xA.iload rfl rfl rfl ?_
                refine xA.if_ge (tgt := 220) rfl rfl rfl (fun h176 => ?_) (fun h176 => ?_)
                · exact absurd h176 (by decide)
                · refine xA.aload_n (i := 3) rfl rfl rfl rfl ?_
                  refine xA.iload rfl rfl rfl ?_
                  refine xA.iload rfl rfl rfl ?_
                  refine xA.iload rfl rfl rfl ?_
                  refine xA.bipush (v := 7) rfl (by decide) rfl ?_
                  refine xA.iload rfl rfl rfl ?_
                  refine xA.imul rfl rfl ?_
                  refine xA.topi (nI_mul 7 j) ?_
                  refine xA.iadd rfl rfl ?_
                  refine xA.topi (nI_add _ _) ?_
                  refine xA.bipush (v := 8) rfl (by decide) rfl ?_
                  refine xA.irem rfl (by decide) rfl ?_
                  refine xA.topi (nI_rem (b := 8) (by omega) (by decide) (by decide)) ?_
                  refine xA.callSi (As := [_, _, _, _]) rfl k11_27 okL_step rfl rfl (Nat.le_of_ble_eq_true rfl) (c_L_step d S1 G h (by rw [hf 54 (by decide) (by decide) (by decide)]; exact hh) hlo hba kd (lSp l (lN' l - 1) / 6) (lSp l (lN' l - 1) % 6) ((p + 7 * j) % 8) hkd (by omega) (by omega) (by omega)) rfl rfl ?_
                  refine xA.if_lt (tgt := 214) rfl rfl rfl (fun h198 => ?_) (fun h198 => ?_)
                  · skip
                    refine xA.iinc (L' := [_, _, _, _, _, _, _, _, _, _, _, _, _, _, _, _]) rfl rfl (nI_1 j) rfl rfl ?_
                    refine xA.goto (q := 167) rfl rfl ?_
                    first
                    | exact ihj
                    | (cases hz : nxH (hD h) (hLo h) (lSp l (lN' l - 1) / 6) (lSp l (lN' l - 1) % 6) ((p + 7 * j) % 8) (lpN h kd) with
                       | none => rw [hz] at h198; exact absurd (by decide) h198
                       | some q => exact found2 _ q (j + 1) (Nat.mod_lt _ (by decide)) (by omega) hz)
                  · skip
                    refine xA.iload rfl rfl rfl ?_
                    refine xA.bipush (v := 7) rfl (by decide) rfl ?_
                    refine xA.iload rfl rfl rfl ?_
                    refine xA.imul rfl rfl ?_
                    refine xA.topi (nI_mul 7 j) ?_
                    refine xA.iadd rfl rfl ?_
                    refine xA.topi (nI_add _ _) ?_
                    refine xA.bipush (v := 8) rfl (by decide) rfl ?_
                    refine xA.irem rfl (by decide) rfl ?_
                    refine xA.topi (nI_rem (b := 8) (by omega) (by decide) (by decide)) ?_
                    refine xA.istore (L' := [_, _, _, _, _, _, _, _, _, _, _, _, _, _, _, _]) rfl (Nat.le_of_ble_eq_true rfl) rfl rfl ?_
                    refine xA.iinc (L' := [_, _, _, _, _, _, _, _, _, _, _, _, _, _, _, _]) rfl rfl (nI_1 j) rfl rfl ?_
                    refine xA.goto (q := 167) rfl rfl ?_
                    first
                    | exact ihj
                    | (cases hz : nxH (hD h) (hLo h) (lSp l (lN' l - 1) / 6) (lSp l (lN' l - 1) % 6) ((p + 7 * j) % 8) (lpN h kd) with
                       | none => rw [hz] at h198; exact absurd (by decide) h198
                       | some q => exact found2 _ q (j + 1) (Nat.mod_lt _ (by decide)) (by omega) hz)
            · skip
              refine xA.iload rfl rfl rfl ?_
              refine xA.bipush (v := 8) rfl (by decide) rfl ?_
              refine xA.icmp_ge (tgt := 220) rfl rfl rfl (fun h171 => ?_) (fun h171 => ?_)
              · exact lost 8
              · exact absurd (nI_le (a := 8) (b := 8) (Nat.le_refl _) (by decide)) h171
          refine xA.iconst (v := (-1)) rfl (by decide) rfl ?_
          refine xA.istore (L' := [_, _, _, _, _, _, _, _, _, _, _, _, _, _, _, _]) rfl (Nat.le_of_ble_eq_true rfl) rfl rfl ?_
          refine xA.iconst (v := 0) rfl (by decide) rfl ?_
          refine xA.istore (L' := [_, _, _, _, _, _, _, _, _, _, _, _, _, _, _, _]) rfl (Nat.le_of_ble_eq_true rfl) rfl rfl ?_
          exact inner 0 (Nat.zero_le _)
        · refine xA.iload_n (i := 1) rfl rfl rfl rfl ?_
          refine xA.goto (q := 146) rfl rfl ?_
          refine xA.iconst (v := 3) rfl (by decide) rfl ?_
          refine xA.iload rfl rfl rfl ?_
          refine xA.bipush (v := 8) rfl (by decide) rfl ?_
          refine xA.irem rfl (by decide) rfl ?_
          refine xA.topi (nI_rem (b := 8) (by omega) (by decide) (by decide)) ?_
          refine xA.imul rfl rfl ?_
          refine xA.topi (nI_mul 3 _) ?_
          refine xA.ishr rfl rfl ?_
          refine xA.bipush (v := 8) rfl (by decide) rfl ?_
          refine xA.at (N := 8) rfl k11_14 rfl (Nat.le_of_ble_eq_true rfl) (Nat.le_of_ble_eq_true rfl) (Nat.le_of_ble_eq_true rfl) (rfl) (by decide) (by decide) rfl (fun p hp => ?_)
          refine xA.istore (L' := [_, _, _, _, _, _, _, _, _, _, _, _, _, _, _, _]) rfl (Nat.le_of_ble_eq_true rfl) rfl rfl ?_
          have found : ∀ s q j : Nat, s < 8 → nxH (hD h) (hLo h) (lSp l (lN' l - 1) / 6) (lSp l (lN' l - 1) % 6) s (lpN h kd) = some q → xA none (d + 2) mL_lifeText 0 0 0 0 220 [some (.int (x)), some (.int (y)), some (.int (z)), some (.ref 54), some (.int (nI kd)), some (.int (nI k)), some (.ref 55), some (.ref 56), some (.ref 57), some (.int (nI (e8 (lSp l (lN' l - 1))))), some (.int (nI n)), some (.int (nI st)), some (.int (nI i)), some (.int (nI p)), some (.int (nI s)), some (.int (nI j))] [] (σF (τL ρ), S1, G) (fun r h' => ∃ S' n l, h' = (σF (τL ρ), S', G) ∧ r = some (.int (nI n)) ∧ LI S S' (hD h) (hLo h) (lpN h kd) k n l) := by
            intro s q j hs hq
            refine xA.iload rfl rfl rfl ?_
            refine xA.if_ge (tgt := 228) rfl rfl rfl (fun h222 => ?_) (fun h222 => ?_)
            · skip
              refine xA.aload_n (i := 3) rfl rfl rfl rfl ?_
              refine xA.iload rfl rfl rfl ?_
              refine xA.iload rfl rfl rfl ?_
              refine xA.iload rfl rfl rfl ?_
              refine xA.callSi (As := [_, _, _, _]) rfl k11_27 okL_step rfl rfl (Nat.le_of_ble_eq_true rfl) (c_L_step d S1 G h (by rw [hf 54 (by decide) (by decide) (by decide)]; exact hh) hlo hba kd (lSp l (lN' l - 1) / 6) (lSp l (lN' l - 1) % 6) s hkd (by omega) (by omega) (by omega)) rfl rfl ?_
              refine xA.topi (show _ = nI (e8 q) from by rw [hq]; rfl) ?_
              refine xA.istore (L' := [_, _, _, _, _, _, _, _, _, _, _, _, _, _, _, _]) rfl (Nat.le_of_ble_eq_true rfl) rfl rfl ?_
              refine xA.aload rfl rfl rfl ?_
              refine xA.bipush (v := 17) rfl (by decide) rfl ?_
              refine xA.iload rfl rfl rfl ?_
              refine xA.imul rfl rfl ?_
              refine xA.topi (nI_mul 17 k) ?_
              refine xA.aload rfl rfl rfl ?_
              refine xA.iconst (v := 5) rfl (by decide) rfl ?_
              refine xA.iload rfl rfl rfl ?_
              refine xA.iadd rfl rfl ?_
              refine xA.topi (nI_add 5 k) ?_
              refine xA.dup2 rfl rfl rfl rfl ?_
              refine xA.iald rfl rfl (vp_in_nI (by omega) (by omega)) rfl ?_
              refine xA.topi (rdA (by omega) hrl.1) ?_
              refine xA.dup_x2 rfl rfl rfl rfl rfl ?_
              refine xA.iconst (v := 1) rfl (by decide) rfl ?_
              refine xA.iadd rfl rfl ?_
              refine xA.topi (nI_1 _) ?_
              refine xA.iast rfl rfl (vp_in_nI (by omega) (by omega)) rfl ?_
              rw [nI_clamp (show 5 + k < 2 ^ 31 by omega)]
              refine xA.iadd rfl rfl ?_
              refine xA.topi (nI_add _ _) ?_
              refine xA.iload rfl rfl rfl ?_
              refine xA.iast rfl rfl (vp_in_nI (by omega) (by omega)) rfl ?_
              rw [nI_clamp (show 17 * k + lN' l < 2 ^ 31 by omega)]
              refine xA.aload rfl rfl rfl ?_
              refine xA.iload rfl rfl rfl ?_
              refine xA.iinc (L' := [_, _, _, _, _, _, _, _, _, _, _, _, _, _, _, _]) rfl rfl (nI_1 n) rfl rfl ?_
              refine xA.iload rfl rfl rfl ?_
              refine xA.bipush (v := 6) rfl (by decide) rfl ?_
              refine xA.icmp_ne (tgt := 282) rfl rfl rfl (fun h274 => ?_) (fun h274 => ?_)
              · rw [show (6 : Int32) = nI 6 from rfl, nI_eq (by omega) (by omega)] at h274
                refine xA.iload rfl rfl rfl ?_
                refine xA.bipush (v := 7) rfl (by decide) rfl ?_
                refine xA.icmp_ne (tgt := 294) rfl rfl rfl (fun h286 => ?_) (fun h286 => ?_)
                · rw [show (7 : Int32) = nI 7 from rfl, nI_eq (by omega) (by omega)] at h286
                  refine xA.bipush (v := 48) rfl (by decide) rfl ?_
                  refine xA.iload rfl rfl rfl ?_
                  refine xA.iadd rfl rfl ?_
                  refine xA.topi (nI_add 48 s) ?_
                  refine xA.iast rfl rfl (vp_in_nI (by omega) (by omega)) rfl ?_
                  rw [nI_clamp (show n < 2 ^ 31 by omega)]
                  refine xA.iinc (L' := [_, _, _, _, _, _, _, _, _, _, _, _, _, _, _, _]) rfl rfl (nI_1 i) rfl rfl ?_
                  refine xA.goto (q := 127) rfl rfl ?_
                  first
                  | (subst h274; exact ih _ (n + 1) (lnext (hD h) l 6 q) q (hi.next hlp (by omega) hs hq) (by omega) nu_same.symm _ _ _)
                  | (subst h286; exact ih _ (n + 1) (lnext (hD h) l 7 q) q (hi.next hlp (by omega) hs hq) (by omega) nu_same.symm _ _ _)
                  | (have hL := hi.next hlp (by omega) hs hq
                     rw [show ltr s = 48 + s from by unfold ltr; rw [if_neg h274, if_neg h286]] at hL
                     exact ih _ (n + 1) (lnext (hD h) l s q) q hL (by omega) nu_same.symm _ _ _)
                · rw [show (7 : Int32) = nI 7 from rfl, nI_eq (by omega) (by omega)] at h286
                  refine xA.bipush (v := 116) rfl (by decide) rfl ?_
                  refine xA.topi ((rfl : (116 : Int32) = nI 116)) ?_
                  refine xA.goto (q := 299) rfl rfl ?_
                  refine xA.iast rfl rfl (vp_in_nI (by omega) (by omega)) rfl ?_
                  rw [nI_clamp (show n < 2 ^ 31 by omega)]
                  refine xA.iinc (L' := [_, _, _, _, _, _, _, _, _, _, _, _, _, _, _, _]) rfl rfl (nI_1 i) rfl rfl ?_
                  refine xA.goto (q := 127) rfl rfl ?_
                  first
                  | (subst h274; exact ih _ (n + 1) (lnext (hD h) l 6 q) q (hi.next hlp (by omega) hs hq) (by omega) nu_same.symm _ _ _)
                  | (subst h286; exact ih _ (n + 1) (lnext (hD h) l 7 q) q (hi.next hlp (by omega) hs hq) (by omega) nu_same.symm _ _ _)
                  | (have hL := hi.next hlp (by omega) hs hq
                     rw [show ltr s = 48 + s from by unfold ltr; rw [if_neg h274, if_neg h286]] at hL
                     exact ih _ (n + 1) (lnext (hD h) l s q) q hL (by omega) nu_same.symm _ _ _)
              · rw [show (6 : Int32) = nI 6 from rfl, nI_eq (by omega) (by omega)] at h274
                refine xA.bipush (v := 46) rfl (by decide) rfl ?_
                refine xA.topi ((rfl : (46 : Int32) = nI 46)) ?_
                refine xA.goto (q := 299) rfl rfl ?_
                refine xA.iast rfl rfl (vp_in_nI (by omega) (by omega)) rfl ?_
                rw [nI_clamp (show n < 2 ^ 31 by omega)]
                refine xA.iinc (L' := [_, _, _, _, _, _, _, _, _, _, _, _, _, _, _, _]) rfl rfl (nI_1 i) rfl rfl ?_
                refine xA.goto (q := 127) rfl rfl ?_
                first
                | (subst h274; exact ih _ (n + 1) (lnext (hD h) l 6 q) q (hi.next hlp (by omega) hs hq) (by omega) nu_same.symm _ _ _)
                | (subst h286; exact ih _ (n + 1) (lnext (hD h) l 7 q) q (hi.next hlp (by omega) hs hq) (by omega) nu_same.symm _ _ _)
                | (have hL := hi.next hlp (by omega) hs hq
                   rw [show ltr s = 48 + s from by unfold ltr; rw [if_neg h274, if_neg h286]] at hL
                   exact ih _ (n + 1) (lnext (hD h) l s q) q hL (by omega) nu_same.symm _ _ _)
            · skip
              exact absurd (nI_pos' (by omega)) h222
          have lost : ∀ j : Nat, xA none (d + 2) mL_lifeText 0 0 0 0 220 [some (.int (x)), some (.int (y)), some (.int (z)), some (.ref 54), some (.int (nI kd)), some (.int (nI k)), some (.ref 55), some (.ref 56), some (.ref 57), some (.int (nI (e8 (lSp l (lN' l - 1))))), some (.int (nI n)), some (.int (nI st)), some (.int (nI i)), some (.int (nI p)), some (.int (-1)), some (.int (nI j))] [] (σF (τL ρ), S1, G) (fun r h' => ∃ S' n l, h' = (σF (τL ρ), S', G) ∧ r = some (.int (nI n)) ∧ LI S S' (hD h) (hLo h) (lpN h kd) k n l) := by
            intro j
            refine xA.iload rfl rfl rfl ?_
            refine xA.if_ge (tgt := 228) rfl rfl rfl (fun h222 => ?_) (fun h222 => ?_)
            · exact absurd h222 (by decide)
            · refine xA.goto (q := 300) rfl rfl ?_
              refine xA.iinc (L' := [_, _, _, _, _, _, _, _, _, _, _, _, _, _, _, _]) rfl rfl (nI_1 i) rfl rfl ?_
              refine xA.goto (q := 127) rfl rfl ?_
              exact ih S1 n l _ hi (by omega) rfl _ _ _
          have found2 : ∀ s q j : Nat, s < 8 → j ≤ 8 → nxH (hD h) (hLo h) (lSp l (lN' l - 1) / 6) (lSp l (lN' l - 1) % 6) s (lpN h kd) = some q → xA none (d + 2) mL_lifeText 0 0 0 0 167 [some (.int (x)), some (.int (y)), some (.int (z)), some (.ref 54), some (.int (nI kd)), some (.int (nI k)), some (.ref 55), some (.ref 56), some (.ref 57), some (.int (nI (e8 (lSp l (lN' l - 1))))), some (.int (nI n)), some (.int (nI st)), some (.int (nI i)), some (.int (nI p)), some (.int (nI s)), some (.int (nI j))] [] (σF (τL ρ), S1, G) (fun r h' => ∃ S' n l, h' = (σF (τL ρ), S', G) ∧ r = some (.int (nI n)) ∧ LI S S' (hD h) (hLo h) (lpN h kd) k n l) := by
            intro s q j hs hj hq
            refine xA.iload rfl rfl rfl ?_
            refine xA.bipush (v := 8) rfl (by decide) rfl ?_
            refine xA.icmp_ge (tgt := 220) rfl rfl rfl (fun h171 => ?_) (fun h171 => ?_)
            · exact found s q j hs hq
            · refine xA.iload rfl rfl rfl ?_
              refine xA.if_ge (tgt := 220) rfl rfl rfl (fun h176 => ?_) (fun h176 => ?_)
              · skip
                exact found s q j hs hq
              · skip
                exact absurd (nI_pos' (by omega)) h176
          have inner : ∀ j, j ≤ 8 → xA none (d + 2) mL_lifeText 0 0 0 0 167 [some (.int (x)), some (.int (y)), some (.int (z)), some (.ref 54), some (.int (nI kd)), some (.int (nI k)), some (.ref 55), some (.ref 56), some (.ref 57), some (.int (nI (e8 (lSp l (lN' l - 1))))), some (.int (nI n)), some (.int (nI st)), some (.int (nI i)), some (.int (nI p)), some (.int (-1)), some (.int (nI j))] [] (σF (τL ρ), S1, G) (fun r h' => ∃ S' n l, h' = (σF (τL ρ), S', G) ∧ r = some (.int (nI n)) ∧ LI S S' (hD h) (hLo h) (lpN h kd) k n l) := by
            refine xloop 8 (fun j hj ihj => ?_) ?_
            · skip
              refine xA.iload rfl rfl rfl ?_
              refine xA.bipush (v := 8) rfl (by decide) rfl ?_
              refine xA.icmp_ge (tgt := 220) rfl rfl rfl (fun h171 => ?_) (fun h171 => ?_)
              · exact absurd h171 (nI_ge (b := 8) hj (by decide))
              · refine xA.iload rfl rfl rfl ?_
                refine xA.if_ge (tgt := 220) rfl rfl rfl (fun h176 => ?_) (fun h176 => ?_)
                · exact absurd h176 (by decide)
                · refine xA.aload_n (i := 3) rfl rfl rfl rfl ?_
                  refine xA.iload rfl rfl rfl ?_
                  refine xA.iload rfl rfl rfl ?_
                  refine xA.iload rfl rfl rfl ?_
                  refine xA.bipush (v := 7) rfl (by decide) rfl ?_
                  refine xA.iload rfl rfl rfl ?_
                  refine xA.imul rfl rfl ?_
                  refine xA.topi (nI_mul 7 j) ?_
                  refine xA.iadd rfl rfl ?_
                  refine xA.topi (nI_add _ _) ?_
                  refine xA.bipush (v := 8) rfl (by decide) rfl ?_
                  refine xA.irem rfl (by decide) rfl ?_
                  refine xA.topi (nI_rem (b := 8) (by omega) (by decide) (by decide)) ?_
                  refine xA.callSi (As := [_, _, _, _]) rfl k11_27 okL_step rfl rfl (Nat.le_of_ble_eq_true rfl) (c_L_step d S1 G h (by rw [hf 54 (by decide) (by decide) (by decide)]; exact hh) hlo hba kd (lSp l (lN' l - 1) / 6) (lSp l (lN' l - 1) % 6) ((p + 7 * j) % 8) hkd (by omega) (by omega) (by omega)) rfl rfl ?_
                  refine xA.if_lt (tgt := 214) rfl rfl rfl (fun h198 => ?_) (fun h198 => ?_)
                  · skip
                    refine xA.iinc (L' := [_, _, _, _, _, _, _, _, _, _, _, _, _, _, _, _]) rfl rfl (nI_1 j) rfl rfl ?_
                    refine xA.goto (q := 167) rfl rfl ?_
                    first
                    | exact ihj
                    | (cases hz : nxH (hD h) (hLo h) (lSp l (lN' l - 1) / 6) (lSp l (lN' l - 1) % 6) ((p + 7 * j) % 8) (lpN h kd) with
                       | none => rw [hz] at h198; exact absurd (by decide) h198
                       | some q => exact found2 _ q (j + 1) (Nat.mod_lt _ (by decide)) (by omega) hz)
                  · skip
                    refine xA.iload rfl rfl rfl ?_
                    refine xA.bipush (v := 7) rfl (by decide) rfl ?_
                    refine xA.iload rfl rfl rfl ?_
                    refine xA.imul rfl rfl ?_
                    refine xA.topi (nI_mul 7 j) ?_
                    refine xA.iadd rfl rfl ?_
                    refine xA.topi (nI_add _ _) ?_
                    refine xA.bipush (v := 8) rfl (by decide) rfl ?_
                    refine xA.irem rfl (by decide) rfl ?_
                    refine xA.topi (nI_rem (b := 8) (by omega) (by decide) (by decide)) ?_
                    refine xA.istore (L' := [_, _, _, _, _, _, _, _, _, _, _, _, _, _, _, _]) rfl (Nat.le_of_ble_eq_true rfl) rfl rfl ?_
                    refine xA.iinc (L' := [_, _, _, _, _, _, _, _, _, _, _, _, _, _, _, _]) rfl rfl (nI_1 j) rfl rfl ?_
                    refine xA.goto (q := 167) rfl rfl ?_
                    first
                    | exact ihj
                    | (cases hz : nxH (hD h) (hLo h) (lSp l (lN' l - 1) / 6) (lSp l (lN' l - 1) % 6) ((p + 7 * j) % 8) (lpN h kd) with
                       | none => rw [hz] at h198; exact absurd (by decide) h198
                       | some q => exact found2 _ q (j + 1) (Nat.mod_lt _ (by decide)) (by omega) hz)
            · skip
              refine xA.iload rfl rfl rfl ?_
              refine xA.bipush (v := 8) rfl (by decide) rfl ?_
              refine xA.icmp_ge (tgt := 220) rfl rfl rfl (fun h171 => ?_) (fun h171 => ?_)
              · exact lost 8
              · exact absurd (nI_le (a := 8) (b := 8) (Nat.le_refl _) (by decide)) h171
          refine xA.iconst (v := (-1)) rfl (by decide) rfl ?_
          refine xA.istore (L' := [_, _, _, _, _, _, _, _, _, _, _, _, _, _, _, _]) rfl (Nat.le_of_ble_eq_true rfl) rfl rfl ?_
          refine xA.iconst (v := 0) rfl (by decide) rfl ?_
          refine xA.istore (L' := [_, _, _, _, _, _, _, _, _, _, _, _, _, _, _, _]) rfl (Nat.le_of_ble_eq_true rfl) rfl rfl ?_
          exact inner 0 (Nat.zero_le _)
    · intro S1 n l a hi hn3 ea x13 x14 x15
      subst ea
      refine xA.iload rfl rfl rfl ?_
      refine xA.iload rfl rfl rfl ?_
      refine xA.icmp_ge (tgt := 306) rfl rfl rfl (fun h131 => ?_) (fun h131 => ?_)
      · refine xA.iload rfl rfl rfl ?_
        exact xA.iret rfl rfl rfl ⟨S1, n, l, rfl, rfl, hi⟩
      · exact absurd (nI_le (Nat.le_refl _) (by omega)) h131
  refine xA.bipush (v := 8) rfl (by decide) rfl ?_
  refine xA.iconst (v := 3) rfl (by decide) rfl ?_
  refine xA.iload_n (i := 0) rfl rfl rfl rfl ?_
  refine xA.bipush (v := 50) rfl (by decide) rfl ?_
  refine xA.at (N := 50) rfl k11_14 rfl (Nat.le_of_ble_eq_true rfl) (Nat.le_of_ble_eq_true rfl) (Nat.le_of_ble_eq_true rfl) (rfl) (by decide) (by decide) rfl (fun m0 hm0 => ?_)
  refine xA.iadd rfl rfl ?_
  refine xA.topi (nI_add 3 m0) ?_
  refine xA.imul rfl rfl ?_
  refine xA.topi (nI_mul 8 _) ?_
  have rest : ∀ r M, r < 6 → M < 60 → xA none (d + 2) mL_lifeText 0 0 0 0 38 [some (.int (x)), some (.int (y)), some (.int (z)), some (.ref 54), some (.int (nI kd)), some (.int (nI k)), some (.ref 55), some (.ref 56), some (.ref 57), none, none, none, none, none, none, none] [.int (nI r), .int (nI (8 * M))] (σF (τL ρ), S, G) (fun r h' => ∃ S' n l, h' = (σF (τL ρ), S', G) ∧ r = some (.int (nI n)) ∧ LI S S' (hD h) (hLo h) (lpN h kd) k n l) := by
    intro r M hr hM
    refine xA.iadd rfl rfl ?_
    refine xA.topi (show _ = nI (e8 (M * 6 + r)) from by rw [e8_mk hr, nI_add]; congr 1; omega) ?_
    refine xA.istore (L' := [_, _, _, _, _, _, _, _, _, _, _, _, _, _, _, _]) rfl (Nat.le_of_ble_eq_true rfl) rfl rfl ?_
    refine xA.iconst (v := 0) rfl (by decide) rfl ?_
    refine xA.istore (L' := [_, _, _, _, _, _, _, _, _, _, _, _, _, _, _, _]) rfl (Nat.le_of_ble_eq_true rfl) rfl rfl ?_
    refine xA.aload rfl rfl rfl ?_
    refine xA.iload rfl rfl rfl ?_
    refine xA.iinc (L' := [_, _, _, _, _, _, _, _, _, _, _, _, _, _, _, _]) rfl rfl (nI_1 0) rfl rfl ?_
    refine xA.bipush (v := 48) rfl (by decide) rfl ?_
    refine xA.iload rfl rfl rfl ?_
    refine xA.bipush (v := 80) rfl (by decide) rfl ?_
    refine xA.idiv rfl (by decide) rfl ?_
    refine xA.topi (show _ = nI (M / 10) from by rw [e8_mk hr, show (80 : Int32) = nI 80 from rfl, nI_div (by omega) (by decide) (by decide)]; congr 1; omega) ?_
    refine xA.iadd rfl rfl ?_
    refine xA.topi (nI_add 48 _) ?_
    refine xA.iast rfl rfl (vp_in_nI (n := 0) (by decide) (by decide)) rfl ?_
    rw [show (0 : Int32).toNatClampNeg = 0 from rfl]
    refine xA.aload rfl rfl rfl ?_
    refine xA.iload rfl rfl rfl ?_
    refine xA.iinc (L' := [_, _, _, _, _, _, _, _, _, _, _, _, _, _, _, _]) rfl rfl (nI_1 (0 + 1)) rfl rfl ?_
    refine xA.bipush (v := 48) rfl (by decide) rfl ?_
    refine xA.iload rfl rfl rfl ?_
    refine xA.bipush (v := 8) rfl (by decide) rfl ?_
    refine xA.idiv rfl (by decide) rfl ?_
    refine xA.topi (show _ = nI M from by rw [e8_mk hr]; exact d8_div hM hr) ?_
    refine xA.bipush (v := 10) rfl (by decide) rfl ?_
    refine xA.irem rfl (by decide) rfl ?_
    refine xA.topi (nI_rem (b := 10) (by omega) (by decide) (by decide)) ?_
    refine xA.iadd rfl rfl ?_
    refine xA.topi (nI_add 48 _) ?_
    refine xA.iast rfl rfl (vp_in_nI (n := 1) (by decide) (by decide)) rfl ?_
    rw [nI_clamp (show 0 + 1 < 2 ^ 31 by omega)]
    refine xA.aload rfl rfl rfl ?_
    refine xA.iload rfl rfl rfl ?_
    refine xA.iinc (L' := [_, _, _, _, _, _, _, _, _, _, _, _, _, _, _, _]) rfl rfl (nI_1 (0 + 1 + 1)) rfl rfl ?_
    refine xA.bipush (v := 48) rfl (by decide) rfl ?_
    refine xA.iload rfl rfl rfl ?_
    refine xA.bipush (v := 8) rfl (by decide) rfl ?_
    refine xA.irem rfl (by decide) rfl ?_
    refine xA.topi (show _ = nI r from by rw [e8_mk hr]; exact d8_mod hM hr) ?_
    refine xA.iadd rfl rfl ?_
    refine xA.topi (nI_add 48 _) ?_
    refine xA.iast rfl rfl (vp_in_nI (n := 2) (by decide) (by decide)) rfl ?_
    rw [nI_clamp (show 0 + 1 + 1 < 2 ^ 31 by omega)]
    refine xA.aload rfl rfl rfl ?_
    refine xA.iconst (v := 5) rfl (by decide) rfl ?_
    refine xA.iload rfl rfl rfl ?_
    refine xA.iadd rfl rfl ?_
    refine xA.topi (nI_add 5 k) ?_
    refine xA.iconst (v := 1) rfl (by decide) rfl ?_
    refine xA.iast rfl rfl (vp_in_nI (by omega) (by omega)) rfl ?_
    rw [nI_clamp (show 5 + k < 2 ^ 31 by omega)]
    refine xA.aload rfl rfl rfl ?_
    refine xA.bipush (v := 17) rfl (by decide) rfl ?_
    refine xA.iload rfl rfl rfl ?_
    refine xA.imul rfl rfl ?_
    refine xA.topi (nI_mul 17 k) ?_
    refine xA.iload rfl rfl rfl ?_
    refine xA.iast rfl rfl (vp_in_nI (by omega) (by omega)) rfl ?_
    rw [nI_clamp (show 17 * k < 2 ^ 31 by omega)]
    refine xA.iload_n (i := 0) rfl rfl rfl rfl ?_
    refine xA.bipush (v := 12) rfl (by decide) rfl ?_
    refine xA.ishr rfl rfl ?_
    refine xA.bipush (v := 17) rfl (by decide) rfl ?_
    refine xA.at (N := 17) rfl k11_14 rfl (Nat.le_of_ble_eq_true rfl) (Nat.le_of_ble_eq_true rfl) (Nat.le_of_ble_eq_true rfl) (rfl) (by decide) (by decide) rfl (fun st hst => ?_)
    refine xA.istore (L' := [_, _, _, _, _, _, _, _, _, _, _, _, _, _, _, _]) rfl (Nat.le_of_ble_eq_true rfl) rfl rfl ?_
    refine xA.iconst (v := 0) rfl (by decide) rfl ?_
    refine xA.istore (L' := [_, _, _, _, _, _, _, _, _, _, _, _, _, _, _, _]) rfl (Nat.le_of_ble_eq_true rfl) rfl rfl ?_
    exact loop st (by omega) 0 (Nat.zero_le _) _ 3 (1, fun _ => M * 6 + r, 0, 0) (M * 6 + r) (LI.first hM hr) (by omega) rfl _ _ _
  refine xA.iload_n (i := 0) rfl rfl rfl rfl ?_
  refine xA.bipush (v := 8) rfl (by decide) rfl ?_
  refine xA.ishr rfl rfl ?_
  refine xA.iconst (v := 3) rfl (by decide) rfl ?_
  refine xA.at (N := 3) rfl k11_14 rfl (Nat.le_of_ble_eq_true rfl) (Nat.le_of_ble_eq_true rfl) (Nat.le_of_ble_eq_true rfl) (rfl) (by decide) (by decide) rfl (fun e he => ?_)
  refine xA.if_ne (tgt := 29) rfl rfl rfl (fun h19 => ?_) (fun h19 => ?_)
  · refine xA.iload_n (i := 0) rfl rfl rfl rfl ?_
    refine xA.bipush (v := 9) rfl (by decide) rfl ?_
    refine xA.ishr rfl rfl ?_
    refine xA.bipush (v := 6) rfl (by decide) rfl ?_
    refine xA.at (N := 6) rfl k11_14 rfl (Nat.le_of_ble_eq_true rfl) (Nat.le_of_ble_eq_true rfl) (Nat.le_of_ble_eq_true rfl) (rfl) (by decide) (by decide) rfl (fun r hr => ?_)
    first
    | exact rest r (3 + m0) hr (by omega)
    | exact rest (hLo h) (3 + m0) hlo (by omega)
  · refine xA.aload_n (i := 3) rfl rfl rfl rfl ?_
    refine xA.bipush (v := 12) rfl (by decide) rfl ?_
    refine xA.iald rfl rfl (vp_in_nI (n := 12) (by decide) (by decide)) rfl ?_
    refine xA.topi (rdA (k := 12) (by decide) hh.1) ?_
    refine xA.goto (q := 38) rfl rfl ?_
    first
    | exact rest r (3 + m0) hr (by omega)
    | exact rest (hLo h) (3 + m0) hlo (by omega)

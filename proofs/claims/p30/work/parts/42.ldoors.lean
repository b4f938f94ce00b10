variable {ρ : List xSh}
/-! ===== doors ===== -/
set_option maxRecDepth 100000 in
set_option maxHeartbeats 1000000 in
theorem c_L_doors (d : Nat) (S : Nat → Nat → Int32) (G : Nat → Nat → Int64) (s : sS) (hw : LW S s) : xR (τL ρ) (d + 4) mL_doors [.ref 0, .ref 54, .ref 55, .ref 56] S G (some (.int 1)) S G := by
  refine xC.of okL_doors (Nat.le_of_ble_eq_true rfl) (L := [_, _, _, _, _, _, _, _, _, _, _]) rfl ?_
  obtain ⟨hc, hh, hr, hpl⟩ := id hw
  have hP3 := hpl.2.1
  have h4 : sP s ≤ 4 := by omega
  have hok := hw.hok.1
  have hnd := hok.2.1
  have r165 : ∀ u, u ≤ hNd (sH s) → ∀ (best : Int32) (mo : Nat), mo ≤ 3 → LKp s u best mo → ∀ x7 x8 x9 x10 : Option Value, xA none (d + 4) mL_doors 0 0 0 0 165 [some (.ref 0), some (.ref 54), some (.ref 55), some (.ref 56), some (.int best), some (.int (nI mo)), some (.int (dI u)), x7, x8, x9, x10] [] (σF (τL ρ), S, G) (fun r' h' => r' = some (.int 1) ∧ h' = (σF (τL ρ), S, G)) := by
    intro u
    induction u with
    | zero =>
      intro _ best mo hmo3 hlk x7 x8 x9 x10
      refine xA.iload rfl rfl rfl ?_
      refine xA.if_lt (tgt := 322) rfl rfl rfl (fun h167 => ?_) (fun h167 => ?_)
      · refine xA.aload_n (i := 0) rfl rfl rfl rfl ?_
        refine xA.callVi (As := []) rfl k11_140 okX9_locked rfl rfl rfl rfl (Nat.le_of_ble_eq_true rfl) (c_X9_locked (d + 1) S G s hc) rfl rfl ?_
        refine xA.topi (hlk.fin hw) ?_
        refine xA.iload rfl rfl rfl ?_
        refine xA.icmp_ne (tgt := 335) rfl rfl rfl (fun h328 => ?_) (fun h328 => ?_)
        · exact absurd rfl h328
        · refine xA.iconst (v := 1) rfl (by decide) rfl ?_
          refine xA.goto (q := 336) rfl rfl ?_
          exact xA.iret rfl rfl rfl ⟨rfl, rfl⟩
      · exact absurd (by decide) h167
    | succ u ihu =>
      intro hu best mo hmo3 hlk x7 x8 x9 x10
      have hon := on_tw hok (show u < hNd (sH s) by omega)
      have hus : usL s u ≤ 3 := Nat.le_trans (us_le s u _) hP3
      have inK : ∀ k, k ≤ sP s → ∀ x9 x10 : Option Value, xA none (d + 4) mL_doors 0 0 0 0 176 [some (.ref 0), some (.ref 54), some (.ref 55), some (.ref 56), some (.int best), some (.int (nI mo)), some (.int (nI u)), some (.int (nI (cn (fun p => thr (sH s) (sL s p) u) k))), some (.int (nI k)), x9, x10] [] (σF (τL ρ), S, G) (fun r' h' => r' = some (.int 1) ∧ h' = (σF (τL ρ), S, G)) := by
        refine xloop (sP s) (fun k hk ihk => ?_) ?_
        · intro x9 x10
          have hrl := (hpl.2.2.1 k hk).2.2.1
          have h17 := hrl.2.1
          have hg : ∀ i, i < lN' (sL s k) → lSp (sL s k) i < 360 := fun i hi => (hrl.2.2 i hi).2
          have inE : ∀ e, e ≤ lN' (sL s k) - 1 → xA none (d + 4) mL_doors 0 0 0 0 190 [some (.ref 0), some (.ref 54), some (.ref 55), some (.ref 56), some (.int best), some (.int (nI mo)), some (.int (nI u)), some (.int (nI (cn (fun p => thr (sH s) (sL s p) u) k))), some (.int (nI k)), some (.int (xb (0 < cn (ctB (sH s) (sL s k) u) e))), some (.int (nI (e + 1)))] [] (σF (τL ρ), S, G) (fun r' h' => r' = some (.int 1) ∧ h' = (σF (τL ρ), S, G)) := by
            refine xloop (lN' (sL s k) - 1) (fun e he ihe => ?_) ?_
            · skip
              refine xA.iload rfl rfl rfl ?_
              refine xA.aload_n (i := 2) rfl rfl rfl rfl ?_
              refine xA.iconst (v := 5) rfl (by decide) rfl ?_
              refine xA.iload rfl rfl rfl ?_
              refine xA.iadd rfl rfl ?_
              refine xA.topi (nI_add 5 k) ?_
              refine xA.iald rfl rfl (vp_in_nI (by omega) (by omega)) rfl ?_
              refine xA.topi (rdA (by omega) hrl.1) ?_
              refine xA.icmp_ge (tgt := 272) rfl rfl rfl (fun h198 => ?_) (fun h198 => ?_)
              · exact absurd h198 (nI_ge (by omega) (by omega))
              · refine xA.iload rfl rfl rfl ?_
                refine xA.iconst (v := 1) rfl (by decide) rfl ?_
                refine xA.aload_n (i := 3) rfl rfl rfl rfl ?_
                refine xA.bipush (v := 17) rfl (by decide) rfl ?_
                refine xA.iload rfl rfl rfl ?_
                refine xA.imul rfl rfl ?_
                refine xA.topi (nI_mul 17 k) ?_
                refine xA.iload rfl rfl rfl ?_
                refine xA.iadd rfl rfl ?_
                refine xA.topi (nI_add _ _) ?_
                refine xA.iald rfl rfl (vp_in_nI (by omega) (by omega)) rfl ?_
                refine xA.topi (rdA (by omega) (hrl.2.2 (e + 1) (by omega)).1) ?_
                refine xA.bipush (v := 8) rfl (by decide) rfl ?_
                refine xA.irem rfl (by decide) rfl ?_
                refine xA.topi (e8I_mod (hg _ (by omega))) ?_
                refine xA.ishl rfl rfl ?_
                refine xA.topi (nI_shl _ (by omega)) ?_
                refine xA.iconst (v := 1) rfl (by decide) rfl ?_
                refine xA.aload_n (i := 3) rfl rfl rfl rfl ?_
                refine xA.bipush (v := 17) rfl (by decide) rfl ?_
                refine xA.iload rfl rfl rfl ?_
                refine xA.imul rfl rfl ?_
                refine xA.topi (nI_mul 17 k) ?_
                refine xA.iload rfl rfl rfl ?_
                refine xA.iadd rfl rfl ?_
                refine xA.topi (nI_add _ _) ?_
                refine xA.iconst (v := 1) rfl (by decide) rfl ?_
                refine xA.isub rfl rfl ?_
                refine xA.topi (show nI (17 * k + (e + 1)) - nI 1 = nI (17 * k + e) from by rw [nI_sub (by omega)]; congr 1) ?_
                refine xA.iald rfl rfl (vp_in_nI (by omega) (by omega)) rfl ?_
                refine xA.topi (rdA (by omega) (hrl.2.2 e (by omega)).1) ?_
                refine xA.bipush (v := 8) rfl (by decide) rfl ?_
                refine xA.irem rfl (by decide) rfl ?_
                refine xA.topi (e8I_mod (hg _ (by omega))) ?_
                refine xA.ishl rfl rfl ?_
                refine xA.topi (nI_shl _ (by omega)) ?_
                refine xA.ior rfl rfl ?_
                refine xA.topi (nI_or _ _) ?_
                refine xA.iconst (v := 1) rfl (by decide) rfl ?_
                refine xA.aload_n (i := 1) rfl rfl rfl rfl ?_
                refine xA.bipush (v := 16) rfl (by decide) rfl ?_
                refine xA.iload rfl rfl rfl ?_
                refine xA.iadd rfl rfl ?_
                refine xA.topi (nI_add 16 u) ?_
                refine xA.iald rfl rfl (vp_in_nI (by omega) (by omega)) rfl ?_
                refine xA.topi (rdA (by omega) (hh.2.2.2.2.2.2 u (by omega)).1) ?_
                refine xA.ishl rfl rfl ?_
                refine xA.topi (nI_shl _ (by omega)) ?_
                refine xA.iconst (v := 1) rfl (by decide) rfl ?_
                refine xA.aload_n (i := 1) rfl rfl rfl rfl ?_
                refine xA.bipush (v := 26) rfl (by decide) rfl ?_
                refine xA.iload rfl rfl rfl ?_
                refine xA.iadd rfl rfl ?_
                refine xA.topi (nI_add 26 u) ?_
                refine xA.iald rfl rfl (vp_in_nI (by omega) (by omega)) rfl ?_
                refine xA.topi (rdA (by omega) (hh.2.2.2.2.2.2 u (by omega)).2) ?_
                refine xA.ishl rfl rfl ?_
                refine xA.topi (nI_shl _ (by omega)) ?_
                refine xA.ior rfl rfl ?_
                refine xA.topi (nI_or _ _) ?_
                refine xA.icmp_ne (tgt := 262) rfl rfl rfl (fun h255 => ?_) (fun h255 => ?_)
                · rw [nI_eq (by have := two_lt (lSp (sL s k) (e + 1) % 6) (by omega) (lSp (sL s k) e % 6) (by omega); omega) (by have := two_lt (hOn (sH s) u) hon.1 (hTw (sH s) u) hon.2.1; omega), two_bits (by omega) (by omega) hon.1 hon.2.1 hon.2.2] at h255
                  refine xA.iconst (v := 0) rfl (by decide) rfl ?_
                  refine xA.ior rfl rfl ?_
                  refine xA.topi (show _ = xb (0 < cn (ctB (sH s) (sL s k) u) (e + 1)) from by first | exact xb_or1 (decide_eq_true h255) | exact xb_or0 (fun q => h255 (of_decide_eq_true q))) ?_
                  refine xA.istore (L' := [_, _, _, _, _, _, _, _, _, _, _]) rfl (Nat.le_of_ble_eq_true rfl) rfl rfl ?_
                  refine xA.iinc (L' := [_, _, _, _, _, _, _, _, _, _, _]) rfl rfl (nI_1 _) rfl rfl ?_
                  refine xA.goto (q := 190) rfl rfl ?_
                  exact ihe
                · rw [nI_eq (by have := two_lt (lSp (sL s k) (e + 1) % 6) (by omega) (lSp (sL s k) e % 6) (by omega); omega) (by have := two_lt (hOn (sH s) u) hon.1 (hTw (sH s) u) hon.2.1; omega), two_bits (by omega) (by omega) hon.1 hon.2.1 hon.2.2] at h255
                  refine xA.iconst (v := 1) rfl (by decide) rfl ?_
                  refine xA.goto (q := 263) rfl rfl ?_
                  refine xA.ior rfl rfl ?_
                  refine xA.topi (show _ = xb (0 < cn (ctB (sH s) (sL s k) u) (e + 1)) from by first | exact xb_or1 (decide_eq_true h255) | exact xb_or0 (fun q => h255 (of_decide_eq_true q))) ?_
                  refine xA.istore (L' := [_, _, _, _, _, _, _, _, _, _, _]) rfl (Nat.le_of_ble_eq_true rfl) rfl rfl ?_
                  refine xA.iinc (L' := [_, _, _, _, _, _, _, _, _, _, _]) rfl rfl (nI_1 _) rfl rfl ?_
                  refine xA.goto (q := 190) rfl rfl ?_
                  exact ihe
            · skip
              refine xA.iload rfl rfl rfl ?_
              refine xA.aload_n (i := 2) rfl rfl rfl rfl ?_
              refine xA.iconst (v := 5) rfl (by decide) rfl ?_
              refine xA.iload rfl rfl rfl ?_
              refine xA.iadd rfl rfl ?_
              refine xA.topi (nI_add 5 k) ?_
              refine xA.iald rfl rfl (vp_in_nI (by omega) (by omega)) rfl ?_
              refine xA.topi (rdA (by omega) hrl.1) ?_
              refine xA.icmp_ge (tgt := 272) rfl rfl rfl (fun h198 => ?_) (fun h198 => ?_)
              · refine xA.iload rfl rfl rfl ?_
                refine xA.iload rfl rfl rfl ?_
                refine xA.if_eq (tgt := 283) rfl rfl rfl (fun h276 => ?_) (fun h276 => ?_)
                · rw [xb_eq0] at h276
                  refine xA.iconst (v := 0) rfl (by decide) rfl ?_
                  refine xA.iadd rfl rfl ?_
                  refine xA.topi (show _ = nI (cn (fun p => thr (sH s) (sL s p) u) (k + 1)) from by first | exact cn_t (decide_eq_true h276) | exact cn_f (decide_eq_false h276)) ?_
                  refine xA.istore (L' := [_, _, _, _, _, _, _, _, _, _, _]) rfl (Nat.le_of_ble_eq_true rfl) rfl rfl ?_
                  refine xA.iinc (L' := [_, _, _, _, _, _, _, _, _, _, _]) rfl rfl (nI_1 k) rfl rfl ?_
                  refine xA.goto (q := 176) rfl rfl ?_
                  exact ihk _ _
                · rw [xb_ne0] at h276
                  refine xA.iconst (v := 1) rfl (by decide) rfl ?_
                  refine xA.goto (q := 284) rfl rfl ?_
                  refine xA.iadd rfl rfl ?_
                  refine xA.topi (show _ = nI (cn (fun p => thr (sH s) (sL s p) u) (k + 1)) from by first | exact cn_t (decide_eq_true h276) | exact cn_f (decide_eq_false h276)) ?_
                  refine xA.istore (L' := [_, _, _, _, _, _, _, _, _, _, _]) rfl (Nat.le_of_ble_eq_true rfl) rfl rfl ?_
                  refine xA.iinc (L' := [_, _, _, _, _, _, _, _, _, _, _]) rfl rfl (nI_1 k) rfl rfl ?_
                  refine xA.goto (q := 176) rfl rfl ?_
                  exact ihk _ _
              · exact absurd (nI_le (show lN' (sL s k) ≤ lN' (sL s k) - 1 + 1 by omega) (by omega)) h198
          refine xA.iload rfl rfl rfl ?_
          refine xA.aload_n (i := 2) rfl rfl rfl rfl ?_
          refine xA.iconst (v := 0) rfl (by decide) rfl ?_
          refine xA.iald rfl rfl (vp_in_nI (n := 0) (by decide) (by decide)) rfl ?_
          refine xA.topi (rdA (k := 0) (by decide) hpl.1) ?_
          refine xA.icmp_ge (tgt := 293) rfl rfl rfl (fun h181 => ?_) (fun h181 => ?_)
          · exact absurd h181 (nI_ge hk (by omega))
          · refine xA.iconst (v := 0) rfl (by decide) rfl ?_
            refine xA.istore (L' := [_, _, _, _, _, _, _, _, _, _, _]) rfl (Nat.le_of_ble_eq_true rfl) rfl rfl ?_
            refine xA.iconst (v := 1) rfl (by decide) rfl ?_
            refine xA.istore (L' := [_, _, _, _, _, _, _, _, _, _, _]) rfl (Nat.le_of_ble_eq_true rfl) rfl rfl ?_
            have q := inE 0 (Nat.zero_le _)
            rw [show cn (ctB (sH s) (sL s k) u) 0 = 0 from rfl, xb_f (Nat.lt_irrefl 0)] at q
            exact q
        · intro x9 x10
          refine xA.iload rfl rfl rfl ?_
          refine xA.aload_n (i := 2) rfl rfl rfl rfl ?_
          refine xA.iconst (v := 0) rfl (by decide) rfl ?_
          refine xA.iald rfl rfl (vp_in_nI (n := 0) (by decide) (by decide)) rfl ?_
          refine xA.topi (rdA (k := 0) (by decide) hpl.1) ?_
          refine xA.icmp_ge (tgt := 293) rfl rfl rfl (fun h181 => ?_) (fun h181 => ?_)
          · show xA _ _ _ _ _ _ _ _ [_, _, _, _, _, _, _, some (.int (nI (usL s u))), _, _, _] _ _ _
            refine xA.iload rfl rfl rfl ?_
            refine xA.if_eq (tgt := 316) rfl rfl rfl (fun h295 => ?_) (fun h295 => ?_)
            · rw [show (0 : Int32) = nI 0 from rfl, nI_eq (by omega) (by omega)] at h295
              refine xA.iinc (L' := [_, _, _, _, _, _, _, _, _, _, _]) rfl rfl (dI_dec u (by omega)) rfl rfl ?_
              refine xA.goto (q := 165) rfl rfl ?_
              first
              | exact ihu (by omega) _ _ (by omega) (hlk.keep (Or.inl h295)) _ _ _ _
              | exact ihu (by omega) _ _ (by omega) (hlk.keep (Or.inr (Nat.not_le.mp h302))) _ _ _ _
              | exact ihu (by omega) _ _ (by omega) (hlk.take (by omega) h295 (Nat.not_lt.mpr h302)) _ _ _ _
            · rw [show (0 : Int32) = nI 0 from rfl, nI_eq (by omega) (by omega)] at h295
              refine xA.iload rfl rfl rfl ?_
              refine xA.iload rfl rfl rfl ?_
              refine xA.icmp_ge (tgt := 308) rfl rfl rfl (fun h302 => ?_) (fun h302 => ?_)
              · rw [nI_leI (by omega) (by omega)] at h302
                refine xA.iload rfl rfl rfl ?_
                refine xA.istore (L' := [_, _, _, _, _, _, _, _, _, _, _]) rfl (Nat.le_of_ble_eq_true rfl) rfl rfl ?_
                refine xA.iload rfl rfl rfl ?_
                refine xA.istore (L' := [_, _, _, _, _, _, _, _, _, _, _]) rfl (Nat.le_of_ble_eq_true rfl) rfl rfl ?_
                refine xA.iinc (L' := [_, _, _, _, _, _, _, _, _, _, _]) rfl rfl (dI_dec u (by omega)) rfl rfl ?_
                refine xA.goto (q := 165) rfl rfl ?_
                first
                | exact ihu (by omega) _ _ (by omega) (hlk.keep (Or.inl h295)) _ _ _ _
                | exact ihu (by omega) _ _ (by omega) (hlk.keep (Or.inr (Nat.not_le.mp h302))) _ _ _ _
                | exact ihu (by omega) _ _ (by omega) (hlk.take (by omega) h295 (Nat.not_lt.mpr h302)) _ _ _ _
              · rw [nI_leI (by omega) (by omega)] at h302
                refine xA.goto (q := 316) rfl rfl ?_
                refine xA.iinc (L' := [_, _, _, _, _, _, _, _, _, _, _]) rfl rfl (dI_dec u (by omega)) rfl rfl ?_
                refine xA.goto (q := 165) rfl rfl ?_
                first
                | exact ihu (by omega) _ _ (by omega) (hlk.keep (Or.inl h295)) _ _ _ _
                | exact ihu (by omega) _ _ (by omega) (hlk.keep (Or.inr (Nat.not_le.mp h302))) _ _ _ _
                | exact ihu (by omega) _ _ (by omega) (hlk.take (by omega) h295 (Nat.not_lt.mpr h302)) _ _ _ _
          · exact absurd (nI_le (Nat.le_refl _) (by omega)) h181
      refine xA.iload rfl rfl rfl ?_
      refine xA.if_lt (tgt := 322) rfl rfl rfl (fun h167 => ?_) (fun h167 => ?_)
      · exact absurd h167 (nI_pos (by omega))
      · refine xA.iconst (v := 0) rfl (by decide) rfl ?_
        refine xA.istore (L' := [_, _, _, _, _, _, _, _, _, _, _]) rfl (Nat.le_of_ble_eq_true rfl) rfl rfl ?_
        refine xA.iconst (v := 0) rfl (by decide) rfl ?_
        refine xA.istore (L' := [_, _, _, _, _, _, _, _, _, _, _]) rfl (Nat.le_of_ble_eq_true rfl) rfl rfl ?_
        exact inK 0 (Nat.zero_le _) _ _
  have loop : ∀ k, k ≤ sP s → ∀ x5 x6 x7 x8 x9 x10 : Option Value, xA none (d + 4) mL_doors 0 0 0 0 3 [some (.ref 0), some (.ref 54), some (.ref 55), some (.ref 56), some (.int (nI k)), x5, x6, x7, x8, x9, x10] [] (σF (τL ρ), S, G) (fun r' h' => r' = some (.int 1) ∧ h' = (σF (τL ρ), S, G)) := by
    refine xloop (sP s) (fun k hk ihk => ?_) ?_
    · intro x5 x6 x7 x8 x9 x10
      have hrl := (hpl.2.2.1 k hk).2.2.1
      have h17 := hrl.2.1
      have hg : ∀ i, i < lN' (sL s k) → lSp (sL s k) i < 360 := fun i hi => (hrl.2.2 i hi).2
      have inB : ∀ b, b ≤ sP s → ∀ x6 x7 x8 x9 x10 : Option Value, xA none (d + 4) mL_doors 0 0 0 0 14 [some (.ref 0), some (.ref 54), some (.ref 55), some (.ref 56), some (.int (nI k)), some (.int (nI b)), x6, x7, x8, x9, x10] [] (σF (τL ρ), S, G) (fun r' h' => r' = some (.int 1) ∧ h' = (σF (τL ρ), S, G)) := by
        refine xloop (sP s) (fun b hb ihb => ?_) ?_
        · intro x6 x7 x8 x9 x10
          have hrb := (hpl.2.2.1 b hb).2.2.1
          have hgb : ∀ i, i < lN' (sL s b) → lSp (sL s b) i < 360 := fun i hi => (hrb.2.2 i hi).2
          have h17b := hrb.2.1
          have inI : ∀ i, i ≤ lN' (sL s k) → ∀ v, MM (sL s k) (sL s b) i v → ∀ x8 x9 x10 : Option Value, xA none (d + 4) mL_doors 0 0 0 0 30 [some (.ref 0), some (.ref 54), some (.ref 55), some (.ref 56), some (.int (nI k)), some (.int (nI b)), some (.int (nI v)), some (.int (nI i)), x8, x9, x10] [] (σF (τL ρ), S, G) (fun r' h' => r' = some (.int 1) ∧ h' = (σF (τL ρ), S, G)) := by
            refine xloop (lN' (sL s k)) (fun i hi ihi => ?_) ?_
            · intro v hm x8 x9 x10
              have hgi := hg i hi
              have hle := hm.le
              have ht1 := thN_le (sL s b) (lSp (sL s k) i)
              refine xA.iload rfl rfl rfl ?_
              refine xA.aload_n (i := 2) rfl rfl rfl rfl ?_
              refine xA.iconst (v := 5) rfl (by decide) rfl ?_
              refine xA.iload rfl rfl rfl ?_
              refine xA.iadd rfl rfl ?_
              refine xA.topi (nI_add 5 k) ?_
              refine xA.iald rfl rfl (vp_in_nI (by omega) (by omega)) rfl ?_
              refine xA.topi (rdA (by omega) hrl.1) ?_
              refine xA.icmp_ge (tgt := 100) rfl rfl rfl (fun h38 => ?_) (fun h38 => ?_)
              · exact absurd h38 (nI_ge hi (by omega))
              · refine xA.aload_n (i := 2) rfl rfl rfl rfl ?_
                refine xA.aload_n (i := 3) rfl rfl rfl rfl ?_
                refine xA.iload rfl rfl rfl ?_
                refine xA.aload_n (i := 3) rfl rfl rfl rfl ?_
                refine xA.bipush (v := 17) rfl (by decide) rfl ?_
                refine xA.iload rfl rfl rfl ?_
                refine xA.imul rfl rfl ?_
                refine xA.topi (nI_mul 17 k) ?_
                refine xA.iload rfl rfl rfl ?_
                refine xA.iadd rfl rfl ?_
                refine xA.topi (nI_add _ _) ?_
                refine xA.iald rfl rfl (vp_in_nI (by omega) (by omega)) rfl ?_
                refine xA.topi (rdA (by omega) (hrl.2.2 i hi).1) ?_
                refine xA.callSi (As := [_, _, _, _]) rfl k11_56 okL_there rfl rfl (Nat.le_of_ble_eq_true rfl) (c_L_there (d + 3) S G b (by omega) (sL s b) hrb (lSp (sL s k) i) hgi) rfl rfl ?_
                refine xA.if_le (tgt := 94) rfl rfl rfl (fun h58 => ?_) (fun h58 => ?_)
                · rw [show (0 : Int32) = nI 0 from rfl, nI_leI (by omega) (by omega)] at h58
                  have h58 := Nat.not_lt.mpr h58
                  refine xA.iinc (L' := [_, _, _, _, _, _, _, _, _, _, _]) rfl rfl (nI_1 i) rfl rfl ?_
                  refine xA.goto (q := 30) rfl rfl ?_
                  first
                  | exact ihi _ (hm.skip h58) _ _ _
                  | exact ihi _ (hm.keep h76) _ _ _
                  | exact ihi _ (hm.take h58 h76 (by omega)) _ _ _
                · rw [show (0 : Int32) = nI 0 from rfl, nI_leI (by omega) (by omega)] at h58
                  have h58 := Nat.not_le.mp h58
                  refine xA.aload_n (i := 3) rfl rfl rfl rfl ?_
                  refine xA.bipush (v := 17) rfl (by decide) rfl ?_
                  refine xA.iload rfl rfl rfl ?_
                  refine xA.imul rfl rfl ?_
                  refine xA.topi (nI_mul 17 k) ?_
                  refine xA.iload rfl rfl rfl ?_
                  refine xA.iadd rfl rfl ?_
                  refine xA.topi (nI_add _ _) ?_
                  refine xA.iald rfl rfl (vp_in_nI (by omega) (by omega)) rfl ?_
                  refine xA.topi (rdA (by omega) (hrl.2.2 i hi).1) ?_
                  refine xA.bipush (v := 8) rfl (by decide) rfl ?_
                  refine xA.idiv rfl (by decide) rfl ?_
                  refine xA.topi (e8I_div hgi) ?_
                  refine xA.iload rfl rfl rfl ?_
                  refine xA.icmp_ge (tgt := 94) rfl rfl rfl (fun h76 => ?_) (fun h76 => ?_)
                  · rw [nI_leI (by omega) (by omega)] at h76
                    refine xA.iinc (L' := [_, _, _, _, _, _, _, _, _, _, _]) rfl rfl (nI_1 i) rfl rfl ?_
                    refine xA.goto (q := 30) rfl rfl ?_
                    first
                    | exact ihi _ (hm.skip h58) _ _ _
                    | exact ihi _ (hm.keep h76) _ _ _
                    | exact ihi _ (hm.take h58 h76 (by omega)) _ _ _
                  · rw [nI_leI (by omega) (by omega)] at h76
                    refine xA.aload_n (i := 3) rfl rfl rfl rfl ?_
                    refine xA.bipush (v := 17) rfl (by decide) rfl ?_
                    refine xA.iload rfl rfl rfl ?_
                    refine xA.imul rfl rfl ?_
                    refine xA.topi (nI_mul 17 k) ?_
                    refine xA.iload rfl rfl rfl ?_
                    refine xA.iadd rfl rfl ?_
                    refine xA.topi (nI_add _ _) ?_
                    refine xA.iald rfl rfl (vp_in_nI (by omega) (by omega)) rfl ?_
                    refine xA.topi (rdA (by omega) (hrl.2.2 i hi).1) ?_
                    refine xA.bipush (v := 8) rfl (by decide) rfl ?_
                    refine xA.idiv rfl (by decide) rfl ?_
                    refine xA.topi (e8I_div hgi) ?_
                    refine xA.istore (L' := [_, _, _, _, _, _, _, _, _, _, _]) rfl (Nat.le_of_ble_eq_true rfl) rfl rfl ?_
                    refine xA.iinc (L' := [_, _, _, _, _, _, _, _, _, _, _]) rfl rfl (nI_1 i) rfl rfl ?_
                    refine xA.goto (q := 30) rfl rfl ?_
                    first
                    | exact ihi _ (hm.skip h58) _ _ _
                    | exact ihi _ (hm.keep h76) _ _ _
                    | exact ihi _ (hm.take h58 h76 (by omega)) _ _ _
            · intro v hm x8 x9 x10
              have hle := hm.le
              refine xA.iload rfl rfl rfl ?_
              refine xA.aload_n (i := 2) rfl rfl rfl rfl ?_
              refine xA.iconst (v := 5) rfl (by decide) rfl ?_
              refine xA.iload rfl rfl rfl ?_
              refine xA.iadd rfl rfl ?_
              refine xA.topi (nI_add 5 k) ?_
              refine xA.iald rfl rfl (vp_in_nI (by omega) (by omega)) rfl ?_
              refine xA.topi (rdA (by omega) hrl.1) ?_
              refine xA.icmp_ge (tgt := 100) rfl rfl rfl (fun h38 => ?_) (fun h38 => ?_)
              · refine xA.aload_n (i := 0) rfl rfl rfl rfl ?_
                refine xA.iload rfl rfl rfl ?_
                refine xA.iload rfl rfl rfl ?_
                refine xA.callVi (As := [_, _]) rfl k11_137 okX9_meet rfl rfl rfl rfl (Nat.le_of_ble_eq_true rfl) (c_X9_meet d S G s hc (nI k) (nI b)) rfl rfl ?_
                refine xA.iload rfl rfl rfl ?_
                refine xA.iload rfl rfl rfl ?_
                refine xA.icmp_ne (tgt := 120) rfl rfl rfl (fun h112 => ?_) (fun h112 => ?_)
                · rw [nI_eq (by omega) (by omega)] at h112
                  refine xA.iload rfl rfl rfl ?_
                  refine xA.sipush (v := 999) rfl (by decide) rfl ?_
                  refine xA.icmp_ne (tgt := 132) rfl rfl rfl (fun h125 => ?_) (fun h125 => ?_)
                  · rw [show (999 : Int32) = nI 999 from rfl, nI_eq (by omega) (by omega)] at h125
                    refine xA.iload rfl rfl rfl ?_
                    refine xA.icmp_eq (tgt := 139) rfl rfl rfl (fun h134 => ?_) (fun h134 => ?_)
                    · refine xA.iinc (L' := [_, _, _, _, _, _, _, _, _, _, _]) rfl rfl (nI_1 b) rfl rfl ?_
                      refine xA.goto (q := 14) rfl rfl ?_
                      exact ihb _ _ _ _ _
                    · first
                      | exact absurd (a_meetE h112) h134
                      | exact absurd ((a_meet hk hb h4 h112).trans ((hm.fin hg hgb).symm.trans (if_pos h125))) h134
                      | exact absurd ((a_meet hk hb h4 h112).trans ((hm.fin hg hgb).symm.trans (if_neg h125))) h134
                  · rw [show (999 : Int32) = nI 999 from rfl, nI_eq (by omega) (by omega)] at h125
                    refine xA.iconst (v := (-1)) rfl (by decide) rfl ?_
                    refine xA.goto (q := 134) rfl rfl ?_
                    refine xA.icmp_eq (tgt := 139) rfl rfl rfl (fun h134 => ?_) (fun h134 => ?_)
                    · refine xA.iinc (L' := [_, _, _, _, _, _, _, _, _, _, _]) rfl rfl (nI_1 b) rfl rfl ?_
                      refine xA.goto (q := 14) rfl rfl ?_
                      exact ihb _ _ _ _ _
                    · first
                      | exact absurd (a_meetE h112) h134
                      | exact absurd ((a_meet hk hb h4 h112).trans ((hm.fin hg hgb).symm.trans (if_pos h125))) h134
                      | exact absurd ((a_meet hk hb h4 h112).trans ((hm.fin hg hgb).symm.trans (if_neg h125))) h134
                · rw [nI_eq (by omega) (by omega)] at h112
                  refine xA.bipush (v := (-101)) rfl (by decide) rfl ?_
                  refine xA.goto (q := 134) rfl rfl ?_
                  refine xA.icmp_eq (tgt := 139) rfl rfl rfl (fun h134 => ?_) (fun h134 => ?_)
                  · refine xA.iinc (L' := [_, _, _, _, _, _, _, _, _, _, _]) rfl rfl (nI_1 b) rfl rfl ?_
                    refine xA.goto (q := 14) rfl rfl ?_
                    exact ihb _ _ _ _ _
                  · first
                    | exact absurd (a_meetE h112) h134
                    | exact absurd ((a_meet hk hb h4 h112).trans ((hm.fin hg hgb).symm.trans (if_pos h125))) h134
                    | exact absurd ((a_meet hk hb h4 h112).trans ((hm.fin hg hgb).symm.trans (if_neg h125))) h134
              · exact absurd (nI_le (Nat.le_refl _) (by omega)) h38
          refine xA.iload rfl rfl rfl ?_
          refine xA.aload_n (i := 2) rfl rfl rfl rfl ?_
          refine xA.iconst (v := 0) rfl (by decide) rfl ?_
          refine xA.iald rfl rfl (vp_in_nI (n := 0) (by decide) (by decide)) rfl ?_
          refine xA.topi (rdA (k := 0) (by decide) hpl.1) ?_
          refine xA.icmp_ge (tgt := 145) rfl rfl rfl (fun h19 => ?_) (fun h19 => ?_)
          · exact absurd h19 (nI_ge hb (by omega))
          · refine xA.sipush (v := 999) rfl (by decide) rfl ?_
            refine xA.istore (L' := [_, _, _, _, _, _, _, _, _, _, _]) rfl (Nat.le_of_ble_eq_true rfl) rfl rfl ?_
            refine xA.iconst (v := 0) rfl (by decide) rfl ?_
            refine xA.istore (L' := [_, _, _, _, _, _, _, _, _, _, _]) rfl (Nat.le_of_ble_eq_true rfl) rfl rfl ?_
            exact inI 0 (Nat.zero_le _) 999 MM.zero _ _ _
        · intro x6 x7 x8 x9 x10
          refine xA.iload rfl rfl rfl ?_
          refine xA.aload_n (i := 2) rfl rfl rfl rfl ?_
          refine xA.iconst (v := 0) rfl (by decide) rfl ?_
          refine xA.iald rfl rfl (vp_in_nI (n := 0) (by decide) (by decide)) rfl ?_
          refine xA.topi (rdA (k := 0) (by decide) hpl.1) ?_
          refine xA.icmp_ge (tgt := 145) rfl rfl rfl (fun h19 => ?_) (fun h19 => ?_)
          · refine xA.iinc (L' := [_, _, _, _, _, _, _, _, _, _, _]) rfl rfl (nI_1 k) rfl rfl ?_
            refine xA.goto (q := 3) rfl rfl ?_
            exact ihk _ _ _ _ _ _
          · exact absurd (nI_le (Nat.le_refl _) (by omega)) h19
      refine xA.iload rfl rfl rfl ?_
      refine xA.aload_n (i := 2) rfl rfl rfl rfl ?_
      refine xA.iconst (v := 0) rfl (by decide) rfl ?_
      refine xA.iald rfl rfl (vp_in_nI (n := 0) (by decide) (by decide)) rfl ?_
      refine xA.topi (rdA (k := 0) (by decide) hpl.1) ?_
      refine xA.icmp_ge (tgt := 151) rfl rfl rfl (fun h8 => ?_) (fun h8 => ?_)
      · exact absurd h8 (nI_ge hk (by omega))
      · refine xA.iconst (v := 0) rfl (by decide) rfl ?_
        refine xA.istore (L' := [_, _, _, _, _, _, _, _, _, _, _]) rfl (Nat.le_of_ble_eq_true rfl) rfl rfl ?_
        exact inB 0 (Nat.zero_le _) _ _ _ _ _
    · intro x5 x6 x7 x8 x9 x10
      refine xA.iload rfl rfl rfl ?_
      refine xA.aload_n (i := 2) rfl rfl rfl rfl ?_
      refine xA.iconst (v := 0) rfl (by decide) rfl ?_
      refine xA.iald rfl rfl (vp_in_nI (n := 0) (by decide) (by decide)) rfl ?_
      refine xA.topi (rdA (k := 0) (by decide) hpl.1) ?_
      refine xA.icmp_ge (tgt := 151) rfl rfl rfl (fun h8 => ?_) (fun h8 => ?_)
      · refine xA.iconst (v := (-1)) rfl (by decide) rfl ?_
        refine xA.istore (L' := [_, _, _, _, _, _, _, _, _, _, _]) rfl (Nat.le_of_ble_eq_true rfl) rfl rfl ?_
        refine xA.iconst (v := 0) rfl (by decide) rfl ?_
        refine xA.istore (L' := [_, _, _, _, _, _, _, _, _, _, _]) rfl (Nat.le_of_ble_eq_true rfl) rfl rfl ?_
        refine xA.aload_n (i := 1) rfl rfl rfl rfl ?_
        refine xA.bipush (v := 14) rfl (by decide) rfl ?_
        refine xA.iald rfl rfl (vp_in_nI (n := 14) (by decide) (by decide)) rfl ?_
        refine xA.topi (rdA (k := 14) (by decide) hh.2.2.1) ?_
        refine xA.iconst (v := 1) rfl (by decide) rfl ?_
        refine xA.isub rfl rfl ?_
        refine xA.topi (dI_sub _ (by omega)) ?_
        refine xA.istore (L' := [_, _, _, _, _, _, _, _, _, _, _]) rfl (Nat.le_of_ble_eq_true rfl) rfl rfl ?_
        exact r165 _ (Nat.le_refl _) (-1) 0 (by decide) LKp.first _ _ _ _
      · exact absurd (nI_le (Nat.le_refl _) (by omega)) h8
  refine xA.iconst (v := 0) rfl (by decide) rfl ?_
  refine xA.istore (L' := [_, _, _, _, _, _, _, _, _, _, _]) rfl (Nat.le_of_ble_eq_true rfl) rfl rfl ?_
  exact loop 0 (Nat.zero_le _) _ _ _ _ _ _

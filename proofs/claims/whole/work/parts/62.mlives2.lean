/-! ===== the reference: lives by a seed, the walk ===== -/
set_option maxRecDepth 100000 in
set_option maxHeartbeats 1000000 in
theorem lv_tail (d : Nat) (S S1 : Nat → Nat → Int32) (G : Nat → Nat → Int64) (s : sS) (A : Int32) (n : Nat) (sp : Nat → Nat) (th sd : Int32) (hl : ltC S1 n sp th) (hsd : S1 54 36 = sd) (hm : MS S1 s) (hS : ∀ j, j < 54 → S1 j = S j) (kd : Nat) (r0 st sd0 w : Int32) (x6 x7 x8 x9 x10 x11 x12 : Option Value) (hA : A = if w = 0 then nI (sp (n - 1) / 6) else if w = 1 then nI (sp (n - 1) % 6) else if w = 2 then th else sd) : xA none (d + 3) mX10_lives 0 0 0 0 257 [some (.ref 54), some (.int (nI kd)), some (.int r0), some (.int st), some (.int sd0), some (.int w), x6, x7, x8, x9, x10, x11, x12] [] (σF, S1, G) (fun r h' => ∃ S' G', h' = (σF, S', G') ∧ r = some (.int A) ∧ MS S' s ∧ ∀ j, j < 54 → S' j = S j) := by
  have hn1 := hl.2.1
  have hn2 := hl.2.2.1
  have hat := hl.2.2.2.1 (n - 1) (by omega)
  refine xA.iload rfl rfl rfl ?_
  refine xA.if_ne (tgt := 276) rfl rfl rfl (fun h259 => ?_) (fun h259 => ?_)
  · refine xA.iload rfl rfl rfl ?_
    refine xA.iconst (v := 1) rfl (by decide) rfl ?_
    refine xA.icmp_ne (tgt := 296) rfl rfl rfl (fun h279 => ?_) (fun h279 => ?_)
    · refine xA.iload rfl rfl rfl ?_
      refine xA.iconst (v := 2) rfl (by decide) rfl ?_
      refine xA.icmp_ne (tgt := 309) rfl rfl rfl (fun h299 => ?_) (fun h299 => ?_)
      · refine xA.aload_n (i := 0) rfl rfl rfl rfl ?_
        refine xA.getI rfl f10_257 rfl rfl rfl ?_
        refine xA.topi (hsd) ?_
        exact xA.iret rfl rfl rfl ⟨S1, G, rfl, by rw [hA]; first | (rw [if_pos h259]; done) | (rw [if_neg h259, if_pos h279]; done) | (rw [if_neg h259, if_neg h279, if_pos h299]; done) | (rw [if_neg h259, if_neg h279, if_neg h299]; done), hm, hS⟩
      · refine xA.aload_n (i := 0) rfl rfl rfl rfl ?_
        refine xA.getI rfl f10_184 rfl rfl rfl ?_
        refine xA.topi (hl.2.2.2.2) ?_
        refine xA.goto (q := 313) rfl rfl ?_
        exact xA.iret rfl rfl rfl ⟨S1, G, rfl, by rw [hA]; first | (rw [if_pos h259]; done) | (rw [if_neg h259, if_pos h279]; done) | (rw [if_neg h259, if_neg h279, if_pos h299]; done) | (rw [if_neg h259, if_neg h279, if_neg h299]; done), hm, hS⟩
    · refine xA.aload_n (i := 0) rfl rfl rfl rfl ?_
      refine xA.getR rfl f10_55 rfl rfl rfl rfl ?_
      refine xA.aload_n (i := 0) rfl rfl rfl rfl ?_
      refine xA.getI rfl f10_181 rfl rfl rfl ?_
      refine xA.topi (hl.1) ?_
      refine xA.iconst (v := 1) rfl (by decide) rfl ?_
      refine xA.isub rfl rfl ?_
      refine xA.topi ((show nI n - 1 = nI (n - 1) from nI_sub (a := n) (b := 1) (by omega))) ?_
      refine xA.iald rfl rfl (vp_in_nI (by omega) (by omega)) rfl ?_
      refine xA.topi ((show S1 70 (nI (n - 1)).toNatClampNeg = nI (sp (n - 1) % 6) from by rw [nI_clamp (by omega)]; exact hat.2.1)) ?_
      refine xA.goto (q := 313) rfl rfl ?_
      exact xA.iret rfl rfl rfl ⟨S1, G, rfl, by rw [hA]; first | (rw [if_pos h259]; done) | (rw [if_neg h259, if_pos h279]; done) | (rw [if_neg h259, if_neg h279, if_pos h299]; done) | (rw [if_neg h259, if_neg h279, if_neg h299]; done), hm, hS⟩
  · refine xA.aload_n (i := 0) rfl rfl rfl rfl ?_
    refine xA.getR rfl f10_52 rfl rfl rfl rfl ?_
    refine xA.aload_n (i := 0) rfl rfl rfl rfl ?_
    refine xA.getI rfl f10_181 rfl rfl rfl ?_
    refine xA.topi (hl.1) ?_
    refine xA.iconst (v := 1) rfl (by decide) rfl ?_
    refine xA.isub rfl rfl ?_
    refine xA.topi ((show nI n - 1 = nI (n - 1) from nI_sub (a := n) (b := 1) (by omega))) ?_
    refine xA.iald rfl rfl (vp_in_nI (by omega) (by omega)) rfl ?_
    refine xA.topi ((show S1 69 (nI (n - 1)).toNatClampNeg = nI (sp (n - 1) / 6) from by rw [nI_clamp (by omega)]; exact hat.1)) ?_
    refine xA.goto (q := 313) rfl rfl ?_
    exact xA.iret rfl rfl rfl ⟨S1, G, rfl, by rw [hA]; first | (rw [if_pos h259]; done) | (rw [if_neg h259, if_pos h279]; done) | (rw [if_neg h259, if_neg h279, if_pos h299]; done) | (rw [if_neg h259, if_neg h279, if_neg h299]; done), hm, hS⟩
theorem cn_none {f : Nat → Bool} {n : Nat} (h : cn f n = 0) : ∀ i, i < n → f i = false := fun i hi => by
  cases e : f i
  · rfl
  · exact absurd (cn_pos.mpr ⟨i, hi, e⟩) (by omega)
set_option maxRecDepth 100000 in
set_option maxHeartbeats 2000000 in
theorem lv_loop (d : Nat) (S : Nat → Nat → Int32) (G : Nat → Nat → Int64) (s : sS) (hc : MS S s) (hr0 : ¬ sHr s = 0) (kd : Nat) (hk : kd < 5) (ss : Nat) (hss : ss ≤ 16) (r0 sd0 w A : Int32) (W : Nat × Int32 × Int32) (hW : A = if w = 0 then nI (W.1 / 6) else if w = 1 then nI (W.1 % 6) else if w = 2 then W.2.1 else W.2.2) : ∀ i, i ≤ ss → ∀ S1 sp th sd, ltC S1 (i + 1) sp th → S1 54 36 = sd → frV S S1 → wgo (hD (sH s)) (hLo (sH s)) (lpN (sH s) kd) (ss - i) (sp i) th sd = W → ∀ x8 x9 x10 x11 x12, xA none (d + 3) mX10_lives 0 0 0 0 87 [some (.ref 54), some (.int (nI kd)), some (.int r0), some (.int (nI ss)), some (.int sd0), some (.int w), some (.int 1), some (.int (nI i)), x8, x9, x10, x11, x12] [] (σF, S1, G) (fun r h' => ∃ S' G', h' = (σF, S', G') ∧ r = some (.int A) ∧ MS S' s ∧ ∀ j, j < 54 → S' j = S j) := by
  refine xloop ss (fun i hi ih => ?_) ?_
  · intro S1 sp th sd hl hsd hv hF x8 x9 x10 x11 x12
    obtain ⟨k, hk1⟩ : ∃ k, ss - i = k + 1 := ⟨ss - i - 1, by omega⟩
    rw [hk1, wgo] at hF
    refine xA.iload rfl rfl rfl ?_
    refine xA.iload_n (i := 3) rfl rfl rfl rfl ?_
    refine xA.icmp_ge (tgt := 257) rfl rfl rfl (fun h90 => ?_) (fun h90 => ?_)
    · exact absurd h90 (nI_ge hi (by omega))
    · refine xA.iload rfl rfl rfl ?_
      refine xA.if_eq (tgt := 257) rfl rfl rfl (fun h95 => ?_) (fun h95 => ?_)
      · exact absurd h95 (by decide)
      · refine xA.iconst (v := 0) rfl (by decide) rfl ?_
        refine xA.istore (L' := [_, _, _, _, _, _, _, _, _, _, _, _, _]) rfl (Nat.le_of_ble_eq_true rfl) rfl rfl ?_
        refine xA.iconst (v := 0) rfl (by decide) rfl ?_
        refine xA.istore (L' := [_, _, _, _, _, _, _, _, _, _, _, _, _]) rfl (Nat.le_of_ble_eq_true rfl) rfl rfl ?_
        refine lv_cnt d G s hr0 kd hk (i + 1) sp th (by omega) (sp i) rfl r0 (nI ss) sd0 w S1 (frV.ms hc hv) _ _ _ _ _ (fun S2 hl2 hf2 => ?_) 0 (Nat.zero_le _) S1 hl (frL.refl _)
        have hw8 : cn (mayF (hD (sH s)) (hLo (sH s)) (sp i / 6) (sp i % 6) (lpN (sH s) kd)) 8 ≤ 8 := cn_le _ _
        refine xA.iload rfl rfl rfl ?_
        refine xA.if_le (tgt := 146) rfl rfl rfl (fun h139 => ?_) (fun h139 => ?_)
        · have hw0 : cn (mayF (hD (sH s)) (hLo (sH s)) (sp i / 6) (sp i % 6) (lpN (sH s) kd)) 8 = 0 := by
            rcases Nat.eq_zero_or_pos (cn (mayF (hD (sH s)) (hLo (sH s)) (sp i / 6) (sp i % 6) (lpN (sH s) kd)) 8) with z | z
            · exact z
            · exact absurd h139 (by rw [Int32.le_iff_toInt_le, nI_toInt (by omega), Int32.toInt_zero]; omega)
          rw [if_pos hw0] at hF
          refine xA.iconst (v := 0) rfl (by decide) rfl ?_
          refine xA.istore (L' := [_, _, _, _, _, _, _, _, _, _, _, _, _]) rfl (Nat.le_of_ble_eq_true rfl) rfl rfl ?_
          refine xA.iload rfl rfl rfl ?_
          refine xA.if_eq (tgt := 163) rfl rfl rfl (fun h151 => ?_) (fun h151 => ?_)
          · refine xA.iconst (v := 0) rfl (by decide) rfl ?_
            refine xA.istore (L' := [_, _, _, _, _, _, _, _, _, _, _, _, _]) rfl (Nat.le_of_ble_eq_true rfl) rfl rfl ?_
            refine xA.iconst (v := (-1)) rfl (by decide) rfl ?_
            refine xA.istore (L' := [_, _, _, _, _, _, _, _, _, _, _, _, _]) rfl (Nat.le_of_ble_eq_true rfl) rfl rfl ?_
            refine xA.iconst (v := 0) rfl (by decide) rfl ?_
            refine xA.istore (L' := [_, _, _, _, _, _, _, _, _, _, _, _, _]) rfl (Nat.le_of_ble_eq_true rfl) rfl rfl ?_
            refine lv_none d G s hr0 kd hk (i + 1) sp th (by omega) (sp i) rfl r0 (nI ss) sd0 w S2 (frV.ms hc (hv.trans hf2.v)) (fun a ha => cn_none hw0 a ha) _ _ _ (fun S3 x12 hl3 hf3 => ?_) 0 (Nat.zero_le _) S2 hl2 (frL.refl _) _
            refine xA.iload rfl rfl rfl ?_
            refine xA.iconst (v := (-1)) rfl (by decide) rfl ?_
            refine xA.icmp_eq (tgt := 248) rfl rfl rfl (fun h231 => ?_) (fun h231 => ?_)
            · refine xA.iconst (v := 0) rfl (by decide) rfl ?_
              refine xA.istore (L' := [_, _, _, _, _, _, _, _, _, _, _, _, _]) rfl (Nat.le_of_ble_eq_true rfl) rfl rfl ?_
              refine xA.iinc (L' := [_, _, _, _, _, _, _, _, _, _, _, _, _]) rfl rfl (nI_1 i) rfl rfl ?_
              refine xA.goto (q := 87) rfl rfl ?_
              refine xA.iload rfl rfl rfl ?_
              refine xA.iload_n (i := 3) rfl rfl rfl rfl ?_
              refine xA.icmp_ge (tgt := 257) rfl rfl rfl (fun h90 => ?_) (fun h90 => ?_)
              · exact lv_tail d S S3 G s A (i + 1) sp th sd hl3 ((hf3.2 36 (by omega) (by omega)).trans ((hf2.2 36 (by omega) (by omega)).trans hsd)) (frV.ms hc ((hv.trans hf2.v).trans hf3.v)) (fun j hj => ((hv.trans hf2.v).trans hf3.v).1 j (by omega) (by omega) (by omega)) kd r0 (nI ss) sd0 w _ _ _ _ _ _ _ (by rw [hW, ← hF]; rfl)
              · refine xA.iload rfl rfl rfl ?_
                refine xA.if_eq (tgt := 257) rfl rfl rfl (fun h95 => ?_) (fun h95 => ?_)
                · exact lv_tail d S S3 G s A (i + 1) sp th sd hl3 ((hf3.2 36 (by omega) (by omega)).trans ((hf2.2 36 (by omega) (by omega)).trans hsd)) (frV.ms hc ((hv.trans hf2.v).trans hf3.v)) (fun j hj => ((hv.trans hf2.v).trans hf3.v).1 j (by omega) (by omega) (by omega)) kd r0 (nI ss) sd0 w _ _ _ _ _ _ _ (by rw [hW, ← hF]; rfl)
                · exact absurd rfl h95
            · exact absurd rfl h231
          · exact absurd rfl h151
        · have hw0 : 0 < cn (mayF (hD (sH s)) (hLo (sH s)) (sp i / 6) (sp i % 6) (lpN (sH s) kd)) 8 := by
            rcases Nat.eq_zero_or_pos (cn (mayF (hD (sH s)) (hLo (sH s)) (sp i / 6) (sp i % 6) (lpN (sH s) kd)) 8) with z | z
            · exact absurd (by rw [z]; decide) h139
            · exact z
          rw [if_neg (by omega)] at hF
          have hsd2 : S2 54 36 = sd := (hf2.2 36 (by omega) (by omega)).trans hsd
          obtain ⟨j, hj, ej⟩ := drN_nn (w := cn (mayF (hD (sH s)) (hLo (sH s)) (sp i / 6) (sp i % 6) (lpN (sH s) kd)) 8) (sdN_nn sd) hw0 hw8
          rw [ej, nI_clamp (by omega)] at hF
          have hp := pick_spec (f := (mayF (hD (sH s)) (hLo (sH s)) (sp i / 6) (sp i % 6) (lpN (sH s) kd))) 8 0 j (by simpa using hj)
          obtain ⟨q, hq⟩ := Option.isSome_iff_exists.mp hp.2.2
          rw [hq] at hF
          refine xA.iconst (v := 1) rfl (by decide) rfl ?_
          refine xA.goto (q := 147) rfl rfl ?_
          refine xA.istore (L' := [_, _, _, _, _, _, _, _, _, _, _, _, _]) rfl (Nat.le_of_ble_eq_true rfl) rfl rfl ?_
          refine xA.iload rfl rfl rfl ?_
          refine xA.if_eq (tgt := 163) rfl rfl rfl (fun h151 => ?_) (fun h151 => ?_)
          · exact absurd h151 (by decide)
          · refine xA.aload_n (i := 0) rfl rfl rfl rfl ?_
            refine xA.iload rfl rfl rfl ?_
            refine xA.callVi (As := [_]) rfl k10_272 okX10_draw rfl rfl rfl rfl (Nat.le_of_ble_eq_true rfl) (c_X10_draw (d + 2) _ G (cn (mayF (hD (sH s)) (hLo (sH s)) (sp i / 6) (sp i % 6) (lpN (sH s) kd)) 8) hw0 hw8) rfl rfl ?_
            refine xA.topi (show _ = nI j from by rw [hsd2]; exact ej) ?_
            refine xA.goto (q := 164) rfl rfl ?_
            refine xA.istore (L' := [_, _, _, _, _, _, _, _, _, _, _, _, _]) rfl (Nat.le_of_ble_eq_true rfl) rfl rfl ?_
            refine xA.iconst (v := (-1)) rfl (by decide) rfl ?_
            refine xA.istore (L' := [_, _, _, _, _, _, _, _, _, _, _, _, _]) rfl (Nat.le_of_ble_eq_true rfl) rfl rfl ?_
            refine xA.iconst (v := 0) rfl (by decide) rfl ?_
            refine xA.istore (L' := [_, _, _, _, _, _, _, _, _, _, _, _, _]) rfl (Nat.le_of_ble_eq_true rfl) rfl rfl ?_
            refine lv_srch d G s hr0 kd hk (i + 1) sp th (by omega) (sp i) rfl r0 (nI ss) sd0 w _ (frV.ms hc ((hv.trans hf2.v).trans (frV.sd _ _))) j _ _ _ (fun S3 x9 x12 hl3 hf3 => ?_) 0 (Nat.zero_le _) _ hl2.sd (frL.refl _) _ j (by omega) rfl (by simpa using hj)
            rw [hsd2] at hf3
            have hv3 := ((hv.trans hf2.v).trans (frV.sd _ _)).trans hf3.v
            refine xA.iload rfl rfl rfl ?_
            refine xA.iconst (v := (-1)) rfl (by decide) rfl ?_
            refine xA.icmp_eq (tgt := 248) rfl rfl rfl (fun h231 => ?_) (fun h231 => ?_)
            · exact absurd h231 (nI_m1 (by omega))
            · refine xA.aload_n (i := 0) rfl rfl rfl rfl ?_
              refine xA.iload_n (i := 1) rfl rfl rfl rfl ?_
              refine xA.iload rfl rfl rfl ?_
              refine xA.callV (As := [_, _]) (h := (σF, _, _)) rfl k10_200 okX10_step rfl rfl rfl rfl (Nat.le_of_ble_eq_true rfl) (c_step2 (d + 1) _ G s (frV.ms hc hv3) hr0 kd hk _ hp.2.1 (i + 1) sp th hl3 (by omega) (sp i) rfl q hq) (Nat.le_refl _) (Nat.le_refl _) rfl rfl ?_
              rintro r9 h9 ⟨S4, rfl, rfl, hl4, hf4⟩
              refine xA.if_eq (tgt := 248) rfl rfl rfl (fun h241 => ?_) (fun h241 => ?_)
              · exact absurd h241 (by decide)
              · refine xA.iconst (v := 1) rfl (by decide) rfl ?_
                refine xA.goto (q := 249) rfl rfl ?_
                refine xA.istore (L' := [_, _, _, _, _, _, _, _, _, _, _, _, _]) rfl (Nat.le_of_ble_eq_true rfl) rfl rfl ?_
                refine xA.iinc (L' := [_, _, _, _, _, _, _, _, _, _, _, _, _]) rfl rfl (nI_1 i) rfl rfl ?_
                refine xA.goto (q := 87) rfl rfl ?_
                exact ih S4 (nu sp (i + 1) q) _ (sdN sd) hl4 ((hf4.2 36 (by omega) (by omega)).trans ((hf3.2 36 (by omega) (by omega)).trans xu_same)) (hv3.trans hf4.v) (by rw [nu_at', show ss - (i + 1) = k by omega]; exact hF) _ _ _ _ _
  · intro S1 sp th sd hl hsd hv hF x8 x9 x10 x11 x12
    refine xA.iload rfl rfl rfl ?_
    refine xA.iload_n (i := 3) rfl rfl rfl rfl ?_
    refine xA.icmp_ge (tgt := 257) rfl rfl rfl (fun h90 => ?_) (fun h90 => ?_)
    · rw [Nat.sub_self, wgo] at hF
      exact lv_tail d S S1 G s A (ss + 1) sp th sd hl hsd (frV.ms hc hv) (fun j hj => hv.1 j (by omega) (by omega) (by omega)) kd r0 (nI ss) sd0 w _ _ _ _ _ _ _ (by rw [hW, ← hF]; rfl)
    · exact absurd (nI_le (Nat.le_refl _) (by omega)) h90
set_option maxRecDepth 100000 in
set_option maxHeartbeats 1000000 in
theorem m_lives (d : Nat) (s : sS) (k r st sd w : Int32) : opM (d + 3) mX10_lives [.ref 54, .int k, .int r, .int st, .int sd, .int w] s (.int (aLives s k r st sd w)) (s) := by
  intro S G hc
  have hc0 := hc
  obtain ⟨hpg, hho, hpp, htk, hgl, hsd, him, hno⟩ := hc
  refine xC.of okX10_lives (Nat.le_of_ble_eq_true rfl) (L := [_, _, _, _, _, _, _, _, _, _, _, _, _]) rfl ?_
  refine xA.iload_n (i := 1) rfl rfl rfl rfl ?_
  refine xA.i2l rfl rfl ?_
  refine xA.lconst (v := 0) rfl (by decide) rfl ?_
  refine xA.ldc2 (v := 4) rfl w1043 rfl ?_
  refine xA.callSi (As := [_, _, _]) rfl k10_96 okX10_in rfl rfl (Nat.le_of_ble_eq_true rfl) (c_X10_in (d + 2) _ G k 0 4) rfl rfl ?_
  refine xA.topi (xb_iff (in_rg (n := 4) (by omega))) ?_
  refine xA.if_ne (tgt := 15) rfl rfl rfl (fun h9 => ?_) (fun h9 => ?_)
  · rw [xb_ne0] at h9
    refine xA.iload_n (i := 2) rfl rfl rfl rfl ?_
    refine xA.callSi (As := [_]) rfl k10_168 okX10_isRoom rfl rfl (Nat.le_of_ble_eq_true rfl) (c_X10_isRoom (d + 1) _ G r) rfl rfl ?_
    refine xA.if_ne (tgt := 25) rfl rfl rfl (fun h19 => ?_) (fun h19 => ?_)
    · rw [xb_ne0] at h19
      refine xA.iload_n (i := 3) rfl rfl rfl rfl ?_
      refine xA.i2l rfl rfl ?_
      refine xA.lconst (v := 1) rfl (by decide) rfl ?_
      refine xA.ldc2 (v := 16) rfl w1189 rfl ?_
      refine xA.callSi (As := [_, _, _]) rfl k10_96 okX10_in rfl rfl (Nat.le_of_ble_eq_true rfl) (c_X10_in (d + 2) _ G st 1 16) rfl rfl ?_
      refine xA.if_eq (tgt := 55) rfl rfl rfl (fun h34 => ?_) (fun h34 => ?_)
      · rw [xb_eq0] at h34
        refine xA.bipush (v := (-102)) rfl (by decide) rfl ?_
        exact xA.iret rfl rfl rfl ⟨S, G, rfl, by simp only [aLives]; rw [if_pos h9, if_pos h19]; rw [if_neg (by rintro ⟨q1, q2, q3, q4, q5⟩; first | exact h34 ⟨Int32.not_lt.mp q1, Int32.not_lt.mp q2⟩ | exact q3 h39 | exact h52 ⟨Int32.not_lt.mp q4, q5⟩)], hc0, fun _ _ => rfl⟩
      · rw [xb_ne0] at h34
        refine xA.iload rfl rfl rfl ?_
        refine xA.if_lt (tgt := 55) rfl rfl rfl (fun h39 => ?_) (fun h39 => ?_)
        · refine xA.bipush (v := (-102)) rfl (by decide) rfl ?_
          exact xA.iret rfl rfl rfl ⟨S, G, rfl, by simp only [aLives]; rw [if_pos h9, if_pos h19]; rw [if_neg (by rintro ⟨q1, q2, q3, q4, q5⟩; first | exact h34 ⟨Int32.not_lt.mp q1, Int32.not_lt.mp q2⟩ | exact q3 h39 | exact h52 ⟨Int32.not_lt.mp q4, q5⟩)], hc0, fun _ _ => rfl⟩
        · refine xA.iload rfl rfl rfl ?_
          refine xA.i2l rfl rfl ?_
          refine xA.lconst (v := 0) rfl (by decide) rfl ?_
          refine xA.ldc2 (v := 3) rfl w1190 rfl ?_
          refine xA.callSi (As := [_, _, _]) rfl k10_96 okX10_in rfl rfl (Nat.le_of_ble_eq_true rfl) (c_X10_in (d + 2) _ G w 0 3) rfl rfl ?_
          refine xA.if_ne (tgt := 58) rfl rfl rfl (fun h52 => ?_) (fun h52 => ?_)
          · rw [xb_ne0] at h52
            refine xA.aload_n (i := 0) rfl rfl rfl rfl ?_
            refine xA.callVi (As := []) rfl k10_171 okX10_lacks rfl rfl rfl rfl (Nat.le_of_ble_eq_true rfl) (c_X10_lacks (d + 2) _ G) rfl rfl ?_
            refine xA.if_eq (tgt := 68) rfl rfl rfl (fun h62 => ?_) (fun h62 => ?_)
            · rw [xb_eq0, mlk hho] at h62
              have e34 : ¬ st < 1 ∧ ¬ 16 < st := ⟨Int32.not_lt.mpr h34.1, Int32.not_lt.mpr h34.2⟩
              have e52 : ¬ w < 0 ∧ w ≤ 3 := ⟨Int32.not_lt.mpr h52.1, h52.2⟩
              obtain ⟨kk, hkk, rfl⟩ := rg_nI h9 (by omega)
              obtain ⟨rr, hrr, rfl⟩ := rg_nI h19 (by omega)
              obtain ⟨ss, hss, rfl⟩ := nI_of2 (n := 16) (M := 16) rfl (fun z => e34.1 (by rw [Int32.lt_iff_toInt_lt] at z ⊢; rw [Int32.toInt_zero] at z; show _ < (1 : Int); omega)) (Int32.not_lt.mp e34.2)
              refine xA.aload_n (i := 0) rfl rfl rfl rfl ?_
              refine xA.bipush (v := 30) rfl (by decide) rfl ?_
              refine xA.iload_n (i := 2) rfl rfl rfl rfl ?_
              refine xA.callVv (As := [_, _]) rfl k10_196 okX10_beginLife rfl rfl rfl rfl (Nat.le_of_ble_eq_true rfl) (c_X10_beginLife (d + 2) _ G 30 (nI rr)) rfl rfl ?_
              refine xA.aload_n (i := 0) rfl rfl rfl rfl ?_
              refine xA.iload rfl rfl rfl ?_
              refine xA.putI rfl p10_257 rfl rfl rfl ?_
              refine xA.iconst (v := 1) rfl (by decide) rfl ?_
              refine xA.istore (L' := [_, _, _, _, _, _, _, _, _, _, _, _, _]) rfl (Nat.le_of_ble_eq_true rfl) rfl rfl ?_
              refine xA.iconst (v := 0) rfl (by decide) rfl ?_
              refine xA.istore (L' := [_, _, _, _, _, _, _, _, _, _, _, _, _]) rfl (Nat.le_of_ble_eq_true rfl) rfl rfl ?_
              exact lv_loop d S G s hc0 h62 kk hkk ss hss (nI rr) sd w _ (livesN s kk rr ss sd) (by simp only [aLives]; rw [if_pos h9, if_pos h19, if_pos ⟨e34.1, e34.2, h39, e52.1, e52.2⟩, if_neg h62, nI_clamp (show kk < 2 ^ 31 by omega), nI_clamp (show rr < 2 ^ 31 by omega), nI_clamp (show ss < 2 ^ 31 by omega)]) 0 (Nat.zero_le _) (xu (xu (xu (xu (xu S 69 0 30) 70 0 (nI rr)) 54 29 1) 54 30 0) 54 36 sd) (fun _ => 30 * 6 + rr) 0 sd (ltC_begin (m := 30) (by omega) hrr).sd xu_same ⟨fun j h1 h2 h3 => by rw [xu_c h1, xu_c h1, xu_c h1, xu_c h3, xu_c h2], fun f h1 h2 h3 => by rw [xu_ne2 h3, xu_ne2 h2, xu_ne2 h1, xu_ne1 (by omega), xu_ne1 (by omega)]⟩ rfl _ _ _ _ _
            · rw [xb_ne0, mlk hho] at h62
              refine xA.bipush (v := (-103)) rfl (by decide) rfl ?_
              exact xA.iret rfl rfl rfl ⟨S, G, rfl, by simp only [aLives]; rw [if_pos h9, if_pos h19, if_pos ⟨Int32.not_lt.mpr h34.1, Int32.not_lt.mpr h34.2, h39, Int32.not_lt.mpr h52.1, h52.2⟩, if_pos h62], hc0, fun _ _ => rfl⟩
          · rw [xb_eq0] at h52
            refine xA.bipush (v := (-102)) rfl (by decide) rfl ?_
            exact xA.iret rfl rfl rfl ⟨S, G, rfl, by simp only [aLives]; rw [if_pos h9, if_pos h19]; rw [if_neg (by rintro ⟨q1, q2, q3, q4, q5⟩; first | exact h34 ⟨Int32.not_lt.mp q1, Int32.not_lt.mp q2⟩ | exact q3 h39 | exact h52 ⟨Int32.not_lt.mp q4, q5⟩)], hc0, fun _ _ => rfl⟩
    · rw [xb_eq0] at h19
      refine xA.bipush (v := (-101)) rfl (by decide) rfl ?_
      exact xA.iret rfl rfl rfl ⟨S, G, rfl, by simp only [aLives]; rw [if_pos h9, if_neg h19], hc0, fun _ _ => rfl⟩
  · rw [xb_eq0] at h9
    refine xA.bipush (v := (-102)) rfl (by decide) rfl ?_
    exact xA.iret rfl rfl rfl ⟨S, G, rfl, by simp only [aLives]; rw [if_neg h9], hc0, fun _ _ => rfl⟩

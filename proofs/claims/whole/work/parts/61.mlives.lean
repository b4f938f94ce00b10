/-! ===== the reference: lives by a seed ===== -/
/-- only the life that is tried changed, and the seed -/
def frV (S S' : Nat → Nat → Int32) : Prop := (∀ j, ¬ j = 54 → ¬ j = 69 → ¬ j = 70 → S' j = S j) ∧ ∀ f, ¬ f = 29 → ¬ f = 30 → ¬ f = 36 → S' 54 f = S 54 f
theorem frV.refl (S : Nat → Nat → Int32) : frV S S := ⟨fun _ _ _ _ => rfl, fun _ _ _ _ => rfl⟩
theorem frV.trans {S S1 S2 : Nat → Nat → Int32} (h1 : frV S S1) (h2 : frV S1 S2) : frV S S2 := ⟨fun j a b c => (h2.1 j a b c).trans (h1.1 j a b c), fun f a b c => (h2.2 f a b c).trans (h1.2 f a b c)⟩
theorem frL.v {S S' : Nat → Nat → Int32} (h : frL S S') : frV S S' := ⟨h.1, fun f a b _ => h.2 f a b⟩
theorem frV.ms {S S' : Nat → Nat → Int32} {s : sS} (h : MS S s) (hf : frV S S') : MS S' s := h.scr (fun j a b c => hf.1 j (by omega) (by omega) (by omega)) (fun f a b c d => hf.2 f b c d)
theorem frV.sd (S : Nat → Nat → Int32) (x : Int32) : frV S (xu S 54 36 x) := ⟨fun j h1 _ _ => xu_c h1, fun f _ _ h => xu_ne2 h⟩
theorem ltC.sd {S : Nat → Nat → Int32} {n : Nat} {sp : Nat → Nat} {lo x : Int32} (h : ltC S n sp lo) : ltC (xu S 54 36 x) n sp lo := ⟨(xu_ne2 (by omega)).trans h.1, h.2.1, h.2.2.1, fun i hi => by rw [xu_c (by omega), xu_c (by omega)]; exact h.2.2.2.1 i hi, (xu_ne2 (by omega)).trans h.2.2.2.2⟩
theorem c_may2 (d : Nat) (S : Nat → Nat → Int32) (G : Nat → Nat → Int64) (s : sS) (hc : MS S s) (hr0 : ¬ sHr s = 0) (kd : Nat) (hk : kd < 5) (a : Nat) (ha : a < 8) (n : Nat) (sp : Nat → Nat) (lo : Int32) (hl : ltC S n sp lo) (hn : n < 17) (u : Nat) (hu : sp (n - 1) = u) : xC (d + 2) mX10_mayStep [.ref 54, .int (nI kd), .int (nI a)] (σF, S, G) 0 0 (fun r h' => ∃ S', h' = (σF, S', G) ∧ r = some (.int (xb ((mayF (hD (sH s)) (hLo (sH s)) (u / 6) (u % 6) (lpN (sH s) kd)) a = true))) ∧ ltC S' n sp lo ∧ frL S S') := by
  subst hu; exact c_X10_mayStep d S G s hc hr0 kd hk a ha n sp lo hl hn
theorem c_step2 (d : Nat) (S : Nat → Nat → Int32) (G : Nat → Nat → Int64) (s : sS) (hc : MS S s) (hr0 : ¬ sHr s = 0) (kd : Nat) (hk : kd < 5) (a : Nat) (ha : a < 8) (n : Nat) (sp : Nat → Nat) (lo : Int32) (hl : ltC S n sp lo) (hn : n < 17) (u : Nat) (hu : sp (n - 1) = u) (q : Nat) (hq : nxH (hD (sH s)) (hLo (sH s)) (u / 6) (u % 6) a (lpN (sH s) kd) = some q) : xC (d + 1) mX10_step [.ref 54, .int (nI kd), .int (nI a)] (σF, S, G) 0 0 (fun r h' => ∃ S', h' = (σF, S', G) ∧ r = some (.int 1) ∧ ltC S' (n + 1) (nu sp n q) (lo + (if a = 7 then 1 else 0)) ∧ frL S S') := by
  refine (c_X10_step d S G s hc hr0 (sH s) rfl kd hk a ha n sp lo hl hn).mono ?_
  rintro r h' ⟨S', rfl, ⟨h1, _⟩ | ⟨q2, h1, h2, h3, h4⟩⟩
  · subst hu; rw [NX, hq] at h1; cases h1
  · subst hu; rw [NX, hq] at h1; cases h1; exact ⟨S', rfl, h2, h3, h4⟩

set_option maxRecDepth 100000 in
set_option maxHeartbeats 1000000 in
theorem lv_cnt (d : Nat) (G : Nat → Nat → Int64) (s : sS) (hr0 : ¬ sHr s = 0) (kd : Nat) (hk : kd < 5) (n : Nat) (sp : Nat → Nat) (lo : Int32) (hn : n < 17) (u : Nat) (hu : sp (n - 1) = u) (r0 st sd0 w : Int32) {Q : Option Value → xH → Prop} (S1 : Nat → Nat → Int32) (hm1 : MS S1 s) (x6 x7 : Int32) (x10 x11 x12 : Option Value) (kk : ∀ S2, ltC S2 n sp lo → frL S1 S2 → xA none (d + 3) mX10_lives 0 0 0 0 137 [some (.ref 54), some (.int (nI kd)), some (.int r0), some (.int st), some (.int sd0), some (.int w), some (.int x6), some (.int x7), some (.int (nI (cn (mayF (hD (sH s)) (hLo (sH s)) (u / 6) (u % 6) (lpN (sH s) kd)) 8))), some (.int (nI 8)), x10, x11, x12] [] (σF, S2, G) Q) : ∀ i, i ≤ 8 → ∀ S2, ltC S2 n sp lo → frL S1 S2 → xA none (d + 3) mX10_lives 0 0 0 0 104 [some (.ref 54), some (.int (nI kd)), some (.int r0), some (.int st), some (.int sd0), some (.int w), some (.int x6), some (.int x7), some (.int (nI (cn (mayF (hD (sH s)) (hLo (sH s)) (u / 6) (u % 6) (lpN (sH s) kd)) i))), some (.int (nI i)), x10, x11, x12] [] (σF, S2, G) Q := by
  refine xloop 8 (fun i hi ih => ?_) ?_
  · intro S2 hl hf
    refine xA.iload rfl rfl rfl ?_
    refine xA.bipush (v := 8) rfl (by decide) rfl ?_
    refine xA.icmp_ge (tgt := 137) rfl rfl rfl (fun h108 => ?_) (fun h108 => ?_)
    · exact absurd h108 (nI_ge (b := 8) hi (by omega))
    · refine xA.iload rfl rfl rfl ?_
      refine xA.aload_n (i := 0) rfl rfl rfl rfl ?_
      refine xA.iload_n (i := 1) rfl rfl rfl rfl ?_
      refine xA.iload rfl rfl rfl ?_
      refine xA.callV (As := [_, _]) (h := (σF, _, _)) rfl k10_269 okX10_mayStep rfl rfl rfl rfl (Nat.le_of_ble_eq_true rfl) (c_may2 d _ G s (frL.ms hm1 hf) hr0 kd hk i (by omega) n sp lo hl hn u hu) (Nat.le_refl _) (Nat.le_refl _) rfl rfl ?_
      rintro r9 h9 ⟨S3, rfl, rfl, hl3, hf3⟩
      refine xA.if_eq (tgt := 127) rfl rfl rfl (fun h120 => ?_) (fun h120 => ?_)
      · rw [xb_eq0] at h120
        refine xA.iconst (v := 0) rfl (by decide) rfl ?_
        refine xA.iadd rfl rfl ?_
        refine xA.topi ((show _ = nI (cn (mayF (hD (sH s)) (hLo (sH s)) (u / 6) (u % 6) (lpN (sH s) kd)) (i + 1)) from by first | exact cn_t h120 | exact cn_f (by simpa using h120))) ?_
        refine xA.istore (L' := [_, _, _, _, _, _, _, _, _, _, _, _, _]) rfl (Nat.le_of_ble_eq_true rfl) rfl rfl ?_
        refine xA.iinc (L' := [_, _, _, _, _, _, _, _, _, _, _, _, _]) rfl rfl (nI_1 i) rfl rfl ?_
        refine xA.goto (q := 104) rfl rfl ?_
        exact ih S3 hl3 (hf.trans hf3)
      · rw [xb_ne0] at h120
        refine xA.iconst (v := 1) rfl (by decide) rfl ?_
        refine xA.goto (q := 128) rfl rfl ?_
        refine xA.iadd rfl rfl ?_
        refine xA.topi ((show _ = nI (cn (mayF (hD (sH s)) (hLo (sH s)) (u / 6) (u % 6) (lpN (sH s) kd)) (i + 1)) from by first | exact cn_t h120 | exact cn_f (by simpa using h120))) ?_
        refine xA.istore (L' := [_, _, _, _, _, _, _, _, _, _, _, _, _]) rfl (Nat.le_of_ble_eq_true rfl) rfl rfl ?_
        refine xA.iinc (L' := [_, _, _, _, _, _, _, _, _, _, _, _, _]) rfl rfl (nI_1 i) rfl rfl ?_
        refine xA.goto (q := 104) rfl rfl ?_
        exact ih S3 hl3 (hf.trans hf3)
  · intro S2 hl hf
    refine xA.iload rfl rfl rfl ?_
    refine xA.bipush (v := 8) rfl (by decide) rfl ?_
    refine xA.icmp_ge (tgt := 137) rfl rfl rfl (fun h108 => ?_) (fun h108 => ?_)
    · exact kk S2 hl hf
    · exact absurd (nI_le (a := 8) (b := 8) (Nat.le_refl _) (by omega)) h108
set_option maxRecDepth 100000 in
set_option maxHeartbeats 1000000 in
theorem lv_none (d : Nat) (G : Nat → Nat → Int64) (s : sS) (hr0 : ¬ sHr s = 0) (kd : Nat) (hk : kd < 5) (n : Nat) (sp : Nat → Nat) (lo : Int32) (hn : n < 17) (u : Nat) (hu : sp (n - 1) = u) (r0 st sd0 w : Int32) {Q : Option Value → xH → Prop} (S1 : Nat → Nat → Int32) (hm1 : MS S1 s) (hno : ∀ i, i < 8 → (mayF (hD (sH s)) (hLo (sH s)) (u / 6) (u % 6) (lpN (sH s) kd)) i = false) (x6 x7 x8 : Int32) (kk : ∀ S2 x12, ltC S2 n sp lo → frL S1 S2 → xA none (d + 3) mX10_lives 0 0 0 0 228 [some (.ref 54), some (.int (nI kd)), some (.int r0), some (.int st), some (.int sd0), some (.int w), some (.int x6), some (.int x7), some (.int x8), some (.int 0), some (.int (-1)), some (.int (nI 8)), x12] [] (σF, S2, G) Q) : ∀ i, i ≤ 8 → ∀ S2, ltC S2 n sp lo → frL S1 S2 → ∀ x12, xA none (d + 3) mX10_lives 0 0 0 0 172 [some (.ref 54), some (.int (nI kd)), some (.int r0), some (.int st), some (.int sd0), some (.int w), some (.int x6), some (.int x7), some (.int x8), some (.int 0), some (.int (-1)), some (.int (nI i)), x12] [] (σF, S2, G) Q := by
  refine xloop 8 (fun i hi ih => ?_) ?_
  · intro S2 hl hf x12
    refine xA.iload rfl rfl rfl ?_
    refine xA.bipush (v := 8) rfl (by decide) rfl ?_
    refine xA.icmp_ge (tgt := 228) rfl rfl rfl (fun h176 => ?_) (fun h176 => ?_)
    · exact absurd h176 (nI_ge (b := 8) hi (by omega))
    · refine xA.aload_n (i := 0) rfl rfl rfl rfl ?_
      refine xA.iload_n (i := 1) rfl rfl rfl rfl ?_
      refine xA.iload rfl rfl rfl ?_
      refine xA.callV (As := [_, _]) (h := (σF, _, _)) rfl k10_269 okX10_mayStep rfl rfl rfl rfl (Nat.le_of_ble_eq_true rfl) (c_may2 d _ G s (frL.ms hm1 hf) hr0 kd hk i (by omega) n sp lo hl hn u hu) (Nat.le_refl _) (Nat.le_refl _) rfl rfl ?_
      rintro r9 h9 ⟨S3, rfl, rfl, hl3, hf3⟩
      refine xA.istore (L' := [_, _, _, _, _, _, _, _, _, _, _, _, _]) rfl (Nat.le_of_ble_eq_true rfl) rfl rfl ?_
      refine xA.iload rfl rfl rfl ?_
      refine xA.if_eq (tgt := 203) rfl rfl rfl (fun h190 => ?_) (fun h190 => ?_)
      · rw [xb_eq0] at h190
        refine xA.iload rfl rfl rfl ?_
        refine xA.istore (L' := [_, _, _, _, _, _, _, _, _, _, _, _, _]) rfl (Nat.le_of_ble_eq_true rfl) rfl rfl ?_
        refine xA.iload rfl rfl rfl ?_
        refine xA.iload rfl rfl rfl ?_
        refine xA.if_eq (tgt := 218) rfl rfl rfl (fun h211 => ?_) (fun h211 => ?_)
        · rw [xb_eq0] at h211
          refine xA.iconst (v := 0) rfl (by decide) rfl ?_
          refine xA.isub rfl rfl ?_
          refine xA.topi (rfl) ?_
          refine xA.istore (L' := [_, _, _, _, _, _, _, _, _, _, _, _, _]) rfl (Nat.le_of_ble_eq_true rfl) rfl rfl ?_
          refine xA.iinc (L' := [_, _, _, _, _, _, _, _, _, _, _, _, _]) rfl rfl (nI_1 i) rfl rfl ?_
          refine xA.goto (q := 172) rfl rfl ?_
          exact ih S3 hl3 (hf.trans hf3) _
        · rw [xb_ne0] at h211
          exact absurd h211 (by simp [hno i hi])
      · rw [xb_ne0] at h190
        exact absurd h190 (by simp [hno i hi])
  · intro S2 hl hf x12
    refine xA.iload rfl rfl rfl ?_
    refine xA.bipush (v := 8) rfl (by decide) rfl ?_
    refine xA.icmp_ge (tgt := 228) rfl rfl rfl (fun h176 => ?_) (fun h176 => ?_)
    · exact kk S2 _ hl hf
    · exact absurd (nI_le (a := 8) (b := 8) (Nat.le_refl _) (by omega)) h176
theorem ng_ne : ∀ t, t < 20 → 1 ≤ t → ¬ -nI t = 0 := by decide +kernel
theorem ng_1 (t : Nat) : -nI t - 1 = -nI (t + 1) := by rw [← nI_1]; simp [Int32.sub_eq_add_neg, Int32.neg_add]
theorem ng_0 (t : Nat) : -nI t - 0 = -nI t := by simp

set_option maxRecDepth 100000 in
set_option maxHeartbeats 1000000 in
theorem lv_fnd (d : Nat) (G : Nat → Nat → Int64) (s : sS) (hr0 : ¬ sHr s = 0) (kd : Nat) (hk : kd < 5) (n : Nat) (sp : Nat → Nat) (lo : Int32) (hn : n < 17) (u : Nat) (hu : sp (n - 1) = u) (r0 st sd0 w : Int32) {Q : Option Value → xH → Prop} (S1 : Nat → Nat → Int32) (hm1 : MS S1 s) (pk : Int32) (x6 x7 x8 : Int32) (kk : ∀ S2 x9 x12, ltC S2 n sp lo → frL S1 S2 → xA none (d + 3) mX10_lives 0 0 0 0 228 [some (.ref 54), some (.int (nI kd)), some (.int r0), some (.int st), some (.int sd0), some (.int w), some (.int x6), some (.int x7), some (.int x8), x9, some (.int pk), some (.int (nI 8)), x12] [] (σF, S2, G) Q) : ∀ i, i ≤ 8 → ∀ S2, ltC S2 n sp lo → frL S1 S2 → ∀ x12, ∀ t, 1 ≤ t → t ≤ i → xA none (d + 3) mX10_lives 0 0 0 0 172 [some (.ref 54), some (.int (nI kd)), some (.int r0), some (.int st), some (.int sd0), some (.int w), some (.int x6), some (.int x7), some (.int x8), some (.int (-nI t)), some (.int pk), some (.int (nI i)), x12] [] (σF, S2, G) Q := by
  refine xloop 8 (fun i hi ih => ?_) ?_
  · intro S2 hl hf x12 t ht1 ht2
    refine xA.iload rfl rfl rfl ?_
    refine xA.bipush (v := 8) rfl (by decide) rfl ?_
    refine xA.icmp_ge (tgt := 228) rfl rfl rfl (fun h176 => ?_) (fun h176 => ?_)
    · exact absurd h176 (nI_ge (b := 8) hi (by omega))
    · refine xA.aload_n (i := 0) rfl rfl rfl rfl ?_
      refine xA.iload_n (i := 1) rfl rfl rfl rfl ?_
      refine xA.iload rfl rfl rfl ?_
      refine xA.callV (As := [_, _]) (h := (σF, _, _)) rfl k10_269 okX10_mayStep rfl rfl rfl rfl (Nat.le_of_ble_eq_true rfl) (c_may2 d _ G s (frL.ms hm1 hf) hr0 kd hk i (by omega) n sp lo hl hn u hu) (Nat.le_refl _) (Nat.le_refl _) rfl rfl ?_
      rintro r9 h9 ⟨S3, rfl, rfl, hl3, hf3⟩
      refine xA.istore (L' := [_, _, _, _, _, _, _, _, _, _, _, _, _]) rfl (Nat.le_of_ble_eq_true rfl) rfl rfl ?_
      refine xA.iload rfl rfl rfl ?_
      refine xA.if_eq (tgt := 203) rfl rfl rfl (fun h190 => ?_) (fun h190 => ?_)
      · rw [xb_eq0] at h190
        refine xA.iload rfl rfl rfl ?_
        refine xA.istore (L' := [_, _, _, _, _, _, _, _, _, _, _, _, _]) rfl (Nat.le_of_ble_eq_true rfl) rfl rfl ?_
        refine xA.iload rfl rfl rfl ?_
        refine xA.iload rfl rfl rfl ?_
        refine xA.if_eq (tgt := 218) rfl rfl rfl (fun h211 => ?_) (fun h211 => ?_)
        · rw [xb_eq0] at h211
          refine xA.iconst (v := 0) rfl (by decide) rfl ?_
          refine xA.isub rfl rfl ?_
          refine xA.topi (ng_0 t) ?_
          refine xA.istore (L' := [_, _, _, _, _, _, _, _, _, _, _, _, _]) rfl (Nat.le_of_ble_eq_true rfl) rfl rfl ?_
          refine xA.iinc (L' := [_, _, _, _, _, _, _, _, _, _, _, _, _]) rfl rfl (nI_1 i) rfl rfl ?_
          refine xA.goto (q := 172) rfl rfl ?_
          exact ih S3 hl3 (hf.trans hf3) _ t ht1 (by omega)
        · rw [xb_ne0] at h211
          refine xA.iconst (v := 1) rfl (by decide) rfl ?_
          refine xA.goto (q := 219) rfl rfl ?_
          refine xA.isub rfl rfl ?_
          refine xA.topi (ng_1 t) ?_
          refine xA.istore (L' := [_, _, _, _, _, _, _, _, _, _, _, _, _]) rfl (Nat.le_of_ble_eq_true rfl) rfl rfl ?_
          refine xA.iinc (L' := [_, _, _, _, _, _, _, _, _, _, _, _, _]) rfl rfl (nI_1 i) rfl rfl ?_
          refine xA.goto (q := 172) rfl rfl ?_
          exact ih S3 hl3 (hf.trans hf3) _ (t + 1) (by omega) (by omega)
      · rw [xb_ne0] at h190
        refine xA.iload rfl rfl rfl ?_
        refine xA.if_ne (tgt := 203) rfl rfl rfl (fun h195 => ?_) (fun h195 => ?_)
        · refine xA.iload rfl rfl rfl ?_
          refine xA.istore (L' := [_, _, _, _, _, _, _, _, _, _, _, _, _]) rfl (Nat.le_of_ble_eq_true rfl) rfl rfl ?_
          refine xA.iload rfl rfl rfl ?_
          refine xA.iload rfl rfl rfl ?_
          refine xA.if_eq (tgt := 218) rfl rfl rfl (fun h211 => ?_) (fun h211 => ?_)
          · rw [xb_eq0] at h211
            refine xA.iconst (v := 0) rfl (by decide) rfl ?_
            refine xA.isub rfl rfl ?_
            refine xA.topi (ng_0 t) ?_
            refine xA.istore (L' := [_, _, _, _, _, _, _, _, _, _, _, _, _]) rfl (Nat.le_of_ble_eq_true rfl) rfl rfl ?_
            refine xA.iinc (L' := [_, _, _, _, _, _, _, _, _, _, _, _, _]) rfl rfl (nI_1 i) rfl rfl ?_
            refine xA.goto (q := 172) rfl rfl ?_
            exact ih S3 hl3 (hf.trans hf3) _ t ht1 (by omega)
          · rw [xb_ne0] at h211
            refine xA.iconst (v := 1) rfl (by decide) rfl ?_
            refine xA.goto (q := 219) rfl rfl ?_
            refine xA.isub rfl rfl ?_
            refine xA.topi (ng_1 t) ?_
            refine xA.istore (L' := [_, _, _, _, _, _, _, _, _, _, _, _, _]) rfl (Nat.le_of_ble_eq_true rfl) rfl rfl ?_
            refine xA.iinc (L' := [_, _, _, _, _, _, _, _, _, _, _, _, _]) rfl rfl (nI_1 i) rfl rfl ?_
            refine xA.goto (q := 172) rfl rfl ?_
            exact ih S3 hl3 (hf.trans hf3) _ (t + 1) (by omega) (by omega)
        · exact absurd h195 (ng_ne t (by omega) ht1)
  · intro S2 hl hf x12 t ht1 ht2
    refine xA.iload rfl rfl rfl ?_
    refine xA.bipush (v := 8) rfl (by decide) rfl ?_
    refine xA.icmp_ge (tgt := 228) rfl rfl rfl (fun h176 => ?_) (fun h176 => ?_)
    · exact kk S2 _ _ hl hf
    · exact absurd (nI_le (a := 8) (b := 8) (Nat.le_refl _) (by omega)) h176
set_option maxRecDepth 100000 in
set_option maxHeartbeats 1000000 in
theorem lv_srch (d : Nat) (G : Nat → Nat → Int64) (s : sS) (hr0 : ¬ sHr s = 0) (kd : Nat) (hk : kd < 5) (n : Nat) (sp : Nat → Nat) (lo : Int32) (hn : n < 17) (u : Nat) (hu : sp (n - 1) = u) (r0 st sd0 w : Int32) {Q : Option Value → xH → Prop} (S1 : Nat → Nat → Int32) (hm1 : MS S1 s) (j : Nat) (x6 x7 x8 : Int32) (kk : ∀ S2 x9 x12, ltC S2 n sp lo → frL S1 S2 → xA none (d + 3) mX10_lives 0 0 0 0 228 [some (.ref 54), some (.int (nI kd)), some (.int r0), some (.int st), some (.int sd0), some (.int w), some (.int x6), some (.int x7), some (.int x8), x9, some (.int (nI (pick (mayF (hD (sH s)) (hLo (sH s)) (u / 6) (u % 6) (lpN (sH s) kd)) 8 0 j))), some (.int (nI 8)), x12] [] (σF, S2, G) Q) : ∀ i, i ≤ 8 → ∀ S2, ltC S2 n sp lo → frL S1 S2 → ∀ x12, ∀ jj, jj < 8 → pick (mayF (hD (sH s)) (hLo (sH s)) (u / 6) (u % 6) (lpN (sH s) kd)) (8 - i) i jj = pick (mayF (hD (sH s)) (hLo (sH s)) (u / 6) (u % 6) (lpN (sH s) kd)) 8 0 j → jj < cn (fun q => (mayF (hD (sH s)) (hLo (sH s)) (u / 6) (u % 6) (lpN (sH s) kd)) (i + q)) (8 - i) → xA none (d + 3) mX10_lives 0 0 0 0 172 [some (.ref 54), some (.int (nI kd)), some (.int r0), some (.int st), some (.int sd0), some (.int w), some (.int x6), some (.int x7), some (.int x8), some (.int (nI jj)), some (.int (-1)), some (.int (nI i)), x12] [] (σF, S2, G) Q := by
  refine xloop 8 (fun i hi ih => ?_) ?_
  · intro S2 hl hf x12 jj hjl hpk hjc
    obtain ⟨t, hti⟩ : ∃ t, 8 - i = t + 1 := ⟨8 - i - 1, by omega⟩
    refine xA.iload rfl rfl rfl ?_
    refine xA.bipush (v := 8) rfl (by decide) rfl ?_
    refine xA.icmp_ge (tgt := 228) rfl rfl rfl (fun h176 => ?_) (fun h176 => ?_)
    · exact absurd h176 (nI_ge (b := 8) hi (by omega))
    · refine xA.aload_n (i := 0) rfl rfl rfl rfl ?_
      refine xA.iload_n (i := 1) rfl rfl rfl rfl ?_
      refine xA.iload rfl rfl rfl ?_
      refine xA.callV (As := [_, _]) (h := (σF, _, _)) rfl k10_269 okX10_mayStep rfl rfl rfl rfl (Nat.le_of_ble_eq_true rfl) (c_may2 d _ G s (frL.ms hm1 hf) hr0 kd hk i (by omega) n sp lo hl hn u hu) (Nat.le_refl _) (Nat.le_refl _) rfl rfl ?_
      rintro r9 h9 ⟨S3, rfl, rfl, hl3, hf3⟩
      refine xA.istore (L' := [_, _, _, _, _, _, _, _, _, _, _, _, _]) rfl (Nat.le_of_ble_eq_true rfl) rfl rfl ?_
      refine xA.iload rfl rfl rfl ?_
      refine xA.if_eq (tgt := 203) rfl rfl rfl (fun h190 => ?_) (fun h190 => ?_)
      · rw [xb_eq0] at h190
        refine xA.iload rfl rfl rfl ?_
        refine xA.istore (L' := [_, _, _, _, _, _, _, _, _, _, _, _, _]) rfl (Nat.le_of_ble_eq_true rfl) rfl rfl ?_
        refine xA.iload rfl rfl rfl ?_
        refine xA.iload rfl rfl rfl ?_
        refine xA.if_eq (tgt := 218) rfl rfl rfl (fun h211 => ?_) (fun h211 => ?_)
        · refine xA.iconst (v := 0) rfl (by decide) rfl ?_
          refine xA.isub rfl rfl ?_
          refine xA.topi ((show nI jj - 0 = nI jj from by simp)) ?_
          refine xA.istore (L' := [_, _, _, _, _, _, _, _, _, _, _, _, _]) rfl (Nat.le_of_ble_eq_true rfl) rfl rfl ?_
          refine xA.iinc (L' := [_, _, _, _, _, _, _, _, _, _, _, _, _]) rfl rfl (nI_1 i) rfl rfl ?_
          refine xA.goto (q := 172) rfl rfl ?_
          have hjc2 := hjc
          rw [hti, cn_cons, if_neg h190] at hjc2
          exact ih S3 hl3 (hf.trans hf3) _ jj hjl (by rw [← hpk, hti, pick, if_neg h190, show 8 - (i + 1) = t by omega]) (by rw [show 8 - (i + 1) = t by omega]; omega)
        · exact absurd (xb_ne0.mp h211) h190
      · rw [xb_ne0] at h190
        refine xA.iload rfl rfl rfl ?_
        refine xA.if_ne (tgt := 203) rfl rfl rfl (fun h195 => ?_) (fun h195 => ?_)
        · have e195 : ¬ jj = 0 := fun z => h195 (by rw [z]; rfl)
          refine xA.iload rfl rfl rfl ?_
          refine xA.istore (L' := [_, _, _, _, _, _, _, _, _, _, _, _, _]) rfl (Nat.le_of_ble_eq_true rfl) rfl rfl ?_
          refine xA.iload rfl rfl rfl ?_
          refine xA.iload rfl rfl rfl ?_
          refine xA.if_eq (tgt := 218) rfl rfl rfl (fun h211 => ?_) (fun h211 => ?_)
          · exact absurd h190 (xb_eq0.mp h211)
          · refine xA.iconst (v := 1) rfl (by decide) rfl ?_
            refine xA.goto (q := 219) rfl rfl ?_
            refine xA.isub rfl rfl ?_
            refine xA.topi ((show nI jj - 1 = nI (jj - 1) from nI_sub (a := jj) (b := 1) (by omega))) ?_
            refine xA.istore (L' := [_, _, _, _, _, _, _, _, _, _, _, _, _]) rfl (Nat.le_of_ble_eq_true rfl) rfl rfl ?_
            refine xA.iinc (L' := [_, _, _, _, _, _, _, _, _, _, _, _, _]) rfl rfl (nI_1 i) rfl rfl ?_
            refine xA.goto (q := 172) rfl rfl ?_
            have hjc2 := hjc
            rw [hti, cn_cons, if_pos h190] at hjc2
            exact ih S3 hl3 (hf.trans hf3) _ (jj - 1) (by omega) (by rw [← hpk, hti, pick, if_pos h190, if_neg e195, show 8 - (i + 1) = t by omega]) (by rw [show 8 - (i + 1) = t by omega]; omega)
        · have e195 : jj = 0 := (nI_eq (b := 0) (by omega) (by omega)).mp h195
          refine xA.iload rfl rfl rfl ?_
          refine xA.goto (q := 205) rfl rfl ?_
          refine xA.istore (L' := [_, _, _, _, _, _, _, _, _, _, _, _, _]) rfl (Nat.le_of_ble_eq_true rfl) rfl rfl ?_
          refine xA.iload rfl rfl rfl ?_
          refine xA.iload rfl rfl rfl ?_
          refine xA.if_eq (tgt := 218) rfl rfl rfl (fun h211 => ?_) (fun h211 => ?_)
          · exact absurd h190 (xb_eq0.mp h211)
          · refine xA.iconst (v := 1) rfl (by decide) rfl ?_
            refine xA.goto (q := 219) rfl rfl ?_
            refine xA.isub rfl rfl ?_
            refine xA.topi (show nI jj - 1 = -nI 1 from by rw [e195]; rfl) ?_
            refine xA.istore (L' := [_, _, _, _, _, _, _, _, _, _, _, _, _]) rfl (Nat.le_of_ble_eq_true rfl) rfl rfl ?_
            refine xA.iinc (L' := [_, _, _, _, _, _, _, _, _, _, _, _, _]) rfl rfl (nI_1 i) rfl rfl ?_
            refine xA.goto (q := 172) rfl rfl ?_
            have ep : pick (mayF (hD (sH s)) (hLo (sH s)) (u / 6) (u % 6) (lpN (sH s) kd)) 8 0 j = i := by rw [← hpk, hti, pick, if_pos h190, if_pos e195]
            rw [ep] at kk
            exact lv_fnd d G s hr0 kd hk n sp lo hn u hu r0 st sd0 w S1 hm1 (nI i) _ _ _ kk (i + 1) (by omega) S3 hl3 (hf.trans hf3) _ 1 (by omega) (by omega)
  · intro S2 hl hf x12 jj hjl hpk hjc
    rw [Nat.sub_self] at hjc
    exact absurd hjc (Nat.not_lt_zero _)

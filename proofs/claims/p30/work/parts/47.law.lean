variable {ρ : List xSh}
/-! ===== the law, from its entry ===== -/
set_option maxRecDepth 100000 in
set_option maxHeartbeats 8000000 in
theorem law_mid (d : Nat) (N : Nat) (xs : Nat → Int32) (hN : N ≤ 260) (s : sS) (S : Nat → Nat → Int32) (G : Nat → Nat → Int64) (hw : LW S s) (ht0 : (sTk s).1 = 0) (hg0 : (sGl s).1 = 0) (n6 : Int32) (x7 x8 x9 x10 x11 x12 x13 x14 x15 x16 x17 x18 x19 x20 x21 : Option Value) : xA (some (N, xs)) (d + 8) mL_law 599996 7302227 600000 7302250 222 [some (.retAddr 0), some (.ref 0), some (.ref 54), some (.ref 55), some (.ref 56), some (.ref 57), some (.int (n6)), x7, x8, x9, x10, x11, x12, x13, x14, x15, x16, x17, x18, x19, x20, x21] [] (σF (τL []), S, G) (fun r _ => r = some (.int 1)) := by
  obtain ⟨hc, hh, hr, hpl⟩ := id hw
  have hP3 := hpl.2.1
  have h4 : sP s ≤ 4 := by omega
  have loop : ∀ k, k ≤ sP s → ∀ x8 x9 x10 x11 x12 x13 x14 x15 x16 x17 x18 x19 x20 x21 : Option Value, xA (some (N, xs)) (d + 8) mL_law 599996 7302227 600000 7302250 225 [some (.retAddr 0), some (.ref 0), some (.ref 54), some (.ref 55), some (.ref 56), some (.ref 57), some (.int (n6)), some (.int (nI k)), x8, x9, x10, x11, x12, x13, x14, x15, x16, x17, x18, x19, x20, x21] [] (σF (τL []), S, G) (fun r _ => r = some (.int 1)) := by
    refine xloop (sP s) (fun k hk ihk => ?_) ?_
    · intro x8 x9 x10 x11 x12 x13 x14 x15 x16 x17 x18 x19 x20 x21
      have hpk := hpl.2.2.1 k hk
      have hkd := hpk.2.1
      have inA : ∀ a, a ≤ 5 → ∀ x9 x10 x11 x12 x13 x14 x15 x16 x17 x18 x19 x20 x21 : Option Value, xA (some (N, xs)) (d + 8) mL_law 599996 7302227 600000 7302250 236 [some (.retAddr 0), some (.ref 0), some (.ref 54), some (.ref 55), some (.ref 56), some (.ref 57), some (.int (n6)), some (.int (nI k)), some (.int (nI a)), x9, x10, x11, x12, x13, x14, x15, x16, x17, x18, x19, x20, x21] [] (σF (τL []), S, G) (fun r _ => r = some (.int 1)) := by
        refine xloop 5 (fun a ha iha => ?_) ?_
        · intro x9 x10 x11 x12 x13 x14 x15 x16 x17 x18 x19 x20 x21
          refine xA.iload rfl rfl rfl ?_
          refine xA.iconst (v := 5) rfl (by decide) rfl ?_
          refine xA.icmp_ge (tgt := 299) rfl rfl rfl (fun h239 => ?_) (fun h239 => ?_)
          · exact absurd h239 (nI_ge (b := 5) ha (by decide))
          · refine xA.aload_n (i := 1) rfl rfl rfl rfl ?_
            refine xA.iload rfl rfl rfl ?_
            refine xA.iload rfl rfl rfl ?_
            refine xA.gV (As := [_, _]) rfl k11_94 okX9_as rfl rfl rfl rfl (Nat.le_of_ble_eq_true rfl) (Nat.le_of_ble_eq_true rfl) (Nat.le_of_ble_eq_true rfl) (c_X9_as (d + 6) S G s hc (nI k) (nI a)) rfl rfl ?_
            refine xA.topi (a_as hk h4 ha hkd) ?_
            refine xA.iload rfl rfl rfl ?_
            refine xA.if_eq (tgt := 282) rfl rfl rfl (fun h252 => ?_) (fun h252 => ?_)
            · rw [show (0 : Int32) = nI 0 from rfl, nI_eq (by omega) (by omega)] at h252
              refine xA.iload rfl rfl rfl ?_
              refine xA.goto (q := 288) rfl rfl ?_
              refine xA.icmp_eq (tgt := 293) rfl rfl rfl (fun h288 => ?_) (fun h288 => ?_)
              · refine xA.iinc (L' := [_, _, _, _, _, _, _, _, _, _, _, _, _, _, _, _, _, _, _, _, _, _]) rfl rfl (nI_1 a) rfl rfl ?_
                refine xA.goto (q := 236) rfl rfl ?_
                exact iha _ _ _ _ _ _ _ _ _ _ _ _ _
              · first
                | (have _z := h279; exact absurd (if_pos (Or.inr (Or.inr ⟨h269, h279⟩))) h288)
                | (have _z := h279; exact absurd (if_neg (fun q => q.elim h252 (fun q => q.elim h263 (fun q => h279 q.2)))) h288)
                | (have _z := h269; exact absurd (if_neg (fun q => q.elim h252 (fun q => q.elim h263 (fun q => h269 q.1)))) h288)
                | (have _z := h263; exact absurd (if_pos (Or.inr (Or.inl h263))) h288)
                | exact absurd (if_pos (Or.inl h252)) h288
            · rw [show (0 : Int32) = nI 0 from rfl, nI_eq (by omega) (by omega)] at h252
              refine xA.iload rfl rfl rfl ?_
              refine xA.aload_n (i := 3) rfl rfl rfl rfl ?_
              refine xA.iconst (v := 1) rfl (by decide) rfl ?_
              refine xA.iload rfl rfl rfl ?_
              refine xA.iadd rfl rfl ?_
              refine xA.topi (nI_add 1 k) ?_
              refine xA.iald rfl rfl (vp_in_nI (by omega) (by omega)) rfl ?_
              refine xA.topi (rdA (by omega) hpk.1) ?_
              refine xA.icmp_eq (tgt := 282) rfl rfl rfl (fun h263 => ?_) (fun h263 => ?_)
              · rw [nI_eq (by omega) (by omega)] at h263
                refine xA.iload rfl rfl rfl ?_
                refine xA.goto (q := 288) rfl rfl ?_
                refine xA.icmp_eq (tgt := 293) rfl rfl rfl (fun h288 => ?_) (fun h288 => ?_)
                · refine xA.iinc (L' := [_, _, _, _, _, _, _, _, _, _, _, _, _, _, _, _, _, _, _, _, _, _]) rfl rfl (nI_1 a) rfl rfl ?_
                  refine xA.goto (q := 236) rfl rfl ?_
                  exact iha _ _ _ _ _ _ _ _ _ _ _ _ _
                · first
                  | (have _z := h279; exact absurd (if_pos (Or.inr (Or.inr ⟨h269, h279⟩))) h288)
                  | (have _z := h279; exact absurd (if_neg (fun q => q.elim h252 (fun q => q.elim h263 (fun q => h279 q.2)))) h288)
                  | (have _z := h269; exact absurd (if_neg (fun q => q.elim h252 (fun q => q.elim h263 (fun q => h269 q.1)))) h288)
                  | (have _z := h263; exact absurd (if_pos (Or.inr (Or.inl h263))) h288)
                  | exact absurd (if_pos (Or.inl h252)) h288
              · rw [nI_eq (by omega) (by omega)] at h263
                refine xA.iload rfl rfl rfl ?_
                refine xA.iconst (v := 3) rfl (by decide) rfl ?_
                refine xA.icmp_ne (tgt := 287) rfl rfl rfl (fun h269 => ?_) (fun h269 => ?_)
                · rw [show (3 : Int32) = nI 3 from rfl, nI_eq (by omega) (by omega)] at h269
                  refine xA.iconst (v := (-1)) rfl (by decide) rfl ?_
                  refine xA.icmp_eq (tgt := 293) rfl rfl rfl (fun h288 => ?_) (fun h288 => ?_)
                  · refine xA.iinc (L' := [_, _, _, _, _, _, _, _, _, _, _, _, _, _, _, _, _, _, _, _, _, _]) rfl rfl (nI_1 a) rfl rfl ?_
                    refine xA.goto (q := 236) rfl rfl ?_
                    exact iha _ _ _ _ _ _ _ _ _ _ _ _ _
                  · first
                    | (have _z := h279; exact absurd (if_pos (Or.inr (Or.inr ⟨h269, h279⟩))) h288)
                    | (have _z := h279; exact absurd (if_neg (fun q => q.elim h252 (fun q => q.elim h263 (fun q => h279 q.2)))) h288)
                    | (have _z := h269; exact absurd (if_neg (fun q => q.elim h252 (fun q => q.elim h263 (fun q => h269 q.1)))) h288)
                    | (have _z := h263; exact absurd (if_pos (Or.inr (Or.inl h263))) h288)
                    | exact absurd (if_pos (Or.inl h252)) h288
                · rw [show (3 : Int32) = nI 3 from rfl, nI_eq (by omega) (by omega)] at h269
                  refine xA.aload_n (i := 3) rfl rfl rfl rfl ?_
                  refine xA.iconst (v := 1) rfl (by decide) rfl ?_
                  refine xA.iload rfl rfl rfl ?_
                  refine xA.iadd rfl rfl ?_
                  refine xA.topi (nI_add 1 k) ?_
                  refine xA.iald rfl rfl (vp_in_nI (by omega) (by omega)) rfl ?_
                  refine xA.topi (rdA (by omega) hpk.1) ?_
                  refine xA.iconst (v := 4) rfl (by decide) rfl ?_
                  refine xA.icmp_ne (tgt := 287) rfl rfl rfl (fun h279 => ?_) (fun h279 => ?_)
                  · rw [show (4 : Int32) = nI 4 from rfl, nI_eq (by omega) (by omega)] at h279
                    refine xA.iconst (v := (-1)) rfl (by decide) rfl ?_
                    refine xA.icmp_eq (tgt := 293) rfl rfl rfl (fun h288 => ?_) (fun h288 => ?_)
                    · refine xA.iinc (L' := [_, _, _, _, _, _, _, _, _, _, _, _, _, _, _, _, _, _, _, _, _, _]) rfl rfl (nI_1 a) rfl rfl ?_
                      refine xA.goto (q := 236) rfl rfl ?_
                      exact iha _ _ _ _ _ _ _ _ _ _ _ _ _
                    · first
                      | (have _z := h279; exact absurd (if_pos (Or.inr (Or.inr ⟨h269, h279⟩))) h288)
                      | (have _z := h279; exact absurd (if_neg (fun q => q.elim h252 (fun q => q.elim h263 (fun q => h279 q.2)))) h288)
                      | (have _z := h269; exact absurd (if_neg (fun q => q.elim h252 (fun q => q.elim h263 (fun q => h269 q.1)))) h288)
                      | (have _z := h263; exact absurd (if_pos (Or.inr (Or.inl h263))) h288)
                      | exact absurd (if_pos (Or.inl h252)) h288
                  · rw [show (4 : Int32) = nI 4 from rfl, nI_eq (by omega) (by omega)] at h279
                    refine xA.iload rfl rfl rfl ?_
                    refine xA.goto (q := 288) rfl rfl ?_
                    refine xA.icmp_eq (tgt := 293) rfl rfl rfl (fun h288 => ?_) (fun h288 => ?_)
                    · refine xA.iinc (L' := [_, _, _, _, _, _, _, _, _, _, _, _, _, _, _, _, _, _, _, _, _, _]) rfl rfl (nI_1 a) rfl rfl ?_
                      refine xA.goto (q := 236) rfl rfl ?_
                      exact iha _ _ _ _ _ _ _ _ _ _ _ _ _
                    · first
                      | (have _z := h279; exact absurd (if_pos (Or.inr (Or.inr ⟨h269, h279⟩))) h288)
                      | (have _z := h279; exact absurd (if_neg (fun q => q.elim h252 (fun q => q.elim h263 (fun q => h279 q.2)))) h288)
                      | (have _z := h269; exact absurd (if_neg (fun q => q.elim h252 (fun q => q.elim h263 (fun q => h269 q.1)))) h288)
                      | (have _z := h263; exact absurd (if_pos (Or.inr (Or.inl h263))) h288)
                      | exact absurd (if_pos (Or.inl h252)) h288
        · intro x9 x10 x11 x12 x13 x14 x15 x16 x17 x18 x19 x20 x21
          refine xA.iload rfl rfl rfl ?_
          refine xA.iconst (v := 5) rfl (by decide) rfl ?_
          refine xA.icmp_ge (tgt := 299) rfl rfl rfl (fun h239 => ?_) (fun h239 => ?_)
          · refine xA.iinc (L' := [_, _, _, _, _, _, _, _, _, _, _, _, _, _, _, _, _, _, _, _, _, _]) rfl rfl (nI_1 k) rfl rfl ?_
            refine xA.goto (q := 225) rfl rfl ?_
            exact ihk _ _ _ _ _ _ _ _ _ _ _ _ _ _
          · exact absurd (nI_le (a := 5) (b := 5) (Nat.le_refl _) (by decide)) h239
      refine xA.iload rfl rfl rfl ?_
      refine xA.aload_n (i := 3) rfl rfl rfl rfl ?_
      refine xA.iconst (v := 0) rfl (by decide) rfl ?_
      refine xA.iald rfl rfl (vp_in_nI (n := 0) (by decide) (by decide)) rfl ?_
      refine xA.topi (rdA (k := 0) (by decide) hpl.1) ?_
      refine xA.icmp_ge (tgt := 305) rfl rfl rfl (fun h230 => ?_) (fun h230 => ?_)
      · exact absurd h230 (nI_ge hk (by omega))
      · refine xA.iconst (v := 0) rfl (by decide) rfl ?_
        refine xA.istore (L' := [_, _, _, _, _, _, _, _, _, _, _, _, _, _, _, _, _, _, _, _, _, _]) rfl (Nat.le_of_ble_eq_true rfl) rfl rfl ?_
        exact inA 0 (Nat.zero_le _) _ _ _ _ _ _ _ _ _ _ _ _ _
    · intro x8 x9 x10 x11 x12 x13 x14 x15 x16 x17 x18 x19 x20 x21
      refine xA.iload rfl rfl rfl ?_
      refine xA.aload_n (i := 3) rfl rfl rfl rfl ?_
      refine xA.iconst (v := 0) rfl (by decide) rfl ?_
      refine xA.iald rfl rfl (vp_in_nI (n := 0) (by decide) (by decide)) rfl ?_
      refine xA.topi (rdA (k := 0) (by decide) hpl.1) ?_
      refine xA.icmp_ge (tgt := 305) rfl rfl rfl (fun h230 => ?_) (fun h230 => ?_)
      · refine xA.aload_n (i := 1) rfl rfl rfl rfl ?_
        refine xA.aloadX_n (i := 0) rfl rfl rfl rfl ?_
        refine xA.aload_n (i := 3) rfl rfl rfl rfl ?_
        refine xA.aload rfl rfl rfl ?_
        refine xA.callX (As := [_, _, _, _]) (h := (σF _, _, _)) rfl k11_97 okL_tasks rfl rfl (Nat.le_of_ble_eq_true rfl) (c_L_tasks (d + 3) S G N xs hN s hw ht0) (Nat.le_of_ble_eq_true rfl) (Nat.le_of_ble_eq_true rfl) rfl rfl ?_
        rintro r1 h1 ⟨rfl, S2, G2, s2, rfl, hw2, hg2⟩
        refine xA.if_eq (tgt := 338) rfl rfl rfl (fun h313 => ?_) (fun h313 => ?_)
        · skip
          exact absurd h313 (by decide)
        · skip
          refine xA.aload_n (i := 1) rfl rfl rfl rfl ?_
          refine xA.aloadX_n (i := 0) rfl rfl rfl rfl ?_
          refine xA.aload_n (i := 3) rfl rfl rfl rfl ?_
          refine xA.aload rfl rfl rfl ?_
          refine xA.callX (As := [_, _, _, _]) (h := (σF _, _, _)) rfl k11_100 okL_glimpses rfl rfl (Nat.le_of_ble_eq_true rfl) (c_L_glimpses (d + 3) S2 G2 N xs hN s2 hw2 (by rw [hg2]; exact hg0)) (Nat.le_of_ble_eq_true rfl) (Nat.le_of_ble_eq_true rfl) rfl rfl ?_
          rintro r3 h3 ⟨rfl, S3, G3, s3, rfl, hw3⟩
          refine xA.if_eq (tgt := 338) rfl rfl rfl (fun h324 => ?_) (fun h324 => ?_)
          · skip
            exact absurd h324 (by decide)
          · skip
            refine xA.aload_n (i := 1) rfl rfl rfl rfl ?_
            refine xA.aload_n (i := 2) rfl rfl rfl rfl ?_
            refine xA.aload_n (i := 3) rfl rfl rfl rfl ?_
            refine xA.aload rfl rfl rfl ?_
            refine xA.gS (As := [_, _, _, _]) rfl k11_103 okL_doors rfl rfl (Nat.le_of_ble_eq_true rfl) (Nat.le_of_ble_eq_true rfl) (Nat.le_of_ble_eq_true rfl) (c_L_doors (d + 3) S3 G3 s3 hw3) rfl rfl ?_
            refine xA.if_ne (tgt := 340) rfl rfl rfl (fun h335 => ?_) (fun h335 => ?_)
            · skip
              refine xA.iconst (v := 0) rfl (by decide) rfl ?_
              refine xA.istore (L' := [_, _, _, _, _, _, _, _, _, _, _, _, _, _, _, _, _, _, _, _, _, _]) rfl (Nat.le_of_ble_eq_true rfl) rfl rfl ?_
              exact law_lives d N xs hN s3 G3 n6 0 (Nat.zero_le _) S3 hw3 _ _ _ _ _ _ _ _ _ _ _ _ _ _
            · skip
              exact absurd h335 (by decide)
      · exact absurd (nI_le (Nat.le_refl _) (by omega)) h230
  refine xA.iconst (v := 0) rfl (by decide) rfl ?_
  refine xA.istore (L' := [_, _, _, _, _, _, _, _, _, _, _, _, _, _, _, _, _, _, _, _, _, _]) rfl (Nat.le_of_ble_eq_true rfl) rfl rfl ?_
  exact loop 0 (Nat.zero_le _) _ _ _ _ _ _ _ _ _ _ _ _ _ _
set_option maxRecDepth 100000 in
set_option maxHeartbeats 8000000 in
theorem law_begin (d : Nat) (N : Nat) (xs : Nat → Int32) (hN : N ≤ 260) (s : sS) (S : Nat → Nat → Int32) (G : Nat → Nat → Int64) (hc : CS S s) (hh : RH (S 54) (sH s)) (hr : 0 < sHr s) (hN0 : sN s = 0) (hP0 : sP s = 0) (ht0 : (sTk s).1 = 0) (hg0 : (sGl s).1 = 0) (h550 : ∀ i, i < 8 → S 55 i = 0) (n6 : Int32) (x7 x8 x9 x10 x11 x12 x13 x14 x15 x16 x17 x18 x19 x20 x21 : Option Value) : xA (some (N, xs)) (d + 8) mL_law 599996 7302227 600000 7302250 112 [some (.retAddr 0), some (.ref 0), some (.ref 54), some (.ref 55), some (.ref 56), some (.ref 57), some (.int (n6)), x7, x8, x9, x10, x11, x12, x13, x14, x15, x16, x17, x18, x19, x20, x21] [] (σF (τL []), S, G) (fun r _ => r = some (.int 1)) := by
  have hok := (hc.2.1.2.2.2 hr).1.2.1
  have loop : ∀ a, a ≤ 6 → ∀ x8 x9 x10 x11 x12 x13 x14 x15 x16 x17 x18 x19 x20 x21 : Option Value, xA (some (N, xs)) (d + 8) mL_law 599996 7302227 600000 7302250 115 [some (.retAddr 0), some (.ref 0), some (.ref 54), some (.ref 55), some (.ref 56), some (.ref 57), some (.int (n6)), some (.int (nI a)), x8, x9, x10, x11, x12, x13, x14, x15, x16, x17, x18, x19, x20, x21] [] (σF (τL []), S, G) (fun r _ => r = some (.int 1)) := by
    refine xloop 6 (fun a ha iha => ?_) ?_
    · intro x8 x9 x10 x11 x12 x13 x14 x15 x16 x17 x18 x19 x20 x21
      obtain ⟨x, hx64, hxA, hxt⟩ := hh.2.2.2.2.1 a ha
      have inB : ∀ b, b ≤ 6 → ∀ x9 x10 x11 x12 x13 x14 x15 x16 x17 x18 x19 x20 x21 : Option Value, xA (some (N, xs)) (d + 8) mL_law 599996 7302227 600000 7302250 125 [some (.retAddr 0), some (.ref 0), some (.ref 54), some (.ref 55), some (.ref 56), some (.ref 57), some (.int (n6)), some (.int (nI a)), some (.int (nI b)), x9, x10, x11, x12, x13, x14, x15, x16, x17, x18, x19, x20, x21] [] (σF (τL []), S, G) (fun r _ => r = some (.int 1)) := by
        refine xloop 6 (fun b hb ihb => ?_) ?_
        · intro x9 x10 x11 x12 x13 x14 x15 x16 x17 x18 x19 x20 x21
          refine xA.iload rfl rfl rfl ?_
          refine xA.bipush (v := 6) rfl (by decide) rfl ?_
          refine xA.icmp_ge (tgt := 187) rfl rfl rfl (fun h129 => ?_) (fun h129 => ?_)
          · exact absurd h129 (nI_ge (b := 6) hb (by decide))
          · refine xA.aload_n (i := 1) rfl rfl rfl rfl ?_
            refine xA.iload rfl rfl rfl ?_
            refine xA.iload rfl rfl rfl ?_
            refine xA.gV (As := [_, _]) rfl k11_83 okX9_between rfl rfl rfl rfl (Nat.le_of_ble_eq_true rfl) (Nat.le_of_ble_eq_true rfl) (Nat.le_of_ble_eq_true rfl) (c_X9_between (d + 5) S G s hc (nI a) (nI b)) rfl rfl ?_
            refine xA.iload rfl rfl rfl ?_
            refine xA.iload rfl rfl rfl ?_
            refine xA.icmp_ne (tgt := 152) rfl rfl rfl (fun h144 => ?_) (fun h144 => ?_)
            · rw [nI_eq (by omega) (by omega)] at h144
              refine xA.aload_n (i := 2) rfl rfl rfl rfl ?_
              refine xA.iload rfl rfl rfl ?_
              refine xA.iald rfl rfl (vp_in_nI (by omega) (by omega)) rfl ?_
              refine xA.topi (rdA (by omega) hxA) ?_
              refine xA.iload rfl rfl rfl ?_
              refine xA.ishr rfl rfl ?_
              refine xA.iconst (v := 1) rfl (by decide) rfl ?_
              refine xA.iand rfl rfl ?_
              refine xA.topi (bt1_nI x hx64 b hb) ?_
              refine xA.iconst (v := 2) rfl (by decide) rfl ?_
              refine xA.aload_n (i := 2) rfl rfl rfl rfl ?_
              refine xA.bipush (v := 6) rfl (by decide) rfl ?_
              refine xA.iload rfl rfl rfl ?_
              refine xA.iadd rfl rfl ?_
              refine xA.topi (nI_add 6 a) ?_
              refine xA.iald rfl rfl (vp_in_nI (by omega) (by omega)) rfl ?_
              refine xA.topi (rdA (by omega) (hh.2.2.2.2.2.1 a ha)) ?_
              refine xA.iload rfl rfl rfl ?_
              refine xA.ishr rfl rfl ?_
              refine xA.iconst (v := 1) rfl (by decide) rfl ?_
              refine xA.iand rfl rfl ?_
              refine xA.topi (bt1_nI _ (hok.2.2.2.2.2.2.2.2.1 a) b hb) ?_
              refine xA.imul rfl rfl ?_
              refine xA.iadd rfl rfl ?_
              refine xA.icmp_eq (tgt := 181) rfl rfl rfl (fun h176 => ?_) (fun h176 => ?_)
              · refine xA.iinc (L' := [_, _, _, _, _, _, _, _, _, _, _, _, _, _, _, _, _, _, _, _, _, _]) rfl rfl (nI_1 b) rfl rfl ?_
                refine xA.goto (q := 125) rfl rfl ?_
                exact ihb _ _ _ _ _ _ _ _ _ _ _ _ _
              · first
                | exact absurd (a_between ha hb h144 hr (hxt b hb)) h176
                | exact absurd (a_betweenE h144) h176
            · rw [nI_eq (by omega) (by omega)] at h144
              refine xA.bipush (v := (-101)) rfl (by decide) rfl ?_
              refine xA.goto (q := 176) rfl rfl ?_
              refine xA.icmp_eq (tgt := 181) rfl rfl rfl (fun h176 => ?_) (fun h176 => ?_)
              · refine xA.iinc (L' := [_, _, _, _, _, _, _, _, _, _, _, _, _, _, _, _, _, _, _, _, _, _]) rfl rfl (nI_1 b) rfl rfl ?_
                refine xA.goto (q := 125) rfl rfl ?_
                exact ihb _ _ _ _ _ _ _ _ _ _ _ _ _
              · first
                | exact absurd (a_between ha hb h144 hr (hxt b hb)) h176
                | exact absurd (a_betweenE h144) h176
        · intro x9 x10 x11 x12 x13 x14 x15 x16 x17 x18 x19 x20 x21
          refine xA.iload rfl rfl rfl ?_
          refine xA.bipush (v := 6) rfl (by decide) rfl ?_
          refine xA.icmp_ge (tgt := 187) rfl rfl rfl (fun h129 => ?_) (fun h129 => ?_)
          · refine xA.iinc (L' := [_, _, _, _, _, _, _, _, _, _, _, _, _, _, _, _, _, _, _, _, _, _]) rfl rfl (nI_1 a) rfl rfl ?_
            refine xA.goto (q := 115) rfl rfl ?_
            exact iha _ _ _ _ _ _ _ _ _ _ _ _ _ _
          · exact absurd (nI_le (a := 6) (b := 6) (Nat.le_refl _) (by decide)) h129
      refine xA.iload rfl rfl rfl ?_
      refine xA.bipush (v := 6) rfl (by decide) rfl ?_
      refine xA.icmp_ge (tgt := 193) rfl rfl rfl (fun h119 => ?_) (fun h119 => ?_)
      · exact absurd h119 (nI_ge (b := 6) ha (by decide))
      · refine xA.iconst (v := 0) rfl (by decide) rfl ?_
        refine xA.istore (L' := [_, _, _, _, _, _, _, _, _, _, _, _, _, _, _, _, _, _, _, _, _, _]) rfl (Nat.le_of_ble_eq_true rfl) rfl rfl ?_
        exact inB 0 (Nat.zero_le _) _ _ _ _ _ _ _ _ _ _ _ _ _
    · intro x8 x9 x10 x11 x12 x13 x14 x15 x16 x17 x18 x19 x20 x21
      refine xA.iload rfl rfl rfl ?_
      refine xA.bipush (v := 6) rfl (by decide) rfl ?_
      refine xA.icmp_ge (tgt := 193) rfl rfl rfl (fun h119 => ?_) (fun h119 => ?_)
      · refine xA.aload_n (i := 1) rfl rfl rfl rfl ?_
        refine xA.aloadX_n (i := 0) rfl rfl rfl rfl ?_
        refine xA.iconst (v := 3) rfl (by decide) rfl ?_
        refine xA.iconst (v := 0) rfl (by decide) rfl ?_
        refine xA.aload_n (i := 2) rfl rfl rfl rfl ?_
        refine xA.aload_n (i := 3) rfl rfl rfl rfl ?_
        refine xA.aload rfl rfl rfl ?_
        refine xA.aload rfl rfl rfl ?_
        refine xA.callX (As := [_, _, _, _, _, _, _, _]) (h := (σF _, _, _)) rfl k11_86 okL_people rfl rfl (Nat.le_of_ble_eq_true rfl) (c_L_people d S G N xs hN s hc hN0 hP0 hr hh h550) (Nat.le_of_ble_eq_true rfl) (Nat.le_of_ble_eq_true rfl) rfl rfl ?_
        rintro r1 h1 ⟨rfl, S2, s2, rfl, hc2, hp2, e54, hsr⟩
        have hw2 : LW S2 s2 := ⟨hc2, by rw [e54, hsr.2.1]; exact hh, by rw [hsr.1]; exact hr, hp2⟩
        refine xA.if_eq (tgt := 220) rfl rfl rfl (fun h206 => ?_) (fun h206 => ?_)
        · skip
          exact absurd h206 (by decide)
        · skip
          refine xA.aload_n (i := 1) rfl rfl rfl rfl ?_
          refine xA.aload_n (i := 2) rfl rfl rfl rfl ?_
          refine xA.aload_n (i := 3) rfl rfl rfl rfl ?_
          refine xA.aload rfl rfl rfl ?_
          refine xA.gS (As := [_, _, _, _]) rfl k11_90 okL_stands rfl rfl (Nat.le_of_ble_eq_true rfl) (Nat.le_of_ble_eq_true rfl) (Nat.le_of_ble_eq_true rfl) (c_L_stands (d + 2) S2 G s2 hw2) rfl rfl ?_
          refine xA.if_ne (tgt := 222) rfl rfl rfl (fun h217 => ?_) (fun h217 => ?_)
          · skip
            exact law_mid d N xs hN s2 S2 G hw2 (by rw [hsr.2.2.1]; exact ht0) (by rw [hsr.2.2.2.1]; exact hg0) n6 _ _ _ _ _ _ _ _ _ _ _ _ _ _ _
          · skip
            exact absurd h217 (by decide)
      · exact absurd (nI_le (a := 6) (b := 6) (Nat.le_refl _) (by decide)) h119
  refine xA.iconst (v := 0) rfl (by decide) rfl ?_
  refine xA.istore (L' := [_, _, _, _, _, _, _, _, _, _, _, _, _, _, _, _, _, _, _, _, _, _]) rfl (Nat.le_of_ble_eq_true rfl) rfl rfl ?_
  exact loop 0 (Nat.zero_le _) _ _ _ _ _ _ _ _ _ _ _ _ _ _
set_option maxRecDepth 100000 in
set_option maxHeartbeats 8000000 in
theorem law_first (d : Nat) (N : Nat) (xs : Nat → Int32) (hN : N ≤ 260) (S : Nat → Nat → Int32) (G : Nat → Nat → Int64) (hc : CS S s0) (h550 : ∀ i, i < 8 → S 55 i = 0) : xA (some (N, xs)) (d + 8) mL_law 599996 7302227 600000 7302250 30 [some (.retAddr 0), some (.ref 0), some (.ref 54), some (.ref 55), some (.ref 56), some (.ref 57), none, none, none, none, none, none, none, none, none, none, none, none, none, none, none, none] [] (σF (τL []), S, G) (fun r _ => r = some (.int 1)) := by
  refine xA.aloadX_n (i := 0) rfl rfl rfl rfl ?_
  refine xA.iconst (v := 0) rfl (by decide) rfl ?_
  refine xA.aload_n (i := 2) rfl rfl rfl rfl ?_
  refine xA.aload rfl rfl rfl ?_
  refine xA.callX (As := [_, _, _, _]) (h := (σF _, _, _)) rfl k11_75 okL_houseText rfl rfl (Nat.le_of_ble_eq_true rfl) (c_L_houseText (d + 6) S G N xs hN) (Nat.le_of_ble_eq_true rfl) (Nat.le_of_ble_eq_true rfl) rfl rfl ?_
  rintro r1 h1 ⟨S1, n, hh, rfl, rfl, hn44, hfr, hrh, ⟨pg, htx, hru⟩, hst⟩
  have hc1 : CS S1 s0 := hc.lo (fun j hj => hfr j (by omega) (by omega))
  refine xA.istore (L' := [_, _, _, _, _, _, _, _, _, _, _, _, _, _, _, _, _, _, _, _, _, _]) rfl (Nat.le_of_ble_eq_true rfl) rfl rfl ?_
  refine xA.aload_n (i := 1) rfl rfl rfl rfl ?_
  refine xA.aload rfl rfl rfl ?_
  refine xA.iload rfl rfl rfl ?_
  refine xA.callS (As := [_, _, _]) (h := (σF _, _, _)) rfl k11_39 okL_write rfl rfl (Nat.le_of_ble_eq_true rfl) (c_L_write (d + 4) S1 G s0 hc1 rfl pg n (by omega) htx) (Nat.le_of_ble_eq_true rfl) (Nat.le_of_ble_eq_true rfl) rfl rfl ?_
  rintro r2 h2 ⟨rfl, S2, pg2, rfl, hc2, hf2, hp2⟩
  have hrun2 : hrun pg2 n = some hh := by rw [hrun_congr (pg' := pg) n hp2]; exact hru
  refine xA.if_eq (tgt := 110) rfl rfl rfl (fun h48 => ?_) (fun h48 => ?_)
  · skip
    exact absurd h48 (by decide)
  · skip
    refine xA.aload_n (i := 1) rfl rfl rfl rfl ?_
    refine xA.iconst (v := 0) rfl (by decide) rfl ?_
    refine xA.gO (As := [_]) rfl k11_43 okX9_fault rfl rfl rfl (Nat.le_of_ble_eq_true rfl) (Nat.le_of_ble_eq_true rfl) (Nat.le_of_ble_eq_true rfl) (o_fault (d + 2) (pg2, n, s0.2.2) 0) (hc2) rfl rfl ?_
    intro S3 hc3 hf3
    refine xA.topi (fault_ok (s := (pg2, n, s0.2.2)) hrun2) ?_
    refine xA.iload rfl rfl rfl ?_
    refine xA.icmp_ne (tgt := 110) rfl rfl rfl (fun h58 => ?_) (fun h58 => ?_)
    · exact absurd rfl h58
    · refine xA.aload_n (i := 1) rfl rfl rfl rfl ?_
      refine xA.gO (As := []) rfl k11_79 okX9_house rfl rfl rfl (Nat.le_of_ble_eq_true rfl) (Nat.le_of_ble_eq_true rfl) (Nat.le_of_ble_eq_true rfl) (o_house (d + 2) (pg2, n, s0.2.2) (show 0 < 600 by decide)) (hc3) rfl rfl ?_
      intro S4 hc4 hf4
      have hho := house_ok (s := (pg2, n, s0.2.2)) hrun2 hst
      refine xA.topi hho.1 ?_
      rw [hho.2] at hc4
      refine xA.aload_n (i := 2) rfl rfl rfl rfl ?_
      refine xA.bipush (v := 14) rfl (by decide) rfl ?_
      refine xA.iald rfl rfl (vp_in_nI (n := 14) (by decide) (by decide)) rfl ?_
      refine xA.topi (rdA (k := 14) (by decide) (((congrFun (hf4 54 (by decide)) 14).trans ((congrFun (hf3 54 (by decide)) 14).trans (congrFun (hf2 54 (by decide)) 14))).trans hrh.2.2.1)) ?_
      refine xA.icmp_ne (tgt := 110) rfl rfl rfl (fun h69 => ?_) (fun h69 => ?_)
      · exact absurd rfl h69
      · refine xA.aload_n (i := 1) rfl rfl rfl rfl ?_
        refine xA.iconst (v := 1) rfl (by decide) rfl ?_
        refine xA.gV (As := [_]) rfl k11_71 okX9_count rfl rfl rfl rfl (Nat.le_of_ble_eq_true rfl) (Nat.le_of_ble_eq_true rfl) (Nat.le_of_ble_eq_true rfl) (c_X9_count (d + 6) S4 G (hoS (pg2, n, s0.2.2) hh) hc4 1) rfl rfl ?_
        refine xA.topi (show _ = nI (hNs hh) from by rw [aCount, if_neg (by decide), if_pos rfl]; exact if_neg (Nat.succ_ne_zero 0)) ?_
        refine xA.aload_n (i := 2) rfl rfl rfl rfl ?_
        refine xA.bipush (v := 15) rfl (by decide) rfl ?_
        refine xA.iald rfl rfl (vp_in_nI (n := 15) (by decide) (by decide)) rfl ?_
        refine xA.topi (rdA (k := 15) (by decide) (((congrFun (hf4 54 (by decide)) 15).trans ((congrFun (hf3 54 (by decide)) 15).trans (congrFun (hf2 54 (by decide)) 15))).trans hrh.2.2.2.1)) ?_
        refine xA.icmp_ne (tgt := 110) rfl rfl rfl (fun h81 => ?_) (fun h81 => ?_)
        · exact absurd rfl h81
        · refine xA.aload_n (i := 1) rfl rfl rfl rfl ?_
          refine xA.bipush (v := 8) rfl (by decide) rfl ?_
          refine xA.gV (As := [_]) rfl k11_71 okX9_count rfl rfl rfl rfl (Nat.le_of_ble_eq_true rfl) (Nat.le_of_ble_eq_true rfl) (Nat.le_of_ble_eq_true rfl) (c_X9_count (d + 6) S4 G (hoS (pg2, n, s0.2.2) hh) hc4 8) rfl rfl ?_
          refine xA.topi (show _ = nI (hBa hh) from by rw [aCount, if_neg (by decide), if_neg (by decide), if_neg (by decide), if_neg (by decide), if_neg (by decide), if_neg (by decide), if_neg (by decide), if_neg (by decide), if_pos rfl]; exact if_neg (Nat.succ_ne_zero 0)) ?_
          refine xA.aload_n (i := 2) rfl rfl rfl rfl ?_
          refine xA.bipush (v := 13) rfl (by decide) rfl ?_
          refine xA.iald rfl rfl (vp_in_nI (n := 13) (by decide) (by decide)) rfl ?_
          refine xA.topi (rdA (k := 13) (by decide) (((congrFun (hf4 54 (by decide)) 13).trans ((congrFun (hf3 54 (by decide)) 13).trans (congrFun (hf2 54 (by decide)) 13))).trans hrh.2.1)) ?_
          refine xA.icmp_ne (tgt := 110) rfl rfl rfl (fun h94 => ?_) (fun h94 => ?_)
          · exact absurd rfl h94
          · refine xA.aload_n (i := 1) rfl rfl rfl rfl ?_
            refine xA.bipush (v := 9) rfl (by decide) rfl ?_
            refine xA.gV (As := [_]) rfl k11_71 okX9_count rfl rfl rfl rfl (Nat.le_of_ble_eq_true rfl) (Nat.le_of_ble_eq_true rfl) (Nat.le_of_ble_eq_true rfl) (c_X9_count (d + 6) S4 G (hoS (pg2, n, s0.2.2) hh) hc4 9) rfl rfl ?_
            refine xA.topi (show _ = nI (hLo hh) from by rw [aCount, if_neg (by decide), if_neg (by decide), if_neg (by decide), if_neg (by decide), if_neg (by decide), if_neg (by decide), if_neg (by decide), if_neg (by decide), if_neg (by decide), if_pos rfl]; exact if_neg (Nat.succ_ne_zero 0)) ?_
            refine xA.aload_n (i := 2) rfl rfl rfl rfl ?_
            refine xA.bipush (v := 12) rfl (by decide) rfl ?_
            refine xA.iald rfl rfl (vp_in_nI (n := 12) (by decide) (by decide)) rfl ?_
            refine xA.topi (rdA (k := 12) (by decide) (((congrFun (hf4 54 (by decide)) 12).trans ((congrFun (hf3 54 (by decide)) 12).trans (congrFun (hf2 54 (by decide)) 12))).trans hrh.1)) ?_
            refine xA.icmp_eq (tgt := 112) rfl rfl rfl (fun h107 => ?_) (fun h107 => ?_)
            · refine law_begin d N xs hN (hoS (pg2, n, s0.2.2) hh) S4 G hc4 ?_ (Nat.succ_pos _) rfl rfl rfl rfl ?_ _ _ _ _ _ _ _ _ _ _ _ _ _ _ _ _
              · rw [hf4 54 (by decide), hf3 54 (by decide), hf2 54 (by decide)]; exact hrh
              · intro i hi
                rw [hf4 55 (by decide), hf3 55 (by decide), hf2 55 (by decide), hfr 55 (by decide) (by decide)]; exact h550 i hi
            · exact absurd rfl h107
set_option maxRecDepth 100000 in
set_option maxHeartbeats 8000000 in
theorem law_xA (N : Nat) (xs : Nat → Int32) (hN : N ≤ 260) : xA (some (N, xs)) (0 + 8) mL_law 0 0 600000 7302250 0 [some (.retAddr 0), none, none, none, none, none, none, none, none, none, none, none, none, none, none, none, none, none, none, none, none, none] [] ([], Z32, Z64) (fun r _ => r = some (.int 1)) := by
  refine xA.new (N := 13) rfl n11_19 rfl (Nat.le_of_ble_eq_true rfl) (Nat.le_of_ble_eq_true rfl) rfl ?_
  refine xA.zz (m := 0) (fun j _ => ⟨rfl, rfl⟩) (Nat.le_of_ble_eq_true rfl) ?_
  refine xA.top (k' := 0) rfl ?_
  refine xA.shp (σ' := [.inl (9, [none, none, none, none, none, none, none, none, none, none, none, none, none])]) rfl ?_
  refine xA.dup rfl rfl rfl ?_
  refine xA.callI (As := []) rfl k11_74 okX9_init rfl rfl (Nat.le_of_ble_eq_true rfl) (c_X9_init 3) (Nat.le_of_ble_eq_true rfl) (Nat.le_of_ble_eq_true rfl) rfl rfl ?_
  rintro r9 h9 ⟨rfl, rfl⟩
  refine xA.shp (σ' := σF []) rfl ?_
  refine xA.astore_n (i := 1) (L' := [_, _, _, _, _, _, _, _, _, _, _, _, _, _, _, _, _, _, _, _, _, _]) rfl rfl (Nat.le_of_ble_eq_true rfl) rfl rfl ?_
  refine xA.bipush (v := 36) rfl (by decide) rfl ?_
  refine xA.newa (N := 36) rfl w46 (by decide) (by decide) (Nat.le_of_ble_eq_true rfl) (Nat.le_of_ble_eq_true rfl) (Nat.le_of_ble_eq_true rfl) rfl ?_
  refine xA.zz (m := 54) (zb9 (Nat.le_of_ble_eq_true rfl)) (Nat.le_of_ble_eq_true rfl) ?_
  refine xA.top (k' := 54) rfl ?_
  refine xA.shp (σ' := σF [.inr (.inl 36)]) rfl ?_
  refine xA.astore_n (i := 2) (L' := [_, _, _, _, _, _, _, _, _, _, _, _, _, _, _, _, _, _, _, _, _, _]) rfl rfl (Nat.le_of_ble_eq_true rfl) rfl rfl ?_
  refine xA.bipush (v := 8) rfl (by decide) rfl ?_
  refine xA.newa (N := 8) rfl w46 (by decide) (by decide) (Nat.le_of_ble_eq_true rfl) (Nat.le_of_ble_eq_true rfl) (Nat.le_of_ble_eq_true rfl) rfl ?_
  refine xA.zz (m := 54) (zb9 (Nat.le_of_ble_eq_true rfl)) (Nat.le_of_ble_eq_true rfl) ?_
  refine xA.top (k' := 55) rfl ?_
  refine xA.shp (σ' := σF [.inr (.inl 36), .inr (.inl 8)]) rfl ?_
  refine xA.astore_n (i := 3) (L' := [_, _, _, _, _, _, _, _, _, _, _, _, _, _, _, _, _, _, _, _, _, _]) rfl rfl (Nat.le_of_ble_eq_true rfl) rfl rfl ?_
  refine xA.bipush (v := 51) rfl (by decide) rfl ?_
  refine xA.newa (N := 51) rfl w46 (by decide) (by decide) (Nat.le_of_ble_eq_true rfl) (Nat.le_of_ble_eq_true rfl) (Nat.le_of_ble_eq_true rfl) rfl ?_
  refine xA.zz (m := 54) (zb9 (Nat.le_of_ble_eq_true rfl)) (Nat.le_of_ble_eq_true rfl) ?_
  refine xA.top (k' := 56) rfl ?_
  refine xA.shp (σ' := σF [.inr (.inl 36), .inr (.inl 8), .inr (.inl 51)]) rfl ?_
  refine xA.astore (L' := [_, _, _, _, _, _, _, _, _, _, _, _, _, _, _, _, _, _, _, _, _, _]) rfl (Nat.le_of_ble_eq_true rfl) rfl rfl ?_
  refine xA.bipush (v := 45) rfl (by decide) rfl ?_
  refine xA.newa (N := 45) rfl w46 (by decide) (by decide) (Nat.le_of_ble_eq_true rfl) (Nat.le_of_ble_eq_true rfl) (Nat.le_of_ble_eq_true rfl) rfl ?_
  refine xA.zz (m := 54) (zb9 (Nat.le_of_ble_eq_true rfl)) (Nat.le_of_ble_eq_true rfl) ?_
  refine xA.top (k' := 57) rfl ?_
  refine xA.shp (σ' := σF (τL [])) rfl ?_
  refine xA.astore (L' := [_, _, _, _, _, _, _, _, _, _, _, _, _, _, _, _, _, _, _, _, _, _]) rfl (Nat.le_of_ble_eq_true rfl) rfl rfl ?_
  refine xA.widen (c' := 599996) (n' := 7302227) (Nat.le_of_ble_eq_true rfl) (Nat.le_of_ble_eq_true rfl) ?_
  exact law_first 0 N xs hN Z9 Z64 CS0 (fun i _ => rfl)

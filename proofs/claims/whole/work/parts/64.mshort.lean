/-! ===== the reference: the shortest ===== -/
theorem gR_s {N : Nat → Nat → Option Nat} {dI : Nat → Int32} {mt : Nat → Nat → Bool} {set : Int32} {t n c : Nat} {sp : Nat → Nat} : gR N dI mt set (t + 1) n sp (c % 8 ^ (t + 1)) ↔ ∃ q, N (sp (n - 1)) (c / 8 ^ t % 8) = some q ∧ gR N dI mt set t (n + 1) (nu sp n q) (c % 8 ^ t) := by
  have e1 : c % 8 ^ (t + 1) / 8 ^ t % 8 = c / 8 ^ t % 8 := by rw [Nat.pow_succ, Nat.mod_mul_right_div_self, Nat.mod_mod]
  have e2 : c % 8 ^ (t + 1) % 8 ^ t = c % 8 ^ t := Nat.mod_mod_of_dvd _ ⟨8, Nat.pow_succ ..⟩
  rw [gR, e1, e2]

set_option maxRecDepth 100000 in
set_option maxHeartbeats 2000000 in
theorem c_X10_does (d : Nat) (S : Nat → Nat → Int32) (G : Nat → Nat → Int64) (s : sS) (hc : MS S s) (hr0 : ¬ sHr s = 0) (kd : Nat) (hk : kd < 5) (m r : Nat) (hm : m < 60) (hr : r < 6) (set : Int32) (k c : Nat) (hk6 : k ≤ 6) (hck : c < 8 ^ k) (hc18 : c < 2 ^ 18) : xC (d + 2) mX10_does [.ref 54, .int (nI kd), .int (nI m), .int (nI r), .int set, .int (nI k), .int (nI c)] (σF, S, G) 0 0 (fun z h' => ∃ S', h' = (σF, S', G) ∧ z = some (.int (xb (gcB (NX (sH s) (lpN (sH s) kd)) (dIt (sTk s)) (mtB (sH s) kd) set k [] (m * 6 + r) 0 c = true))) ∧ frL S S') := by
  have hok := (hc.2.1.2.2.2 (by omega)).1.1
  refine xC.of okX10_does (Nat.le_of_ble_eq_true rfl) (L := [_, _, _, _, _, _, _, _, _]) rfl ?_
  have loop : ∀ t, t ≤ k → ∀ S1 n sp lo, ltC S1 n sp lo → n + t = k + 1 → frL S S1 → ((gcB (NX (sH s) (lpN (sH s) kd)) (dIt (sTk s)) (mtB (sH s) kd) set k [] (m * 6 + r) 0 c = true) ↔ gR (NX (sH s) (lpN (sH s) kd)) (dIt (sTk s)) (mtB (sH s) kd) set t n sp (c % 8 ^ t)) → xA none (d + 2) mX10_does 0 0 0 0 15 [some (.ref 54), some (.int (nI kd)), some (.int (nI m)), some (.int (nI r)), some (.int set), some (.int (nI k)), some (.int (nI c)), some (.int 1), some (.int (nI t - 1))] [] (σF, S1, G) (fun z h' => ∃ S', h' = (σF, S', G) ∧ z = some (.int (xb (gcB (NX (sH s) (lpN (sH s) kd)) (dIt (sTk s)) (mtB (sH s) kd) set k [] (m * 6 + r) 0 c = true))) ∧ frL S S') := by
    intro t
    induction t with
    | zero =>
      intro _ S1 n sp lo hl hn hf hA
      have hm1 := frL.ms hc hf
      obtain ⟨_, _, _, _, _, _, _, hsi, _⟩ := hm1.2.1.2.2.2 (by omega)
      have hrw : rwC S1 69 70 0 (n, sp, 0, 0) := fun i hi => by rw [Nat.zero_add]; exact ⟨(hl.2.2.2.1 i hi).1, (hl.2.2.2.1 i hi).2.1⟩
      have hA0 : (gcB (NX (sH s) (lpN (sH s) kd)) (dIt (sTk s)) (mtB (sH s) kd) set k [] (m * 6 + r) 0 c = true) ↔ (doneN (sTk s) (n, sp, 0, 0) &&& set = set ∧ metN (sH s) kd (n, sp, 0, 0) = -1) := hA.trans (gR_zero hok (fun i hi => (hl.2.2.2.1 i hi).2.2))
      refine xA.iload rfl rfl rfl ?_
      refine xA.if_lt (tgt := 48) rfl rfl rfl (fun h17 => ?_) (fun h17 => ?_)
      · refine xA.iload rfl rfl rfl ?_
        refine xA.if_eq (tgt := 104) rfl rfl rfl (fun h50 => ?_) (fun h50 => ?_)
        · exact absurd h50 (by decide)
        · refine xA.aload_n (i := 0) rfl rfl rfl rfl ?_
          refine xA.aload_n (i := 0) rfl rfl rfl rfl ?_
          refine xA.getR rfl f10_52 rfl rfl rfl rfl ?_
          refine xA.aload_n (i := 0) rfl rfl rfl rfl ?_
          refine xA.getR rfl f10_55 rfl rfl rfl rfl ?_
          refine xA.iconst (v := 0) rfl (by decide) rfl ?_
          refine xA.aload_n (i := 0) rfl rfl rfl rfl ?_
          refine xA.getI rfl f10_181 rfl rfl rfl ?_
          refine xA.topi (hl.1) ?_
          refine xA.callVi (As := [_, _, _, _]) rfl k10_232 okX10_doneBy rfl rfl rfl rfl (Nat.le_of_ble_eq_true rfl) (c_X10_doneBy d _ G (sTk s) hm1.2.2.2.1.1 hm1.2.2.2.1.2 (n, sp, 0, 0) hl.2.2.1 69 70 0 17 rfl rfl (by show 0 + n ≤ 17; omega) (by omega) hrw) rfl rfl ?_
          refine xA.iload rfl rfl rfl ?_
          refine xA.iand rfl rfl ?_
          refine xA.iload rfl rfl rfl ?_
          refine xA.icmp_ne (tgt := 104) rfl rfl rfl (fun h75 => ?_) (fun h75 => ?_)
          · refine xA.iconst (v := 0) rfl (by decide) rfl ?_
            first
              | exact xA.iret rfl rfl rfl ⟨_, rfl, by rw [xb_t (hA0.mpr ⟨h75, h97⟩)], hf⟩
              | exact xA.iret rfl rfl rfl ⟨_, rfl, by rw [xb_f (fun z => h75 (hA0.mp z).1)], hf⟩
              | exact xA.iret rfl rfl rfl ⟨_, rfl, by rw [xb_f (fun z => h97 (hA0.mp z).2)], hf⟩
          · refine xA.aload_n (i := 0) rfl rfl rfl rfl ?_
            refine xA.iload_n (i := 1) rfl rfl rfl rfl ?_
            refine xA.aload_n (i := 0) rfl rfl rfl rfl ?_
            refine xA.getR rfl f10_52 rfl rfl rfl rfl ?_
            refine xA.aload_n (i := 0) rfl rfl rfl rfl ?_
            refine xA.getR rfl f10_55 rfl rfl rfl rfl ?_
            refine xA.iconst (v := 0) rfl (by decide) rfl ?_
            refine xA.aload_n (i := 0) rfl rfl rfl rfl ?_
            refine xA.getI rfl f10_181 rfl rfl rfl ?_
            refine xA.topi (hl.1) ?_
            refine xA.callVi (As := [_, _, _, _, _]) rfl k10_210 okX10_metOf rfl rfl rfl rfl (Nat.le_of_ble_eq_true rfl) (c_X10_metOf (d + 1) _ G (sH s) hok hsi kd hk (n, sp, 0, 0) (fun i hi => (hl.2.2.2.1 i hi).2.2) hl.2.2.1 69 70 0 17 rfl rfl (by show 0 + n ≤ 17; omega) (by omega) hrw) rfl rfl ?_
            refine xA.iconst (v := (-1)) rfl (by decide) rfl ?_
            refine xA.icmp_ne (tgt := 104) rfl rfl rfl (fun h97 => ?_) (fun h97 => ?_)
            · refine xA.iconst (v := 0) rfl (by decide) rfl ?_
              first
                | exact xA.iret rfl rfl rfl ⟨_, rfl, by rw [xb_t (hA0.mpr ⟨h75, h97⟩)], hf⟩
                | exact xA.iret rfl rfl rfl ⟨_, rfl, by rw [xb_f (fun z => h75 (hA0.mp z).1)], hf⟩
                | exact xA.iret rfl rfl rfl ⟨_, rfl, by rw [xb_f (fun z => h97 (hA0.mp z).2)], hf⟩
            · refine xA.iconst (v := 1) rfl (by decide) rfl ?_
              refine xA.goto (q := 105) rfl rfl ?_
              first
                | exact xA.iret rfl rfl rfl ⟨_, rfl, by rw [xb_t (hA0.mpr ⟨h75, h97⟩)], hf⟩
                | exact xA.iret rfl rfl rfl ⟨_, rfl, by rw [xb_f (fun z => h75 (hA0.mp z).1)], hf⟩
                | exact xA.iret rfl rfl rfl ⟨_, rfl, by rw [xb_f (fun z => h97 (hA0.mp z).2)], hf⟩
      · exact absurd (by decide) h17
    | succ t ih =>
      intro ht S1 n sp lo hl hn hf hA
      rw [show nI (t + 1) - 1 = nI t from nI_sub (a := t + 1) (b := 1) (by omega)]
      refine xA.iload rfl rfl rfl ?_
      refine xA.if_lt (tgt := 48) rfl rfl rfl (fun h17 => ?_) (fun h17 => ?_)
      · exact absurd h17 (by rw [Int32.lt_iff_toInt_lt, nI_toInt (by omega), Int32.toInt_zero]; omega)
      · refine xA.iload rfl rfl rfl ?_
        refine xA.if_eq (tgt := 48) rfl rfl rfl (fun h22 => ?_) (fun h22 => ?_)
        · exact absurd h22 (by decide)
        · refine xA.aload_n (i := 0) rfl rfl rfl rfl ?_
          refine xA.iload_n (i := 1) rfl rfl rfl rfl ?_
          refine xA.iload rfl rfl rfl ?_
          refine xA.iconst (v := 3) rfl (by decide) rfl ?_
          refine xA.iload rfl rfl rfl ?_
          refine xA.imul rfl rfl ?_
          refine xA.ishr rfl rfl ?_
          refine xA.bipush (v := 7) rfl (by decide) rfl ?_
          refine xA.iand rfl rfl ?_
          refine xA.topi (dig_nI hc18 (by omega)) ?_
          refine xA.callV (As := [_, _]) (h := (σF, _, _)) rfl k10_200 okX10_step rfl rfl rfl rfl (Nat.le_of_ble_eq_true rfl) (c_X10_step d _ G s (frL.ms hc hf) hr0 (sH s) rfl kd hk (c / 8 ^ t % 8) (Nat.mod_lt _ (by decide)) n sp lo hl (by omega)) (Nat.le_refl _) (Nat.le_refl _) rfl rfl ?_
          rintro r9 h9 ⟨S3, rfl, ⟨hnx, rfl, rfl⟩ | ⟨q, hnx, rfl, hl3, hf3⟩⟩
          · have hnA : ¬ (gcB (NX (sH s) (lpN (sH s) kd)) (dIt (sTk s)) (mtB (sH s) kd) set k [] (m * 6 + r) 0 c = true) := fun z => by
                  obtain ⟨q, z1, _⟩ := gR_s.mp (hA.mp z)
                  rw [hnx] at z1; cases z1
            refine xA.istore (L' := [_, _, _, _, _, _, _, _, _]) rfl (Nat.le_of_ble_eq_true rfl) rfl rfl ?_
            refine xA.iinc (L' := [_, _, _, _, _, _, _, _, _]) rfl rfl ((show nI t + Int32.ofInt (-1) = nI t - 1 from by rw [Int32.sub_eq_add_neg]; rfl)) rfl rfl ?_
            refine xA.goto (q := 15) rfl rfl ?_
            refine xA.iload rfl rfl rfl ?_
            refine xA.if_lt (tgt := 48) rfl rfl rfl (fun h17 => ?_) (fun h17 => ?_)
            · refine xA.iload rfl rfl rfl ?_
              refine xA.if_eq (tgt := 104) rfl rfl rfl (fun h50 => ?_) (fun h50 => ?_)
              · refine xA.iconst (v := 0) rfl (by decide) rfl ?_
                exact xA.iret rfl rfl rfl ⟨_, rfl, by rw [xb_f hnA], hf⟩
              · exact absurd rfl h50
            · refine xA.iload rfl rfl rfl ?_
              refine xA.if_eq (tgt := 48) rfl rfl rfl (fun h22 => ?_) (fun h22 => ?_)
              · refine xA.iload rfl rfl rfl ?_
                refine xA.if_eq (tgt := 104) rfl rfl rfl (fun h50 => ?_) (fun h50 => ?_)
                · refine xA.iconst (v := 0) rfl (by decide) rfl ?_
                  exact xA.iret rfl rfl rfl ⟨_, rfl, by rw [xb_f hnA], hf⟩
                · exact absurd rfl h50
              · exact absurd rfl h22
          · skip
            refine xA.istore (L' := [_, _, _, _, _, _, _, _, _]) rfl (Nat.le_of_ble_eq_true rfl) rfl rfl ?_
            refine xA.iinc (L' := [_, _, _, _, _, _, _, _, _]) rfl rfl ((show nI t + Int32.ofInt (-1) = nI t - 1 from by rw [Int32.sub_eq_add_neg]; rfl)) rfl rfl ?_
            refine xA.goto (q := 15) rfl rfl ?_
            exact ih (by omega) S3 (n + 1) (nu sp n q) _ hl3 (by omega) (hf.trans hf3) (hA.trans ((gR_s).trans ⟨fun ⟨q2, z1, z2⟩ => by rw [hnx] at z1; cases z1; exact z2, fun z => ⟨q, hnx, z⟩⟩))
  refine xA.aload_n (i := 0) rfl rfl rfl rfl ?_
  refine xA.iload_n (i := 2) rfl rfl rfl rfl ?_
  refine xA.iload_n (i := 3) rfl rfl rfl rfl ?_
  refine xA.callVv (As := [_, _]) rfl k10_196 okX10_beginLife rfl rfl rfl rfl (Nat.le_of_ble_eq_true rfl) (c_X10_beginLife (d + 1) _ G (nI m) (nI r)) rfl rfl ?_
  refine xA.iconst (v := 1) rfl (by decide) rfl ?_
  refine xA.istore (L' := [_, _, _, _, _, _, _, _, _]) rfl (Nat.le_of_ble_eq_true rfl) rfl rfl ?_
  refine xA.iload rfl rfl rfl ?_
  refine xA.iconst (v := 1) rfl (by decide) rfl ?_
  refine xA.isub rfl rfl ?_
  refine xA.istore (L' := [_, _, _, _, _, _, _, _, _]) rfl (Nat.le_of_ble_eq_true rfl) rfl rfl ?_
  exact loop k (Nat.le_refl _) _ 1 (fun _ => m * 6 + r) 0 (ltC_begin hm hr) (by omega) ⟨fun j h1 h2 h3 => by rw [xu_c h1, xu_c h1, xu_c h3, xu_c h2], fun f h1 h2 => by rw [xu_ne2 h2, xu_ne2 h1, xu_ne1 (by omega), xu_ne1 (by omega)]⟩ (by rw [Nat.mod_eq_of_lt hck]; exact kC_gR)
theorem sh8 : ∀ i, i < 7 → (1 : Int32) <<< (3 * nI i &&& 31) = nI (8 ^ i) := by decide +kernel
theorem sh3m : ∀ i, i < 7 → ¬ i = 0 → (3 * (nI i - 1) &&& 31) = nI (3 * (i - 1)) := by decide +kernel
theorem p8 : ∀ i, i < 7 → 8 ^ i ≤ 262144 := by decide +kernel
theorem p8b : ∀ i, i < 6 → 8 ^ i < 262144 := by decide +kernel
theorem shr8 {c i : Nat} (hc : c < 2 ^ 18) (hi : i < 7) (h0 : ¬ i = 0) : nI c >>> (3 * (nI i - 1) &&& 31) = nI (c / 8 ^ (i - 1)) := by
  rw [sh3m i hi h0, shr_nI c hc _ (by omega), Nat.pow_mul]

set_option maxRecDepth 100000 in
set_option maxHeartbeats 2000000 in
theorem sh_in (d : Nat) (S0 S2 : Nat → Nat → Int32) (G : Nat → Nat → Int64) (s : sS) (hc : MS S2 s) (hS : ∀ j, j < 54 → S2 j = S0 j) (hr0 : ¬ sHr s = 0) (kd : Nat) (hk : kd < 5) (m r : Nat) (hm : m < 60) (hr : r < 6) (set w A : Int32) (hA : A = shV s kd (m * 6 + r) set w) (i : Nat) (hi : i < 7) (hno : ∀ j, j < i → xS (NX (sH s) (lpN (sH s) kd)) (dIt (sTk s)) (mtB (sH s) kd) set j [] (m * 6 + r) 0 = false) (kk : ∀ S3, frL S2 S3 → xS (NX (sH s) (lpN (sH s) kd)) (dIt (sTk s)) (mtB (sH s) kd) set i [] (m * 6 + r) 0 = false → xA none (d + 3) mX10_shortest 0 0 0 0 174 [some (.ref 54), some (.int (nI kd)), some (.int (nI m)), some (.int (nI r)), some (.int set), some (.int w), some (.int (nI i)), some (.int (nI (8 ^ i)))] [] (σF, S3, G) (fun z h' => ∃ S' G', h' = (σF, S', G') ∧ z = some (.int A) ∧ MS S' s ∧ ∀ j, j < 54 → S' j = S0 j)) : ∀ c, c ≤ 8 ^ i → (∀ j, j < c → gcB (NX (sH s) (lpN (sH s) kd)) (dIt (sTk s)) (mtB (sH s) kd) set i [] (m * 6 + r) 0 j = false) → ∀ S1, frL S2 S1 → xA none (d + 3) mX10_shortest 0 0 0 0 112 [some (.ref 54), some (.int (nI kd)), some (.int (nI m)), some (.int (nI r)), some (.int set), some (.int w), some (.int (nI i)), some (.int (nI c))] [] (σF, S1, G) (fun z h' => ∃ S' G', h' = (σF, S', G') ∧ z = some (.int A) ∧ MS S' s ∧ ∀ j, j < 54 → S' j = S0 j) := by
  have h8 := p8 i hi
  refine xloop (8 ^ i) (fun c hlt ih => ?_) ?_
  · intro hno2 S1 hf
    refine xA.iload rfl rfl rfl ?_
    refine xA.iconst (v := 1) rfl (by decide) rfl ?_
    refine xA.iconst (v := 3) rfl (by decide) rfl ?_
    refine xA.iload rfl rfl rfl ?_
    refine xA.imul rfl rfl ?_
    refine xA.ishl rfl rfl ?_
    refine xA.topi (sh8 i hi) ?_
    refine xA.icmp_ge (tgt := 174) rfl rfl rfl (fun h120 => ?_) (fun h120 => ?_)
    · exact absurd h120 (nI_ge hlt (by omega))
    · refine xA.aload_n (i := 0) rfl rfl rfl rfl ?_
      refine xA.iload_n (i := 1) rfl rfl rfl rfl ?_
      refine xA.iload_n (i := 2) rfl rfl rfl rfl ?_
      refine xA.iload_n (i := 3) rfl rfl rfl rfl ?_
      refine xA.iload rfl rfl rfl ?_
      refine xA.iload rfl rfl rfl ?_
      refine xA.iload rfl rfl rfl ?_
      refine xA.callV (As := [_, _, _, _, _, _]) (h := (σF, _, _)) rfl k10_242 okX10_does rfl rfl rfl rfl (Nat.le_of_ble_eq_true rfl) (c_X10_does d _ G s (frL.ms hc hf) hr0 kd hk m r hm hr set i c (by omega) hlt (by omega)) (Nat.le_refl _) (Nat.le_refl _) rfl rfl ?_
      rintro r9 h9 ⟨S3, rfl, rfl, hf3⟩
      have hf2 := hf.trans hf3
      refine xA.if_eq (tgt := 168) rfl rfl rfl (fun h136 => ?_) (fun h136 => ?_)
      · rw [xb_eq0] at h136
        refine xA.iinc (L' := [_, _, _, _, _, _, _, _]) rfl rfl (nI_1 c) rfl rfl ?_
        refine xA.goto (q := 112) rfl rfl ?_
        exact ih (fun j hj => by
          rcases Nat.lt_succ_iff_lt_or_eq.mp hj with z | z
          · exact hno2 j z
          · rw [z]; exact Bool.eq_false_iff.mpr h136) S3 hf2
      · rw [xb_ne0] at h136
        have hkc : kCx (sH s) kd (lpN (sH s) kd) (sTk s) set (m * 6 + r) i = some c := ff_eq hlt h136 hno2
        have hx : xS (NX (sH s) (lpN (sH s) kd)) (dIt (sTk s)) (mtB (sH s) kd) set i [] (m * 6 + r) 0 = true := by rw [← kCx_is, hkc]; rfl
        have hks : kSx (sH s) kd (lpN (sH s) kd) (sTk s) set (m * 6 + r) = some i := ff_eq hi hx hno
        refine xA.iload rfl rfl rfl ?_
        refine xA.if_ne (tgt := 149) rfl rfl rfl (fun h141 => ?_) (fun h141 => ?_)
        · refine xA.iload rfl rfl rfl ?_
          refine xA.if_ne (tgt := 158) rfl rfl rfl (fun h151 => ?_) (fun h151 => ?_)
          · have e151 : ¬ i = 0 := fun z => h151 (by rw [z]; rfl)
            refine xA.iload rfl rfl rfl ?_
            refine xA.iconst (v := 3) rfl (by decide) rfl ?_
            refine xA.iload rfl rfl rfl ?_
            refine xA.iconst (v := 1) rfl (by decide) rfl ?_
            refine xA.isub rfl rfl ?_
            refine xA.imul rfl rfl ?_
            refine xA.ishr rfl rfl ?_
            refine xA.topi (shr8 (by omega) hi e151) ?_
            first
              | exact xA.iret rfl rfl rfl ⟨S3, G, rfl, by rw [hA, shV, if_pos h141, hks]; rfl, frL.ms hc hf2, fun j hj => (hf2.1 j (by omega) (by omega) (by omega)).trans (hS j hj)⟩
              | exact xA.iret rfl rfl rfl ⟨S3, G, rfl, by rw [hA, shV, if_neg h141, hks, e151]; rfl, frL.ms hc hf2, fun j hj => (hf2.1 j (by omega) (by omega) (by omega)).trans (hS j hj)⟩
              | (obtain ⟨i2, rfl⟩ : ∃ i2, i = i2 + 1 := ⟨i - 1, by omega⟩; exact xA.iret rfl rfl rfl ⟨S3, G, rfl, by rw [hA, shV, if_neg h141, hks]; show _ = some (Value.int (oI (stx _ _ _ _ _ _ _))); rw [kCx_first hkc]; rfl, frL.ms hc hf2, fun j hj => (hf2.1 j (by omega) (by omega) (by omega)).trans (hS j hj)⟩)
          · have e151 : i = 0 := (nI_eq (b := 0) (by omega) (by omega)).mp h151
            refine xA.iconst (v := (-1)) rfl (by decide) rfl ?_
            refine xA.goto (q := 167) rfl rfl ?_
            first
              | exact xA.iret rfl rfl rfl ⟨S3, G, rfl, by rw [hA, shV, if_pos h141, hks]; rfl, frL.ms hc hf2, fun j hj => (hf2.1 j (by omega) (by omega) (by omega)).trans (hS j hj)⟩
              | exact xA.iret rfl rfl rfl ⟨S3, G, rfl, by rw [hA, shV, if_neg h141, hks, e151]; rfl, frL.ms hc hf2, fun j hj => (hf2.1 j (by omega) (by omega) (by omega)).trans (hS j hj)⟩
              | (obtain ⟨i2, rfl⟩ : ∃ i2, i = i2 + 1 := ⟨i - 1, by omega⟩; exact xA.iret rfl rfl rfl ⟨S3, G, rfl, by rw [hA, shV, if_neg h141, hks]; show _ = some (Value.int (oI (stx _ _ _ _ _ _ _))); rw [kCx_first hkc]; rfl, frL.ms hc hf2, fun j hj => (hf2.1 j (by omega) (by omega) (by omega)).trans (hS j hj)⟩)
        · refine xA.iload rfl rfl rfl ?_
          refine xA.goto (q := 167) rfl rfl ?_
          first
            | exact xA.iret rfl rfl rfl ⟨S3, G, rfl, by rw [hA, shV, if_pos h141, hks]; rfl, frL.ms hc hf2, fun j hj => (hf2.1 j (by omega) (by omega) (by omega)).trans (hS j hj)⟩
            | exact xA.iret rfl rfl rfl ⟨S3, G, rfl, by rw [hA, shV, if_neg h141, hks, e151]; rfl, frL.ms hc hf2, fun j hj => (hf2.1 j (by omega) (by omega) (by omega)).trans (hS j hj)⟩
            | (obtain ⟨i2, rfl⟩ : ∃ i2, i = i2 + 1 := ⟨i - 1, by omega⟩; exact xA.iret rfl rfl rfl ⟨S3, G, rfl, by rw [hA, shV, if_neg h141, hks]; show _ = some (Value.int (oI (stx _ _ _ _ _ _ _))); rw [kCx_first hkc]; rfl, frL.ms hc hf2, fun j hj => (hf2.1 j (by omega) (by omega) (by omega)).trans (hS j hj)⟩)
  · intro hno2 S1 hf
    refine xA.iload rfl rfl rfl ?_
    refine xA.iconst (v := 1) rfl (by decide) rfl ?_
    refine xA.iconst (v := 3) rfl (by decide) rfl ?_
    refine xA.iload rfl rfl rfl ?_
    refine xA.imul rfl rfl ?_
    refine xA.ishl rfl rfl ?_
    refine xA.topi (sh8 i hi) ?_
    refine xA.icmp_ge (tgt := 174) rfl rfl rfl (fun h120 => ?_) (fun h120 => ?_)
    · exact kk S1 hf (by rw [← kCx_is, show kCx (sH s) kd (lpN (sH s) kd) (sTk s) set (m * 6 + r) i = none from ff_none hno2]; rfl)
    · exact absurd (nI_le (Nat.le_refl _) (by omega)) h120
set_option maxRecDepth 100000 in
set_option maxHeartbeats 2000000 in
theorem sh_out (d : Nat) (S0 S2 : Nat → Nat → Int32) (G : Nat → Nat → Int64) (s : sS) (hc : MS S2 s) (hS : ∀ j, j < 54 → S2 j = S0 j) (hr0 : ¬ sHr s = 0) (kd : Nat) (hk : kd < 5) (m r : Nat) (hm : m < 60) (hr : r < 6) (set w A : Int32) (hA : A = shV s kd (m * 6 + r) set w) : ∀ i, i ≤ 7 → (∀ j, j < i → xS (NX (sH s) (lpN (sH s) kd)) (dIt (sTk s)) (mtB (sH s) kd) set j [] (m * 6 + r) 0 = false) → ∀ S1, frL S2 S1 → ∀ x7, xA none (d + 3) mX10_shortest 0 0 0 0 102 [some (.ref 54), some (.int (nI kd)), some (.int (nI m)), some (.int (nI r)), some (.int set), some (.int w), some (.int (nI i)), x7] [] (σF, S1, G) (fun z h' => ∃ S' G', h' = (σF, S', G') ∧ z = some (.int A) ∧ MS S' s ∧ ∀ j, j < 54 → S' j = S0 j) := by
  refine xloop 7 (fun i hi ih => ?_) ?_
  · intro hno S1 hf x7
    refine xA.iload rfl rfl rfl ?_
    refine xA.bipush (v := 7) rfl (by decide) rfl ?_
    refine xA.icmp_ge (tgt := 180) rfl rfl rfl (fun h106 => ?_) (fun h106 => ?_)
    · exact absurd h106 (nI_ge (b := 7) hi (by omega))
    · refine xA.iconst (v := 0) rfl (by decide) rfl ?_
      refine xA.istore (L' := [_, _, _, _, _, _, _, _]) rfl (Nat.le_of_ble_eq_true rfl) rfl rfl ?_
      refine sh_in d S0 S2 G s hc hS hr0 kd hk m r hm hr set w A hA i hi hno (fun S3 hf3 hx => ?_) 0 (Nat.zero_le _) (fun j hj => absurd hj (Nat.not_lt_zero _)) S1 hf
      refine xA.iinc (L' := [_, _, _, _, _, _, _, _]) rfl rfl (nI_1 i) rfl rfl ?_
      refine xA.goto (q := 102) rfl rfl ?_
      exact ih (fun j hj => by
        rcases Nat.lt_succ_iff_lt_or_eq.mp hj with z | z
        · exact hno j z
        · rw [z]; exact hx) S3 hf3 _
  · intro hno S1 hf x7
    refine xA.iload rfl rfl rfl ?_
    refine xA.bipush (v := 7) rfl (by decide) rfl ?_
    refine xA.icmp_ge (tgt := 180) rfl rfl rfl (fun h106 => ?_) (fun h106 => ?_)
    · refine xA.iconst (v := (-1)) rfl (by decide) rfl ?_
      have hks : kSx (sH s) kd (lpN (sH s) kd) (sTk s) set (m * 6 + r) = none := ff_none hno
      exact xA.iret rfl rfl rfl ⟨S1, G, rfl, by rw [hA, shV, hks]; split <;> rfl, frL.ms hc hf, fun j hj => (hf.1 j (by omega) (by omega) (by omega)).trans (hS j hj)⟩
    · exact absurd (nI_le (a := 7) (b := 7) (Nat.le_refl _) (by omega)) h106
theorem sh1 : ∀ T, T ≤ 5 → (1 : Int32) <<< (nI T &&& 31) = nI (2 ^ T) := by decide +kernel
theorem p2 : ∀ T, T ≤ 5 → 2 ^ T ≤ 32 := by decide +kernel
theorem rg_set {x : Int32} {n : Nat} (hn : n < 2 ^ 30) : rg x n ↔ (¬ x < 0 ∧ x < nI n) := by
  rw [Int32.not_lt, Int32.le_iff_toInt_le, Int32.lt_iff_toInt_lt, nI_toInt (by omega), Int32.toInt_zero]
theorem MS.sd1 {S : Nat → Nat → Int32} {s : sS} (hc : MS S s) (h30 : sSd s < 30) (h0 : ¬ sHr s = 0) : MS (xu S 54 33 (nI (sSd s + 1))) (mkS s (sPg s) (sN s) (sHr s) (sH s) (sP s) (sKd s) (sL s) (sTk s) (sGl s) (sSd s + 1) (sIm s)) := by
  obtain ⟨hpg, hho, hpp, htk, hgl, hsd, him, hno⟩ := hc
  exact ⟨hpg.to (xu_f (by omega)) (xu_c (by omega)), hho.to (fun f a b => xu_f (by omega)) (fun j a b => xu_c (by omega)), hpp.to (xu_f (by omega)) (fun j a b => xu_c (by omega)), ⟨(xu_f (by omega)).trans htk.1, htk.2.to (xu_c (by omega))⟩, ⟨(xu_f (by omega)).trans hgl.1, hgl.2.to (xu_c (by omega))⟩, ⟨xu_same, (show sSd s + 1 ≤ 30 by omega)⟩, him.to (fun f a b => xu_f (by omega)) (fun j a b => xu_c (by omega)), fun z => absurd z h0⟩

set_option maxRecDepth 100000 in
set_option maxHeartbeats 1000000 in
theorem m_shortest (d : Nat) (s : sS) (k m r set w : Int32) : opM (d + 3) mX10_shortest [.ref 54, .int k, .int m, .int r, .int set, .int w] s (.int (aShort s k m r set w)) (tShort s k m r set w) := by
  intro S G hc
  have hc0 := hc
  obtain ⟨hpg, hho, hpp, htk, hgl, hsd, him, hno⟩ := hc
  refine xC.of okX10_shortest (Nat.le_of_ble_eq_true rfl) (L := [_, _, _, _, _, _, _, _]) rfl ?_
  refine xA.iload_n (i := 1) rfl rfl rfl rfl ?_
  refine xA.i2l rfl rfl ?_
  refine xA.lconst (v := 0) rfl (by decide) rfl ?_
  refine xA.ldc2 (v := 4) rfl w1043 rfl ?_
  refine xA.callSi (As := [_, _, _]) rfl k10_96 okX10_in rfl rfl (Nat.le_of_ble_eq_true rfl) (c_X10_in (d + 2) _ G k 0 4) rfl rfl ?_
  refine xA.topi (xb_iff (in_rg (n := 4) (by omega))) ?_
  refine xA.if_eq (tgt := 24) rfl rfl rfl (fun h9 => ?_) (fun h9 => ?_)
  · rw [xb_eq0] at h9
    refine xA.bipush (v := (-102)) rfl (by decide) rfl ?_
    first
      | exact xA.iret rfl rfl rfl ⟨S, G, rfl, by simp only [aShort]; rw [if_pos (Or.inl h9)], by simp only [tShort]; rw [if_pos (Or.inl h9)]; exact hc0, fun _ _ => rfl⟩
      | exact xA.iret rfl rfl rfl ⟨S, G, rfl, by simp only [aShort]; rw [if_pos (Or.inr h21)], by simp only [tShort]; rw [if_pos (Or.inr h21)]; exact hc0, fun _ _ => rfl⟩
  · rw [xb_ne0] at h9
    refine xA.iload_n (i := 2) rfl rfl rfl rfl ?_
    refine xA.i2l rfl rfl ?_
    refine xA.lconst (v := 0) rfl (by decide) rfl ?_
    refine xA.ldc2 (v := 59) rfl w1064 rfl ?_
    refine xA.callSi (As := [_, _, _]) rfl k10_96 okX10_in rfl rfl (Nat.le_of_ble_eq_true rfl) (c_X10_in (d + 2) _ G m 0 59) rfl rfl ?_
    refine xA.topi (xb_iff (in_rg (n := 59) (by omega))) ?_
    refine xA.if_ne (tgt := 27) rfl rfl rfl (fun h21 => ?_) (fun h21 => ?_)
    · rw [xb_ne0] at h21
      refine xA.iload_n (i := 3) rfl rfl rfl rfl ?_
      refine xA.callSi (As := [_]) rfl k10_168 okX10_isRoom rfl rfl (Nat.le_of_ble_eq_true rfl) (c_X10_isRoom (d + 1) _ G r) rfl rfl ?_
      refine xA.if_ne (tgt := 37) rfl rfl rfl (fun h31 => ?_) (fun h31 => ?_)
      · rw [xb_ne0] at h31
        have ht5 := htk.2.1
        have hp2 := p2 _ ht5
        refine xA.iload rfl rfl rfl ?_
        refine xA.i2l rfl rfl ?_
        refine xA.lconst (v := 0) rfl (by decide) rfl ?_
        refine xA.iconst (v := 1) rfl (by decide) rfl ?_
        refine xA.aload_n (i := 0) rfl rfl rfl rfl ?_
        refine xA.getI rfl f10_159 rfl rfl rfl ?_
        refine xA.topi (htk.1) ?_
        refine xA.ishl rfl rfl ?_
        refine xA.topi (sh1 _ ht5) ?_
        refine xA.iconst (v := 1) rfl (by decide) rfl ?_
        refine xA.isub rfl rfl ?_
        refine xA.i2l rfl rfl ?_
        refine xA.callSi (As := [_, _, _]) rfl k10_96 okX10_in rfl rfl (Nat.le_of_ble_eq_true rfl) (c_X10_in (d + 2) _ G set 0 (nI (2 ^ (sTk s).1) - 1)) rfl rfl ?_
        refine xA.topi (xb_iff ((in_rgm (by omega)).trans (rg_set (by omega)))) ?_
        refine xA.if_eq (tgt := 67) rfl rfl rfl (fun h53 => ?_) (fun h53 => ?_)
        · rw [xb_eq0] at h53
          refine xA.bipush (v := (-102)) rfl (by decide) rfl ?_
          first
            | exact xA.iret rfl rfl rfl ⟨S, G, rfl, by simp only [aShort]; rw [if_neg (not_or.mpr ⟨not_not_intro h9, not_not_intro h21⟩), if_neg (not_not_intro h31), if_pos (fun z => h53 ⟨z.1, z.2.1⟩)], by simp only [tShort]; rw [if_neg (not_or.mpr ⟨not_not_intro h9, not_not_intro h21⟩), if_neg (not_not_intro h31), if_pos (fun z => h53 ⟨z.1, z.2.1⟩)]; exact hc0, fun _ _ => rfl⟩
            | exact xA.iret rfl rfl rfl ⟨S, G, rfl, by simp only [aShort]; rw [if_neg (not_or.mpr ⟨not_not_intro h9, not_not_intro h21⟩), if_neg (not_not_intro h31), if_pos (fun z => h64 ⟨Int32.not_lt.mp z.2.2.1, z.2.2.2⟩)], by simp only [tShort]; rw [if_neg (not_or.mpr ⟨not_not_intro h9, not_not_intro h21⟩), if_neg (not_not_intro h31), if_pos (fun z => h64 ⟨Int32.not_lt.mp z.2.2.1, z.2.2.2⟩)]; exact hc0, fun _ _ => rfl⟩
        · rw [xb_ne0] at h53
          refine xA.iload rfl rfl rfl ?_
          refine xA.i2l rfl rfl ?_
          refine xA.lconst (v := 0) rfl (by decide) rfl ?_
          refine xA.lconst (v := 1) rfl (by decide) rfl ?_
          refine xA.callSi (As := [_, _, _]) rfl k10_96 okX10_in rfl rfl (Nat.le_of_ble_eq_true rfl) (c_X10_in (d + 2) _ G w 0 1) rfl rfl ?_
          refine xA.if_ne (tgt := 70) rfl rfl rfl (fun h64 => ?_) (fun h64 => ?_)
          · rw [xb_ne0] at h64
            refine xA.aload_n (i := 0) rfl rfl rfl rfl ?_
            refine xA.callVi (As := []) rfl k10_171 okX10_lacks rfl rfl rfl rfl (Nat.le_of_ble_eq_true rfl) (c_X10_lacks (d + 2) _ G) rfl rfl ?_
            refine xA.if_ne (tgt := 86) rfl rfl rfl (fun h74 => ?_) (fun h74 => ?_)
            · rw [xb_ne0, mlk hho] at h74
              refine xA.bipush (v := (-103)) rfl (by decide) rfl ?_
              first
                | exact xA.iret rfl rfl rfl ⟨S, G, rfl, by simp only [aShort]; rw [if_neg (not_or.mpr ⟨not_not_intro h9, not_not_intro h21⟩), if_neg (not_not_intro h31), if_neg (not_not_intro ⟨h53.1, h53.2, Int32.not_lt.mpr h64.1, h64.2⟩), if_pos (Or.inl h74)], by simp only [tShort]; rw [if_neg (not_or.mpr ⟨not_not_intro h9, not_not_intro h21⟩), if_neg (not_not_intro h31), if_neg (not_not_intro ⟨h53.1, h53.2, Int32.not_lt.mpr h64.1, h64.2⟩), if_pos (Or.inl h74)]; exact hc0, fun _ _ => rfl⟩
                | exact xA.iret rfl rfl rfl ⟨S, G, rfl, by simp only [aShort]; rw [if_neg (not_or.mpr ⟨not_not_intro h9, not_not_intro h21⟩), if_neg (not_not_intro h31), if_neg (not_not_intro ⟨h53.1, h53.2, Int32.not_lt.mpr h64.1, h64.2⟩), if_pos (Or.inr e83)], by simp only [tShort]; rw [if_neg (not_or.mpr ⟨not_not_intro h9, not_not_intro h21⟩), if_neg (not_not_intro h31), if_neg (not_not_intro ⟨h53.1, h53.2, Int32.not_lt.mpr h64.1, h64.2⟩), if_pos (Or.inr e83)]; exact hc0, fun _ _ => rfl⟩
            · rw [xb_eq0, mlk hho] at h74
              refine xA.aload_n (i := 0) rfl rfl rfl rfl ?_
              refine xA.getI rfl f10_239 rfl rfl rfl ?_
              refine xA.topi (hsd.1) ?_
              refine xA.bipush (v := 30) rfl (by decide) rfl ?_
              refine xA.icmp_ne (tgt := 89) rfl rfl rfl (fun h83 => ?_) (fun h83 => ?_)
              · have e83 : ¬ sSd s = 30 := fun z => h83 (by rw [z]; rfl)
                have hq : ¬ set < 0 ∧ set < nI (2 ^ (sTk s).1) ∧ ¬ w < 0 ∧ w ≤ 1 := ⟨h53.1, h53.2, Int32.not_lt.mpr h64.1, h64.2⟩
                obtain ⟨kk, hkk, rfl⟩ := rg_nI h9 (by omega)
                obtain ⟨mm, hmm, rfl⟩ := rg_nI h21 (by omega)
                obtain ⟨rr, hrr, rfl⟩ := rg_nI h31 (by omega)
                have h30 : sSd s < 30 := by have := hsd.2; omega
                refine xA.aload_n (i := 0) rfl rfl rfl rfl ?_
                refine xA.dup rfl rfl rfl ?_
                refine xA.getI rfl f10_239 rfl rfl rfl ?_
                refine xA.topi (hsd.1) ?_
                refine xA.iconst (v := 1) rfl (by decide) rfl ?_
                refine xA.iadd rfl rfl ?_
                refine xA.topi (nI_1 _) ?_
                refine xA.putI rfl p10_239 rfl rfl rfl ?_
                refine xA.iconst (v := 0) rfl (by decide) rfl ?_
                refine xA.istore (L' := [_, _, _, _, _, _, _, _]) rfl (Nat.le_of_ble_eq_true rfl) rfl rfl ?_
                have eT : tShort s (nI kk) (nI mm) (nI rr) set w = mkS s (sPg s) (sN s) (sHr s) (sH s) (sP s) (sKd s) (sL s) (sTk s) (sGl s) (sSd s + 1) (sIm s) := by
                  simp only [tShort]
                  rw [if_neg (not_or.mpr ⟨not_not_intro h9, not_not_intro h21⟩), if_neg (not_not_intro h31), if_neg (not_not_intro hq), if_neg (not_or.mpr ⟨h74, e83⟩)]
                rw [eT]
                exact sh_out d S (xu S 54 33 (nI (sSd s + 1))) G _ (hc0.sd1 h30 h74) (fun j hj => xu_c (by omega)) h74 kk hkk mm rr hmm hrr set w _ (by
                  simp only [aShort]
                  rw [if_neg (not_or.mpr ⟨not_not_intro h9, not_not_intro h21⟩), if_neg (not_not_intro h31), if_neg (not_not_intro hq), if_neg (not_or.mpr ⟨h74, e83⟩), nI_clamp (show kk < 2 ^ 31 by omega), nI_clamp (show mm < 2 ^ 31 by omega), nI_clamp (show rr < 2 ^ 31 by omega)]
                  rfl) 0 (Nat.zero_le _) (fun j hj => absurd hj (Nat.not_lt_zero _)) _ (frL.refl _) _
              · have e83 : sSd s = 30 := (nI_eq (b := 30) (by have := hsd.2; omega) (by omega)).mp h83
                refine xA.bipush (v := (-103)) rfl (by decide) rfl ?_
                first
                  | exact xA.iret rfl rfl rfl ⟨S, G, rfl, by simp only [aShort]; rw [if_neg (not_or.mpr ⟨not_not_intro h9, not_not_intro h21⟩), if_neg (not_not_intro h31), if_neg (not_not_intro ⟨h53.1, h53.2, Int32.not_lt.mpr h64.1, h64.2⟩), if_pos (Or.inl h74)], by simp only [tShort]; rw [if_neg (not_or.mpr ⟨not_not_intro h9, not_not_intro h21⟩), if_neg (not_not_intro h31), if_neg (not_not_intro ⟨h53.1, h53.2, Int32.not_lt.mpr h64.1, h64.2⟩), if_pos (Or.inl h74)]; exact hc0, fun _ _ => rfl⟩
                  | exact xA.iret rfl rfl rfl ⟨S, G, rfl, by simp only [aShort]; rw [if_neg (not_or.mpr ⟨not_not_intro h9, not_not_intro h21⟩), if_neg (not_not_intro h31), if_neg (not_not_intro ⟨h53.1, h53.2, Int32.not_lt.mpr h64.1, h64.2⟩), if_pos (Or.inr e83)], by simp only [tShort]; rw [if_neg (not_or.mpr ⟨not_not_intro h9, not_not_intro h21⟩), if_neg (not_not_intro h31), if_neg (not_not_intro ⟨h53.1, h53.2, Int32.not_lt.mpr h64.1, h64.2⟩), if_pos (Or.inr e83)]; exact hc0, fun _ _ => rfl⟩
          · rw [xb_eq0] at h64
            refine xA.bipush (v := (-102)) rfl (by decide) rfl ?_
            first
              | exact xA.iret rfl rfl rfl ⟨S, G, rfl, by simp only [aShort]; rw [if_neg (not_or.mpr ⟨not_not_intro h9, not_not_intro h21⟩), if_neg (not_not_intro h31), if_pos (fun z => h53 ⟨z.1, z.2.1⟩)], by simp only [tShort]; rw [if_neg (not_or.mpr ⟨not_not_intro h9, not_not_intro h21⟩), if_neg (not_not_intro h31), if_pos (fun z => h53 ⟨z.1, z.2.1⟩)]; exact hc0, fun _ _ => rfl⟩
              | exact xA.iret rfl rfl rfl ⟨S, G, rfl, by simp only [aShort]; rw [if_neg (not_or.mpr ⟨not_not_intro h9, not_not_intro h21⟩), if_neg (not_not_intro h31), if_pos (fun z => h64 ⟨Int32.not_lt.mp z.2.2.1, z.2.2.2⟩)], by simp only [tShort]; rw [if_neg (not_or.mpr ⟨not_not_intro h9, not_not_intro h21⟩), if_neg (not_not_intro h31), if_pos (fun z => h64 ⟨Int32.not_lt.mp z.2.2.1, z.2.2.2⟩)]; exact hc0, fun _ _ => rfl⟩
      · rw [xb_eq0] at h31
        refine xA.bipush (v := (-101)) rfl (by decide) rfl ?_
        first
          | exact xA.iret rfl rfl rfl ⟨S, G, rfl, by simp only [aShort]; rw [if_neg (not_or.mpr ⟨not_not_intro h9, not_not_intro h21⟩), if_pos h31], by simp only [tShort]; rw [if_neg (not_or.mpr ⟨not_not_intro h9, not_not_intro h21⟩), if_pos h31]; exact hc0, fun _ _ => rfl⟩
    · rw [xb_eq0] at h21
      refine xA.bipush (v := (-102)) rfl (by decide) rfl ?_
      first
        | exact xA.iret rfl rfl rfl ⟨S, G, rfl, by simp only [aShort]; rw [if_pos (Or.inl h9)], by simp only [tShort]; rw [if_pos (Or.inl h9)]; exact hc0, fun _ _ => rfl⟩
        | exact xA.iret rfl rfl rfl ⟨S, G, rfl, by simp only [aShort]; rw [if_pos (Or.inr h21)], by simp only [tShort]; rw [if_pos (Or.inr h21)]; exact hc0, fun _ _ => rfl⟩

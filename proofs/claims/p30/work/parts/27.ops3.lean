variable {τ : List xSh}
/-! ===== lives, image, restore ===== -/
theorem nI_div {a b : Nat} (ha : a < 2 ^ 31) (hb : b < 2 ^ 31) (h0 : 0 < b) : nI a / nI b = nI (a / b) := by
  have h1 : a / b ≤ a := Nat.div_le_self a b
  rw [i32_ext, Int32.toInt_div_of_ne_left _ _ (by intro z; have := nI_toInt ha; rw [z] at this; have e : (Int32.minValue).toInt = -2147483648 := by decide
                                                  omega), nI_toInt ha, nI_toInt hb, nI_toInt (by omega), Int.tdiv_eq_ediv_of_nonneg (by omega)]
  omega
theorem sdN_nn (x : Int32) : ∃ X, X < 2 ^ 31 ∧ sdN x = nI X := by
  unfold sdN
  generalize 1103515245 * x.toInt64 + 12345 = y
  refine ⟨y.toUInt64.toNat % 2 ^ 31, Nat.mod_lt _ (by decide), ?_⟩
  have h3 : y.toUInt64.toNat % 2 ^ 31 < 2 ^ 31 := Nat.mod_lt _ (by decide)
  have e : y &&& 2147483647 = lN (y.toUInt64.toNat % 2 ^ 31) := by
    apply Int64.toBitVec_inj.mp
    apply BitVec.eq_of_toNat_eq
    rw [Int64.toBitVec_and, BitVec.toNat_and]
    have h1 : y.toBitVec.toNat = y.toUInt64.toNat := rfl
    have h2 : ((2147483647 : Int64)).toBitVec.toNat = 2 ^ 31 - 1 := by decide
    rw [h1, h2, Nat.and_two_pow_sub_one_eq_mod]
    show _ = (BitVec.ofNat 64 (y.toUInt64.toNat % 2 ^ 31)).toNat
    rw [BitVec.toNat_ofNat]
    omega
  rw [e, i32_ext, Int64.toInt_toInt32, lN_toInt (by omega), nI_toInt h3, Int.bmod_def]
  split <;> omega
theorem drN_nn {x : Int32} {w : Nat} (h : ∃ X, X < 2 ^ 31 ∧ x = nI X) (h0 : 0 < w) (h8 : w ≤ 8) : ∃ j, j < w ∧ drN x (nI w) = nI j := by
  obtain ⟨X, hX, rfl⟩ := h
  refine ⟨X / 65536 % w, Nat.mod_lt _ h0, ?_⟩
  have hA : X / 65536 ≤ X := Nat.div_le_self _ _
  have hB := Nat.div_mul_le_self (X / 65536) w
  unfold drN
  rw [show (65536 : Int32) = nI 65536 from rfl, nI_div hX (by decide) (by decide), nI_div (by omega) (by omega) h0, nI_mul, nI_sub hB]
  congr 1
  have := Nat.div_add_mod (X / 65536) w
  rw [Nat.mul_comm] at this
  omega
/-- a life by a seed: spot, how often through the low door, the seed -/
def wgo (D : Nat → Nat) (low lp : Nat) : Nat → Nat → Int32 → Int32 → Nat × Int32 × Int32
  | 0, sp, th, sd => (sp, th, sd)
  | k + 1, sp, th, sd => if cn (mayF D low (sp / 6) (sp % 6) lp) 8 = 0 then (sp, th, sd) else
      wgo D low lp k ((nxH D low (sp / 6) (sp % 6) (pick (mayF D low (sp / 6) (sp % 6) lp) 8 0 (drN (sdN sd) (nI (cn (mayF D low (sp / 6) (sp % 6) lp) 8))).toNatClampNeg) lp).getD 0)
        (th + (if pick (mayF D low (sp / 6) (sp % 6) lp) 8 0 (drN (sdN sd) (nI (cn (mayF D low (sp / 6) (sp % 6) lp) 8))).toNatClampNeg = 7 then 1 else 0)) (sdN sd)
def wS (S : Nat → Nat → Int32) (sp : Nat) (th sd : Int32) : Nat → Nat → Int32 := fun j i => if j = 41 then (if i = 0 then nI sp else if i = 1 then th else if i = 2 then sd else S j i) else S j i
theorem wS_off {S : Nat → Nat → Int32} {sp j : Nat} {th sd : Int32} (h : j ≠ 41) : wS S sp th sd j = S j := by funext i; simp [wS, h]
theorem wgo_lt {D : Nat → Nat} {low lp : Nat} : ∀ k sp th sd, sp < 360 → (wgo D low lp k sp th sd).1 < 360 := by
  intro k
  induction k with
  | zero => intro sp th sd h; exact h
  | succ k ih =>
    intro sp th sd h
    rw [wgo]
    split
    · exact h
    · rename_i hz
      refine ih _ _ _ ?_
      obtain ⟨j, hj, ej⟩ := drN_nn (w := cn (mayF D low (sp / 6) (sp % 6) lp) 8) (sdN_nn sd) (by omega) (cn_le _ _)
      have hj8 := cn_le (mayF D low (sp / 6) (sp % 6) lp) 8
      rw [ej, nI_clamp (by omega)]
      have hp := pick_spec (f := mayF D low (sp / 6) (sp % 6) lp) 8 0 j (by simpa using hj)
      obtain ⟨q, hq⟩ := Option.isSome_iff_exists.mp hp.2.2
      rw [hq]
      exact nxH_lt hq (by omega) (by omega) (by omega)

set_option maxRecDepth 100000 in
set_option maxHeartbeats 1000000 in
theorem c_X8_go (d : Nat) (S : Nat → Nat → Int32) (G : Nat → Nat → Int64) (h : hS) (hh : hSd S h) (lp : Nat) (hlp : lp ≤ 10) (steps : Nat) (hst : steps ≤ 16) (sp0 : Nat) (th0 sd0 : Int32) (hsp0 : sp0 < 360) (hS0 : S 41 0 = nI sp0 ∧ S 41 1 = th0 ∧ S 41 2 = sd0) : xR τ (d + 4) mX8_go [.ref 41, .ref 3, .int (nI lp), .int (nI steps)] S G none (wS S (wgo (hD h) (hLo h) lp steps sp0 th0 sd0).1 (wgo (hD h) (hLo h) lp steps sp0 th0 sd0).2.1 (wgo (hD h) (hLo h) lp steps sp0 th0 sd0).2.2) G := by
  refine xC.of okX8_go (Nat.le_of_ble_eq_true rfl) (L := [_, _, _, _, _, _]) rfl ?_
  have loop : ∀ i, i ≤ steps → ∀ sp th sd, sp < 360 → wgo (hD h) (hLo h) lp (steps - i) sp th sd = (wgo (hD h) (hLo h) lp steps sp0 th0 sd0) → ∀ x5 : Option Value, xA none (d + 4) mX8_go 0 0 0 0 3 [some (.ref 41), some (.ref 3), some (.int (nI lp)), some (.int (nI steps)), some (.int (nI i)), x5] [] ((σF τ), wS S sp th sd, G) (fun r' h' => r' = none ∧ h' = ((σF τ), (wS S (wgo (hD h) (hLo h) lp steps sp0 th0 sd0).1 (wgo (hD h) (hLo h) lp steps sp0 th0 sd0).2.1 (wgo (hD h) (hLo h) lp steps sp0 th0 sd0).2.2), G)) := by
    refine xloop steps (fun i hi ih => ?_) ?_
    · intro sp th sd hsp hF x5
      have hh2 : hSd (wS S sp th sd) h := hh.to (wS_off (by omega)) (wS_off (by omega)) (wS_off (by omega))
      have hw8 := cn_le (mayF (hD h) (hLo h) (sp / 6) (sp % 6) lp) 8
      obtain ⟨k, hk⟩ : ∃ k, steps - i = k + 1 := ⟨steps - i - 1, by omega⟩
      rw [hk, wgo] at hF
      refine xA.iload rfl rfl rfl ?_
      refine xA.iload_n (i := 3) rfl rfl rfl rfl ?_
      refine xA.icmp_ge (tgt := 42) rfl rfl rfl (fun h6 => ?_) (fun h6 => ?_)
      · exact absurd h6 (nI_ge hi (by omega))
      · refine xA.aload_n (i := 0) rfl rfl rfl rfl ?_
        refine xA.aload_n (i := 1) rfl rfl rfl rfl ?_
        refine xA.iload_n (i := 2) rfl rfl rfl rfl ?_
        refine xA.callVi (As := [_, _]) rfl k8_21 okX8_waysOn rfl rfl rfl rfl (Nat.le_of_ble_eq_true rfl) (c_X8_waysOn d _ G h hh2 (sp / 6) (sp % 6) lp (by omega) (by omega) hlp (by show wS S sp th sd 41 0 = nI (sp / 6 * 6 + sp % 6); rw [show sp / 6 * 6 + sp % 6 = sp by omega]; simp [wS])) rfl rfl ?_
        refine xA.istore (L' := [_, _, _, _, _, _]) rfl (Nat.le_of_ble_eq_true rfl) rfl rfl ?_
        refine xA.iload rfl rfl rfl ?_
        refine xA.iconst (v := 1) rfl (by decide) rfl ?_
        refine xA.icmp_ge (tgt := 24) rfl rfl rfl (fun h20 => ?_) (fun h20 => ?_)
        · have hw0 : ¬ (cn (mayF (hD h) (hLo h) (sp / 6) (sp % 6) lp) 8) = 0 := fun z => absurd h20 (by rw [z]; decide)
          rw [if_neg hw0] at hF
          obtain ⟨j, hj, ej⟩ := drN_nn (w := (cn (mayF (hD h) (hLo h) (sp / 6) (sp % 6) lp) 8)) (sdN_nn sd) (by omega) hw8
          rw [ej, nI_clamp (by omega)] at hF
          have hp := pick_spec (f := (mayF (hD h) (hLo h) (sp / 6) (sp % 6) lp)) 8 0 j (by simpa using hj)
          obtain ⟨q, hq⟩ := Option.isSome_iff_exists.mp hp.2.2
          rw [hq] at hF
          have hq3 := nxH_lt hq (by omega) (by omega) (by omega)
          refine xA.aload_n (i := 0) rfl rfl rfl rfl ?_
          refine xA.aload_n (i := 1) rfl rfl rfl rfl ?_
          refine xA.iload_n (i := 2) rfl rfl rfl rfl ?_
          refine xA.aload_n (i := 0) rfl rfl rfl rfl ?_
          refine xA.iload rfl rfl rfl ?_
          refine xA.callVi (As := [_]) rfl k8_25 okX8_draw rfl rfl rfl rfl (Nat.le_of_ble_eq_true rfl) (c_X8_draw (d + 3) _ G (nI (cn (mayF (hD h) (hLo h) (sp / 6) (sp % 6) lp) 8)) (by rw [Int32.lt_iff_toInt_lt, nI_toInt (by omega)]; show ¬ ((_ : Int) < 1); omega)) rfl rfl ?_
          rw [show wS S sp th sd 41 2 = sd from by simp [wS]]
          refine xA.topi ej ?_
          refine xA.callVv (As := [_, _, _]) rfl k8_29 okX8_take rfl rfl rfl rfl (Nat.le_of_ble_eq_true rfl) (c_X8_take d _ G h (hh2.to (by funext q; exact xu_ne1 (by omega)) (by funext q; exact xu_ne1 (by omega)) (by funext q; exact xu_ne1 (by omega))) (sp / 6) (sp % 6) lp (by omega) (by omega) hlp (by rw [xu_ne2 (by omega)]; show wS S sp th sd 41 0 = nI (sp / 6 * 6 + sp % 6); rw [show sp / 6 * 6 + sp % 6 = sp by omega]; simp [wS]) j hj) rfl rfl ?_
          refine xA.iinc (L' := [_, _, _, _, _, _]) rfl rfl (nI_1 i) rfl rfl ?_
          refine xA.goto (q := 3) rfl rfl ?_
          refine xA.store (S' := wS S q (th + (if pick (mayF (hD h) (hLo h) (sp / 6) (sp % 6) lp) 8 0 j = 7 then 1 else 0)) (sdN sd)) (by rw [hq]; funext a b; simp only [xu, wS, oI]; by_cases a1 : a = 41; (subst a1; by_cases b0 : b = 0; (subst b0; simp); by_cases b1 : b = 1; (subst b1; simp); by_cases b2 : b = 2; (subst b2; simp); simp [b0, b1, b2]); simp [a1]) ?_
          exact ih q _ _ hq3 (by rw [show steps - (i + 1) = k by omega]; exact hF) _
        · have hw0 : (cn (mayF (hD h) (hLo h) (sp / 6) (sp % 6) lp) 8) = 0 := by
            rcases Nat.eq_zero_or_pos (cn (mayF (hD h) (hLo h) (sp / 6) (sp % 6) lp) 8) with z | z
            · exact z
            · exact absurd (nI_le (a := 1) z (by omega)) h20
          rw [if_pos hw0] at hF
          rw [← hF]
          exact xA.vret rfl rfl ⟨rfl, rfl⟩
    · intro sp th sd hsp hF x5
      refine xA.iload rfl rfl rfl ?_
      refine xA.iload_n (i := 3) rfl rfl rfl rfl ?_
      refine xA.icmp_ge (tgt := 42) rfl rfl rfl (fun h6 => ?_) (fun h6 => ?_)
      · rw [Nat.sub_self, wgo] at hF
        rw [← hF]
        exact xA.vret rfl rfl ⟨rfl, rfl⟩
      · exact absurd (nI_le (Nat.le_refl _) (by omega)) h6
  refine xA.iconst (v := 0) rfl (by decide) rfl ?_
  refine xA.istore (L' := [_, _, _, _, _, _]) rfl (Nat.le_of_ble_eq_true rfl) rfl rfl ?_
  refine xA.store (S' := wS S sp0 th0 sd0) (by funext a b; simp only [wS]; by_cases a1 : a = 41; (subst a1; by_cases b0 : b = 0; (subst b0; simp [hS0]); by_cases b1 : b = 1; (subst b1; simp [hS0]); by_cases b2 : b = 2; (subst b2; simp [hS0]); simp [b0, b1, b2]); simp [a1]) ?_
  exact loop 0 (Nat.zero_le _) sp0 th0 sd0 hsp0 rfl _
def livesN (s : sS) (k r st : Nat) (sd : Int32) : Nat × Int32 × Int32 := wgo (hD (sH s)) (hLo (sH s)) (lpN (sH s) k) st (30 * 6 + r) 0 sd
def aLives (s : sS) (k r st sd w : Int32) : Int32 := if rg k 5 then (if rg r 6 then (if ¬ st < 1 ∧ ¬ 16 < st ∧ ¬ sd < 0 ∧ ¬ w < 0 ∧ w ≤ 3 then (if sHr s = 0 then -103 else
    (if w = 0 then nI ((livesN s k.toNatClampNeg r.toNatClampNeg st.toNatClampNeg sd).1 / 6) else if w = 1 then nI ((livesN s k.toNatClampNeg r.toNatClampNeg st.toNatClampNeg sd).1 % 6) else if w = 2 then (livesN s k.toNatClampNeg r.toNatClampNeg st.toNatClampNeg sd).2.1 else (livesN s k.toNatClampNeg r.toNatClampNeg st.toNatClampNeg sd).2.2)) else -102) else -101) else -102

set_option maxRecDepth 100000 in
set_option maxHeartbeats 1000000 in
theorem o_lives (d : Nat) (s : sS) (k r st sd w : Int32) : opC τ (d + 5) mX9_lives [.ref 0, .int k, .int r, .int st, .int sd, .int w] s (.int (aLives s k r st sd w)) (s) := by
  intro S G hc
  have hc0 := hc
  obtain ⟨hpg, hho, hpp, htk, hgl, hsd, him, hno⟩ := hc
  refine xC.of okX9_lives (Nat.le_of_ble_eq_true rfl) (L := [_, _, _, _, _, _]) rfl ?_
  refine xA.iload_n (i := 1) rfl rfl rfl rfl ?_
  refine xA.callSi (As := [_]) rfl k9_131 okX9_isKind rfl rfl (Nat.le_of_ble_eq_true rfl) (c_X9_isKind (d + 4) _ G _) rfl rfl ?_
  refine xA.if_ne (tgt := 10) rfl rfl rfl (fun h4 => ?_) (fun h4 => ?_)
  · rw [xb_ne0] at h4
    refine xA.iload_n (i := 2) rfl rfl rfl rfl ?_
    refine xA.callSi (As := [_]) rfl k9_116 okX9_isRoom rfl rfl (Nat.le_of_ble_eq_true rfl) (c_X9_isRoom (d + 4) _ G _) rfl rfl ?_
    refine xA.if_ne (tgt := 20) rfl rfl rfl (fun h14 => ?_) (fun h14 => ?_)
    · rw [xb_ne0] at h14
      refine xA.iload_n (i := 3) rfl rfl rfl rfl ?_
      refine xA.iconst (v := 1) rfl (by decide) rfl ?_
      refine xA.icmp_lt (tgt := 47) rfl rfl rfl (fun h22 => ?_) (fun h22 => ?_)
      · refine xA.bipush (v := (-102)) rfl (by decide) rfl ?_
        exact xA.iret rfl rfl rfl ⟨S, rfl, by simp only [aLives]; rw [if_pos h4, if_pos h14, if_neg (by rintro ⟨q1, q2, q3, q4, q5⟩; first | exact q1 h22 | exact q2 h28 | exact q3 h33 | exact q4 h38 | exact h44 q5)], hc0, fun _ _ => rfl⟩
      · refine xA.iload_n (i := 3) rfl rfl rfl rfl ?_
        refine xA.bipush (v := 16) rfl (by decide) rfl ?_
        refine xA.icmp_gt (tgt := 47) rfl rfl rfl (fun h28 => ?_) (fun h28 => ?_)
        · refine xA.bipush (v := (-102)) rfl (by decide) rfl ?_
          exact xA.iret rfl rfl rfl ⟨S, rfl, by simp only [aLives]; rw [if_pos h4, if_pos h14, if_neg (by rintro ⟨q1, q2, q3, q4, q5⟩; first | exact q1 h22 | exact q2 h28 | exact q3 h33 | exact q4 h38 | exact h44 q5)], hc0, fun _ _ => rfl⟩
        · refine xA.iload rfl rfl rfl ?_
          refine xA.if_lt (tgt := 47) rfl rfl rfl (fun h33 => ?_) (fun h33 => ?_)
          · refine xA.bipush (v := (-102)) rfl (by decide) rfl ?_
            exact xA.iret rfl rfl rfl ⟨S, rfl, by simp only [aLives]; rw [if_pos h4, if_pos h14, if_neg (by rintro ⟨q1, q2, q3, q4, q5⟩; first | exact q1 h22 | exact q2 h28 | exact q3 h33 | exact q4 h38 | exact h44 q5)], hc0, fun _ _ => rfl⟩
          · refine xA.iload rfl rfl rfl ?_
            refine xA.if_lt (tgt := 47) rfl rfl rfl (fun h38 => ?_) (fun h38 => ?_)
            · refine xA.bipush (v := (-102)) rfl (by decide) rfl ?_
              exact xA.iret rfl rfl rfl ⟨S, rfl, by simp only [aLives]; rw [if_pos h4, if_pos h14, if_neg (by rintro ⟨q1, q2, q3, q4, q5⟩; first | exact q1 h22 | exact q2 h28 | exact q3 h33 | exact q4 h38 | exact h44 q5)], hc0, fun _ _ => rfl⟩
            · refine xA.iload rfl rfl rfl ?_
              refine xA.iconst (v := 3) rfl (by decide) rfl ?_
              refine xA.icmp_le (tgt := 50) rfl rfl rfl (fun h44 => ?_) (fun h44 => ?_)
              · refine xA.aload_n (i := 0) rfl rfl rfl rfl ?_
                refine xA.callVi (As := []) rfl k9_120 okX9_hasHouse rfl rfl rfl rfl (Nat.le_of_ble_eq_true rfl) (c_X9_hasHouse (d + 4) _ G) rfl rfl ?_
                refine xA.if_ne (tgt := 60) rfl rfl rfl (fun h54 => ?_) (fun h54 => ?_)
                · rw [xb_ne0] at h54
                  rw [hr_pos hho] at h54
                  obtain ⟨kk, hkk, rfl⟩ := rg_nI h4 (by omega)
                  obtain ⟨rr, hrr, rfl⟩ := rg_nI h14 (by omega)
                  obtain ⟨ss, hss, rfl⟩ := nI_of2 (n := 16) (M := 16) rfl (fun z => h22 (by rw [Int32.lt_iff_toInt_lt] at z ⊢; rw [Int32.toInt_zero] at z; show _ < (1 : Int); omega)) (Int32.not_lt.mp h28)
                  have hsd3 := (hho.2.2.2 (by omega)).1
                  have hba := hsd3.2.1.2.2.2.2.2.2.1 hsd3.2.2
                  have hlp10 : lpN (sH s) kk ≤ 10 := by unfold lpN; split <;> omega
                  refine xA.aload_n (i := 0) rfl rfl rfl rfl ?_
                  refine xA.getR rfl f9_70 rfl rfl rfl rfl ?_
                  refine xA.bipush (v := 30) rfl (by decide) rfl ?_
                  refine xA.iload_n (i := 2) rfl rfl rfl rfl ?_
                  refine xA.callSi (As := [_, _]) rfl k9_184 okX9_spotOf rfl rfl (Nat.le_of_ble_eq_true rfl) (c_X9_spotOf (d + 4) _ G _ _) rfl rfl ?_
                  refine xA.topi (nI_spot 30 rr) ?_
                  refine xA.iload rfl rfl rfl ?_
                  refine xA.callVv (As := [_, _]) rfl k9_244 okX8_begin rfl rfl rfl rfl (Nat.le_of_ble_eq_true rfl) (c_X8_begin (d + 4) _ G _ _) rfl rfl ?_
                  have hh2 : hSd (xu (xu (xu S 41 0 (nI (30 * 6 + rr))) 41 1 0) 41 2 sd) (sH s) := hsd3.to (by funext q; simp [xu]) (by funext q; simp [xu]) (by funext q; simp [xu])
                  refine xA.aload_n (i := 0) rfl rfl rfl rfl ?_
                  refine xA.getR rfl f9_70 rfl rfl rfl rfl ?_
                  refine xA.aload_n (i := 0) rfl rfl rfl rfl ?_
                  refine xA.getR rfl f9_19 rfl rfl rfl rfl ?_
                  refine xA.aload_n (i := 0) rfl rfl rfl rfl ?_
                  refine xA.getR rfl f9_19 rfl rfl rfl rfl ?_
                  refine xA.iload_n (i := 1) rfl rfl rfl rfl ?_
                  refine xA.callVi (As := [_]) rfl k9_145 okX1_leapOf rfl rfl rfl rfl (Nat.le_of_ble_eq_true rfl) (c_X1_leapOf (d + 3) _ G 3 iH3 (nI kk)) rfl rfl ?_
                  refine xA.topi (show _ = nI (lpN (sH s) kk) from by rw [hh2.1.2.2.2.2.1 hh2.2.2]; unfold lpN; simp only [show (nI kk = 2 ↔ kk = 2) from nI_eq (b := 2) (by omega) (by omega), nI_1]; split <;> rfl) ?_
                  refine xA.iload_n (i := 3) rfl rfl rfl rfl ?_
                  refine xA.callVv (As := [_, _, _]) rfl k9_247 okX8_go rfl rfl rfl rfl (Nat.le_of_ble_eq_true rfl) (c_X8_go d _ G (sH s) hh2 (lpN (sH s) kk) hlp10 ss hss (30 * 6 + rr) 0 sd (by omega) ⟨by simp [xu], by simp [xu], by simp [xu]⟩) rfl rfl ?_
                  refine xA.aload_n (i := 0) rfl rfl rfl rfl ?_
                  refine xA.getR rfl f9_70 rfl rfl rfl rfl ?_
                  refine xA.iload rfl rfl rfl ?_
                  refine xA.callVi (As := [_]) rfl k9_251 okX8_tell rfl rfl rfl rfl (Nat.le_of_ble_eq_true rfl) (c_X8_tell (d + 3) _ G w) rfl rfl ?_
                  have hlt := wgo_lt (D := hD (sH s)) (low := hLo (sH s)) (lp := lpN (sH s) kk) ss (30 * 6 + rr) 0 sd (by omega)
                  exact xA.iret rfl rfl rfl ⟨_, rfl, by
                    simp only [aLives]; rw [if_pos h4, if_pos h14, if_pos (show ¬ nI ss < 1 ∧ ¬ 16 < nI ss ∧ ¬ sd < 0 ∧ ¬ w < 0 ∧ w ≤ 3 from ⟨h22, h28, h33, h38, h44⟩), if_neg h54]
                    simp only [livesN, nI_clamp (show kk < 2 ^ 31 by omega), nI_clamp (show rr < 2 ^ 31 by omega), nI_clamp (show ss < 2 ^ 31 by omega), wS, if_true, if_false]
                    generalize wgo (hD (sH s)) (hLo (sH s)) (lpN (sH s) kk) ss (30 * 6 + rr) 0 sd = z at hlt ⊢
                    have hx1 : xmin (nI z.1) = nI (z.1 / 6) := by
                      have q := xmin_nI (m := z.1 / 6) (r := z.1 % 6) (by omega) (by omega)
                      rwa [show z.1 / 6 * 6 + z.1 % 6 = z.1 by omega] at q
                    have hx2 : xroom (nI z.1) = nI (z.1 % 6) := by
                      have q := xroom_nI (m := z.1 / 6) (r := z.1 % 6) (by omega) (by omega)
                      rwa [show z.1 / 6 * 6 + z.1 % 6 = z.1 by omega] at q
                    rw [hx1, hx2]
                    simp, hc0.scr (fun j h1 h2 => by rw [wS_off (by omega)]; funext q; simp only [xu]; rw [if_neg (by omega), if_neg (by omega), if_neg (by omega)]), fun j hj => by rw [wS_off (by omega)]; funext q; simp only [xu]; rw [if_neg (by omega), if_neg (by omega), if_neg (by omega)]⟩
                · rw [xb_eq0] at h54
                  refine xA.bipush (v := (-103)) rfl (by decide) rfl ?_
                  rw [hr_pos hho] at h54
                  exact xA.iret rfl rfl rfl ⟨S, rfl, by simp only [aLives]; rw [if_pos h4, if_pos h14, if_pos ⟨h22, h28, h33, h38, h44⟩, if_pos (by omega)], hc0, fun _ _ => rfl⟩
              · refine xA.bipush (v := (-102)) rfl (by decide) rfl ?_
                exact xA.iret rfl rfl rfl ⟨S, rfl, by simp only [aLives]; rw [if_pos h4, if_pos h14, if_neg (by rintro ⟨q1, q2, q3, q4, q5⟩; first | exact q1 h22 | exact q2 h28 | exact q3 h33 | exact q4 h38 | exact h44 q5)], hc0, fun _ _ => rfl⟩
    · rw [xb_eq0] at h14
      refine xA.bipush (v := (-101)) rfl (by decide) rfl ?_
      exact xA.iret rfl rfl rfl ⟨S, rfl, by simp only [aLives]; rw [if_pos h4, if_neg h14], hc0, fun _ _ => rfl⟩
  · rw [xb_eq0] at h4
    refine xA.bipush (v := (-102)) rfl (by decide) rfl ?_
    exact xA.iret rfl rfl rfl ⟨S, rfl, by simp only [aLives]; rw [if_neg h4], hc0, fun _ _ => rfl⟩

variable {τ : List xSh}
/-! ===== a life by a seed ===== -/
theorem nI_dec8 : ∀ jj, jj < 8 → ¬ jj = 0 → nI jj + Int32.ofInt (-1) = nI (jj - 1) := by decide +kernel
/-- which steps may be -/
def mayF (D : Nat → Nat) (low m r lp : Nat) (s : Nat) : Bool := (nxH D low m r s lp).isSome
theorem oI_nxH {D : Nat → Nat} {low m r s lp : Nat} (hm : m < 60) (hr : r < 6) (hs : s < 8) : oI (nxH D low m r s lp) = -1 ↔ mayF D low m r lp s = false := by
  rw [oI_m1 (fun v hv => by have := nxH_lt hv hm hr hs; omega), mayF]
  cases nxH D low m r s lp <;> simp
/-- the next seed, the draw -/
def sdN (x : Int32) : Int32 := (1103515245 * x.toInt64 + 12345 &&& 2147483647).toInt32
def drN (x w : Int32) : Int32 := x / 65536 - x / 65536 / w * w

set_option maxRecDepth 100000 in
set_option maxHeartbeats 400000 in
theorem c_X8_waysOn (d : Nat) (S : Nat → Nat → Int32) (G : Nat → Nat → Int64) (h : hS) (hh : hSd S h) (m r lp : Nat) (hm : m < 60) (hr : r < 6) (hlp : lp ≤ 10) (hs0 : S 41 0 = nI (m * 6 + r)) : xR τ (d + 3) mX8_waysOn [.ref 41, .ref 3, .int (nI lp)] S G (some (.int (nI (cn (mayF (hD h) (hLo h) m r lp) 8)))) S G := by
  refine xC.of okX8_waysOn (Nat.le_of_ble_eq_true rfl) (L := [_, _, _, _, _]) rfl ?_
  have loop : ∀ i, i ≤ 8 → xA none (d + 3) mX8_waysOn 0 0 0 0 5 [some (.ref 41), some (.ref 3), some (.int (nI lp)), some (.int (nI (cn (mayF (hD h) (hLo h) m r lp) i))), some (.int (nI i))] [] ((σF τ), S, G) (fun r' h' => r' = (some (.int (nI (cn (mayF (hD h) (hLo h) m r lp) 8)))) ∧ h' = ((σF τ), S, G)) := by
    refine xloop 8 (fun i hi ih => ?_) ?_
    · skip
      refine xA.iload rfl rfl rfl ?_
      refine xA.bipush (v := 8) rfl (by decide) rfl ?_
      refine xA.icmp_ge (tgt := 41) rfl rfl rfl (fun h9 => ?_) (fun h9 => ?_)
      · exact absurd h9 (nI_ge (b := 8) hi (by omega))
      · refine xA.iload_n (i := 3) rfl rfl rfl rfl ?_
        refine xA.aload_n (i := 1) rfl rfl rfl rfl ?_
        refine xA.aload_n (i := 0) rfl rfl rfl rfl ?_
        refine xA.getI rfl f8_9 rfl rfl rfl ?_
        refine xA.topi (hs0) ?_
        refine xA.iload rfl rfl rfl ?_
        refine xA.iload_n (i := 2) rfl rfl rfl rfl ?_
        refine xA.callVi (As := [_, _, _]) rfl k8_39 okX1_spotAfter rfl rfl rfl rfl (Nat.le_of_ble_eq_true rfl) (c_X1_spotAfter d _ G 3 ⟨rfl, rfl, rfl⟩ m r i lp hm hr hi hlp) rfl rfl ?_
        refine xA.topi (congrArg oI (hh.nx _ _ _ _ hr hi)) ?_
        refine xA.iconst (v := (-1)) rfl (by decide) rfl ?_
        refine xA.icmp_ne (tgt := 32) rfl rfl rfl (fun h25 => ?_) (fun h25 => ?_)
        · refine xA.iconst (v := 1) rfl (by decide) rfl ?_
          refine xA.iadd rfl rfl ?_
          refine xA.topi (show _ = nI (cn (mayF (hD h) (hLo h) m r lp) (i + 1)) from by rw [oI_nxH hm hr hi] at h25; first | exact cn_t (by simpa using h25) | exact cn_f h25) ?_
          refine xA.istore_n (i := 3) (L' := [_, _, _, _, _]) rfl rfl (Nat.le_of_ble_eq_true rfl) rfl rfl ?_
          refine xA.iinc (L' := [_, _, _, _, _]) rfl rfl (nI_1 i) rfl rfl ?_
          refine xA.goto (q := 5) rfl rfl ?_
          exact ih
        · refine xA.iconst (v := 0) rfl (by decide) rfl ?_
          refine xA.goto (q := 33) rfl rfl ?_
          refine xA.iadd rfl rfl ?_
          refine xA.topi (show _ = nI (cn (mayF (hD h) (hLo h) m r lp) (i + 1)) from by rw [oI_nxH hm hr hi] at h25; first | exact cn_t (by simpa using h25) | exact cn_f h25) ?_
          refine xA.istore_n (i := 3) (L' := [_, _, _, _, _]) rfl rfl (Nat.le_of_ble_eq_true rfl) rfl rfl ?_
          refine xA.iinc (L' := [_, _, _, _, _]) rfl rfl (nI_1 i) rfl rfl ?_
          refine xA.goto (q := 5) rfl rfl ?_
          exact ih
    · skip
      refine xA.iload rfl rfl rfl ?_
      refine xA.bipush (v := 8) rfl (by decide) rfl ?_
      refine xA.icmp_ge (tgt := 41) rfl rfl rfl (fun h9 => ?_) (fun h9 => ?_)
      · refine xA.iload_n (i := 3) rfl rfl rfl rfl ?_
        exact xA.iret rfl rfl rfl ⟨rfl, rfl⟩
      · exact absurd (nI_le (a := 8) (b := 8) (Nat.le_refl _) (by omega)) h9
  refine xA.iconst (v := 0) rfl (by decide) rfl ?_
  refine xA.istore_n (i := 3) (L' := [_, _, _, _, _]) rfl rfl (Nat.le_of_ble_eq_true rfl) rfl rfl ?_
  refine xA.iconst (v := 0) rfl (by decide) rfl ?_
  refine xA.istore (L' := [_, _, _, _, _]) rfl (Nat.le_of_ble_eq_true rfl) rfl rfl ?_
  exact loop 0 (Nat.zero_le _)
set_option maxRecDepth 100000 in
set_option maxHeartbeats 400000 in
theorem c_X8_draw (d : Nat) (S : Nat → Nat → Int32) (G : Nat → Nat → Int64) (w : Int32) (hw : ¬ w < 1) : xR τ d mX8_draw [.ref 41, .int w] S G (some (.int (drN (sdN (S 41 2)) w))) (xu S 41 2 (sdN (S 41 2))) G := by
  refine xC.of okX8_draw (Nat.le_of_ble_eq_true rfl) (L := [_, _]) rfl ?_
  refine xA.aload_n (i := 0) rfl rfl rfl rfl ?_
  refine xA.ldc2 (v := 1103515245) rfl w563 rfl ?_
  refine xA.aload_n (i := 0) rfl rfl rfl rfl ?_
  refine xA.getI rfl f8_18 rfl rfl rfl ?_
  refine xA.i2l rfl rfl ?_
  refine xA.lmul rfl rfl ?_
  refine xA.ldc2 (v := 12345) rfl w564 rfl ?_
  refine xA.ladd rfl rfl ?_
  refine xA.ldc2 (v := 2147483647) rfl w565 rfl ?_
  refine xA.land rfl rfl ?_
  refine xA.l2i rfl rfl ?_
  refine xA.putI rfl p8_18 rfl rfl rfl ?_
  refine xA.iload_n (i := 1) rfl rfl rfl rfl ?_
  refine xA.iconst (v := 1) rfl (by decide) rfl ?_
  refine xA.icmp_ge (tgt := 31) rfl rfl rfl (fun h24 => ?_) (fun h24 => ?_)
  · refine xA.aload_n (i := 0) rfl rfl rfl rfl ?_
    refine xA.getI rfl f8_18 rfl rfl rfl ?_
    refine xA.topi (xu_same) ?_
    refine xA.ldc (v := 65536) rfl w566 rfl ?_
    refine xA.idiv rfl (by decide) rfl ?_
    refine xA.iload_n (i := 1) rfl rfl rfl rfl ?_
    refine xA.irem rfl (by intro z; subst z; exact hw (by decide)) rfl ?_
    exact xA.iret rfl rfl rfl ⟨rfl, rfl⟩
  · exact absurd (Int32.not_le.mp h24) hw
/-- the j-th of those that may be, from step s on, f steps left -/
def pick (f : Nat → Bool) : Nat → Nat → Nat → Nat
  | 0, s, _ => s
  | t + 1, s, j => if f s = true then (if j = 0 then s else pick f t (s + 1) (j - 1)) else pick f t (s + 1) j
theorem pick_spec {f : Nat → Bool} : ∀ (t s j : Nat), j < cn (fun i => f (s + i)) t → s ≤ pick f t s j ∧ pick f t s j < s + t ∧ f (pick f t s j) = true := by
  intro t
  induction t with
  | zero => intro s j h; exact absurd h (Nat.not_lt_zero _)
  | succ t ih =>
    intro s j h
    have hc : ∀ n, cn (fun i => f (s + i)) (n + 1) = (if f s = true then 1 else 0) + cn (fun i => f (s + 1 + i)) n := by
      intro n
      induction n with
      | zero => simp [cn]
      | succ n ihn =>
        rw [cn, ihn, cn, Nat.add_assoc, show s + (n + 1) = s + 1 + n by omega]
    rw [hc] at h
    rw [pick]
    by_cases hf : f s = true
    · rw [if_pos hf] at h ⊢
      by_cases hj : j = 0
      · rw [if_pos hj]; exact ⟨Nat.le_refl _, by omega, hf⟩
      · rw [if_neg hj]
        have := ih (s + 1) (j - 1) (by omega)
        exact ⟨by omega, by omega, this.2.2⟩
    · rw [if_neg hf] at h ⊢
      have := ih (s + 1) j (by omega)
      exact ⟨by omega, by omega, this.2.2⟩

theorem cn_cons {f : Nat → Bool} (s n : Nat) : cn (fun i => f (s + i)) (n + 1) = (if f s = true then 1 else 0) + cn (fun i => f (s + 1 + i)) n := by
  induction n with
  | zero => simp [cn]
  | succ n ih => rw [cn, ih, cn, Nat.add_assoc, show s + (n + 1) = s + 1 + n by omega]
set_option maxRecDepth 100000 in
set_option maxHeartbeats 1000000 in
theorem c_X8_take (d : Nat) (S : Nat → Nat → Int32) (G : Nat → Nat → Int64) (h : hS) (hh : hSd S h) (m r lp : Nat) (hm : m < 60) (hr : r < 6) (hlp : lp ≤ 10) (hs0 : S 41 0 = nI (m * 6 + r)) (j : Nat) (hj : j < cn (mayF (hD h) (hLo h) m r lp) 8) : xR τ (d + 3) mX8_take [.ref 41, .ref 3, .int (nI lp), .int (nI j)] S G none (xu (xu S 41 0 (oI (nxH (hD h) (hLo h) m r (pick (mayF (hD h) (hLo h) m r lp) 8 0 j) lp))) 41 1 (S 41 1 + (if (pick (mayF (hD h) (hLo h) m r lp) 8 0 j) = 7 then 1 else 0))) G := by
  have hj8 : j < 8 := Nat.lt_of_lt_of_le hj (cn_le _ _)
  refine xC.of okX8_take (Nat.le_of_ble_eq_true rfl) (L := [_, _, _, _, _, _, _]) rfl ?_
  have loop : ∀ i, i ≤ 8 → ∀ jj, jj < 8 → pick (mayF (hD h) (hLo h) m r lp) (8 - i) i jj = (pick (mayF (hD h) (hLo h) m r lp) 8 0 j) → jj < cn (fun q => (mayF (hD h) (hLo h) m r lp) (i + q)) (8 - i) → ∀ x6 : Option Value, xA none (d + 3) mX8_take 0 0 0 0 6 [some (.ref 41), some (.ref 3), some (.int (nI lp)), some (.int (nI j)), some (.int (nI jj)), some (.int (nI i)), x6] [] ((σF τ), S, G) (fun r' h' => r' = none ∧ h' = ((σF τ), xu (xu S 41 0 (oI (nxH (hD h) (hLo h) m r (pick (mayF (hD h) (hLo h) m r lp) 8 0 j) lp))) 41 1 (S 41 1 + (if (pick (mayF (hD h) (hLo h) m r lp) 8 0 j) = 7 then 1 else 0)), G)) := by
    refine xloop 8 (fun i hi ih => ?_) ?_
    · intro jj hjl hpk hjc x6
      obtain ⟨t, hti⟩ : ∃ t, 8 - i = t + 1 := ⟨8 - i - 1, by omega⟩
      refine xA.iload rfl rfl rfl ?_
      refine xA.bipush (v := 8) rfl (by decide) rfl ?_
      refine xA.icmp_ge (tgt := 77) rfl rfl rfl (fun h10 => ?_) (fun h10 => ?_)
      · exact absurd h10 (nI_ge (b := 8) (by omega) (by omega))
      · refine xA.aload_n (i := 1) rfl rfl rfl rfl ?_
        refine xA.aload_n (i := 0) rfl rfl rfl rfl ?_
        refine xA.getI rfl f8_9 rfl rfl rfl ?_
        refine xA.topi (hs0) ?_
        refine xA.iload rfl rfl rfl ?_
        refine xA.iload_n (i := 2) rfl rfl rfl rfl ?_
        refine xA.callVi (As := [_, _, _]) rfl k8_39 okX1_spotAfter rfl rfl rfl rfl (Nat.le_of_ble_eq_true rfl) (c_X1_spotAfter d _ G 3 ⟨rfl, rfl, rfl⟩ m r i lp hm hr (by omega) hlp) rfl rfl ?_
        refine xA.topi (congrArg oI (hh.nx _ _ _ _ hr (by omega))) ?_
        refine xA.istore (L' := [_, _, _, _, _, _, _]) rfl (Nat.le_of_ble_eq_true rfl) rfl rfl ?_
        refine xA.iload rfl rfl rfl ?_
        refine xA.iconst (v := (-1)) rfl (by decide) rfl ?_
        refine xA.icmp_ne (tgt := 35) rfl rfl rfl (fun h29 => ?_) (fun h29 => ?_)
        · rw [oI_nxH hm hr (by omega)] at h29; have e29 : mayF (hD h) (hLo h) m r lp i = true := by simpa using h29
          refine xA.iload rfl rfl rfl ?_
          refine xA.if_ne (tgt := 68) rfl rfl rfl (fun h37 => ?_) (fun h37 => ?_)
          · have e37 : ¬ jj = 0 := fun z => h37 (by rw [z]; rfl)
            refine xA.iinc (L' := [_, _, _, _, _, _, _]) rfl rfl (nI_dec8 jj hjl e37) rfl rfl ?_
            refine xA.iinc (L' := [_, _, _, _, _, _, _]) rfl rfl (nI_1 i) rfl rfl ?_
            refine xA.goto (q := 6) rfl rfl ?_
            first
            | exact ih (jj - 1) (by omega) (by rw [← hpk, hti, pick, if_pos e29, if_neg e37, show 8 - (i + 1) = t by omega]) (by rw [show 8 - i = t + 1 by omega] at hjc; have := cn_cons (f := mayF (hD h) (hLo h) m r lp) i t; rw [this, if_pos e29] at hjc; rw [show 8 - (i + 1) = t by omega]; omega) _
            | exact ih jj hjl (by rw [← hpk, hti, pick, if_neg (by rw [h29]; decide), show 8 - (i + 1) = t by omega]) (by rw [show 8 - i = t + 1 by omega] at hjc; have := cn_cons (f := mayF (hD h) (hLo h) m r lp) i t; rw [this, if_neg (by rw [h29]; decide)] at hjc; rw [show 8 - (i + 1) = t by omega]; omega) _
          · have e37 : jj = 0 := (nI_eq (b := 0) (by omega) (by omega)).mp h37
            refine xA.aload_n (i := 0) rfl rfl rfl rfl ?_
            refine xA.iload rfl rfl rfl ?_
            refine xA.putI rfl p8_9 rfl rfl rfl ?_
            refine xA.aload_n (i := 0) rfl rfl rfl rfl ?_
            refine xA.dup rfl rfl rfl ?_
            refine xA.getI rfl f8_15 rfl rfl rfl ?_
            refine xA.topi ((xu_ne2 (by omega) : _ = S 41 1)) ?_
            refine xA.iload rfl rfl rfl ?_
            refine xA.bipush (v := 7) rfl (by decide) rfl ?_
            refine xA.icmp_ne (tgt := 62) rfl rfl rfl (fun h55 => ?_) (fun h55 => ?_)
            · have e55 : ¬ i = 7 := fun z => h55 (by rw [z]; rfl)
              refine xA.iconst (v := 0) rfl (by decide) rfl ?_
              refine xA.iadd rfl rfl ?_
              refine xA.putI rfl p8_15 rfl rfl rfl ?_
              have ep : pick (mayF (hD h) (hLo h) m r lp) 8 0 j = i := by rw [← hpk, hti, pick, if_pos e29, if_pos e37]
              refine xA.store (S' := xu (xu S 41 0 (oI (nxH (hD h) (hLo h) m r (pick (mayF (hD h) (hLo h) m r lp) 8 0 j) lp))) 41 1 (S 41 1 + (if (pick (mayF (hD h) (hLo h) m r lp) 8 0 j) = 7 then 1 else 0))) (by rw [ep]; first | rw [if_pos e55] | rw [if_neg e55]) ?_
              exact xA.vret rfl rfl ⟨rfl, rfl⟩
            · have e55 : i = 7 := (nI_eq (b := 7) (by omega) (by omega)).mp h55
              refine xA.iconst (v := 1) rfl (by decide) rfl ?_
              refine xA.goto (q := 63) rfl rfl ?_
              refine xA.iadd rfl rfl ?_
              refine xA.putI rfl p8_15 rfl rfl rfl ?_
              have ep : pick (mayF (hD h) (hLo h) m r lp) 8 0 j = i := by rw [← hpk, hti, pick, if_pos e29, if_pos e37]
              refine xA.store (S' := xu (xu S 41 0 (oI (nxH (hD h) (hLo h) m r (pick (mayF (hD h) (hLo h) m r lp) 8 0 j) lp))) 41 1 (S 41 1 + (if (pick (mayF (hD h) (hLo h) m r lp) 8 0 j) = 7 then 1 else 0))) (by rw [ep]; first | rw [if_pos e55] | rw [if_neg e55]) ?_
              exact xA.vret rfl rfl ⟨rfl, rfl⟩
        · rw [oI_nxH hm hr (by omega)] at h29
          refine xA.goto (q := 71) rfl rfl ?_
          refine xA.iinc (L' := [_, _, _, _, _, _, _]) rfl rfl (nI_1 i) rfl rfl ?_
          refine xA.goto (q := 6) rfl rfl ?_
          first
          | exact ih (jj - 1) (by omega) (by rw [← hpk, hti, pick, if_pos e29, if_neg e37, show 8 - (i + 1) = t by omega]) (by rw [show 8 - i = t + 1 by omega] at hjc; have := cn_cons (f := mayF (hD h) (hLo h) m r lp) i t; rw [this, if_pos e29] at hjc; rw [show 8 - (i + 1) = t by omega]; omega) _
          | exact ih jj hjl (by rw [← hpk, hti, pick, if_neg (by rw [h29]; decide), show 8 - (i + 1) = t by omega]) (by rw [show 8 - i = t + 1 by omega] at hjc; have := cn_cons (f := mayF (hD h) (hLo h) m r lp) i t; rw [this, if_neg (by rw [h29]; decide)] at hjc; rw [show 8 - (i + 1) = t by omega]; omega) _
    · intro jj hjl hpk hjc x6
      exact absurd hjc (by rw [Nat.sub_self]; exact Nat.not_lt_zero _)
  refine xA.iload_n (i := 3) rfl rfl rfl rfl ?_
  refine xA.istore (L' := [_, _, _, _, _, _, _]) rfl (Nat.le_of_ble_eq_true rfl) rfl rfl ?_
  refine xA.iconst (v := 0) rfl (by decide) rfl ?_
  refine xA.istore (L' := [_, _, _, _, _, _, _]) rfl (Nat.le_of_ble_eq_true rfl) rfl rfl ?_
  exact loop 0 (Nat.zero_le _) j (by omega) rfl (by simpa using hj) _
theorem ts_out3 {w : Int32} (h0 : ¬ w = 0) (h1 : ¬ w = 1) (h2 : ¬ w = 2) : w.toInt < 0 ∨ 2 < w.toInt := by
  simp only [i32_ext, Int32.reduceToInt] at h0 h1 h2
  omega

set_option maxRecDepth 100000 in
set_option maxHeartbeats 400000 in
theorem c_X8_tell (d : Nat) (S : Nat → Nat → Int32) (G : Nat → Nat → Int64) (w : Int32) : xR τ (d + 1) mX8_tell [.ref 41, .int w] S G (some (.int (if w = 0 then xmin (S 41 0) else if w = 1 then xroom (S 41 0) else if w = 2 then S 41 1 else S 41 2))) S G := by
  refine xC.of okX8_tell (Nat.le_of_ble_eq_true rfl) (L := [_, _]) rfl ?_
  refine xA.iload_n (i := 1) rfl rfl rfl rfl ?_
  by_cases h1_0 : w = 0
  · subst h1_0
    refine xA.tsIn (q := 28) rfl (by decide) (by decide) rfl rfl ?_
    refine xA.aload_n (i := 0) rfl rfl rfl rfl ?_
    refine xA.getI rfl f8_9 rfl rfl rfl ?_
    refine xA.callSNi (As := [_]) rfl k8_33 okX9_minuteOf rfl rfl (Nat.le_of_ble_eq_true rfl) (c_X9_minuteOf d S G _) rfl rfl ?_
    exact xA.iret rfl rfl rfl ⟨rfl, rfl⟩
  by_cases h1_1 : w = 1
  · subst h1_1
    refine xA.tsIn (q := 36) rfl (by decide) (by decide) rfl rfl ?_
    refine xA.aload_n (i := 0) rfl rfl rfl rfl ?_
    refine xA.getI rfl f8_9 rfl rfl rfl ?_
    refine xA.callSNi (As := [_]) rfl k8_36 okX9_roomOf rfl rfl (Nat.le_of_ble_eq_true rfl) (c_X9_roomOf d S G _) rfl rfl ?_
    exact xA.iret rfl rfl rfl ⟨rfl, rfl⟩
  by_cases h1_2 : w = 2
  · subst h1_2
    refine xA.tsIn (q := 44) rfl (by decide) (by decide) rfl rfl ?_
    refine xA.aload_n (i := 0) rfl rfl rfl rfl ?_
    refine xA.getI rfl f8_15 rfl rfl rfl ?_
    exact xA.iret rfl rfl rfl ⟨rfl, rfl⟩
  refine xA.tsOut (q := 49) rfl (ts_out3 h1_0 h1_1 h1_2) rfl ?_
  refine xA.aload_n (i := 0) rfl rfl rfl rfl ?_
  refine xA.getI rfl f8_18 rfl rfl rfl ?_
  exact xA.iret rfl rfl rfl ⟨by rw [if_neg h1_0, if_neg h1_1, if_neg h1_2], rfl⟩

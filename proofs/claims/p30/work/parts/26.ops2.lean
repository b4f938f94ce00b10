variable {τ : List xSh}
/-! ===== house, life, lives, image, restore ===== -/
/-- the house that a text is -/
def hrd (pg : Nat → Nat) (n : Nat) : Option hS := (hrun pg n).bind (fun h => if hSt h = 5 ∨ hSt h = 8 then some h else none)
def aHouse (s : sS) : Int32 := match hrd (sPg s) (sN s) with
  | none => -103
  | some h => nI (hNd h)
def tHouse (s : sS) : sS := match hrd (sPg s) (sN s) with
  | none => s
  | some h => mkS s (fun _ => 0) 0 (sHr s + 1) h 0 (sKd s) (sL s) (0, fun _ => 0, fun _ => 0, fun _ => 0) (0, fun _ => 0) (sSd s) (0, (sIm s).2)
theorem hgo_pre {pg : Nat → Nat} : ∀ n, pre (hgo pg) n = (hrun pg n).isSome := by
  intro n
  induction n with
  | zero => rfl
  | succ n ih =>
    rw [pre, ih, hgo]
    cases e : hrun pg n with
    | none => rw [hrun, e]; rfl
    | some h => simp
theorem hfpl {pg : Nat → Nat} {n : Nat} : fpl (hgo pg) n < n ↔ hrun pg n = none := by
  rw [fpl_lt, hgo_pre]
  cases hrun pg n <;> simp

set_option maxRecDepth 100000 in
set_option maxHeartbeats 1000000 in
theorem o_house (d : Nat) (s : sS) (h600 : sHr s < 600) : opC τ (d + 5) mX9_house [.ref 0] s (.int (aHouse s)) (tHouse s) := by
  intro S G hc
  have hc0 := hc
  obtain ⟨hpg, hho, hpp, htk, hgl, hsd, him, hno⟩ := hc
  refine xC.of okX9_house (Nat.le_of_ble_eq_true rfl) (L := [_]) rfl ?_
  refine xA.aload_n (i := 0) rfl rfl rfl rfl ?_
  refine xA.getR rfl f9_23 rfl rfl rfl rfl ?_
  refine xA.aload_n (i := 0) rfl rfl rfl rfl ?_
  refine xA.getR rfl f9_12 rfl rfl rfl rfl ?_
  refine xA.callV (As := [_]) (h := ((σF τ), _, _)) rfl k9_90 okX1_read rfl rfl rfl rfl (Nat.le_of_ble_eq_true rfl) (c_X1_read d _ G 6 iH6 (by omega) (sPg s) (sN s) hpg) (Nat.le_refl _) (Nat.le_refl _) rfl rfl ?_
  rintro r9 h9 ⟨S2, rfl, hf2, rfl, hc2⟩
  have hp2 : pgC S2 (sPg s) (sN s) := hpg.to (hf2 1 (by omega)) (hf2 2 (by omega))
  have hn45 := hpg.2.1
  have hfl := fpl_le (hgo (sPg s)) (sN s)
  refine xA.aload_n (i := 0) rfl rfl rfl rfl ?_
  refine xA.getR rfl f9_12 rfl rfl rfl rfl ?_
  refine xA.callVi (As := []) rfl k9_79 okX4_length rfl rfl rfl rfl (Nat.le_of_ble_eq_true rfl) (c_X4_length (d + 4) _ G) rfl rfl ?_
  refine xA.topi hp2.1 ?_
  rcases hru : hrun (sPg s) (sN s) with _ | h
  · have hlt := hfpl.mpr hru
    have hrdE : hrd (sPg s) (sN s) = none := by rw [hrd, hru]; rfl
    refine xA.icmp_lt (tgt := 31) rfl rfl rfl (fun h18 => ?_) (fun h18 => ?_)
    · refine xA.bipush (v := (-103)) rfl (by decide) rfl ?_
      exact xA.iret rfl rfl rfl ⟨S2, rfl, by simp only [aHouse, hrdE], by simp only [tHouse, hrdE]; exact hc0.scr (fun j h1 h2 => hf2 j (by omega)), fun j hj => hf2 j (by omega)⟩
    · exact absurd (nI_lt hlt (by omega)) h18
  · have hge : ¬ fpl (hgo (sPg s)) (sN s) < sN s := fun z => by rw [hfpl, hru] at z; cases z
    have hc2 := hc2 h hru
    have hst8 := (hrok _ _ _ hru).1
    have hst : (S2 6 6 = 5 ∨ S2 6 6 = 8) ↔ (hSt h = 5 ∨ hSt h = 8) := by
      rw [hc2.1]
      exact or_congr (nI_eq (b := 5) (by omega) (by omega)) (nI_eq (b := 8) (by omega) (by omega))
    refine xA.icmp_lt (tgt := 31) rfl rfl rfl (fun h18 => ?_) (fun h18 => ?_)
    · exact absurd ((nI_ltI (by omega) (by omega)).mp h18) hge
    · refine xA.aload_n (i := 0) rfl rfl rfl rfl ?_
      refine xA.getR rfl f9_23 rfl rfl rfl rfl ?_
      refine xA.callVi (As := []) rfl k9_97 okX1_isWhole rfl rfl rfl rfl (Nat.le_of_ble_eq_true rfl) (c_X1_isWhole (d + 4) _ G 6 iH6) rfl rfl ?_
      refine xA.if_ne (tgt := 34) rfl rfl rfl (fun h28 => ?_) (fun h28 => ?_)
      · rw [xb_ne0, hst] at h28
        have hwh := h28
        have hrdE : hrd (sPg s) (sN s) = some h := by rw [hrd, hru]; exact if_pos hwh
        refine xA.aload_n (i := 0) rfl rfl rfl rfl ?_
        refine xA.getR rfl f9_19 rfl rfl rfl rfl ?_
        refine xA.aload_n (i := 0) rfl rfl rfl rfl ?_
        refine xA.getR rfl f9_12 rfl rfl rfl rfl ?_
        refine xA.callV (As := [_]) (h := ((σF τ), _, _)) rfl k9_90 okX1_read rfl rfl rfl rfl (Nat.le_of_ble_eq_true rfl) (c_X1_read d _ G 3 iH3 (by omega) (sPg s) (sN s) hp2) (Nat.le_refl _) (Nat.le_refl _) rfl rfl ?_
        rintro r9 h9 ⟨S3, rfl, hf3, rfl, hc3⟩
        have hc3 := hc3 h hru
        have hp3 : pgC S3 (sPg s) (sN s) := hp2.to (hf3 1 (by omega)) (hf3 2 (by omega))
        refine xA.pop rfl rfl rfl ?_
        refine xA.aload_n (i := 0) rfl rfl rfl rfl ?_
        refine xA.dup rfl rfl rfl ?_
        refine xA.getI rfl f9_101 rfl rfl rfl ?_
        refine xA.topi (((by rw [hf3 0 (by omega), hf2 0 (by omega)]; exact hho.1) : S3 0 11 = nI (sHr s))) ?_
        refine xA.iconst (v := 1) rfl (by decide) rfl ?_
        refine xA.iadd rfl rfl ?_
        refine xA.topi (nI_1 _) ?_
        refine xA.putI rfl p9_101 rfl rfl rfl ?_
        refine xA.aload_n (i := 0) rfl rfl rfl rfl ?_
        refine xA.iconst (v := 0) rfl (by decide) rfl ?_
        refine xA.putI rfl p9_105 rfl rfl rfl ?_
        refine xA.aload_n (i := 0) rfl rfl rfl rfl ?_
        refine xA.getR rfl f9_42 rfl rfl rfl rfl ?_
        refine xA.callVv (As := []) rfl k9_108 okX7_clear rfl rfl rfl rfl (Nat.le_of_ble_eq_true rfl) (c_X7_clear (d + 4) _ G 12 iT12) rfl rfl ?_
        refine xA.aload_n (i := 0) rfl rfl rfl rfl ?_
        refine xA.getR rfl f9_49 rfl rfl rfl rfl ?_
        refine xA.callVv (As := []) rfl k9_109 okX0_clear rfl rfl rfl rfl (Nat.le_of_ble_eq_true rfl) (c_X0_clear (d + 4) _ G 16 iG16) rfl rfl ?_
        refine xA.aload_n (i := 0) rfl rfl rfl rfl ?_
        refine xA.getR rfl f9_56 rfl rfl rfl rfl ?_
        refine xA.callVv (As := []) rfl k9_110 okX2_drop rfl rfl rfl rfl (Nat.le_of_ble_eq_true rfl) (c_X2_drop (d + 4) _ G) rfl rfl ?_
        refine xA.aload_n (i := 0) rfl rfl rfl rfl ?_
        refine xA.getR rfl f9_12 rfl rfl rfl rfl ?_
        refine xA.callVv (As := []) rfl k9_87 okX4_clear rfl rfl rfl rfl (Nat.le_of_ble_eq_true rfl) (c_X4_clear (d + 4) _ G) rfl rfl ?_
        refine xA.aload_n (i := 0) rfl rfl rfl rfl ?_
        refine xA.getR rfl f9_19 rfl rfl rfl rfl ?_
        refine xA.callVi (As := []) rfl k9_113 okX1_doors rfl rfl rfl rfl (Nat.le_of_ble_eq_true rfl) (c_X1_doors (d + 4) _ G 3 iH3) rfl rfl ?_
        refine xA.topi (show _ = nI (hNd h) from by rw [show xu (xu (xu (xu (xu (xu S3 0 11 (nI (sHr s + 1))) 0 10 0) 12 3 0) 16 1 0) 18 3 0) 1 1 0 3 2 = S3 3 2 from by simp [xu]]; exact hc3.2.1) ?_
        have off : ∀ j, ¬ j = 0 → ¬ j = 1 → ¬ (3 ≤ j ∧ j < 9) → ¬ j = 12 → ¬ j = 16 → ¬ j = 18 → xu (xu (xu (xu (xu (xu S3 0 11 (nI (sHr s + 1))) 0 10 0) 12 3 0) 16 1 0) 18 3 0) 1 1 0 j = S j := fun j h0 h1 h3 h12 h16 h18 => by
          rw [← hf2 j (by omega), ← hf3 j (by omega)]
          funext q
          simp only [xu]
          rw [if_neg h1, if_neg h18, if_neg h16, if_neg h12, if_neg h0, if_neg h0]
        have off0 : ∀ q, ¬ q = 10 → ¬ q = 11 → xu (xu (xu (xu (xu (xu S3 0 11 (nI (sHr s + 1))) 0 10 0) 12 3 0) 16 1 0) 18 3 0) 1 1 0 0 q = S 0 q := fun q h1 h2 => by
          rw [← hf2 0 (by omega), ← hf3 0 (by omega)]
          simp [xu, h1, h2]
        have hsn : hSd (xu (xu (xu (xu (xu (xu S3 0 11 (nI (sHr s + 1))) 0 10 0) 12 3 0) 16 1 0) 18 3 0) 1 1 0) h := by
          have h33 : hSd S3 h := ⟨hc3, hrok _ _ _ hru, by omega⟩
          exact h33.to (by funext q; simp [xu]) (by funext q; simp [xu]) (by funext q; simp [xu])
        exact xA.iret rfl rfl rfl ⟨_, rfl, by simp only [aHouse, hrdE], by
          simp only [tHouse, hrdE]
          exact ⟨⟨by simp [xu]; rfl, by show 0 ≤ 45; omega, fun i hi => absurd hi (Nat.not_lt_zero _), fun i hi => absurd hi (Nat.not_lt_zero _)⟩, ⟨by simp [xu], by show sHr s + 1 ≤ 600; omega, fun z => absurd z (by show ¬ sHr s + 1 = 0; omega), fun _ => ⟨hsn, hwh⟩⟩, ⟨by simp [xu]; rfl, by show 0 ≤ 4; omega, fun p hp => absurd hp (Nat.not_lt_zero _)⟩, ⟨by simp [xu]; rfl, by show 0 ≤ 5; omega, fun i hi => absurd hi (Nat.not_lt_zero _)⟩, ⟨by simp [xu]; rfl, by show 0 ≤ 8; omega, fun i hi => absurd hi (Nat.not_lt_zero _)⟩, ⟨by rw [off0 12 (by omega) (by omega)]; exact hsd.1, hsd.2⟩, ⟨by simp [xu]; rfl, by show 0 ≤ 1; omega, fun z => absurd z (by show ¬ 0 = 1; omega)⟩, fun z => absurd z (by show ¬ sHr s + 1 = 0; omega)⟩, fun j hj => off j (by omega) (by omega) (by omega) (by omega) (by omega) (by omega)⟩
      · rw [xb_eq0, hst] at h28
        have hrdE : hrd (sPg s) (sN s) = none := by rw [hrd, hru]; exact if_neg h28
        refine xA.bipush (v := (-103)) rfl (by decide) rfl ?_
        exact xA.iret rfl rfl rfl ⟨S2, rfl, by simp only [aHouse, hrdE], by simp only [tHouse, hrdE]; exact hc0.scr (fun j h1 h2 => hf2 j (by omega)), fun j hj => hf2 j (by omega)⟩
def lpN (h : hS) (kd : Nat) : Nat := if kd = 2 then hBa h + 1 else hBa h
def aLife (s : sS) (p : Int32) : Int32 := if rg p (sP s) then (match lread (hD (sH s)) (hLo (sH s)) (lpN (sH s) (sKd s p.toNatClampNeg)) (sPg s) (sN s) with
    | none => -103
    | some l => nI (lN' l)) else -101
def tLife (s : sS) (p : Int32) : sS := if rg p (sP s) then (match lread (hD (sH s)) (hLo (sH s)) (lpN (sH s) (sKd s p.toNatClampNeg)) (sPg s) (sN s) with
    | none => s
    | some l => mkS s (fun _ => 0) 0 (sHr s) (sH s) (sP s) (sKd s) (lu (sL s) p.toNatClampNeg l) (sTk s) (sGl s) (sSd s) (sIm s)) else s
theorem nxH_room {D : Nat → Nat} {low m r s lp q : Nat} (h : nxH D low m r s lp = some q) (hr : r < 6) (hs : s < 8) : q % 6 = if s < 6 then s else r := by
  unfold nxH at h
  split at h
  · split at h
    · cases h; rw [if_neg (by omega)]; omega
    · cases h
  · split at h
    · cases h
    · split at h
      · cases h; rw [if_neg (by omega)]; omega
      · split at h
        · cases h
        · cases h; rw [if_pos (by omega)]; omega
theorem nxH_door {D : Nat → Nat} {low m r s lp q : Nat} (h : nxH D low m r s lp = some q) (hs : s < 6) : ¬ D (r * 6 + s) = 0 := by
  intro z
  simp [nxH, show ¬ s = 7 by omega, show ¬ s = 6 by omega, z] at h
/-- the doors' bits are the doors gone through -/
theorem lstep_thr {h : hS} (ho : hOk h) {lp s : Nat} {l l2 : lS} (hlo : lOk l) (hs8 : s < 8) (hl : ∀ j, j < hNd h → (lDb l).testBit j = thr h l j) (hst : lstep (hD h) (hLo h) lp l s = some l2) : ∀ j, j < hNd h → (lDb l2).testBit j = thr h l2 j := by
  intro j hj
  obtain ⟨q, hq, rfl⟩ := Option.map_eq_some_iff.mp hst
  have h1 := hlo.1
  have hsp := hlo.2.2.1 (lN' l - 1) (by omega)
  have hqr := nxH_room hq (by omega) hs8
  obtain ⟨o1, o2, o3⟩ := ho.2.2.2.2.2.2.2.2.2.2.2.2.1 j hj
  have e1 : thr h (lN' l + 1, nu (lSp l) (lN' l) q, lTh l + (if s = 7 then 1 else 0), if s < 6 then lDb l ||| 2 ^ (hD h (lSp l (lN' l - 1) % 6 * 6 + s) - 1) else lDb l) j = (thr h l j || decide ((lSp l (lN' l - 1) % 6 = hOn h j ∧ q % 6 = hTw h j) ∨ (lSp l (lN' l - 1) % 6 = hTw h j ∧ q % 6 = hOn h j))) := by
    unfold thr
    show decide (0 < cn (fun i => decide ((nu (lSp l) (lN' l) q i % 6 = hOn h j ∧ nu (lSp l) (lN' l) q (i + 1) % 6 = hTw h j) ∨ (nu (lSp l) (lN' l) q i % 6 = hTw h j ∧ nu (lSp l) (lN' l) q (i + 1) % 6 = hOn h j))) (lN' l + 1 - 1)) = _
    rw [show lN' l + 1 - 1 = lN' l - 1 + 1 by omega, cn]
    have e2 : cn (fun i => decide ((nu (lSp l) (lN' l) q i % 6 = hOn h j ∧ nu (lSp l) (lN' l) q (i + 1) % 6 = hTw h j) ∨ (nu (lSp l) (lN' l) q i % 6 = hTw h j ∧ nu (lSp l) (lN' l) q (i + 1) % 6 = hOn h j))) (lN' l - 1) = cn (fun i => decide ((lSp l i % 6 = hOn h j ∧ lSp l (i + 1) % 6 = hTw h j) ∨ (lSp l i % 6 = hTw h j ∧ lSp l (i + 1) % 6 = hOn h j))) (lN' l - 1) :=
      cn_congr fun i hi => by rw [nu_ne (by omega), nu_ne (by omega)]
    rw [e2, nu_ne (by omega), show lN' l - 1 + 1 = lN' l by omega, nu_same]
    generalize cn _ _ = c
    by_cases hc : 0 < c
    · rw [decide_eq_true hc, Bool.true_or]; exact decide_eq_true (by omega)
    · rw [decide_eq_false hc, Bool.false_or]
      have : c = 0 := by omega
      subst this
      by_cases hx : (lSp l (lN' l - 1) % 6 = hOn h j ∧ q % 6 = hTw h j) ∨ (lSp l (lN' l - 1) % 6 = hTw h j ∧ q % 6 = hOn h j)
      · simp [hx]
      · simp [hx]
  rw [e1, ← hl j hj]
  have oD := ho.2.2.2.2.2.2.2.2.2.2.1
  have o0 := ho.2.2.2.2.2.2.2.2.2.2.2.1
  have oJ := ho.2.2.2.2.2.2.2.2.2.2.2.2.2.1
  have hr6 : lSp l (lN' l - 1) % 6 < 6 := by omega
  generalize lSp l (lN' l - 1) % 6 = r at *
  by_cases hs6 : s < 6
  · rw [if_pos hs6] at hqr
    show (if s < 6 then lDb l ||| 2 ^ (hD h (r * 6 + s) - 1) else lDb l).testBit j = _
    rw [if_pos hs6, Nat.testBit_or, Nat.testBit_two_pow, hqr]
    congr 1
    refine decide_eq_decide.mpr ?_
    have hd := nxH_door hq hs6
    constructor
    · intro z
      rcases oJ r s j hr6 hs6 (by omega) with q9 | q9
      · exact Or.inl ⟨q9.1, q9.2⟩
      · exact Or.inr ⟨q9.1, q9.2⟩
    · rintro (⟨z1, z2⟩ | ⟨z1, z2⟩)
      · rw [z1, z2, o3]; omega
      · rw [z1, z2, (oD _ _ o2 o1).1, o3]; omega
  · rw [if_neg hs6] at hqr
    show (if s < 6 then lDb l ||| 2 ^ (hD h (r * 6 + s) - 1) else lDb l).testBit j = _
    rw [if_neg hs6, hqr]
    have : ¬ ((r = hOn h j ∧ r = hTw h j) ∨ (r = hTw h j ∧ r = hOn h j)) := by
      intro z
      have e : hOn h j = hTw h j := by omega
      rw [e, o0 _ o2] at o3
      omega
    simp [this]

theorem lrun_thr {h : hS} (ho : hOk h) {lp : Nat} {pg : Nat → Nat} (h0 : lOk (l0 pg)) (hD10 : ∀ a, a < 36 → hD h a ≤ 10) {n : Nat} (hn : n ≤ 16) (hst : ∀ i, i < n → (stp (pg (3 + i))).isSome = true) : ∀ i, i ≤ n → ∀ l, lrun (hD h) (hLo h) lp pg i = some l → ∀ j, j < hNd h → (lDb l).testBit j = thr h l j := by
  intro i
  induction i with
  | zero => intro _ l hl j _; cases hl; show (0 : Nat).testBit j = decide (0 < 0); simp
  | succ i ih =>
    intro hi l hl
    obtain ⟨l1, e1, e2⟩ := Option.bind_eq_some_iff.mp hl
    obtain ⟨s, es⟩ := Option.isSome_iff_exists.mp (hst i (by omega))
    rw [es] at e2
    exact lstep_thr ho (lrun_ok h0 hD10 hn hst i (by omega) l1 e1).1 (stp_lt es) (ih (by omega) l1 e1) e2
theorem lread_pre {pg : Nat → Nat} {n : Nat} (hn3 : ¬ n < 3) (hf : ¬ fpl (fun j => lfo j (pg j)) n < n) : lOk (l0 pg) ∧ n - 3 ≤ 16 ∧ ∀ i, i < n - 3 → (stp (pg (3 + i))).isSome = true := by
  have hpre : pre (fun j => lfo j (pg j)) n = true := by
    by_cases z : pre (fun j => lfo j (pg j)) n = true
    · exact z
    · exact absurd (fpl_lt.mpr (by simpa using z)) hf
  have g0 := hdg_get (c := pg 0) (lo := 0) (hi := 5) (by have := pre_get hpre 0 (by omega); simpa [lfo] using this)
  have g1 := hdg_get (c := pg 1) (lo := 0) (hi := 9) (by have := pre_get hpre 1 (by omega); simpa [lfo] using this)
  have g2 := hdg_get (c := pg 2) (lo := 0) (hi := 5) (by have := pre_get hpre 2 (by omega); simpa [lfo] using this)
  refine ⟨⟨by show 1 ≤ 1; omega, by show 1 ≤ 17; omega, fun i _ => by show (10 * (pg 0 - 48) + (pg 1 - 48)) * 6 + (pg 2 - 48) < 360; omega, by show 0 < 1; omega, by show 0 < 1024; omega⟩, ?_, fun i hi => ?_⟩
  · rcases Nat.lt_or_ge 19 n with z | z
    · have := pre_get hpre 19 (by omega)
      simp [lfo] at this
    · omega
  · have := pre_get hpre (3 + i) (by omega)
    simp only [lfo] at this
    rw [if_neg (by omega), if_neg (by omega)] at this
    simp only [Bool.and_eq_true] at this
    exact this.2
theorem lread_lG {h : hS} (ho : hOk h) (hD10 : ∀ a, a < 36 → hD h a ≤ 10) {lp : Nat} {pg : Nat → Nat} {n : Nat} {l : lS} (hl : lread (hD h) (hLo h) lp pg n = some l) : lG h l ∧ 1 ≤ lN' l := by
  unfold lread at hl
  split at hl
  · cases hl
  · rename_i hn
    obtain ⟨a1, a2, a3⟩ := lread_pre (pg := pg) (n := n) (by omega) (by omega)
    have b1 := (lrun_ok a1 hD10 a2 a3 _ (Nat.le_refl _) l hl).1
    exact ⟨⟨b1.2.1, b1.2.2.1, by have := b1.2.1; have := b1.2.2.2.1; omega, b1.2.2.2.2, lrun_thr ho a1 hD10 a2 a3 _ (Nat.le_refl _) l hl⟩, b1.1⟩
theorem lcE_lC {S : Nat → Nat → Int32} {k k2 : Nat} {l : lS} (hl : lC S k2 l) : lC (lcE S k k2 (lN' l)) k l := by
  refine ⟨by simp [lcE], by simp [lcE, hl.2.1], by simp [lcE, hl.2.2.1], fun i hi => ?_⟩
  simp [lcE, hi, hl.2.2.2 i hi]
theorem lcE_off {S : Nat → Nat → Int32} {k k2 n j : Nat} (h1 : j ≠ k) (h2 : j ≠ k + 1) : lcE S k k2 n j = S j := by
  funext i
  simp [lcE, h1, h2]

set_option maxRecDepth 100000 in
set_option maxHeartbeats 1000000 in
theorem o_life (d : Nat) (s : sS) (x : Int32) : opC τ (d + 6) mX9_life [.ref 0, .int x] s (.int (aLife s x)) (tLife s x) := by
  intro S G hc
  have hc0 := hc
  obtain ⟨hpg, hho, hpp, htk, hgl, hsd, him, hno⟩ := hc
  refine xC.of okX9_life (Nat.le_of_ble_eq_true rfl) (L := [_, _, _, _]) rfl ?_
  by_cases hx : rg x (sP s)
  · obtain ⟨i, hi, rfl⟩ := rg_nI hx (by have := hpp.2.1; omega)
    have hi4 : i < 4 := by have := hpp.2.1; omega
    have hci : (nI i).toNatClampNeg = i := nI_clamp (by omega)
    obtain ⟨hkd, hkd5, hl, hg⟩ := hpp.2.2 i hi
    have hhr : 0 < sHr s := by
      rcases Nat.eq_zero_or_pos (sHr s) with z | z
      · have := (hno z).1; omega
      · exact z
    have hsd3 := (hho.2.2.2 hhr).1
    have hba := hsd3.2.1.2.2.2.2.2.2.1 hsd3.2.2
    have hlp10 : lpN (sH s) (sKd s i) ≤ 10 := by unfold lpN; split <;> omega
    refine xA.aload_n (i := 0) rfl rfl rfl rfl ?_
    refine xA.iload_n (i := 1) rfl rfl rfl rfl ?_
    refine xA.callVr (As := [_]) rfl k9_134 okX9_personAt rfl rfl rfl rfl (Nat.le_of_ble_eq_true rfl) (c_X9_personAt (d + 5) _ G (sP s) hpp.1 hpp.2.1 i hi) rfl rfl ?_
    refine xA.astore_n (i := 2) (L' := [_, _, _, _]) rfl rfl (Nat.le_of_ble_eq_true rfl) rfl rfl ?_
    refine xA.aload_n (i := 2) rfl rfl rfl rfl ?_
    refine xA.ifnonnull (q := 13) rfl rfl ?_
    refine xA.aload_n (i := 0) rfl rfl rfl rfl ?_
    refine xA.getR rfl f9_19 rfl rfl rfl rfl ?_
    refine xA.aload_n (i := 2) rfl rfl rfl rfl ?_
    refine xA.callVi (As := []) rfl k9_142 okX5_kind (isP i hi4).1 rfl rfl rfl (Nat.le_of_ble_eq_true rfl) (c_X5_kind (d + 5) _ G (42 + 3 * i) (isP i hi4)) rfl rfl ?_
    refine xA.topi hkd ?_
    refine xA.callVi (As := [_]) rfl k9_145 okX1_leapOf rfl rfl rfl rfl (Nat.le_of_ble_eq_true rfl) (c_X1_leapOf (d + 4) _ G 3 iH3 (nI (sKd s i))) rfl rfl ?_
    refine xA.topi (show _ = nI (lpN (sH s) (sKd s i)) from by rw [hsd3.1.2.2.2.2.1 hsd3.2.2]; unfold lpN; simp only [show (nI (sKd s i) = 2 ↔ sKd s i = 2) from nI_eq (b := 2) (by omega) (by omega), nI_1]; split <;> rfl) ?_
    refine xA.istore_n (i := 3) (L' := [_, _, _, _]) rfl rfl (Nat.le_of_ble_eq_true rfl) rfl rfl ?_
    refine xA.aload_n (i := 0) rfl rfl rfl rfl ?_
    refine xA.getR rfl f9_29 rfl rfl rfl rfl ?_
    refine xA.aload_n (i := 0) rfl rfl rfl rfl ?_
    refine xA.getR rfl f9_12 rfl rfl rfl rfl ?_
    refine xA.aload_n (i := 0) rfl rfl rfl rfl ?_
    refine xA.getR rfl f9_19 rfl rfl rfl rfl ?_
    refine xA.iload_n (i := 3) rfl rfl rfl rfl ?_
    refine xA.callV (As := [_, _, _]) (h := ((σF τ), _, _)) rfl k9_149 okX3_read rfl rfl rfl rfl (Nat.le_of_ble_eq_true rfl) (c_X3_read d _ G (sH s) hsd3 (sPg s) (sN s) hpg (lpN (sH s) (sKd s i)) hlp10) (Nat.le_refl _) (Nat.le_refl _) rfl rfl ?_
    rintro r9 h9 ⟨S2, rfl, hf2, rfl, hl9⟩
    refine xA.if_ne (tgt := 47) rfl rfl rfl (fun h41 => ?_) (fun h41 => ?_)
    · rw [xb_ne0] at h41
      obtain ⟨l, hlr⟩ := Option.isSome_iff_exists.mp h41
      have hl99 := hl9 l hlr
      refine xA.aload_n (i := 2) rfl rfl rfl rfl ?_
      refine xA.callVr (As := []) rfl k9_152 okX5_lived (isP i hi4).1 rfl rfl rfl (Nat.le_of_ble_eq_true rfl) (c_X5_lived (d + 5) _ G (42 + 3 * i) (isP i hi4)) rfl rfl ?_
      refine xA.aload_n (i := 0) rfl rfl rfl rfl ?_
      refine xA.getR rfl f9_29 rfl rfl rfl rfl ?_
      refine xA.callVv (As := [_]) rfl k9_156 okX3_copyFrom (isP i hi4).2.1 rfl rfl rfl (Nat.le_of_ble_eq_true rfl) (c_X3_copyFrom (d + 4) _ G (42 + 3 * i + 1) (isP i hi4).2 9 iL9 (by omega) (lN' l) hl99.1.1 hl99.2.2.1) rfl rfl ?_
      refine xA.aload_n (i := 0) rfl rfl rfl rfl ?_
      refine xA.getR rfl f9_12 rfl rfl rfl rfl ?_
      refine xA.callVv (As := []) rfl k9_87 okX4_clear rfl rfl rfl rfl (Nat.le_of_ble_eq_true rfl) (c_X4_clear (d + 5) _ G) rfl rfl ?_
      refine xA.aload_n (i := 2) rfl rfl rfl rfl ?_
      refine xA.callVr (As := []) rfl k9_152 okX5_lived (isP i hi4).1 rfl rfl rfl (Nat.le_of_ble_eq_true rfl) (c_X5_lived (d + 5) _ G (42 + 3 * i) (isP i hi4)) rfl rfl ?_
      refine xA.callVi (As := []) rfl k9_160 okX3_selves (isP i hi4).2.1 rfl rfl rfl (Nat.le_of_ble_eq_true rfl) (c_X3_selves (d + 5) _ G (42 + 3 * i + 1) (isP i hi4).2) rfl rfl ?_
      refine xA.topi (show _ = nI (lN' l) from by rw [show (xu (lcE S2 (42 + 3 * i + 1) 9 (lN' l)) 1 1 0) (42 + 3 * i + 1) 1 = lcE S2 (42 + 3 * i + 1) 9 (lN' l) (42 + 3 * i + 1) 1 from xu_ne1 (by omega)]; exact (lcE_lC hl99.1).1) ?_
      have off : ∀ j, ¬ j = 1 → ¬ (9 ≤ j ∧ j < 11) → j ≠ 42 + 3 * i + 1 → j ≠ 42 + 3 * i + 1 + 1 → (xu (lcE S2 (42 + 3 * i + 1) 9 (lN' l)) 1 1 0) j = S j := fun j h1 h9 h2 h3 => by
        rw [show (xu (lcE S2 (42 + 3 * i + 1) 9 (lN' l)) 1 1 0) j = lcE S2 (42 + 3 * i + 1) 9 (lN' l) j from by funext q; exact xu_ne1 h1, lcE_off h2 h3]; exact hf2 j (by omega)
      exact xA.iret rfl rfl rfl ⟨_, rfl, by simp only [aLife]; rw [if_pos hx, hci]; simp only [hlr], by
        simp only [tLife]; rw [if_pos hx, hci]; simp only [hlr]
        refine ⟨⟨by simp [xu]; rfl, by show 0 ≤ 45; omega, fun i hi => absurd hi (Nat.not_lt_zero _), fun i hi => absurd hi (Nat.not_lt_zero _)⟩, hho.to (by rw [off 0 (by omega) (by omega) (by omega) (by omega)]) (off 3 (by omega) (by omega) (by omega) (by omega)) (off 4 (by omega) (by omega) (by omega) (by omega)) (off 5 (by omega) (by omega) (by omega) (by omega)), ⟨by rw [off 0 (by omega) (by omega) (by omega) (by omega)]; exact hpp.1, hpp.2.1, fun p hp => ?_⟩, htk.to (off _ (by omega) (by omega) (by omega) (by omega)) (off _ (by omega) (by omega) (by omega) (by omega)) (off _ (by omega) (by omega) (by omega) (by omega)) (off _ (by omega) (by omega) (by omega) (by omega)), hgl.to (off _ (by omega) (by omega) (by omega) (by omega)) (off _ (by omega) (by omega) (by omega) (by omega)), ⟨by rw [off 0 (by omega) (by omega) (by omega) (by omega)]; exact hsd.1, hsd.2⟩, him.to (fun j h1 h2 => off j (by omega) (by omega) (by omega) (by omega)), hno⟩
        obtain ⟨a1, a2, a3, a4⟩ := hpp.2.2 p hp
        refine ⟨by rw [off _ (by omega) (by omega) (by omega) (by omega)]; exact a1, a2, ?_⟩
        show lC _ _ (lu (sL s) i l p) ∧ lG _ (lu (sL s) i l p)
        by_cases e : p = i
        · subst e
          simp only [lu, if_true]
          exact ⟨(lcE_lC hl99.1).to (by funext q; exact xu_ne1 (by omega)) (by funext q; exact xu_ne1 (by omega)), (lread_lG hsd3.2.1 hsd3.D hlr).1⟩
        · simp only [lu, if_neg e]
          exact ⟨a3.to (off _ (by omega) (by omega) (by omega) (by omega)) (off _ (by omega) (by omega) (by omega) (by omega)), a4⟩, fun j hj => off j (by omega) (by omega) (by omega) (by omega)⟩
    · rw [xb_eq0] at h41
      refine xA.bipush (v := (-103)) rfl (by decide) rfl ?_
      have hlr : lread (hD (sH s)) (hLo (sH s)) (lpN (sH s) (sKd s i)) (sPg s) (sN s) = none := by simpa using h41
      exact xA.iret rfl rfl rfl ⟨S2, rfl, by simp only [aLife]; rw [if_pos hx, hci]; simp only [hlr], by simp only [tLife]; rw [if_pos hx, hci]; simp only [hlr]; exact hc0.scr (fun j h1 h2 => hf2 j (by omega)), fun j hj => hf2 j (by omega)⟩
  · skip
    refine xA.aload_n (i := 0) rfl rfl rfl rfl ?_
    refine xA.iload_n (i := 1) rfl rfl rfl rfl ?_
    refine xA.callVr (As := [_]) rfl k9_134 okX9_personAt rfl rfl rfl rfl (Nat.le_of_ble_eq_true rfl) (c_X9_personAtN (d + 5) _ G (sP s) hpp.1 hpp.2.1 x hx) rfl rfl ?_
    refine xA.astoreN_n (i := 2) (L' := [_, _, _, _]) rfl rfl (Nat.le_of_ble_eq_true rfl) rfl rfl ?_
    refine xA.aloadN_n (i := 2) rfl rfl rfl rfl ?_
    refine xA.ifnonnullN rfl rfl ?_
    refine xA.bipush (v := (-101)) rfl (by decide) rfl ?_
    exact xA.iret rfl rfl rfl ⟨S, rfl, by simp only [aLife]; rw [if_neg hx], by simp only [tLife]; rw [if_neg hx]; exact hc0, fun _ _ => rfl⟩

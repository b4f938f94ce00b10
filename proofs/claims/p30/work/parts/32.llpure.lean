/-! ===== the lives that the law writes, pure ===== -/
/-- how often a life goes back in time -/
def lDn (l : lS) : Nat := cn (fun i => decide (lSp l (i + 1) / 6 < lSp l i / 6)) (lN' l - 1)
/-- a step's letter -/
def ltr (s : Nat) : Nat := if s = 6 then 46 else if s = 7 then 116 else 48 + s
theorem stp_ltr : ∀ s, s < 8 → stp (ltr s) = some s := by decide +kernel
theorem ltr_lt : ∀ s, s < 8 → 1 ≤ ltr s ∧ ltr s ≤ 126 := by decide +kernel
theorem l0_congr {pg pg' : Nat → Nat} (h : ∀ i, i < 3 → pg i = pg' i) : l0 pg = l0 pg' := by
  unfold l0; rw [h 0 (by decide), h 1 (by decide), h 2 (by decide)]
theorem lrun_congr {D : Nat → Nat} {low lp : Nat} {pg pg' : Nat → Nat} : ∀ n, (∀ i, i < 3 + n → pg i = pg' i) → lrun D low lp pg n = lrun D low lp pg' n
  | 0, h => congrArg some (l0_congr fun i hi => h i (by omega))
  | n + 1, h => by
    show (lrun D low lp pg n).bind _ = (lrun D low lp pg' n).bind _
    rw [lrun_congr n (fun i hi => h i (by omega)), h (3 + n) (by omega)]
theorem pre_all {f : Nat → Bool} : ∀ {n : Nat}, (∀ i, i < n → f i = true) → pre f n = true
  | 0, _ => rfl
  | n + 1, h => by
    show (pre f n && f n) = true
    rw [pre_all (fun i hi => h i (by omega)), h n (by omega)]; rfl
/-- the letters are read as the life l so far -/
def LX (D : Nat → Nat) (low lp : Nat) (T : Nat → Int32) (n : Nat) (l : lS) : Prop := ∃ pg, TX T pg n ∧ 3 ≤ n ∧ n ≤ 19 ∧ (∀ i, i < n → lfo i (pg i) = true) ∧ lrun D low lp pg (n - 3) = some l ∧ lN' l + 2 = n
def lnext (D : Nat → Nat) (l : lS) (s q : Nat) : lS := (lN' l + 1, nu (lSp l) (lN' l) q, lTh l + (if s = 7 then 1 else 0), if s < 6 then lDb l ||| 2 ^ (D (lSp l (lN' l - 1) % 6 * 6 + s) - 1) else lDb l)
theorem LX.add {D : Nat → Nat} {low lp : Nat} {T : Nat → Int32} {n s q : Nat} {l : lS} (hx : LX D low lp T n l) (hn : n < 19) (hs : s < 8) (hq : nxH D low (lSp l (lN' l - 1) / 6) (lSp l (lN' l - 1) % 6) s lp = some q) : LX D low lp (iu T n (nI (ltr s))) (n + 1) (lnext D l s q) := by
  obtain ⟨pg, ht, h3, h19, hl, hr, hN⟩ := hx
  refine ⟨nu pg n (ltr s), ht.add (ltr_lt s hs).1 (ltr_lt s hs).2, by omega, by omega, ?_, ?_, ?_⟩
  · intro i hi
    by_cases e : i = n
    · subst e
      rw [nu_same]
      unfold lfo
      rw [if_neg (by omega), if_neg (by omega), stp_ltr s hs, decide_eq_true hn]; rfl
    · rw [nu_ne e]; exact hl i (by omega)
  · have e1 : n + 1 - 3 = (n - 3) + 1 := by omega
    rw [e1]
    show (lrun D low lp (nu pg n (ltr s)) (n - 3)).bind _ = _
    rw [lrun_congr (pg' := pg) (n - 3) (fun i hi => nu_ne (by omega)), hr, Option.bind_some, show 3 + (n - 3) = n by omega, nu_same, stp_ltr s hs, Option.getD_some]
    unfold lstep
    rw [hq]; rfl
  · show lN' l + 1 + 2 = n + 1
    omega
theorem lf59 : ∀ v, v < 6 → (hdg (48 + v) 0 5).isSome = true := by decide +kernel
theorem lf9 : ∀ v, v < 10 → (hdg (48 + v) 0 9).isSome = true := by decide +kernel
theorem LX.first {D : Nat → Nat} {low lp : Nat} {T : Nat → Int32} {M r : Nat} (hM : M < 60) (hr : r < 6) : LX D low lp (iu (iu (iu T 0 (nI (48 + M / 10))) 1 (nI (48 + M % 10))) 2 (nI (48 + r))) 3 (1, fun _ => M * 6 + r, 0, 0) := by
  have t0 : TX T (fun _ => 0) 0 := fun i hi => absurd hi (Nat.not_lt_zero _)
  refine ⟨nu (nu (nu (fun _ => 0) 0 (48 + M / 10)) 1 (48 + M % 10)) 2 (48 + r), ((t0.add (by omega) (by omega)).add (by omega) (by omega)).add (by omega) (by omega), by omega, by omega, ?_, ?_, rfl⟩
  · intro i hi
    match i, hi with
    | 0, _ => exact lf59 (M / 10) (by omega)
    | 1, _ => exact lf9 (M % 10) (by omega)
    | 2, _ => exact lf59 r hr
    | i + 3, h => exact absurd h (by omega)
  · show some (l0 _) = _
    unfold l0
    have e : (10 * (nu (nu (nu (fun _ => 0) 0 (48 + M / 10)) 1 (48 + M % 10)) 2 (48 + r) 0 - 48) + (nu (nu (nu (fun _ => 0) 0 (48 + M / 10)) 1 (48 + M % 10)) 2 (48 + r) 1 - 48)) * 6 + (nu (nu (nu (fun _ => 0) 0 (48 + M / 10)) 1 (48 + M % 10)) 2 (48 + r) 2 - 48) = M * 6 + r := by
      show (10 * (48 + M / 10 - 48) + (48 + M % 10 - 48)) * 6 + (48 + r - 48) = M * 6 + r
      omega
    rw [e]
theorem LX.read {D : Nat → Nat} {low lp : Nat} {T : Nat → Int32} {n : Nat} {l : lS} (hx : LX D low lp T n l) : ∃ pg, TX T pg n ∧ n ≤ 19 ∧ ∀ pg', (∀ i, i < n → pg' i = pg i) → fpl (fun j => lfo j (pg' j)) n = n ∧ lread D low lp pg' n = some l := by
  obtain ⟨pg, ht, h3, h19, hl, hr, -⟩ := hx
  refine ⟨pg, ht, h19, fun pg' he => ?_⟩
  have hf : fpl (fun j => lfo j (pg' j)) n = n := fpl_all (pre_all fun i hi => by
    show lfo i (pg' i) = true
    rw [he i hi]; exact hl i hi)
  refine ⟨hf, ?_⟩
  unfold lread
  rw [hf, if_neg (by omega), lrun_congr (pg' := pg) (n - 3) (fun i hi => he i (by omega))]
  exact hr
theorem nxH_back {D : Nat → Nat} {low m r s lp q : Nat} (h : nxH D low m r s lp = some q) (h1 : 1 ≤ lp) (hr : r < 6) (hs : s < 8) : q / 6 < m ↔ s = 7 := by
  unfold nxH at h
  split at h
  · rename_i e
    split at h
    · cases h; omega
    · cases h
  · rename_i e
    split at h
    · cases h
    · split at h
      · cases h; omega
      · split at h
        · cases h
        · cases h; omega
theorem lDn_next {D : Nat → Nat} {low lp s q : Nat} {l : lS} (h1 : 1 ≤ lN' l) (hlp : 1 ≤ lp) (hs : s < 8) (hq : nxH D low (lSp l (lN' l - 1) / 6) (lSp l (lN' l - 1) % 6) s lp = some q) (hd : lTh l = lDn l) : lTh (lnext D l s q) = lDn (lnext D l s q) := by
  have e1 : lN' l = lN' l - 1 + 1 := by omega
  have h2 := nxH_back hq hlp (by omega) hs
  show lTh l + (if s = 7 then 1 else 0) = cn (fun i => decide (nu (lSp l) (lN' l) q (i + 1) / 6 < nu (lSp l) (lN' l) q i / 6)) (lN' l + 1 - 1)
  rw [Nat.add_sub_cancel]
  have e2 : cn (fun i => decide (nu (lSp l) (lN' l) q (i + 1) / 6 < nu (lSp l) (lN' l) q i / 6)) (lN' l - 1 + 1) = lDn l + (if s = 7 then 1 else 0) := by
    rw [cn, nu_ne (show lN' l - 1 ≠ lN' l by omega), ← e1, nu_same]
    congr 1
    · exact cn_congr fun i hi => by rw [nu_ne (by omega), nu_ne (by omega)]
    · simp only [decide_eq_true_eq, h2]
  rw [← e1] at e2
  rw [hd]
  exact e2.symm
theorem RL1_next {P Ls : Nat → Int32} {k q s : Nat} {D : Nat → Nat} {l : lS} (hl : RL1 P Ls k l) (hn : lN' l < 17) (hq : q < 360) : RL1 (iu P (5 + k) (nI (lN' l + 1))) (iu Ls (17 * k + lN' l) (nI (e8 q))) k (lnext D l s q) := by
  refine ⟨iu_at, hn, fun i hi => ?_⟩
  have hi2 : i < lN' l + 1 := hi
  show _ = nI (e8 (nu (lSp l) (lN' l) q i)) ∧ nu (lSp l) (lN' l) q i < 360
  by_cases e : i = lN' l
  · subst e
    rw [iu_at, nu_same]
    exact ⟨rfl, hq⟩
  · rw [iu_off (by omega), nu_ne e]
    exact hl.2.2 i (by omega)
/-- the rows p, l, t alone changed -/
def fr3 (S S1 : Nat → Nat → Int32) : Prop := ∀ j, j ≠ 55 → j ≠ 56 → j ≠ 57 → S1 j = S j
/-- a life k so far, in the law's rows -/
def LI (S S1 : Nat → Nat → Int32) (D : Nat → Nat) (low lp k n : Nat) (l : lS) : Prop := fr3 S S1 ∧ (∀ i, i ≠ 5 + k → S1 55 i = S 55 i) ∧ (∀ i, i < 17 * k → S1 56 i = S 56 i) ∧ LX D low lp (S1 57) n l ∧ RL1 (S1 55) (S1 56) k l ∧ lTh l = lDn l ∧ 1 ≤ lN' l
theorem LI.next {S S1 : Nat → Nat → Int32} {D : Nat → Nat} {low lp k n s q : Nat} {l : lS} (hi : LI S S1 D low lp k n l) (hlp : 1 ≤ lp) (hn : n < 19) (hs : s < 8) (hq : nxH D low (lSp l (lN' l - 1) / 6) (lSp l (lN' l - 1) % 6) s lp = some q) : LI S (xu (xu (xu S1 55 (5 + k) (nI (lN' l + 1))) 56 (17 * k + lN' l) (nI (e8 q))) 57 n (nI (ltr s))) D low lp k (n + 1) (lnext D l s q) := by
  obtain ⟨h1, h2, h3, h4, h5, h6, h7⟩ := hi
  have hN : lN' l + 2 = n := h4.choose_spec.2.2.2.2.2
  have hl := (h5.2.2 (lN' l - 1) (by omega)).2
  have hqlt := nxH_lt hq (by omega) (by omega) hs
  refine ⟨fun j a b c => ?_, fun i hi => ?_, fun i hi => ?_, ?_, ?_, lDn_next h7 hlp hs hq h6, by show 1 ≤ lN' l + 1; omega⟩
  · rw [xu_off c, xu_off b, xu_off a]; exact h1 j a b c
  · rw [xu_off (by decide), xu_off (by decide), xu_at, iu_off hi]; exact h2 i hi
  · rw [xu_off (by decide), xu_at, iu_off (by omega), xu_off (by decide)]; exact h3 i hi
  · rw [xu_at, xu_off (by decide), xu_off (by decide)]; exact h4.add hn hs hq
  · rw [xu_off (by decide), xu_off (by decide), xu_at, xu_off (a := 57) (by decide), xu_at, xu_off (by decide)]; exact RL1_next h5 (by omega) hqlt
theorem LI.first {S : Nat → Nat → Int32} {D : Nat → Nat} {low lp k M r : Nat} (hM : M < 60) (hr : r < 6) : LI S (xu (xu (xu (xu (xu S 57 0 (nI (48 + M / 10))) 57 1 (nI (48 + M % 10))) 57 2 (nI (48 + r))) 55 (5 + k) (nI 1)) 56 (17 * k) (nI (e8 (M * 6 + r)))) D low lp k 3 (1, fun _ => M * 6 + r, 0, 0) := by
  refine ⟨fun j a b c => ?_, fun i hi => ?_, fun i hi => ?_, ?_, ⟨?_, by show 1 ≤ 17; decide, fun i hi => ?_⟩, rfl, Nat.le_refl 1⟩
  · rw [xu_off b, xu_off a, xu_off c, xu_off c, xu_off c]
  · rw [xu_off (by decide), xu_at, iu_off hi, xu_off (by decide), xu_off (by decide), xu_off (by decide)]
  · rw [xu_at, iu_off (by omega), xu_off (by decide), xu_off (by decide), xu_off (by decide), xu_off (by decide)]
  · rw [xu_off (by decide), xu_off (by decide), xu_at, xu_at, xu_at]; exact LX.first hM hr
  · rw [xu_off (by decide), xu_at, iu_at]
  · have e : i = 0 := by
      have : i < 1 := hi
      omega
    subst e
    rw [Nat.add_zero, xu_at, iu_at]
    exact ⟨rfl, by show M * 6 + r < 360; omega⟩

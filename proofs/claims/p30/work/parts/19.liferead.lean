variable {τ : List xSh}
/-! ===== lives read ===== -/
/-- a step's letter -/
def stp (c : Nat) : Option Nat := if c = 46 then some 6 else if c = 116 then some 7 else hdg c 0 5
theorem stp_lt {c s : Nat} (h : stp c = some s) : s < 8 := by
  unfold stp at h
  split at h
  · cases h; omega
  · split at h
    · cases h; omega
    · have := hdg_some h; omega
/-- a life's letter at its place -/
def lfo (i c : Nat) : Bool := if i = 0 ∨ i = 2 then (hdg c 0 5).isSome else if i = 1 then (hdg c 0 9).isSome else decide (i < 19) && (stp c).isSome
theorem oI_hdg {c lo hi : Nat} (hh : hi ≤ 9) : oI (hdg c lo hi) = -1 ↔ (hdg c lo hi).isSome = false := by
  rw [oI_m1 (fun v hv => by have := hdg_some hv; omega)]
  cases hdg c lo hi <;> simp
theorem oI_stp {c : Nat} : oI (stp c) = -1 ↔ (stp c).isSome = false := by
  rw [oI_m1 (fun v hv => by have := stp_lt hv; omega)]
  cases stp c <;> simp
/-- where a step leads, in whole numbers -/
def nxH (D : Nat → Nat) (low : Nat) (m r s lp : Nat) : Option Nat :=
  if s = 7 then (if r = low ∧ lp ≤ m then some ((m - lp) * 6 + r) else none)
  else if 60 ≤ m + 1 then none
  else if s = 6 then some ((m + 1) * 6 + r)
  else if D (r * 6 + s) = 0 then none else some ((m + 1) * 6 + s)
theorem nx_H {D : Nat → Int32} {low : Int32} {DN : Nat → Nat} {lowN m r s lp : Nat} (hD : ∀ a, a < 36 → D a = nI (DN a)) (hDN : ∀ a, a < 36 → DN a ≤ 10) (hl : low = nI lowN) (hln : lowN < 6) (hr : r < 6) (hs : s < 8) : nx D low m r s lp = nxH DN lowN m r s lp := by
  subst hl
  unfold nx nxH
  by_cases h7 : s = 7
  · rw [if_pos h7, if_pos h7]
    simp only [nI_eq (show r < 2 ^ 31 by omega) (show lowN < 2 ^ 31 by omega)]
  · rw [if_neg h7, if_neg h7]
    by_cases h60 : 60 ≤ m + 1
    · rw [if_pos h60, if_pos h60]
    · rw [if_neg h60, if_neg h60]
      by_cases h6 : s = 6
      · rw [if_pos h6, if_pos h6]
      · rw [if_neg h6, if_neg h6, hD _ (by omega)]
        have := hDN (r * 6 + s) (by omega)
        simp only [show (nI (DN (r * 6 + s)) = 0 ↔ DN (r * 6 + s) = 0) from nI_eq (b := 0) (by omega) (by omega)]
theorem nxH_lt {D : Nat → Nat} {low m r s lp q : Nat} (h : nxH D low m r s lp = some q) (hm : m < 60) (hr : r < 6) (hs : s < 8) : q < 360 := by
  unfold nxH at h
  split at h
  · split at h
    · cases h; omega
    · cases h
  · split at h
    · cases h
    · split at h
      · cases h; omega
      · split at h
        · cases h
        · cases h; omega
/-- a life so far: how many selves, their spots, how often through the low door, the doors as bits -/
abbrev lS : Type := Nat × (Nat → Nat) × Nat × Nat
abbrev lN' (l : lS) : Nat := l.1
abbrev lSp (l : lS) : Nat → Nat := l.2.1
abbrev lTh (l : lS) : Nat := l.2.2.1
abbrev lDb (l : lS) : Nat := l.2.2.2
def lstep (D : Nat → Nat) (low lp : Nat) (l : lS) (s : Nat) : Option lS :=
  (nxH D low (lSp l (lN' l - 1) / 6) (lSp l (lN' l - 1) % 6) s lp).map (fun q => (lN' l + 1, nu (lSp l) (lN' l) q, lTh l + (if s = 7 then 1 else 0), if s < 6 then lDb l ||| 2 ^ (D (lSp l (lN' l - 1) % 6 * 6 + s) - 1) else lDb l))
def lOk (l : lS) : Prop := 1 ≤ lN' l ∧ lN' l ≤ 17 ∧ (∀ i, i < lN' l → lSp l i < 360) ∧ lTh l < lN' l ∧ lDb l < 1024
def lC (S : Nat → Nat → Int32) (k : Nat) (l : lS) : Prop := S k 1 = nI (lN' l) ∧ S k 2 = nI (lTh l) ∧ S k 3 = nI (lDb l) ∧ ∀ i, i < lN' l → S (k + 1) i = nI (lSp l i)
theorem lok_step {D : Nat → Nat} {low lp : Nat} {l l2 : lS} {s : Nat} (ho : lOk l) (hn : lN' l < 17) (hs8 : s < 8) (hD : ∀ a, a < 36 → D a ≤ 10) (hs : lstep D low lp l s = some l2) : lOk l2 ∧ lN' l2 = lN' l + 1 := by
  obtain ⟨o1, o2, o3, o4, o5⟩ := ho
  obtain ⟨q, hq, rfl⟩ := Option.map_eq_some_iff.mp hs
  have h1 := o3 (lN' l - 1) (by omega)
  refine ⟨⟨by show 1 ≤ lN' l + 1; omega, by show lN' l + 1 ≤ 17; omega, fun i hi => ?_, ?_, ?_⟩, rfl⟩
  · show nu (lSp l) (lN' l) q i < 360
    have hi2 : i < lN' l + 1 := hi
    by_cases e : i = lN' l
    · subst e; rw [nu_same]; exact nxH_lt hq (by omega) (by omega) hs8
    · rw [nu_ne e]; exact o3 i (by omega)
  · show lTh l + _ < lN' l + 1
    split <;> omega
  · show (if s < 6 then lDb l ||| 2 ^ (D (lSp l (lN' l - 1) % 6 * 6 + s) - 1) else lDb l) < 1024
    split
    · have := hD (lSp l (lN' l - 1) % 6 * 6 + s) (by omega)
      exact Nat.or_lt_two_pow (n := 10) o5 (Nat.pow_lt_pow_right (by decide) (by omega))
    · exact o5

set_option maxRecDepth 100000 in
set_option maxHeartbeats 400000 in
theorem c_X3_stepOf (d : Nat) (S : Nat → Nat → Int32) (G : Nat → Nat → Int64) (c : Nat) (h126 : c ≤ 126) : xR τ (d + 2) mX3_stepOf [.int (nI c)] S G (some (.int (oI (stp c)))) S G := by
  refine xC.of okX3_stepOf (Nat.le_of_ble_eq_true rfl) (L := [_]) rfl ?_
  refine xA.iload_n (i := 0) rfl rfl rfl rfl ?_
  refine xA.bipush (v := 46) rfl (by decide) rfl ?_
  refine xA.icmp_ne (tgt := 9) rfl rfl rfl (fun h3 => ?_) (fun h3 => ?_)
  · have e3 : ¬ c = 46 := fun z => h3 (by rw [z]; rfl)
    refine xA.iload_n (i := 0) rfl rfl rfl rfl ?_
    refine xA.bipush (v := 116) rfl (by decide) rfl ?_
    refine xA.icmp_ne (tgt := 20) rfl rfl rfl (fun h12 => ?_) (fun h12 => ?_)
    · have e12 : ¬ c = 116 := fun z => h12 (by rw [z]; rfl)
      refine xA.iload_n (i := 0) rfl rfl rfl rfl ?_
      refine xA.callSNi (As := [_]) rfl k3_33 okX9_roomDigitOf rfl rfl (Nat.le_of_ble_eq_true rfl) (c_X9_roomDigitOf d S G _) rfl rfl ?_
      refine xA.topi (xdig_nI 0 5 h126 (by omega) (by omega)) ?_
      exact xA.iret rfl rfl rfl ⟨by first | (simp [stp, e3, e12]; done) | (simp [stp, e3]; rfl) | (simp [stp, e3, e12]; rfl), rfl⟩
    · have e12 : c = 116 := (nI_eq (b := 116) (by omega) (by omega)).mp h12
      refine xA.bipush (v := 7) rfl (by decide) rfl ?_
      refine xA.goto (q := 24) rfl rfl ?_
      exact xA.iret rfl rfl rfl ⟨by first | (simp [stp, e3, e12]; done) | (simp [stp, e3]; rfl) | (simp [stp, e3, e12]; rfl), rfl⟩
  · have e3 : c = 46 := (nI_eq (b := 46) (by omega) (by omega)).mp h3
    refine xA.bipush (v := 6) rfl (by decide) rfl ?_
    exact xA.iret rfl rfl rfl ⟨by first | (simp [stp, e3, e12]; done) | (simp [stp, e3]; rfl) | (simp [stp, e3, e12]; rfl), rfl⟩
set_option maxRecDepth 100000 in
set_option maxHeartbeats 400000 in
theorem c_X3_mayStand (d : Nat) (S : Nat → Nat → Int32) (G : Nat → Nat → Int64) (i c : Nat) (hi : i < 45) (h126 : c ≤ 126) : xR τ (d + 3) mX3_mayStand [.int (nI i), .int (nI c)] S G (some (.int (xb (lfo i c = true)))) S G := by
  refine xC.of okX3_mayStand (Nat.le_of_ble_eq_true rfl) (L := [_, _]) rfl ?_
  refine xA.iload_n (i := 0) rfl rfl rfl rfl ?_
  by_cases h1_0 : i = 0
  · have hs := h1_0; refine xA.topi (congrArg nI hs : _ = nI 0) ?_
    refine xA.tsIn (q := 28) rfl (by decide) (by decide) rfl rfl ?_
    refine xA.iload_n (i := 1) rfl rfl rfl rfl ?_
    refine xA.iconst (v := 0) rfl (by decide) rfl ?_
    refine xA.iconst (v := 5) rfl (by decide) rfl ?_
    refine xA.callSNi (As := [_, _, _]) rfl k3_29 okX9_digitOf rfl rfl (Nat.le_of_ble_eq_true rfl) (c_X9_digitOf (d + 2) S G _ _ _) rfl rfl ?_
    refine xA.topi (xdig_nI 0 5 h126 (by omega) (by omega)) ?_
    refine xA.iconst (v := (-1)) rfl (by decide) rfl ?_
    refine xA.icmp_eq (tgt := 42) rfl rfl rfl (fun h35 => ?_) (fun h35 => ?_)
    · rw [oI_hdg (by omega)] at h35
      refine xA.iconst (v := 0) rfl (by decide) rfl ?_
      exact xA.iret rfl rfl rfl ⟨by first | (rw [xb_t (by simp [lfo, hs, h35])]; done) | (rw [xb_f (by simp [lfo, hs, h35])]; done), rfl⟩
    · rw [oI_hdg (by omega)] at h35
      refine xA.iconst (v := 1) rfl (by decide) rfl ?_
      refine xA.goto (q := 43) rfl rfl ?_
      exact xA.iret rfl rfl rfl ⟨by first | (rw [xb_t (by simp [lfo, hs, h35])]; done) | (rw [xb_f (by simp [lfo, hs, h35])]; done), rfl⟩
  by_cases h1_1 : i = 1
  · have hs := h1_1; refine xA.topi (congrArg nI hs : _ = nI 1) ?_
    refine xA.tsIn (q := 44) rfl (by decide) (by decide) rfl rfl ?_
    refine xA.iload_n (i := 1) rfl rfl rfl rfl ?_
    refine xA.iconst (v := 0) rfl (by decide) rfl ?_
    refine xA.bipush (v := 9) rfl (by decide) rfl ?_
    refine xA.callSNi (As := [_, _, _]) rfl k3_29 okX9_digitOf rfl rfl (Nat.le_of_ble_eq_true rfl) (c_X9_digitOf (d + 2) S G _ _ _) rfl rfl ?_
    refine xA.topi (xdig_nI 0 9 h126 (by omega) (by omega)) ?_
    refine xA.iconst (v := (-1)) rfl (by decide) rfl ?_
    refine xA.icmp_eq (tgt := 59) rfl rfl rfl (fun h52 => ?_) (fun h52 => ?_)
    · rw [oI_hdg (by omega)] at h52
      refine xA.iconst (v := 0) rfl (by decide) rfl ?_
      exact xA.iret rfl rfl rfl ⟨by first | (rw [xb_t (by simp [lfo, hs, h52])]; done) | (rw [xb_f (by simp [lfo, hs, h52])]; done), rfl⟩
    · rw [oI_hdg (by omega)] at h52
      refine xA.iconst (v := 1) rfl (by decide) rfl ?_
      refine xA.goto (q := 60) rfl rfl ?_
      exact xA.iret rfl rfl rfl ⟨by first | (rw [xb_t (by simp [lfo, hs, h52])]; done) | (rw [xb_f (by simp [lfo, hs, h52])]; done), rfl⟩
  by_cases h1_2 : i = 2
  · have hs := h1_2; refine xA.topi (congrArg nI hs : _ = nI 2) ?_
    refine xA.tsIn (q := 61) rfl (by decide) (by decide) rfl rfl ?_
    refine xA.iload_n (i := 1) rfl rfl rfl rfl ?_
    refine xA.callSNi (As := [_]) rfl k3_33 okX9_roomDigitOf rfl rfl (Nat.le_of_ble_eq_true rfl) (c_X9_roomDigitOf (d + 1) S G _) rfl rfl ?_
    refine xA.topi (xdig_nI 0 5 h126 (by omega) (by omega)) ?_
    refine xA.iconst (v := (-1)) rfl (by decide) rfl ?_
    refine xA.icmp_eq (tgt := 73) rfl rfl rfl (fun h66 => ?_) (fun h66 => ?_)
    · rw [oI_hdg (by omega)] at h66
      refine xA.iconst (v := 0) rfl (by decide) rfl ?_
      exact xA.iret rfl rfl rfl ⟨by first | (rw [xb_t (by simp [lfo, hs, h66])]; done) | (rw [xb_f (by simp [lfo, hs, h66])]; done), rfl⟩
    · rw [oI_hdg (by omega)] at h66
      refine xA.iconst (v := 1) rfl (by decide) rfl ?_
      refine xA.goto (q := 74) rfl rfl ?_
      exact xA.iret rfl rfl rfl ⟨by first | (rw [xb_t (by simp [lfo, hs, h66])]; done) | (rw [xb_f (by simp [lfo, hs, h66])]; done), rfl⟩
  refine xA.tsOut (q := 75) rfl (Or.inr (by rw [nI_toInt (by omega)]; omega)) rfl ?_
  refine xA.iload_n (i := 0) rfl rfl rfl rfl ?_
  refine xA.bipush (v := 19) rfl (by decide) rfl ?_
  refine xA.icmp_ge (tgt := 93) rfl rfl rfl (fun h78 => ?_) (fun h78 => ?_)
  · have e78 : ¬ i < 19 := fun z => absurd h78 (nI_ge (b := 19) z (by omega))
    refine xA.iconst (v := 0) rfl (by decide) rfl ?_
    exact xA.iret rfl rfl rfl ⟨by rw [show lfo i c = (decide (i < 19) && (stp c).isSome) from by unfold lfo; rw [if_neg (by omega), if_neg (by omega)]]; first | (rw [h86]; simp [xb]; done) | (simp [xb, e78]; done) | (have h87 : (stp c).isSome = true := (by revert h86; cases (stp c).isSome <;> simp); rw [h87]; simp [xb, e78]), rfl⟩
  · have e78 : i < 19 := by rcases Nat.lt_or_ge i 19 with z | z; exact z; exact absurd (nI_le (a := 19) z (by omega)) h78
    refine xA.iload_n (i := 1) rfl rfl rfl rfl ?_
    refine xA.callSi (As := [_]) rfl k3_36 okX3_stepOf rfl rfl (Nat.le_of_ble_eq_true rfl) (c_X3_stepOf d S G c h126) rfl rfl ?_
    refine xA.iconst (v := (-1)) rfl (by decide) rfl ?_
    refine xA.icmp_eq (tgt := 93) rfl rfl rfl (fun h86 => ?_) (fun h86 => ?_)
    · rw [oI_stp] at h86
      refine xA.iconst (v := 0) rfl (by decide) rfl ?_
      exact xA.iret rfl rfl rfl ⟨by rw [show lfo i c = (decide (i < 19) && (stp c).isSome) from by unfold lfo; rw [if_neg (by omega), if_neg (by omega)]]; first | (rw [h86]; simp [xb]; done) | (simp [xb, e78]; done) | (have h87 : (stp c).isSome = true := (by revert h86; cases (stp c).isSome <;> simp); rw [h87]; simp [xb, e78]), rfl⟩
    · rw [oI_stp] at h86
      refine xA.iconst (v := 1) rfl (by decide) rfl ?_
      refine xA.goto (q := 94) rfl rfl ?_
      exact xA.iret rfl rfl rfl ⟨by rw [show lfo i c = (decide (i < 19) && (stp c).isSome) from by unfold lfo; rw [if_neg (by omega), if_neg (by omega)]]; first | (rw [h86]; simp [xb]; done) | (simp [xb, e78]; done) | (have h87 : (stp c).isSome = true := (by revert h86; cases (stp c).isSome <;> simp); rw [h87]; simp [xb, e78]), rfl⟩
set_option maxRecDepth 100000 in
set_option maxHeartbeats 400000 in
theorem c_X3_faultIn (d : Nat) (S : Nat → Nat → Int32) (G : Nat → Nat → Int64) (pg : Nat → Nat) (n : Nat) (hp : pgC S pg n) : xR τ (d + 4) mX3_faultIn [.ref 1] S G (some (.int (nI (fpl (fun j => lfo j (pg j)) n)))) S G := by
  have hn45 := hp.2.1
  refine xC.of okX3_faultIn (Nat.le_of_ble_eq_true rfl) (L := [_, _]) rfl ?_
  have loop : ∀ i, i ≤ n → pre (fun j => lfo j (pg j)) i = true → xA none (d + 4) mX3_faultIn 0 0 0 0 2 [some (.ref 1), some (.int (nI i))] [] ((σF τ), S, G) (fun r' h' => r' = (some (.int (nI (fpl (fun j => lfo j (pg j)) n)))) ∧ h' = ((σF τ), S, G)) := by
    refine xloop n (fun i hi ih => ?_) ?_
    · skip
      intro hpr
      refine xA.iload_n (i := 1) rfl rfl rfl rfl ?_
      refine xA.aload_n (i := 0) rfl rfl rfl rfl ?_
      refine xA.callVi (As := []) rfl k3_15 okX4_length rfl rfl rfl rfl (Nat.le_of_ble_eq_true rfl) (c_X4_length (d + 3) _ G) rfl rfl ?_
      refine xA.topi hp.1 ?_
      refine xA.icmp_ge (tgt := 30) rfl rfl rfl (fun h7 => ?_) (fun h7 => ?_)
      · exact absurd h7 (nI_ge hi (by omega))
      · refine xA.iload_n (i := 1) rfl rfl rfl rfl ?_
        refine xA.aload_n (i := 0) rfl rfl rfl rfl ?_
        refine xA.iload_n (i := 1) rfl rfl rfl rfl ?_
        refine xA.callVi (As := [_]) rfl k3_21 okX4_at rfl rfl rfl rfl (Nat.le_of_ble_eq_true rfl) (c_X4_at (d + 3) _ G pg n hp i hi) rfl rfl ?_
        refine xA.callSi (As := [_, _]) rfl k3_25 okX3_mayStand rfl rfl (Nat.le_of_ble_eq_true rfl) (c_X3_mayStand d _ G i (pg i) (by omega) (hp.2.2.2 i hi)) rfl rfl ?_
        refine xA.if_ne (tgt := 24) rfl rfl rfl (fun h19 => ?_) (fun h19 => ?_)
        · rw [xb_ne0] at h19
          refine xA.iinc (L' := [_, _]) rfl rfl (nI_1 i) rfl rfl ?_
          refine xA.goto (q := 2) rfl rfl ?_
          exact ih (pre_succ hpr h19)
        · rw [xb_eq0] at h19
          refine xA.iload_n (i := 1) rfl rfl rfl rfl ?_
          exact xA.iret rfl rfl rfl ⟨by rw [fpl_at (f := (fun j => lfo j (pg j))) hi hpr (by simpa using h19)], rfl⟩
    · skip
      intro hpr
      refine xA.iload_n (i := 1) rfl rfl rfl rfl ?_
      refine xA.aload_n (i := 0) rfl rfl rfl rfl ?_
      refine xA.callVi (As := []) rfl k3_15 okX4_length rfl rfl rfl rfl (Nat.le_of_ble_eq_true rfl) (c_X4_length (d + 3) _ G) rfl rfl ?_
      refine xA.topi hp.1 ?_
      refine xA.icmp_ge (tgt := 30) rfl rfl rfl (fun h7 => ?_) (fun h7 => ?_)
      · refine xA.aload_n (i := 0) rfl rfl rfl rfl ?_
        refine xA.callVi (As := []) rfl k3_15 okX4_length rfl rfl rfl rfl (Nat.le_of_ble_eq_true rfl) (c_X4_length (d + 3) _ G) rfl rfl ?_
        refine xA.topi hp.1 ?_
        exact xA.iret rfl rfl rfl ⟨by rw [fpl_all hpr], rfl⟩
      · exact absurd (nI_le (Nat.le_refl _) (by omega)) h7
  refine xA.iconst (v := 0) rfl (by decide) rfl ?_
  refine xA.istore_n (i := 1) (L' := [_, _]) rfl rfl (Nat.le_of_ble_eq_true rfl) rfl rfl ?_
  exact loop 0 (Nat.zero_le _) rfl
/-- what a house that stands is -/
def hSd (S : Nat → Nat → Int32) (h : hS) : Prop := hC S 3 h ∧ hOk h ∧ 5 ≤ hSt h
theorem hSd.D {S : Nat → Nat → Int32} {h : hS} (hh : hSd S h) : ∀ a, a < 36 → hD h a ≤ 10 := by
  intro a ha
  have h1 := (hh.2.1.2.2.2.2.2.2.2.2.2.2.1 (a / 6) (a % 6) (by omega) (by omega)).2
  rw [show a / 6 * 6 + a % 6 = a by omega] at h1
  have := hh.2.1.2.1
  omega
theorem hSd.to {S S' : Nat → Nat → Int32} {h : hS} (hh : hSd S h) (h3 : S' 3 = S 3) (h4 : S' 4 = S 4) (h5 : S' 5 = S 5) : hSd S' h := by
  obtain ⟨⟨c1, c2, c3, c4, c5, c6, c7, c8⟩, h2⟩ := hh
  refine ⟨⟨by rw [h3]; exact c1, by rw [h3]; exact c2, by rw [h3]; exact c3, fun z => by rw [h3]; exact c4 z, fun z => by rw [h3]; exact c5 z, fun z => by rw [h3]; exact c6 z, fun a ha => ?_, fun a ha => ?_⟩, h2⟩
  · show S' 4 a = _
    rw [h4]; exact c7 a ha
  · show S' 5 a = _
    rw [h5]; exact c8 a ha
theorem hSd.nx {S : Nat → Nat → Int32} {h : hS} (hh : hSd S h) (m r s lp : Nat) (hr : r < 6) (hs : s < 8) : nx (S 4) (S 3 4) m r s lp = nxH (hD h) (hLo h) m r s lp :=
  nx_H hh.1.2.2.2.2.2.2.1 hh.D (hh.1.2.2.2.1 (by have := hh.2.2; omega)) (hh.2.1.2.2.2.2.2.1 (by have := hh.2.2; omega)) hr hs

theorem lC_mk {S : Nat → Nat → Int32} {l : lS} {q th db : Nat} (hl : lC S 9 l) (T : Nat → Nat → Int32) (h1 : T 9 1 = nI (lN' l + 1)) (h2 : T 9 2 = nI th) (h3 : T 9 3 = nI db) (h4 : T 10 = fun i => if i = lN' l then nI q else S 10 i) : lC T 9 (lN' l + 1, nu (lSp l) (lN' l) q, th, db) := by
  refine ⟨h1, h2, h3, fun i hi => ?_⟩
  show T 10 i = nI (nu (lSp l) (lN' l) q i)
  rw [h4]
  by_cases e : i = lN' l
  · simp [e, nu]
  · simp only [e, if_false, nu]
    exact hl.2.2.2 i (by have : i < lN' l + 1 := hi; omega)

set_option maxRecDepth 100000 in
set_option maxHeartbeats 1000000 in
theorem c_X3_takes (d : Nat) (S : Nat → Nat → Int32) (G : Nat → Nat → Int64) (h : hS) (hh : hSd S h) (l : lS) (hlo : lOk l) (hl : lC S 9 l) (hn16 : lN' l < 17) (s lp : Nat) (hs : s < 8) (hlp : lp ≤ 10) : xC (d + 3) mX3_takes [.ref 9, .int (nI s), .ref 3, .int (nI lp)] ((σF τ), S, G) 0 0 (fun r h' => ∃ S', h' = ((σF τ), S', G) ∧ frW 9 2 S S' ∧ ((lstep (hD h) (hLo h) lp l s = none ∧ r = some (.int 0)) ∨ ∃ l2, lstep (hD h) (hLo h) lp l s = some l2 ∧ r = some (.int 1) ∧ lC S' 9 l2)) := by
  have hn1 : lN' l - 1 + 1 = lN' l := by have := hlo.1; omega
  have hsl := hlo.2.2.1 (lN' l - 1) (by have := hlo.1; omega)
  have hl1 := hlo.1
  have hsp : lSp l (lN' l - 1) = lSp l (lN' l - 1) / 6 * 6 + lSp l (lN' l - 1) % 6 := by omega
  refine xC.of okX3_takes (Nat.le_of_ble_eq_true rfl) (L := [_, _, _, _, _, _]) rfl ?_
  refine xA.aload_n (i := 0) rfl rfl rfl rfl ?_
  refine xA.callVi (As := []) rfl k3_58 okX3_lastSpot rfl rfl rfl rfl (Nat.le_of_ble_eq_true rfl) (c_X3_lastSpot (d + 1) _ G 9 ⟨rfl, rfl⟩ (lN' l - 1) (by rw [hn1]; exact hl.1) (by omega)) rfl rfl ?_
  refine xA.topi (hl.2.2.2 _ (by omega)) ?_
  refine xA.topi (congrArg nI hsp : _ = nI (lSp l (lN' l - 1) / 6 * 6 + lSp l (lN' l - 1) % 6)) ?_
  refine xA.istore (L' := [_, _, _, _, _, _]) rfl (Nat.le_of_ble_eq_true rfl) rfl rfl ?_
  refine xA.aload_n (i := 2) rfl rfl rfl rfl ?_
  refine xA.iload rfl rfl rfl ?_
  refine xA.iload_n (i := 1) rfl rfl rfl rfl ?_
  refine xA.iload_n (i := 3) rfl rfl rfl rfl ?_
  refine xA.callVi (As := [_, _, _]) rfl k3_61 okX1_spotAfter rfl rfl rfl rfl (Nat.le_of_ble_eq_true rfl) (c_X1_spotAfter d _ G 3 ⟨rfl, rfl, rfl⟩ (lSp l (lN' l - 1) / 6) (lSp l (lN' l - 1) % 6) s lp (by omega) (by omega) hs hlp) rfl rfl ?_
  refine xA.topi (congrArg oI (hh.nx _ _ _ _ (by omega) hs)) ?_
  refine xA.istore (L' := [_, _, _, _, _, _]) rfl (Nat.le_of_ble_eq_true rfl) rfl rfl ?_
  rcases hnx : nxH (hD h) (hLo h) (lSp l (lN' l - 1) / 6) (lSp l (lN' l - 1) % 6) s lp with _ | q
  · skip
    refine xA.iload rfl rfl rfl ?_
    refine xA.iconst (v := (-1)) rfl (by decide) rfl ?_
    refine xA.icmp_ne (tgt := 24) rfl rfl rfl (fun h19 => ?_) (fun h19 => ?_)
    · exact absurd rfl h19
    · refine xA.iconst (v := 0) rfl (by decide) rfl ?_
      exact xA.iret rfl rfl rfl ⟨_, rfl, fr_rf, Or.inl ⟨by rw [lstep, hnx]; rfl, rfl⟩⟩
  · have hq := nxH_lt hnx (by omega) (by omega) hs
    refine xA.iload rfl rfl rfl ?_
    refine xA.iconst (v := (-1)) rfl (by decide) rfl ?_
    refine xA.icmp_ne (tgt := 24) rfl rfl rfl (fun h19 => ?_) (fun h19 => ?_)
    · refine xA.iload_n (i := 1) rfl rfl rfl rfl ?_
      refine xA.bipush (v := 7) rfl (by decide) rfl ?_
      refine xA.icmp_ne (tgt := 43) rfl rfl rfl (fun h27 => ?_) (fun h27 => ?_)
      · have e27 : ¬ s = 7 := fun z => h27 (by rw [z]; rfl)
        refine xA.iload_n (i := 1) rfl rfl rfl rfl ?_
        refine xA.bipush (v := 6) rfl (by decide) rfl ?_
        refine xA.icmp_eq (tgt := 70) rfl rfl rfl (fun h46 => ?_) (fun h46 => ?_)
        · have e46 : s = 6 := (nI_eq (b := 6) (by omega) (by omega)).mp h46
          refine xA.aload_n (i := 0) rfl rfl rfl rfl ?_
          refine xA.iload rfl rfl rfl ?_
          refine xA.callVv (As := [_]) rfl k3_50 okX3_add rfl rfl rfl rfl (Nat.le_of_ble_eq_true rfl) (c_X3_add (d + 2) _ G 9 ⟨rfl, rfl⟩ (lN' l) (by first | exact hl.1 | exact (xu_ne2 (by omega)).trans hl.1) (by omega) _) rfl rfl ?_
          refine xA.iconst (v := 1) rfl (by decide) rfl ?_
          exact xA.iret rfl rfl rfl ⟨_, rfl, by first | exact xu_fr (xu_fr (xu_fr fr_rf (by omega)) (by omega)) (by omega) | exact xu_fr (xu_fr fr_rf (by omega)) (by omega), Or.inr ⟨_, by rw [lstep, hnx]; rfl, rfl, lC_mk hl _ (by simp [xu]) (by first | (simp [xu, hl.2.1, e27]; done) | (simp [xu, e27]; done)) (by first | (simp [xu, hl.2.2.1, e46]; done) | (simp [xu, e6]; done)) (by funext i; simp [xu, oI])⟩⟩
        · have e46 : ¬ s = 6 := fun z => h46 (by rw [z]; rfl)
          have e6 : s < 6 := by omega
          have hd0 : ¬ hD h (lSp l (lN' l - 1) % 6 * 6 + s) = 0 := by
            intro z
            simp [nxH, e27, e46, z] at hnx
          have hdl := hh.D (lSp l (lN' l - 1) % 6 * 6 + s) (by omega)
          refine xA.aload_n (i := 0) rfl rfl rfl rfl ?_
          refine xA.dup rfl rfl rfl ?_
          refine xA.getI rfl f3_70 rfl rfl rfl ?_
          refine xA.topi (hl.2.2.1) ?_
          refine xA.iconst (v := 1) rfl (by decide) rfl ?_
          refine xA.aload_n (i := 2) rfl rfl rfl rfl ?_
          refine xA.iload rfl rfl rfl ?_
          refine xA.callSNi (As := [_]) rfl k3_73 okX9_roomOf rfl rfl (Nat.le_of_ble_eq_true rfl) (c_X9_roomOf (d + 2) _ G _) rfl rfl ?_
          refine xA.topi (xroom_nI (by omega) (by omega)) ?_
          refine xA.iload_n (i := 1) rfl rfl rfl rfl ?_
          refine xA.callVi (As := [_, _]) rfl k3_76 okX1_doorBetween rfl rfl rfl rfl (Nat.le_of_ble_eq_true rfl) (c_X1_doorBetween (d + 1) _ G 3 ⟨rfl, rfl, rfl⟩ (lSp l (lN' l - 1) % 6) s (by omega) (by omega)) rfl rfl ?_
          refine xA.topi (show _ = nI (hD h (lSp l (lN' l - 1) % 6 * 6 + s) - 1) from by show S 4 _ - 1 = _; rw [hh.1.2.2.2.2.2.2.1 _ (by omega)]; exact nI_sub (b := 1) (by omega)) ?_
          refine xA.ishl rfl rfl ?_
          refine xA.topi (nI_shl _ (by omega)) ?_
          refine xA.ior rfl rfl ?_
          refine xA.topi (nI_or _ _) ?_
          refine xA.putI rfl p3_70 rfl rfl rfl ?_
          refine xA.aload_n (i := 0) rfl rfl rfl rfl ?_
          refine xA.iload rfl rfl rfl ?_
          refine xA.callVv (As := [_]) rfl k3_50 okX3_add rfl rfl rfl rfl (Nat.le_of_ble_eq_true rfl) (c_X3_add (d + 2) _ G 9 ⟨rfl, rfl⟩ (lN' l) (by first | exact hl.1 | exact (xu_ne2 (by omega)).trans hl.1) (by omega) _) rfl rfl ?_
          refine xA.iconst (v := 1) rfl (by decide) rfl ?_
          exact xA.iret rfl rfl rfl ⟨_, rfl, by first | exact xu_fr (xu_fr (xu_fr fr_rf (by omega)) (by omega)) (by omega) | exact xu_fr (xu_fr fr_rf (by omega)) (by omega), Or.inr ⟨_, by rw [lstep, hnx]; rfl, rfl, lC_mk hl _ (by simp [xu]) (by first | (simp [xu, hl.2.1, e27]; done) | (simp [xu, e27]; done)) (by first | (simp [xu, hl.2.2.1, e46]; done) | (simp [xu, e6]; done)) (by funext i; simp [xu, oI])⟩⟩
      · have e27 : s = 7 := (nI_eq (b := 7) (by omega) (by omega)).mp h27
        have e46 : ¬ s < 6 := by omega
        refine xA.aload_n (i := 0) rfl rfl rfl rfl ?_
        refine xA.dup rfl rfl rfl ?_
        refine xA.getI rfl f3_66 rfl rfl rfl ?_
        refine xA.topi (hl.2.1) ?_
        refine xA.iconst (v := 1) rfl (by decide) rfl ?_
        refine xA.iadd rfl rfl ?_
        refine xA.topi (nI_1 _) ?_
        refine xA.putI rfl p3_66 rfl rfl rfl ?_
        refine xA.goto (q := 70) rfl rfl ?_
        refine xA.aload_n (i := 0) rfl rfl rfl rfl ?_
        refine xA.iload rfl rfl rfl ?_
        refine xA.callVv (As := [_]) rfl k3_50 okX3_add rfl rfl rfl rfl (Nat.le_of_ble_eq_true rfl) (c_X3_add (d + 2) _ G 9 ⟨rfl, rfl⟩ (lN' l) (by first | exact hl.1 | exact (xu_ne2 (by omega)).trans hl.1) (by omega) _) rfl rfl ?_
        refine xA.iconst (v := 1) rfl (by decide) rfl ?_
        exact xA.iret rfl rfl rfl ⟨_, rfl, by first | exact xu_fr (xu_fr (xu_fr fr_rf (by omega)) (by omega)) (by omega) | exact xu_fr (xu_fr fr_rf (by omega)) (by omega), Or.inr ⟨_, by rw [lstep, hnx]; rfl, rfl, lC_mk hl _ (by simp [xu]) (by first | (simp [xu, hl.2.1, e27]; done) | (simp [xu, e27]; done)) (by first | (simp [xu, hl.2.2.1, e46]; done) | (simp [xu, e6]; done)) (by funext i; simp [xu, oI])⟩⟩
    · exact absurd h19 (nI_m1 (by omega))
/-- a life's text: its begin, its steps -/
def l0 (pg : Nat → Nat) : lS := (1, fun _ => (10 * (pg 0 - 48) + (pg 1 - 48)) * 6 + (pg 2 - 48), 0, 0)
def lrun (D : Nat → Nat) (low lp : Nat) (pg : Nat → Nat) : Nat → Option lS
  | 0 => some (l0 pg)
  | i + 1 => (lrun D low lp pg i).bind (fun l => lstep D low lp l ((stp (pg (3 + i))).getD 0))
def lread (D : Nat → Nat) (low lp : Nat) (pg : Nat → Nat) (n : Nat) : Option lS := if n < 3 ∨ fpl (fun j => lfo j (pg j)) n < n then none else lrun D low lp pg (n - 3)
theorem pre_get {f : Nat → Bool} : ∀ {n : Nat}, pre f n = true → ∀ i, i < n → f i = true := by
  intro n
  induction n with
  | zero => intro _ i hi; omega
  | succ n ih =>
    intro h i hi
    simp only [pre, Bool.and_eq_true] at h
    by_cases e : i = n
    · subst e; exact h.2
    · exact ih h.1 i (by omega)
theorem hdg_get {c lo hi : Nat} (h : (hdg c lo hi).isSome = true) : hdg c lo hi = some (c - 48) ∧ 48 + lo ≤ c ∧ c ≤ 48 + hi := by
  unfold hdg at h ⊢
  split at h
  · rename_i e; rw [if_pos e]; exact ⟨rfl, e⟩
  · cases h
theorem lrun_dead {D : Nat → Nat} {low lp : Nat} {pg : Nat → Nat} {i n : Nat} (h : lrun D low lp pg (i + 1) = none) (hi : i < n) : lrun D low lp pg n = none := by
  have key : ∀ t, lrun D low lp pg (i + 1 + t) = none := by
    intro t
    induction t with
    | zero => exact h
    | succ t ih => show (lrun D low lp pg (i + 1 + t)).bind _ = none; rw [ih]; rfl
  have e : n = i + 1 + (n - (i + 1)) := by omega
  rw [e]; exact key _
theorem lrun_ok {D : Nat → Nat} {low lp : Nat} {pg : Nat → Nat} (h0 : lOk (l0 pg)) (hD : ∀ a, a < 36 → D a ≤ 10) {n : Nat} (hn : n ≤ 16) (hst : ∀ i, i < n → (stp (pg (3 + i))).isSome = true) : ∀ i, i ≤ n → ∀ l, lrun D low lp pg i = some l → lOk l ∧ lN' l = i + 1 := by
  intro i
  induction i with
  | zero => intro _ l hl; cases hl; exact ⟨h0, rfl⟩
  | succ i ih =>
    intro hi l hl
    obtain ⟨l1, e1, e2⟩ := Option.bind_eq_some_iff.mp hl
    obtain ⟨o1, o2⟩ := ih (by omega) l1 e1
    obtain ⟨s, es⟩ := Option.isSome_iff_exists.mp (hst i (by omega))
    rw [es] at e2
    have := lok_step o1 (by omega) (stp_lt es) hD e2
    exact ⟨this.1, by omega⟩

set_option maxRecDepth 100000 in
set_option maxHeartbeats 1000000 in
theorem c_X3_read (d : Nat) (S : Nat → Nat → Int32) (G : Nat → Nat → Int64) (h : hS) (hh : hSd S h) (pg : Nat → Nat) (n : Nat) (hp : pgC S pg n) (lp : Nat) (hlp : lp ≤ 10) : xC (d + 5) mX3_read [.ref 9, .ref 1, .ref 3, .int (nI lp)] ((σF τ), S, G) 0 0 (fun r h' => ∃ S', h' = ((σF τ), S', G) ∧ frW 9 2 S S' ∧ r = some (.int (xb ((lread (hD h) (hLo h) lp pg n).isSome = true))) ∧ ∀ l, lread (hD h) (hLo h) lp pg n = some l → lC S' 9 l ∧ lOk l) := by
  have hn45 := hp.2.1
  refine xC.of okX3_read (Nat.le_of_ble_eq_true rfl) (L := [_, _, _, _, _, _]) rfl ?_
  refine xA.aload_n (i := 0) rfl rfl rfl rfl ?_
  refine xA.callVv (As := []) rfl k3_39 okX3_clear rfl rfl rfl rfl (Nat.le_of_ble_eq_true rfl) (c_X3_clear (d + 4) _ G 9 ⟨rfl, rfl⟩) rfl rfl ?_
  have hfc : frW 9 2 S (xu (xu (xu S 9 1 0) 9 2 0) 9 3 0) := xu_fr (xu_fr (xu_fr fr_rf (by omega)) (by omega)) (by omega)
  have hp2 : pgC (xu (xu (xu S 9 1 0) 9 2 0) 9 3 0) pg n := hp.to (hfc 1 (by omega)) (hfc 2 (by omega))
  refine xA.aload_n (i := 1) rfl rfl rfl rfl ?_
  refine xA.callVi (As := []) rfl k3_15 okX4_length rfl rfl rfl rfl (Nat.le_of_ble_eq_true rfl) (c_X4_length (d + 4) _ G) rfl rfl ?_
  refine xA.topi hp2.1 ?_
  refine xA.iconst (v := 3) rfl (by decide) rfl ?_
  refine xA.icmp_lt (tgt := 23) rfl rfl rfl (fun h9 => ?_) (fun h9 => ?_)
  · have e9 := (nI_ltI (b := 3) (by omega) (by omega)).mp h9
    refine xA.iconst (v := 0) rfl (by decide) rfl ?_
    exact xA.iret rfl rfl rfl ⟨_, rfl, hfc, by rw [lread, if_pos (by omega)]; rfl, fun z hz => by rw [lread, if_pos (by omega)] at hz; cases hz⟩
  · have e9 : ¬ n < 3 := mt (nI_ltI (b := 3) (by omega) (by omega)).mpr h9
    refine xA.aload_n (i := 1) rfl rfl rfl rfl ?_
    refine xA.callSi (As := [_]) rfl k3_42 okX3_faultIn rfl rfl (Nat.le_of_ble_eq_true rfl) (c_X3_faultIn d _ G pg n hp2) rfl rfl ?_
    refine xA.aload_n (i := 1) rfl rfl rfl rfl ?_
    refine xA.callVi (As := []) rfl k3_15 okX4_length rfl rfl rfl rfl (Nat.le_of_ble_eq_true rfl) (c_X4_length (d + 4) _ G) rfl rfl ?_
    refine xA.topi hp2.1 ?_
    refine xA.icmp_ge (tgt := 25) rfl rfl rfl (fun h20 => ?_) (fun h20 => ?_)
    · have e20 : ¬ fpl (fun j => lfo j (pg j)) n < n := by have := (nI_leI (by omega) (by have := fpl_le (fun j => lfo j (pg j)) n; omega)).mp h20; omega
      have hpre : pre (fun j => lfo j (pg j)) n = true := by
        by_cases z : pre (fun j => lfo j (pg j)) n = true
        · exact z
        · exact absurd (fpl_lt.mpr (by simpa using z)) e20
      have g0 : hdg (pg 0) 0 5 = some (pg 0 - 48) ∧ _ := hdg_get (by have := pre_get hpre 0 (by omega); simpa [lfo] using this)
      have g1 : hdg (pg 1) 0 9 = some (pg 1 - 48) ∧ _ := hdg_get (by have := pre_get hpre 1 (by omega); simpa [lfo] using this)
      have g2 : hdg (pg 2) 0 5 = some (pg 2 - 48) ∧ _ := hdg_get (by have := pre_get hpre 2 (by omega); simpa [lfo] using this)
      have g09 : hdg (pg 0) 0 9 = some (pg 0 - 48) := by unfold hdg; rw [if_pos (by omega)]
      have hst : ∀ i, i < n - 3 → (stp (pg (3 + i))).isSome = true := by
        intro i hi
        have := pre_get hpre (3 + i) (by omega)
        simp only [lfo] at this
        rw [if_neg (by omega), if_neg (by omega)] at this
        simp only [Bool.and_eq_true] at this
        exact this.2
      have hn16 : n - 3 ≤ 16 := by
        rcases Nat.lt_or_ge 19 n with z | z
        · have := pre_get hpre 19 (by omega)
          simp [lfo] at this
        · omega
      have h0k : lOk (l0 pg) := ⟨by show 1 ≤ 1; omega, by show 1 ≤ 17; omega, fun i _ => by show (10 * (pg 0 - 48) + (pg 1 - 48)) * 6 + (pg 2 - 48) < 360; omega, by show 0 < 1; omega, by show 0 < 1024; omega⟩
      have hlr : lread (hD h) (hLo h) lp pg n = lrun (hD h) (hLo h) lp pg (n - 3) := by rw [lread, if_neg (by omega)]
      have loop : ∀ i, i ≤ n - 3 → ∀ (S1 : Nat → Nat → Int32) (l : lS), frW 9 2 S S1 → lrun (hD h) (hLo h) lp pg i = some l → lC S1 9 l → ∀ x4 : Int32, xA none (d + 5) mX3_read 0 0 0 0 73 [some (.ref 9), some (.ref 1), some (.ref 3), some (.int (nI lp)), some (.int x4), some (.int (nI (3 + i)))] [] ((σF τ), S1, G) (fun r h' => ∃ S', h' = ((σF τ), S', G) ∧ frW 9 2 S S' ∧ r = some (.int (xb ((lread (hD h) (hLo h) lp pg n).isSome = true))) ∧ ∀ l, lread (hD h) (hLo h) lp pg n = some l → lC S' 9 l ∧ lOk l) := by
        refine xloop (n - 3) (fun i hi ih => ?_) ?_
        · intro S1 l hf hr hc x4
          have hp2 : pgC S1 pg n := hp.to (hf 1 (by omega)) (hf 2 (by omega))
          have hh2 : hSd S1 h := hh.to (hf 3 (by omega)) (hf 4 (by omega)) (hf 5 (by omega))
          refine xA.iload rfl rfl rfl ?_
          refine xA.aload_n (i := 1) rfl rfl rfl rfl ?_
          refine xA.callVi (As := []) rfl k3_15 okX4_length rfl rfl rfl rfl (Nat.le_of_ble_eq_true rfl) (c_X4_length (d + 4) _ G) rfl rfl ?_
          refine xA.topi hp2.1 ?_
          refine xA.icmp_ge (tgt := 108) rfl rfl rfl (fun h79 => ?_) (fun h79 => ?_)
          · exact absurd h79 (nI_ge (by omega) (by omega))
          · refine xA.aload_n (i := 0) rfl rfl rfl rfl ?_
            refine xA.aload_n (i := 1) rfl rfl rfl rfl ?_
            refine xA.iload rfl rfl rfl ?_
            refine xA.callVi (As := [_]) rfl k3_21 okX4_at rfl rfl rfl rfl (Nat.le_of_ble_eq_true rfl) (c_X4_at (d + 4) _ G pg n hp2 (3 + i) (by omega)) rfl rfl ?_
            refine xA.callSi (As := [_]) rfl k3_36 okX3_stepOf rfl rfl (Nat.le_of_ble_eq_true rfl) (c_X3_stepOf (d + 2) _ G (pg (3 + i)) (hp.2.2.2 _ (by omega))) rfl rfl ?_
            obtain ⟨s, es⟩ := Option.isSome_iff_exists.mp (hst i hi)
            have hs8 := stp_lt es
            rw [es]
            refine xA.topi (show oI (some s) = nI s from rfl) ?_
            refine xA.aload_n (i := 2) rfl rfl rfl rfl ?_
            refine xA.iload_n (i := 3) rfl rfl rfl rfl ?_
            refine xA.callV (As := [_, _, _]) (h := ((σF τ), _, _)) rfl k3_54 okX3_takes rfl rfl rfl rfl (Nat.le_of_ble_eq_true rfl) (c_X3_takes (d + 1) _ G h hh2 l (lrun_ok h0k hh.D hn16 hst i (by omega) l hr).1 hc (by have := (lrun_ok h0k hh.D hn16 hst i (by omega) l hr).2; omega) s lp hs8 hlp) (Nat.le_refl _) (Nat.le_refl _) rfl rfl ?_
            rintro r9 h9 ⟨S2, rfl, hf2, ⟨hno, rfl⟩ | ⟨l2, hsm, rfl, hc2⟩⟩
            · have hd : lrun (hD h) (hLo h) lp pg (i + 1) = none := by rw [lrun, hr]; show lstep _ _ _ l ((stp (pg (3 + i))).getD 0) = none; rw [es]; exact hno
              have hdn := lrun_dead hd hi
              refine xA.if_ne (tgt := 102) rfl rfl rfl (fun h97 => ?_) (fun h97 => ?_)
              · exact absurd rfl h97
              · refine xA.iconst (v := 0) rfl (by decide) rfl ?_
                exact xA.iret rfl rfl rfl ⟨S2, rfl, hf.trans hf2, by rw [hlr, hdn]; rfl, fun z hz => by rw [hlr, hdn] at hz; cases hz⟩
            · have hd : lrun (hD h) (hLo h) lp pg (i + 1) = some l2 := by rw [lrun, hr]; show lstep _ _ _ l ((stp (pg (3 + i))).getD 0) = some l2; rw [es]; exact hsm
              refine xA.if_ne (tgt := 102) rfl rfl rfl (fun h97 => ?_) (fun h97 => ?_)
              · refine xA.iinc (L' := [_, _, _, _, _, _]) rfl rfl ((nI_1 (3 + i) : nI (3 + i) + 1 = nI (3 + (i + 1)))) rfl rfl ?_
                refine xA.goto (q := 73) rfl rfl ?_
                exact ih S2 l2 (hf.trans hf2) hd hc2 _
              · exact absurd h97 (by decide)
        · intro S1 l hf hr hc x4
          have hp2 : pgC S1 pg n := hp.to (hf 1 (by omega)) (hf 2 (by omega))
          have hh2 : hSd S1 h := hh.to (hf 3 (by omega)) (hf 4 (by omega)) (hf 5 (by omega))
          refine xA.iload rfl rfl rfl ?_
          refine xA.aload_n (i := 1) rfl rfl rfl rfl ?_
          refine xA.callVi (As := []) rfl k3_15 okX4_length rfl rfl rfl rfl (Nat.le_of_ble_eq_true rfl) (c_X4_length (d + 4) _ G) rfl rfl ?_
          refine xA.topi hp2.1 ?_
          refine xA.icmp_ge (tgt := 108) rfl rfl rfl (fun h79 => ?_) (fun h79 => ?_)
          · refine xA.iconst (v := 1) rfl (by decide) rfl ?_
            exact xA.iret rfl rfl rfl ⟨S1, rfl, hf, by rw [hlr, hr]; rfl, fun z hz => by rw [hlr, hr] at hz; cases hz; exact ⟨hc, (lrun_ok h0k hh.D hn16 hst _ (Nat.le_refl _) _ hr).1⟩⟩
          · exact absurd (nI_le (by omega) (by omega)) h79
      refine xA.bipush (v := 10) rfl (by decide) rfl ?_
      refine xA.aload_n (i := 1) rfl rfl rfl rfl ?_
      refine xA.iconst (v := 0) rfl (by decide) rfl ?_
      refine xA.callVi (As := [_]) rfl k3_21 okX4_at rfl rfl rfl rfl (Nat.le_of_ble_eq_true rfl) (c_X4_at (d + 4) _ G pg n hp2 0 (by omega)) rfl rfl ?_
      refine xA.iconst (v := 0) rfl (by decide) rfl ?_
      refine xA.bipush (v := 9) rfl (by decide) rfl ?_
      refine xA.callSNi (As := [_, _, _]) rfl k3_29 okX9_digitOf rfl rfl (Nat.le_of_ble_eq_true rfl) (c_X9_digitOf (d + 4) _ G _ _ _) rfl rfl ?_
      refine xA.topi ((xdig_nI 0 9 (hp.2.2.2 0 (by omega)) (by omega) (by omega)).trans (show oI (hdg (pg 0) 0 9) = nI (pg 0 - 48) from by rw [g09]; rfl)) ?_
      refine xA.imul rfl rfl ?_
      refine xA.topi (nI_mul 10 _) ?_
      refine xA.aload_n (i := 1) rfl rfl rfl rfl ?_
      refine xA.iconst (v := 1) rfl (by decide) rfl ?_
      refine xA.callVi (As := [_]) rfl k3_21 okX4_at rfl rfl rfl rfl (Nat.le_of_ble_eq_true rfl) (c_X4_at (d + 4) _ G pg n hp2 1 (by omega)) rfl rfl ?_
      refine xA.iconst (v := 0) rfl (by decide) rfl ?_
      refine xA.bipush (v := 9) rfl (by decide) rfl ?_
      refine xA.callSNi (As := [_, _, _]) rfl k3_29 okX9_digitOf rfl rfl (Nat.le_of_ble_eq_true rfl) (c_X9_digitOf (d + 4) _ G _ _ _) rfl rfl ?_
      refine xA.topi ((xdig_nI 0 9 (hp.2.2.2 1 (by omega)) (by omega) (by omega)).trans (show oI (hdg (pg 1) 0 9) = nI (pg 1 - 48) from by rw [g1.1]; rfl)) ?_
      refine xA.iadd rfl rfl ?_
      refine xA.topi (nI_add _ _) ?_
      refine xA.istore (L' := [_, _, _, _, _, _]) rfl (Nat.le_of_ble_eq_true rfl) rfl rfl ?_
      refine xA.aload_n (i := 0) rfl rfl rfl rfl ?_
      refine xA.iload rfl rfl rfl ?_
      refine xA.aload_n (i := 1) rfl rfl rfl rfl ?_
      refine xA.iconst (v := 2) rfl (by decide) rfl ?_
      refine xA.callVi (As := [_]) rfl k3_21 okX4_at rfl rfl rfl rfl (Nat.le_of_ble_eq_true rfl) (c_X4_at (d + 4) _ G pg n hp2 2 (by omega)) rfl rfl ?_
      refine xA.callSNi (As := [_]) rfl k3_33 okX9_roomDigitOf rfl rfl (Nat.le_of_ble_eq_true rfl) (c_X9_roomDigitOf (d + 3) _ G _) rfl rfl ?_
      refine xA.topi ((xdig_nI 0 5 (hp.2.2.2 2 (by omega)) (by omega) (by omega)).trans (show oI (hdg (pg 2) 0 5) = nI (pg 2 - 48) from by rw [g2.1]; rfl)) ?_
      refine xA.callSNi (As := [_, _]) rfl k3_46 okX9_spotOf rfl rfl (Nat.le_of_ble_eq_true rfl) (c_X9_spotOf (d + 4) _ G _ _) rfl rfl ?_
      refine xA.topi (nI_spot _ _) ?_
      refine xA.callVv (As := [_]) rfl k3_50 okX3_add rfl rfl rfl rfl (Nat.le_of_ble_eq_true rfl) (c_X3_add (d + 4) _ G 9 ⟨rfl, rfl⟩ 0 (by simp [xu, nI]) (by omega) _) rfl rfl ?_
      refine xA.iconst (v := 3) rfl (by decide) rfl ?_
      refine xA.istore (L' := [_, _, _, _, _, _]) rfl (Nat.le_of_ble_eq_true rfl) rfl rfl ?_
      exact loop 0 (Nat.zero_le _) _ (l0 pg) (xu_fr (xu_fr hfc (by omega)) (by omega)) rfl ⟨by simp [xu]; rfl, by simp [xu]; rfl, by simp [xu]; rfl, fun i hi => by have : i = 0 := (by have : i < 1 := hi; omega); subst this; simp [xu]; rfl⟩ _
    · have e20 : fpl (fun j => lfo j (pg j)) n < n := by rcases Nat.lt_or_ge (fpl (fun j => lfo j (pg j)) n) n with z | z; exact z; exact absurd (nI_le z (by have := fpl_le (fun j => lfo j (pg j)) n; omega)) h20
      refine xA.iconst (v := 0) rfl (by decide) rfl ?_
      exact xA.iret rfl rfl rfl ⟨_, rfl, hfc, by rw [lread, if_pos (by omega)]; rfl, fun z hz => by rw [lread, if_pos (by omega)] at hz; cases hz⟩

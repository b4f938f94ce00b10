/-! ===== lives by a seed, and the law's own asks: pure ===== -/
theorem and31 (w : Int32) : ∃ sd, sd < 2 ^ 31 ∧ w &&& 2147483647 = nI sd := by
  refine ⟨w.toUInt32.toNat % 2 ^ 31, Nat.mod_lt _ (by decide), ?_⟩
  apply Int32.toBitVec_inj.mp
  apply BitVec.eq_of_toNat_eq
  rw [Int32.toBitVec_and, BitVec.toNat_and]
  have h1 : w.toBitVec.toNat = w.toUInt32.toNat := rfl
  have h2 : ((2147483647 : Int32)).toBitVec.toNat = 2 ^ 31 - 1 := by decide
  rw [h1, h2, Nat.and_two_pow_sub_one_eq_mod]
  show _ = (BitVec.ofNat 32 (w.toUInt32.toNat % 2 ^ 31)).toNat
  rw [BitVec.toNat_ofNat]
  omega
def sdV (X : Nat) : Nat := (X * 1103515245 + 12345) % 2147483648
theorem sdV_lt (X : Nat) : sdV X < 2 ^ 31 := Nat.mod_lt _ (by decide)
theorem sd_long {X : Nat} (hX : X < 2 ^ 31) : lN X * 1103515245 + 12345 - (lN X * 1103515245 + 12345) / 2147483648 * 2147483648 = lN (sdV X) := by
  rw [show (1103515245 : Int64) = lN 1103515245 from rfl, show (12345 : Int64) = lN 12345 from rfl, show (2147483648 : Int64) = lN 2147483648 from rfl, lN_mul, lN_add, pk_lRem (by omega) (by decide) (by decide)]
  rfl
theorem lN_and31 {V : Nat} (hV : V < 2 ^ 63) : lN V &&& 2147483647 = lN (V % 2147483648) := by
  apply Int64.toBitVec_inj.mp
  apply BitVec.eq_of_toNat_eq
  rw [Int64.toBitVec_and, BitVec.toNat_and]
  have h1 : (lN V).toBitVec.toNat = V := by
    show (BitVec.ofNat 64 V).toNat = V
    rw [BitVec.toNat_ofNat]
    omega
  have h2 : ((2147483647 : Int64)).toBitVec.toNat = 2 ^ 31 - 1 := by decide
  rw [h1, h2, Nat.and_two_pow_sub_one_eq_mod]
  show _ = (BitVec.ofNat 64 (V % 2147483648)).toNat
  rw [BitVec.toNat_ofNat]
  omega
theorem sdN_eq {X : Nat} (hX : X < 2 ^ 31) : sdN (nI X) = nI (sdV X) := by
  unfold sdN
  rw [nI_l hX, show (1103515245 : Int64) = lN 1103515245 from rfl, show (12345 : Int64) = lN 12345 from rfl, lN_mul, lN_add, lN_and31 (by omega), lN_i, Nat.mul_comm]
  rfl
theorem drN_eq {Y w : Nat} (hY : Y < 2 ^ 31) (h0 : 0 < w) (h8 : w ≤ 8) : drN (nI Y) (nI w) = nI (Y / 65536 % w) := by
  have hA : Y / 65536 ≤ Y := Nat.div_le_self _ _
  have hB := Nat.div_mul_le_self (Y / 65536) w
  unfold drN
  rw [show (65536 : Int32) = nI 65536 from rfl, nI_div hY (by decide) (by decide), nI_div (by omega) (by omega) h0, nI_mul, nI_sub hB]
  congr 1
  have := Nat.div_add_mod (Y / 65536) w
  rw [Nat.mul_comm] at this
  omega
theorem dr_long {Y w : Nat} (hY : Y < 2 ^ 31) (h0 : 0 < w) (h8 : w ≤ 8) : (lN Y / 65536 - lN Y / 65536 / lN w * lN w).toInt32 = nI (Y / 65536 % w) := by
  have hA : Y / 65536 ≤ Y := Nat.div_le_self _ _
  rw [show (65536 : Int64) = lN 65536 from rfl, pk_lDiv (by omega) (by decide) (by decide), pk_lRem (by omega) h0 (by omega), lN_i]
theorem o8_cases {D : Nat → Nat} {low m r s lp : Nat} (hm : m < 60) (hr : r < 6) (hs : s < 8) : (mayF D low m r lp s = true ∧ ∃ q, q < 360 ∧ nxH D low m r s lp = some q) ∨ (mayF D low m r lp s = false ∧ nxH D low m r s lp = none) := by
  unfold mayF
  cases e : nxH D low m r s lp with
  | none => exact Or.inr ⟨rfl, rfl⟩
  | some q => exact Or.inl ⟨rfl, q, nxH_lt e hm hr hs, rfl⟩
theorem o8_ge {D : Nat → Nat} {low m r s lp : Nat} (hm : m < 60) (hr : r < 6) (hs : s < 8) : 0 ≤ o8 (nxH D low m r s lp) ↔ mayF D low m r lp s = true := by
  rcases o8_cases (D := D) (low := low) (lp := lp) hm hr hs with ⟨h1, q, hq, e⟩ | ⟨h1, e⟩
  · rw [h1, e]
    exact ⟨fun _ => rfl, fun _ => nI_pos' (by have := e8_lt hq; omega)⟩
  · rw [h1, e]
    exact ⟨fun z => absurd z (by decide), fun z => by cases z⟩
theorem o8_lt {D : Nat → Nat} {low m r s lp : Nat} (hm : m < 60) (hr : r < 6) (hs : s < 8) : o8 (nxH D low m r s lp) < 0 ↔ mayF D low m r lp s = false := by
  rcases o8_cases (D := D) (low := low) (lp := lp) hm hr hs with ⟨h1, q, hq, e⟩ | ⟨h1, e⟩
  · rw [h1, e]
    exact ⟨fun z => absurd z (nI_pos (by have := e8_lt hq; omega)), fun z => by cases z⟩
  · rw [h1, e]
    exact ⟨fun _ => rfl, fun _ => by decide⟩
/-- the draw goes on: j steps that may be are still to be passed -/
def PN (f : Nat → Bool) (j0 s : Nat) (z : Int32) : Prop := ∃ j, z = nI j ∧ j < 8 ∧ pick f (8 - s) s j = pick f 8 0 j0 ∧ j < cn (fun i => f (s + i)) (8 - s)
theorem PN.first {f : Nat → Bool} {j : Nat} (h : j < cn f 8) : PN f j 0 (nI j) := ⟨j, rfl, Nat.lt_of_lt_of_le h (cn_le _ _), rfl, by
  have e : (fun i => f (0 + i)) = f := by funext i; rw [Nat.zero_add]
  rw [e]; exact h⟩
theorem PN.skip {f : Nat → Bool} {j0 s : Nat} {z : Int32} (h : PN f j0 s z) (hs : s < 8) (hf : f s = false) : PN f j0 (s + 1) z := by
  obtain ⟨j, e, h8, hp, hc⟩ := h
  have e1 : 8 - s = 8 - (s + 1) + 1 := by omega
  refine ⟨j, e, h8, ?_, ?_⟩
  · rw [← hp, e1, pick, if_neg (by rw [hf]; decide)]
  · rw [e1, cn_cons, if_neg (by rw [hf]; decide), Nat.zero_add] at hc
    exact hc
theorem PN.next {f : Nat → Bool} {j0 s : Nat} {z : Int32} (h : PN f j0 s z) (hs : s < 8) (hf : f s = true) (hz : ¬ z = 0) : PN f j0 (s + 1) (z + Int32.ofInt (-1)) := by
  obtain ⟨j, e, h8, hp, hc⟩ := h
  have e1 : 8 - s = 8 - (s + 1) + 1 := by omega
  subst e
  have hj : ¬ j = 0 := fun q => hz (by rw [q]; rfl)
  refine ⟨j - 1, nI_dec8 j h8 hj, by omega, ?_, ?_⟩
  · rw [← hp, e1, pick, if_pos hf, if_neg hj]
  · rw [e1, cn_cons, if_pos hf] at hc
    omega
theorem PN.here {f : Nat → Bool} {j0 s : Nat} (h : PN f j0 s 0) (hs : s < 8) (hf : f s = true) : pick f 8 0 j0 = s := by
  obtain ⟨j, e, h8, hp, hc⟩ := h
  have e1 : 8 - s = 8 - (s + 1) + 1 := by omega
  have hj : j = 0 := ((nI_eq (a := 0) (by omega) (by omega)).mp e).symm
  rw [← hp, e1, pick, if_pos hf, if_pos hj]
theorem PN.last {f : Nat → Bool} {j0 : Nat} {z : Int32} (h : PN f j0 8 z) : False := by
  obtain ⟨j, -, -, -, hc⟩ := h
  exact absurd hc (Nat.not_lt_zero _)
/-- found: the counter is below 0 -/
def PF (s : Nat) (z : Int32) : Prop := z.toInt < 0 ∧ -(s : Int) - 1 ≤ z.toInt
theorem PF.next {s : Nat} {z : Int32} (h : PF s z) (hs : s ≤ 8) : PF (s + 1) (z + Int32.ofInt (-1)) := by
  unfold PF at *
  have e : (z + Int32.ofInt (-1)).toInt = z.toInt - 1 := by
    rw [Int32.toInt_add, show (Int32.ofInt (-1)).toInt = -1 from by decide, Int.bmod_def]
    split <;> omega
  rw [e]
  omega
theorem PF.skip {s : Nat} {z : Int32} (h : PF s z) : PF (s + 1) z := by
  unfold PF at *
  omega
theorem PF.ne {s : Nat} {z : Int32} (h : PF s z) : ¬ z = 0 := fun q => by
  have := h.1
  rw [q] at this
  exact absurd this (by decide)
theorem PF.first {s : Nat} : PF (s + 1) (0 + Int32.ofInt (-1)) := by
  unfold PF
  rw [show ((0 : Int32) + Int32.ofInt (-1)).toInt = -1 from by decide]
  omega
theorem cmp7 {a b : Nat} (ha : a < 480) (hb : b < 480) : nI a - 7 ≤ nI b ↔ a ≤ b + 7 := by
  rw [Int32.le_iff_toInt_le, Int32.toInt_sub, nI_toInt (by omega), nI_toInt (by omega), show (7 : Int32).toInt = 7 from rfl, Int.bmod_def]
  split <;> omega
theorem back7 {D : Nat → Nat} {low s lp q sp : Nat} (h : nxH D low (sp / 6) (sp % 6) s lp = some q) (h1 : 1 ≤ lp) (hs : s < 8) (hsp : sp < 360) : e8 sp ≤ e8 q + 7 ↔ ¬ s = 7 := by
  have h2 := nxH_back h h1 (by omega) hs
  have h3 := nxH_room h (by omega) hs
  unfold e8
  by_cases e : s = 7
  · rw [if_neg (by omega)] at h3
    have := h2.mpr e
    omega
  · have : ¬ q / 6 < sp / 6 := fun z => e (h2.mp z)
    omega
/-- where the draw leads -/
def wsN (D : Nat → Nat) (low lp sp X : Nat) : Nat := pick (mayF D low (sp / 6) (sp % 6) lp) 8 0 (sdV X / 65536 % cn (mayF D low (sp / 6) (sp % 6) lp) 8)
def wqN (D : Nat → Nat) (low lp sp X : Nat) : Nat := (nxH D low (sp / 6) (sp % 6) (wsN D low lp sp X) lp).getD 0
theorem wgo_step {D : Nat → Nat} {low lp k sp X : Nat} {th : Int32} (hX : X < 2 ^ 31) (hw : ¬ cn (mayF D low (sp / 6) (sp % 6) lp) 8 = 0) : wgo D low lp (k + 1) sp th (nI X) = wgo D low lp k (wqN D low lp sp X) (th + (if wsN D low lp sp X = 7 then 1 else 0)) (nI (sdV X)) := by
  have h8 : cn (mayF D low (sp / 6) (sp % 6) lp) 8 ≤ 8 := cn_le _ _
  have h9 := Nat.mod_lt (sdV X / 65536) (show 0 < cn (mayF D low (sp / 6) (sp % 6) lp) 8 by omega)
  rw [wgo, if_neg hw, sdN_eq hX, drN_eq (sdV_lt X) (by omega) h8, nI_clamp (by omega)]
  rfl
theorem wgo_stop {D : Nat → Nat} {low lp k sp : Nat} {th sd : Int32} (hw : cn (mayF D low (sp / 6) (sp % 6) lp) 8 = 0) : wgo D low lp k sp th sd = (sp, th, sd) := by
  cases k with
  | zero => rfl
  | succ k => rw [wgo, if_pos hw]
theorem ws_ok {D : Nat → Nat} {low lp sp X : Nat} (hsp : sp < 360) (hw : ¬ cn (mayF D low (sp / 6) (sp % 6) lp) 8 = 0) : wsN D low lp sp X < 8 ∧ wqN D low lp sp X < 360 ∧ nxH D low (sp / 6) (sp % 6) (wsN D low lp sp X) lp = some (wqN D low lp sp X) := by
  have h9 := Nat.mod_lt (sdV X / 65536) (show 0 < cn (mayF D low (sp / 6) (sp % 6) lp) 8 by omega)
  have e : (fun i => mayF D low (sp / 6) (sp % 6) lp (0 + i)) = mayF D low (sp / 6) (sp % 6) lp := by funext i; rw [Nat.zero_add]
  obtain ⟨-, h2, h3⟩ := pick_spec (f := mayF D low (sp / 6) (sp % 6) lp) 8 0 (sdV X / 65536 % cn (mayF D low (sp / 6) (sp % 6) lp) 8) (by rw [e]; exact h9)
  have hs : wsN D low lp sp X < 8 := by unfold wsN; omega
  refine ⟨hs, ?_⟩
  rcases o8_cases (D := D) (low := low) (lp := lp) (show sp / 6 < 60 by omega) (show sp % 6 < 6 by omega) hs with ⟨-, q, hq, eq⟩ | ⟨h4, -⟩
  · have e2 : wqN D low lp sp X = q := by unfold wqN; rw [eq]; rfl
    rw [e2]
    exact ⟨hq, eq⟩
  · have h5 : mayF D low (sp / 6) (sp % 6) lp (wsN D low lp sp X) = true := h3
    rw [h4] at h5; cases h5
theorem a_lives {s : sS} {kd r st : Nat} {sd : Nat} (hkd : kd < 5) (hr : r < 6) (h1 : 1 ≤ st) (h16 : st ≤ 16) (hsd : sd < 2 ^ 31) (hh : 0 < sHr s) :
    aLives s (nI kd) (nI r) (nI st) (nI sd) 0 = nI ((livesN s kd r st (nI sd)).1 / 6) ∧ aLives s (nI kd) (nI r) (nI st) (nI sd) 1 = nI ((livesN s kd r st (nI sd)).1 % 6) ∧ aLives s (nI kd) (nI r) (nI st) (nI sd) 2 = (livesN s kd r st (nI sd)).2.1 ∧ aLives s (nI kd) (nI r) (nI st) (nI sd) 3 = (livesN s kd r st (nI sd)).2.2 := by
  have a1 : rg (nI kd) 5 := rg_of hkd (by decide)
  have a2 : rg (nI r) 6 := rg_of hr (by decide)
  have a3 : ¬ nI st < 1 := by
    rw [show (1 : Int32) = nI 1 from rfl, nI_ltI (by omega) (by decide)]; omega
  have a4 : ¬ 16 < nI st := by
    rw [show (16 : Int32) = nI 16 from rfl, nI_ltI (by decide) (by omega)]; omega
  have a5 := nI_pos hsd
  have c1 := nI_clamp (n := kd) (by omega)
  have c2 := nI_clamp (n := r) (by omega)
  have c3 := nI_clamp (n := st) (by omega)
  refine ⟨?_, ?_, ?_, ?_⟩
  · rw [aLives, if_pos a1, if_pos a2, if_pos ⟨a3, a4, a5, by decide, by decide⟩, if_neg (by omega), if_pos rfl, c1, c2, c3]
  · rw [aLives, if_pos a1, if_pos a2, if_pos ⟨a3, a4, a5, by decide, by decide⟩, if_neg (by omega), if_neg (by decide), if_pos rfl, c1, c2, c3]
  · rw [aLives, if_pos a1, if_pos a2, if_pos ⟨a3, a4, a5, by decide, by decide⟩, if_neg (by omega), if_neg (by decide), if_neg (by decide), if_pos rfl, c1, c2, c3]
  · rw [aLives, if_pos a1, if_pos a2, if_pos ⟨a3, a4, a5, by decide, by decide⟩, if_neg (by omega), if_neg (by decide), if_neg (by decide), if_neg (by decide), c1, c2, c3]
theorem a_as {s : sS} {k a : Nat} (hk : k < sP s) (h4 : sP s ≤ 4) (ha : a < 5) (hkd : sKd s k < 5) : aAs s (nI k) (nI a) = if a = 0 ∨ a = sKd s k ∨ (a = 3 ∧ sKd s k = 4) then nI k else -1 := by
  have e : (nI a = 0 ∨ nI a = nI (sKd s k) ∨ (nI a = 3 ∧ nI (sKd s k) = 4)) ↔ (a = 0 ∨ a = sKd s k ∨ (a = 3 ∧ sKd s k = 4)) := by
    rw [show (0 : Int32) = nI 0 from rfl, show (3 : Int32) = nI 3 from rfl, show (4 : Int32) = nI 4 from rfl, nI_eq (by omega) (by omega), nI_eq (by omega) (by omega), nI_eq (by omega) (by omega), nI_eq (by omega) (by omega)]
  rw [aAs, nI_clamp (by omega), if_pos (rg_of hk (by omega)), if_pos (rg_of ha (by decide))]
  by_cases hc : a = 0 ∨ a = sKd s k ∨ (a = 3 ∧ sKd s k = 4)
  · rw [if_pos hc, if_pos (e.mpr hc)]
  · rw [if_neg hc, if_neg (fun q => hc (e.mp q))]
theorem a_betweenE {s : sS} {a b : Nat} (hab : a = b) : aBetween s (nI a) (nI b) = -101 := by
  rw [aBetween, if_neg (fun q => q.2.2 (congrArg nI hab))]
theorem a_between {s : sS} {a b x : Nat} (ha : a < 6) (hb : b < 6) (hab : ¬ a = b) (hr : 0 < sHr s) (hx : x.testBit b = decide (¬ hD (sH s) (a * 6 + b) = 0)) : aBetween s (nI a) (nI b) = xb (x.testBit b = true) + 2 * xb ((hSr (sH s) a).testBit b = true) := by
  rw [aBetween, if_pos ⟨rg_of ha (by decide), rg_of hb (by decide), fun q => hab ((nI_eq (by omega) (by omega)).mp q)⟩, if_neg (by omega), nI_clamp (by omega), nI_clamp (by omega), hx]
  congr 1
  · by_cases h0 : hD (sH s) (a * 6 + b) = 0
    · rw [if_pos h0, xb_f (by simp [h0])]
    · rw [if_neg h0, xb_t (by simp [h0])]
  · by_cases h0 : (hSr (sH s) a).testBit b = true
    · rw [if_pos h0, xb_t h0]; rfl
    · rw [if_neg h0, xb_f h0]; rfl
/-- the state when the object is made *new* -/
def s0 : sS := (fun _ => 0, 0, 0, h0, 0, fun _ => 0, fun _ => lE, (0, fun _ => 0, fun _ => 0, fun _ => 0), (0, fun _ => 0), 0, (0, 0, fun _ => lE, (0, fun _ => 0, fun _ => 0, fun _ => 0), (0, fun _ => 0)))
theorem CS0 : CS Z9 s0 := by
  refine ⟨⟨rfl, by show 0 ≤ 45; omega, fun i hi => absurd hi (Nat.not_lt_zero _), fun i hi => absurd hi (Nat.not_lt_zero _)⟩, ⟨rfl, by show 0 ≤ 600; omega, fun _ => ⟨rfl, rfl, rfl, rfl⟩, fun z => absurd z (Nat.lt_irrefl 0)⟩, ⟨rfl, by show 0 ≤ 4; omega, fun p hp => absurd hp (Nat.not_lt_zero _)⟩, ⟨rfl, by show 0 ≤ 5; omega, fun i hi => absurd hi (Nat.not_lt_zero _)⟩, ⟨rfl, by show 0 ≤ 8; omega, fun i hi => absurd hi (Nat.not_lt_zero _)⟩, ⟨rfl, by show 0 ≤ 30; omega⟩, ⟨rfl, by show 0 ≤ 1; omega, fun z => absurd z (by show ¬ 0 = 1; omega)⟩, fun _ => ⟨rfl, rfl, rfl, rfl⟩⟩
/-- the house, once it is read -/
def hoS (s : sS) (h : hS) : sS := mkS s (fun _ => 0) 0 (sHr s + 1) h 0 (sKd s) (sL s) (0, fun _ => 0, fun _ => 0, fun _ => 0) (0, fun _ => 0) (sSd s) (0, (sIm s).2)
theorem house_ok {s : sS} {h : hS} (hr : hrun (sPg s) (sN s) = some h) (hs : hSt h = 5 ∨ hSt h = 8) : aHouse s = nI (hNd h) ∧ tHouse s = hoS s h := by
  have e : hrd (sPg s) (sN s) = some h := by
    unfold hrd
    rw [hr, Option.bind_some, if_pos hs]
  constructor
  · rw [aHouse, e]
  · rw [tHouse, e]; rfl
theorem fault_ok {s : sS} {h : hS} (hr : hrun (sPg s) (sN s) = some h) : aFault s 0 = nI (sN s) := by
  rw [aFault, if_pos rfl]
  refine congrArg nI ?_
  have h1 := fpl_le (hgo (sPg s)) (sN s)
  have h2 : ¬ fpl (hgo (sPg s)) (sN s) < sN s := fun q => by
    rw [hfpl.mp q] at hr; cases hr
  omega

/-! ===== the shortest, by codes ===== -/
/-- whether the code of k steps, the highest figure first, does it -/
def gcB (N : Nat → Nat → Option Nat) (dI : Nat → Int32) (mt : Nat → Nat → Bool) (set : Int32) : Nat → List Nat → Nat → Int32 → Nat → Bool
  | 0, prev, sp, b, _ => okP mt prev sp && cvB set (b ||| dI sp)
  | k + 1, prev, sp, b, c => okP mt prev sp && (N sp (c / 8 ^ k % 8)).any (fun q => gcB N dI mt set k (sp :: prev) q (b ||| dI sp) (c % 8 ^ k))
theorem dig_s {k s c : Nat} (hs : s < 8) (hc : c < 8 ^ k) : (s * 8 ^ k + c) / 8 ^ k % 8 = s ∧ (s * 8 ^ k + c) % 8 ^ k = c ∧ s * 8 ^ k + c < 8 ^ (k + 1) := by
  have h0 : 0 < 8 ^ k := Nat.pow_pos (by decide)
  have h1 : (s * 8 ^ k + c) / 8 ^ k = s := by
    rw [Nat.add_comm, Nat.add_mul_div_right _ _ h0, Nat.div_eq_of_lt hc, Nat.zero_add]
  have h2 : (s * 8 ^ k + c) % 8 ^ k = c := by
    rw [Nat.add_comm, Nat.add_mul_mod_self_right, Nat.mod_eq_of_lt hc]
  have h3 : s * 8 ^ k ≤ 7 * 8 ^ k := Nat.mul_le_mul_right _ (by omega)
  have h4 : 8 ^ (k + 1) = 8 ^ k * 8 := Nat.pow_succ ..
  exact ⟨by rw [h1]; omega, h2, by omega⟩
theorem gcB_iff {N : Nat → Nat → Option Nat} {dI : Nat → Int32} {mt : Nat → Nat → Bool} {set : Int32} : ∀ k prev sp b, (∃ c, c < 8 ^ k ∧ gcB N dI mt set k prev sp b c = true) ↔ xS N dI mt set k prev sp b = true := by
  intro k
  induction k with
  | zero => intro prev sp b; exact ⟨fun ⟨c, _, h⟩ => h, fun h => ⟨0, by decide, h⟩⟩
  | succ k ih =>
    intro prev sp b
    rw [xS, Bool.and_eq_true, ff_is]
    constructor
    · rintro ⟨c, hc, h⟩
      rw [gcB, Bool.and_eq_true] at h
      obtain ⟨q, hq, h2⟩ := any_iff.mp h.2
      exact ⟨h.1, c / 8 ^ k % 8, Nat.mod_lt _ (by decide), any_iff.mpr ⟨q, hq, (ih _ _ _).mp ⟨_, Nat.mod_lt _ (Nat.pow_pos (by decide)), h2⟩⟩⟩
    · rintro ⟨h1, s, hs, h⟩
      obtain ⟨q, hq, h2⟩ := any_iff.mp h
      obtain ⟨c, hc, h3⟩ := (ih _ _ _).mpr h2
      obtain ⟨d1, d2, d3⟩ := dig_s hs hc
      refine ⟨s * 8 ^ k + c, d3, ?_⟩
      rw [gcB, h1, Bool.true_and, d1, d2]
      exact any_iff.mpr ⟨q, hq, h3⟩
theorem gcB_first {N : Nat → Nat → Option Nat} {dI : Nat → Int32} {mt : Nat → Nat → Bool} {set : Int32} {k sp c : Nat} {prev : List Nat} {b : Int32} (h : ff (gcB N dI mt set (k + 1) prev sp b) (8 ^ (k + 1)) = some c) :
    ff (fun s => (N sp s).any (fun q => xS N dI mt set k (sp :: prev) q (b ||| dI sp))) 8 = some (c / 8 ^ k) := by
  obtain ⟨h1, h2, h3⟩ := ff_some h
  have h0 : 0 < 8 ^ k := Nat.pow_pos (by decide)
  have h4 : 8 ^ (k + 1) = 8 * 8 ^ k := by rw [Nat.pow_succ, Nat.mul_comm]
  have hs : c / 8 ^ k < 8 := (Nat.div_lt_iff_lt_mul h0).mpr (by omega)
  rw [gcB, Bool.and_eq_true, Nat.mod_eq_of_lt hs] at h2
  obtain ⟨q, hq, h5⟩ := any_iff.mp h2.2
  refine ff_eq hs (any_iff.mpr ⟨q, hq, (gcB_iff _ _ _ _).mp ⟨_, Nat.mod_lt _ h0, h5⟩⟩) (fun j hj => ?_)
  rcases Bool.eq_false_or_eq_true ((N sp j).any (fun q => xS N dI mt set k (sp :: prev) q (b ||| dI sp))) with z | z
  · exfalso
    obtain ⟨q2, hq2, h6⟩ := any_iff.mp z
    obtain ⟨c2, hc2, h7⟩ := (gcB_iff _ _ _ _).mpr h6
    obtain ⟨d1, d2, d3⟩ := dig_s (show j < 8 by omega) hc2
    have h8 : j * 8 ^ k + c2 < c := by
      have h9 : (j + 1) * 8 ^ k ≤ c / 8 ^ k * 8 ^ k := Nat.mul_le_mul_right _ hj
      have h10 := Nat.div_mul_le_self c (8 ^ k)
      rw [Nat.add_mul, Nat.one_mul] at h9
      omega
    have h11 := h3 _ h8
    rw [gcB, h2.1, Bool.true_and, d1, d2, any_iff.mpr ⟨q2, hq2, h7⟩] at h11
    cases h11
  · exact z
/-- the same answer, by codes -/
def kCx (h : hS) (kd lp : Nat) (tk : tS) (set : Int32) (sp k : Nat) : Option Nat := ff (gcB (NX h lp) (dIt tk) (mtB h kd) set k [] sp 0) (8 ^ k)
theorem kCx_is {h : hS} {kd lp : Nat} {tk : tS} {set : Int32} {sp k : Nat} : (kCx h kd lp tk set sp k).isSome = xS (NX h lp) (dIt tk) (mtB h kd) set k [] sp 0 :=
  Bool.eq_iff_iff.mpr (ff_is.trans (gcB_iff _ _ _ _))
theorem kCx_first {h : hS} {kd lp : Nat} {tk : tS} {set : Int32} {sp k c : Nat} (hc : kCx h kd lp tk set sp (k + 1) = some c) : stx h kd lp tk set sp (k + 1) = some (c / 8 ^ k) := by
  rw [stx, if_neg (Nat.succ_ne_zero k)]
  exact gcB_first hc


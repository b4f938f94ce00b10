/-! ===== met, of a life tried whole ===== -/
theorem metB_iff {h : hS} {kd : Nat} {l : lS} {i : Nat} : metB h kd l i = true ↔ ∃ k, k < lN' l ∧ ¬ k = i ∧ lSp l k / 6 = lSp l i / 6 ∧ seeB h kd (lSp l i % 6) (lSp l k % 6) = true := by
  rw [metB, decide_eq_true_eq, cn_pos]
  constructor
  · rintro ⟨k, hk, h2⟩
    rw [Bool.and_eq_true, Bool.and_eq_true, decide_eq_true_eq, decide_eq_true_eq] at h2
    exact ⟨k, hk, h2.1, h2.2.1, h2.2.2⟩
  · rintro ⟨k, hk, a, b, c⟩
    exact ⟨k, hk, by rw [Bool.and_eq_true, Bool.and_eq_true, decide_eq_true_eq, decide_eq_true_eq]; exact ⟨a, b, c⟩⟩
theorem mtB_iff {h : hS} {kd x y : Nat} : mtB h kd x y = true ↔ y / 6 = x / 6 ∧ seeB h kd (x % 6) (y % 6) = true := by
  rw [mtB, Bool.and_eq_true, decide_eq_true_eq]
theorem met_okA {h : hS} (ho : hOk h) {kd : Nat} (l : lS) (hl : ∀ i, i < lN' l → lSp l i < 360) : metN h kd l = -1 ↔ okA (mtB h kd) (lSp l) (lN' l) := by
  obtain ⟨g, h1, h2⟩ := fwS_mn (u := fun j => lSp l j / 6) (ok := metB h kd l) (n := lN' l) (fun i hi => by have := hl i hi; omega)
  have hm : ∀ x, x % 6 < 6 := fun x => Nat.mod_lt _ (by decide)
  rw [metN, h2]
  constructor
  · intro z
    have hg : g = 60 := by
      by_cases e : g = 60
      · exact e
      · rw [if_neg e] at z; exact absurd z (nI_m1 (by have := h1.1; omega))
    intro i hi j hj
    refine Bool.eq_false_iff.mpr (fun w => ?_)
    obtain ⟨a, b⟩ := mtB_iff.mp w
    have h3 := hl i hi
    have := h1.2.1 (lSp l i / 6) (by omega) ⟨i, hi, metB_iff.mpr ⟨j, by omega, by omega, a, b⟩, rfl⟩
    omega
  · intro z
    by_cases e : g = 60
    · rw [if_pos e]
    · exfalso
      obtain ⟨i, hi, h3, h4⟩ := h1.2.2 (by have := h1.1; omega)
      obtain ⟨k, hk, a, b, c⟩ := metB_iff.mp h3
      rcases Nat.lt_or_ge k i with w | w
      · have := z i hi k w
        rw [mtB_iff.mpr ⟨b, c⟩] at this; cases this
      · have := z k hk i (by omega)
        rw [mtB_iff.mpr ⟨b.symm, by rw [see_sym ho kd (hm _) (hm _)]; exact c⟩] at this; cases this
theorem done_orI (t : tS) (n : Nat) (sp : Nat → Nat) (a b : Nat) : doneN t (n, sp, a, b) = orI (fun j => dIt t (sp j)) n := rfl
/-- what a code's life shows, looked at whole -/
theorem gR_zero {h : hS} (ho : hOk h) {lp kd : Nat} {tk : tS} {set : Int32} {n c : Nat} {sp : Nat → Nat} (hl : ∀ i, i < n → sp i < 360) : gR (NX h lp) (dIt tk) (mtB h kd) set 0 n sp c ↔ (doneN tk (n, sp, 0, 0) &&& set = set ∧ metN h kd (n, sp, 0, 0) = -1) := by
  rw [gR, met_okA ho (n, sp, 0, 0) hl, done_orI, cvB, decide_eq_true_eq]
  exact And.comm
theorem kC_gR {h : hS} {lp kd : Nat} {tk : tS} {set : Int32} {s0 k c : Nat} : gcB (NX h lp) (dIt tk) (mtB h kd) set k [] s0 0 c = true ↔ gR (NX h lp) (dIt tk) (mtB h kd) set k 1 (fun _ => s0) c :=
  gR_iff k 0 (fun _ => s0) c [] (fun i hi => absurd hi (Nat.not_lt_zero _)) (fun x => ⟨fun z => absurd z (List.not_mem_nil), fun ⟨j, hj, _⟩ => absurd hj (Nat.not_lt_zero _)⟩)


/-! ===== the shortest, by a life tried whole ===== -/
def okA (mt : Nat → Nat → Bool) (sp : Nat → Nat) (n : Nat) : Prop := ∀ i, i < n → ∀ j, j < i → mt (sp i) (sp j) = false
/-- all steps first, then the looks -/
def gR (N : Nat → Nat → Option Nat) (dI : Nat → Int32) (mt : Nat → Nat → Bool) (set : Int32) : Nat → Nat → (Nat → Nat) → Nat → Prop
  | 0, n, sp, _ => okA mt sp n ∧ cvB set (orI (fun j => dI (sp j)) n) = true
  | k + 1, n, sp, c => ∃ q, N (sp (n - 1)) (c / 8 ^ k % 8) = some q ∧ gR N dI mt set k (n + 1) (nu sp n q) (c % 8 ^ k)
theorem nu_lt' {sp : Nat → Nat} {n q i : Nat} (h : i < n) : nu sp n q i = sp i := if_neg (by omega)
theorem nu_at' {sp : Nat → Nat} {n q : Nat} : nu sp n q n = q := if_pos rfl
theorem okA_nu {mt : Nat → Nat → Bool} {sp : Nat → Nat} {n q : Nat} (h : okA mt (nu sp n q) (n + 1)) : okA mt sp n := fun i hi j hj => by
  have := h i (by omega) j hj
  rwa [nu_lt' hi, nu_lt' (by omega)] at this
theorem gR_ok {N : Nat → Nat → Option Nat} {dI : Nat → Int32} {mt : Nat → Nat → Bool} {set : Int32} : ∀ k n sp c, gR N dI mt set k n sp c → okA mt sp n := by
  intro k
  induction k with
  | zero => intro n sp c h; exact h.1
  | succ k ih => intro n sp c ⟨q, _, h⟩; exact okA_nu (ih _ _ _ h)
theorem okA_step {mt : Nat → Nat → Bool} {sp : Nat → Nat} {n : Nat} {prev : List Nat} (hp : ∀ x, x ∈ prev ↔ ∃ j, j < n ∧ sp j = x) (h : okA mt sp n) : okA mt sp (n + 1) ↔ okP mt prev (sp n) = true := by
  rw [okP, List.all_eq_true]
  constructor
  · intro h2 x hx
    obtain ⟨j, hj, rfl⟩ := (hp x).mp hx
    rw [h2 n (by omega) j hj]; rfl
  · intro h2 i hi j hj
    by_cases e : i = n
    · subst e
      have := h2 (sp j) ((hp _).mpr ⟨j, hj, rfl⟩)
      revert this
      cases mt (sp i) (sp j) <;> simp
    · exact h i (by omega) j hj
theorem gR_iff {N : Nat → Nat → Option Nat} {dI : Nat → Int32} {mt : Nat → Nat → Bool} {set : Int32} : ∀ k n (sp : Nat → Nat) c (prev : List Nat), okA mt sp n → (∀ x, x ∈ prev ↔ ∃ j, j < n ∧ sp j = x) →
    (gcB N dI mt set k prev (sp n) (orI (fun j => dI (sp j)) n) c = true ↔ gR N dI mt set k (n + 1) sp c) := by
  intro k
  induction k with
  | zero =>
    intro n sp c prev ho hp
    rw [gcB, gR, Bool.and_eq_true, okA_step hp ho]
    exact Iff.rfl
  | succ k ih =>
    intro n sp c prev ho hp
    rw [gcB, gR, Bool.and_eq_true, any_iff, ← okA_step hp ho]
    have key : ∀ q, okA mt sp (n + 1) → (gcB N dI mt set k (sp n :: prev) q (orI (fun j => dI (sp j)) n ||| dI (sp n)) (c % 8 ^ k) = true ↔ gR N dI mt set k (n + 1 + 1) (nu sp (n + 1) q) (c % 8 ^ k)) := by
      intro q ho2
      have h1 := ih (n + 1) (nu sp (n + 1) q) (c % 8 ^ k) (sp n :: prev) (fun i hi j hj => by rw [nu_lt' hi, nu_lt' (by omega)]; exact ho2 i hi j hj) (fun x => by
        rw [List.mem_cons, hp]
        constructor
        · rintro (rfl | ⟨j, hj, rfl⟩)
          · exact ⟨n, by omega, nu_lt' (by omega)⟩
          · exact ⟨j, by omega, nu_lt' (by omega)⟩
        · rintro ⟨j, hj, h⟩
          rw [nu_lt' hj] at h
          by_cases e : j = n
          · subst e; exact Or.inl h.symm
          · exact Or.inr ⟨j, by omega, h⟩)
      rw [nu_at', show orI (fun j => dI (nu sp (n + 1) q j)) (n + 1) = orI (fun j => dI (sp j)) n ||| dI (sp n) from by
        rw [orI_congr (g := fun j => dI (sp j)) (fun j hj => by rw [nu_lt' hj])]; rfl] at h1
      exact h1
    constructor
    · rintro ⟨ho2, q, hq, h⟩
      exact ⟨q, hq, (key q ho2).mp h⟩
    · rintro ⟨q, hq, h⟩
      have ho2 := okA_nu (gR_ok _ _ _ _ h)
      exact ⟨ho2, q, hq, (key q ho2).mpr h⟩


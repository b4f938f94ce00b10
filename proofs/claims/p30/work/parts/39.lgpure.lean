/-! ===== glimpses, pure ===== -/
/-- the glimpses, in the law's row and the class's state -/
def GL (S : Nat → Nat → Int32) (s : sS) (n : Nat) : Prop := (sGl s).1 = n ∧ n ≤ 8 ∧ ∀ j, j < n → (sGl s).2 j < 360 ∧ S 61 j = nI (e8 ((sGl s).2 j))
def gaS (s : sS) (n q : Nat) : sS := mkS s (sPg s) (sN s) (sHr s) (sH s) (sP s) (sKd s) (sL s) (sTk s) (n + 1, nu (sGl s).2 n q) (sSd s) (sIm s)
theorem glimpse_ok {s : sS} {n q : Nat} (hn : (sGl s).1 = n) (h8 : n < 8) (hr : 0 < sHr s) (hq : q < 360) : aGlimpse s (nI (q / 6)) (nI (q % 6)) = nI (n + 1) ∧ tGlimpse s (nI (q / 6)) (nI (q % 6)) = gaS s n q := by
  subst hn
  have a1 : rg (nI (q / 6)) 60 := rg_of (by omega) (by decide)
  have a2 : rg (nI (q % 6)) 6 := rg_of (by omega) (by decide)
  constructor
  · rw [aGlimpse, if_pos a1, if_pos a2, if_neg (by omega), if_neg (by omega)]
  · rw [tGlimpse, if_pos ⟨a1, a2, by omega, by omega⟩, nI_clamp (by omega), nI_clamp (by omega), show q / 6 * 6 + q % 6 = q by omega]; rfl
theorem GL_add {S S' : Nat → Nat → Int32} {s : sS} {n q : Nat} (hg : GL S s n) (h8 : n < 8) (hq : q < 360) (e : S' 61 = iu (S 61) n (nI (e8 q))) : GL S' (gaS s n q) (n + 1) := by
  refine ⟨rfl, by omega, fun j hj => ?_⟩
  show nu (sGl s).2 n q j < 360 ∧ S' 61 j = nI (e8 (nu (sGl s).2 n q j))
  rw [e]
  by_cases ej : j = n
  · subst ej
    rw [nu_same, iu_at]
    exact ⟨hq, rfl⟩
  · rw [nu_ne ej, iu_off ej]
    exact hg.2.2 j (by omega)
theorem obits_orN {f : Nat → Bool} : ∀ n, orN (fun i => if f i = true then 2 ^ i else 0) n = obits f n
  | 0 => rfl
  | n + 1 => by
    show orN _ n ||| _ = obits f n ||| _
    rw [obits_orN n]
theorem whose_eq {s : sS} (h4 : sP s ≤ 4) : whoseN s = nI (obits (fun p => allN (sGl s) (sL s p)) (sP s)) := by
  unfold whoseN
  rw [orI_nI (a := fun p => if allN (sGl s) (sL s p) = true then 2 ^ p else 0) (sP s) (fun p hp => ?_), obits_orN]
  rw [nI_shl p (by omega)]
  split <;> rfl
def zcN (s : sS) (l : lS) (j : Nat) : Nat := cn (fun q => decide (thN l ((sGl s).2 q) = 0)) j
theorem zc_1 {s : sS} {l : lS} {j : Nat} (h : 0 < thN l ((sGl s).2 j)) : xb (zcN s l j = 0) &&& 1 = xb (zcN s l (j + 1) = 0) := by
  have e : zcN s l (j + 1) = zcN s l j := by
    unfold zcN
    rw [cn, if_neg (by rw [decide_eq_true_eq]; omega), Nat.add_zero]
  rw [e]
  unfold xb
  split <;> decide
theorem zc_0 {s : sS} {l : lS} {j : Nat} (h : ¬ 0 < thN l ((sGl s).2 j)) : xb (zcN s l j = 0) &&& 0 = xb (zcN s l (j + 1) = 0) := by
  have e : ¬ zcN s l (j + 1) = 0 := by
    unfold zcN
    rw [cn, if_pos (by rw [decide_eq_true_eq]; omega)]
    omega
  rw [xb_f e]
  unfold xb
  split <;> decide
theorem all_iff {S : Nat → Nat → Int32} {s : sS} {l : lS} {n : Nat} (hg : GL S s n) (hl : ∀ i, i < lN' l → lSp l i < 360) : allN (sGl s) l = true ↔ zcN s l n = 0 := by
  unfold allN zcN
  rw [decide_eq_true_eq, hg.1]
  refine Iff.of_eq (congrArg (fun z => z = 0) (cn_congr fun q hq => ?_))
  rw [atN_th hl (hg.2.2 q hq).1]
theorem who_t {f : Nat → Bool} {k : Nat} (h : f k = true) : nI (obits f k) ||| nI (2 ^ k) = nI (obits f (k + 1)) := by
  rw [nI_or, obits, if_pos h]
theorem who_f {f : Nat → Bool} {k : Nat} (h : ¬ f k = true) : nI (obits f k) ||| 0 = nI (obits f (k + 1)) := by
  rw [show (0 : Int32) = nI 0 from rfl, nI_or, obits, if_neg h]
def pF (s : sS) (k b q : Nat) : Int32 := (if 0 < thN (sL s k) ((sGl s).2 q) then (1 : Int32) else 0) + (if 0 < thN (sL s b) ((sGl s).2 q) then 1 else 0)
theorem pF_tt {s : sS} {k b j : Nat} (h1 : 0 < thN (sL s k) ((sGl s).2 j)) (h2 : 0 < thN (sL s b) ((sGl s).2 j)) : prI (pF s k b) j * (1 + 1) = prI (pF s k b) (j + 1) := by rw [prI, pF, if_pos h1, if_pos h2]
theorem pF_tf {s : sS} {k b j : Nat} (h1 : 0 < thN (sL s k) ((sGl s).2 j)) (h2 : ¬ 0 < thN (sL s b) ((sGl s).2 j)) : prI (pF s k b) j * (1 + 0) = prI (pF s k b) (j + 1) := by rw [prI, pF, if_pos h1, if_neg h2]
theorem pF_ft {s : sS} {k b j : Nat} (h1 : ¬ 0 < thN (sL s k) ((sGl s).2 j)) (h2 : 0 < thN (sL s b) ((sGl s).2 j)) : prI (pF s k b) j * (0 + 1) = prI (pF s k b) (j + 1) := by rw [prI, pF, if_neg h1, if_pos h2]
theorem pF_ff {s : sS} {k b j : Nat} (h1 : ¬ 0 < thN (sL s k) ((sGl s).2 j)) (h2 : ¬ 0 < thN (sL s b) ((sGl s).2 j)) : prI (pF s k b) j * (0 + 0) = prI (pF s k b) (j + 1) := by rw [prI, pF, if_neg h1, if_neg h2]
theorem a_pair {S : Nat → Nat → Int32} {s : sS} {n k b : Nat} (hg : GL S s n) (hk : k < sP s) (hb : b < sP s) (h4 : sP s ≤ 4) (hkb : ¬ k = b) (hl : ∀ i, i < lN' (sL s k) → lSp (sL s k) i < 360) (hv : ∀ i, i < lN' (sL s b) → lSp (sL s b) i < 360) : aPair s (nI k) (nI b) = prI (pF s k b) n := by
  rw [aPair, nI_clamp (by omega), nI_clamp (by omega), if_pos ⟨rg_of hk (by omega), rg_of hb (by omega), fun q => hkb ((nI_eq (by omega) (by omega)).mp q)⟩]
  unfold pairN
  rw [hg.1]
  refine prI_congr fun q hq => ?_
  have h := (hg.2.2 q hq).1
  rw [atN_th hl h, atN_th hv h]; rfl
theorem a_pairE {s : sS} {k b : Nat} (hkb : k = b) : aPair s (nI k) (nI b) = -101 := by
  rw [aPair, if_neg (fun q => q.2.2 (congrArg nI hkb))]
theorem obits_all {f : Nat → Bool} (hf : ∀ i, f i = true) : ∀ n, n ≤ 3 → obits f n = 2 ^ n - 1
  | 0, _ => rfl
  | 1, _ => by simp [obits, hf]
  | 2, _ => by simp [obits, hf]
  | 3, _ => by simp [obits, hf]
  | n + 4, h => absurd h (by omega)
theorem all_none {g : gS} {l : lS} (h : g.1 = 0) : allN g l = true := by
  unfold allN
  rw [h]
  exact decide_eq_true rfl

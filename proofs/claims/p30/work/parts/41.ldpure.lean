/-! ===== who meets whom, which door had better be locked: pure ===== -/
def MM (l v : lS) (i x : Nat) : Prop := (x = 999 ∨ (x < 60 ∧ ∃ a, a < i ∧ 0 < thN v (lSp l a) ∧ x = lSp l a / 6)) ∧ ∀ a, a < i → 0 < thN v (lSp l a) → x ≤ lSp l a / 6
section MMs
variable {l v : lS} {i x : Nat}
theorem MM.zero : MM l v 0 999 := ⟨Or.inl rfl, fun a q => absurd q (Nat.not_lt_zero _)⟩
theorem MM.le (hm : MM l v i x) : x ≤ 999 := by
  rcases hm.1 with z | z <;> omega
theorem MM.skip (hm : MM l v i x) (hn : ¬ 0 < thN v (lSp l i)) : MM l v (i + 1) x := by
  obtain ⟨h1, h2⟩ := hm
  refine ⟨?_, fun a q hc => ?_⟩
  · rcases h1 with z | ⟨z, a, q, r⟩
    · exact Or.inl z
    · exact Or.inr ⟨z, a, by omega, r⟩
  · by_cases e : a = i
    · rw [e] at hc; exact absurd hc hn
    · exact h2 a (by omega) hc
theorem MM.keep (hm : MM l v i x) (hx : x ≤ lSp l i / 6) : MM l v (i + 1) x := by
  obtain ⟨h1, h2⟩ := hm
  refine ⟨?_, fun a q hc => ?_⟩
  · rcases h1 with z | ⟨z, a, q, r⟩
    · exact Or.inl z
    · exact Or.inr ⟨z, a, by omega, r⟩
  · by_cases e : a = i
    · rw [e]; exact hx
    · exact h2 a (by omega) hc
theorem MM.take (hm : MM l v i x) (hc : 0 < thN v (lSp l i)) (hx : ¬ x ≤ lSp l i / 6) (h60 : lSp l i / 6 < 60) : MM l v (i + 1) (lSp l i / 6) := by
  obtain ⟨h1, h2⟩ := hm
  refine ⟨Or.inr ⟨h60, i, by omega, hc, rfl⟩, fun a q hc2 => ?_⟩
  by_cases e : a = i
  · rw [e]; exact Nat.le_refl _
  · have := h2 a (by omega) hc2
    omega
theorem MM.fin (hg : ∀ i, i < lN' l → lSp l i < 360) (hv : ∀ i, i < lN' v → lSp v i < 360) (hm : MM l v (lN' l) x) : (if x = 999 then (-1 : Int32) else nI x) = meetN l v := by
  unfold meetN
  have hok : ∀ i, i < lN' l → ((fun j => decide (0 < atN v (nI (lSp l j)))) i = true ↔ 0 < thN v (lSp l i)) := fun i hi => by
    show decide (0 < atN v (nI (lSp l i))) = true ↔ _
    rw [decide_eq_true_eq, atN_th hv (hg i hi)]
  rcases fwS_spec (m := fun j => lSp l j / 6) (ok := fun j => decide (0 < atN v (nI (lSp l j)))) (lN' l) (fun i hi => by have := hg i hi; omega) with ⟨e, hf⟩ | ⟨i, hi, ho, e, hmin⟩
  · rw [e]
    rcases hm.1 with z | ⟨-, a, q, hc, -⟩
    · rw [if_pos z]
    · have := (hok a q).mpr hc
      exact absurd ((hf a q).symm.trans this) (by decide)
  · rw [e]
    have hle := hm.2 i hi ((hok i hi).mp ho)
    have h60 := hg i hi
    rcases hm.1 with z | ⟨z, a, q, hc, ea⟩
    · omega
    · have h5 := hmin a q ((hok a q).mpr hc)
      rw [if_neg (by omega), show x = lSp l i / 6 by omega]
end MMs
theorem a_meet {s : sS} {k b : Nat} (hk : k < sP s) (hb : b < sP s) (h4 : sP s ≤ 4) (hkb : ¬ k = b) : aMeet s (nI k) (nI b) = meetN (sL s k) (sL s b) := by
  rw [aMeet, nI_clamp (by omega), nI_clamp (by omega), if_pos ⟨rg_of hk (by omega), rg_of hb (by omega), fun q => hkb ((nI_eq (by omega) (by omega)).mp q)⟩]
theorem a_meetE {s : sS} {k b : Nat} (hkb : k = b) : aMeet s (nI k) (nI b) = -101 := by
  rw [aMeet, if_neg (fun q => q.2.2 (congrArg nI hkb))]
/-! the doors -/
theorem two_all : ((List.range 6).all fun x => (List.range 6).all fun y => (List.range 6).all fun a => (List.range 6).all fun b => a == b || ((2 ^ x ||| 2 ^ y == 2 ^ a ||| 2 ^ b) == ((y == a && x == b) || (y == b && x == a)))) = true := by decide +kernel
theorem two_bits {x y a b : Nat} (hx : x < 6) (hy : y < 6) (ha : a < 6) (hb : b < 6) (hab : ¬ a = b) : 2 ^ x ||| 2 ^ y = 2 ^ a ||| 2 ^ b ↔ ((y = a ∧ x = b) ∨ (y = b ∧ x = a)) := by
  have h1 := List.all_eq_true.mp two_all x (List.mem_range.mpr hx)
  have h2 := List.all_eq_true.mp h1 y (List.mem_range.mpr hy)
  have h3 := List.all_eq_true.mp h2 a (List.mem_range.mpr ha)
  have h4 := List.all_eq_true.mp h3 b (List.mem_range.mpr hb)
  rw [Bool.or_eq_true, beq_iff_eq, beq_iff_eq] at h4
  have h5 := h4.resolve_left hab
  constructor
  · intro q
    rw [q, beq_self_eq_true] at h5
    have h6 := h5.symm
    simpa only [Bool.or_eq_true, Bool.and_eq_true, beq_iff_eq] using h6
  · intro q
    have h6 : ((y == a && x == b) || (y == b && x == a)) = true := by simpa only [Bool.or_eq_true, Bool.and_eq_true, beq_iff_eq] using q
    rw [h6] at h5
    exact beq_iff_eq.mp h5
theorem two_lt : ∀ x, x < 6 → ∀ y, y < 6 → 2 ^ x ||| 2 ^ y < 64 := by decide +kernel
def ctB (h : hS) (l : lS) (j t : Nat) : Bool := decide ((lSp l t % 6 = hOn h j ∧ lSp l (t + 1) % 6 = hTw h j) ∨ (lSp l t % 6 = hTw h j ∧ lSp l (t + 1) % 6 = hOn h j))
theorem thr_ct {h : hS} {l : lS} {j : Nat} : thr h l j = decide (0 < cn (ctB h l j) (lN' l - 1)) := rfl
theorem on_tw {h : hS} (ho : hOk h) {j : Nat} (hj : j < hNd h) : hOn h j < 6 ∧ hTw h j < 6 ∧ ¬ hOn h j = hTw h j := by
  obtain ⟨-, -, -, -, -, -, -, -, -, -, -, hdd, hd, -, -⟩ := ho
  obtain ⟨a, b, c⟩ := hd j hj
  refine ⟨a, b, fun q => ?_⟩
  rw [← q, hdd _ a] at c
  omega
theorem xb_or1 {e : Nat} {f : Nat → Bool} (h : f e = true) : xb (0 < cn f e) ||| 1 = xb (0 < cn f (e + 1)) := by
  rw [xb_t (show 0 < cn f (e + 1) by rw [cn, if_pos h]; omega)]
  unfold xb
  split <;> decide
theorem xb_or0 {e : Nat} {f : Nat → Bool} (h : ¬ f e = true) : xb (0 < cn f e) ||| 0 = xb (0 < cn f (e + 1)) := by
  rw [cn, if_neg h, Nat.add_zero]
  unfold xb
  split <;> decide
/-- how many go through door j -/
def usL (s : sS) (j : Nat) : Nat := cn (fun p => thr (sH s) (sL s p) j) (sP s)
theorem us_eq {S : Nat → Nat → Int32} {s : sS} (hw : LW S s) {j : Nat} (hj : j < hNd (sH s)) : usersN s j = usL s j := cn_congr fun _ hp => (hw.lG hp).2.2.2.2 j hj
def LKp (s : sS) (u : Nat) (best : Int32) (mo : Nat) : Prop := (mo = 0 ∧ best = -1 ∧ ∀ x, u ≤ x → x < hNd (sH s) → usL s x = 0) ∨ (0 < mo ∧ ∃ w, u ≤ w ∧ w < hNd (sH s) ∧ best = nI w ∧ usL s w = mo ∧ ∀ x, u ≤ x → x < hNd (sH s) → usL s x < mo ∨ (usL s x = mo ∧ w ≤ x))
theorem LKp.first {s : sS} : LKp s (hNd (sH s)) (-1) 0 := Or.inl ⟨rfl, rfl, fun x h1 h2 => by omega⟩
theorem LKp.keep {s : sS} {u mo : Nat} {best : Int32} (hm : LKp s (u + 1) best mo) (hk : usL s u = 0 ∨ usL s u < mo) : LKp s u best mo := by
  rcases hm with ⟨h1, h2, h3⟩ | ⟨h1, w, h2, h3, h4, h5, h6⟩
  · refine Or.inl ⟨h1, h2, fun x hx hn => ?_⟩
    by_cases e : x = u
    · rw [e]; omega
    · exact h3 x (by omega) hn
  · refine Or.inr ⟨h1, w, by omega, h3, h4, h5, fun x hx hn => ?_⟩
    by_cases e : x = u
    · rw [e]; omega
    · exact h6 x (by omega) hn
theorem LKp.take {s : sS} {u mo : Nat} {best : Int32} (hm : LKp s (u + 1) best mo) (hu : u < hNd (sH s)) (h0 : ¬ usL s u = 0) (hk : ¬ usL s u < mo) : LKp s u (nI u) (usL s u) := by
  refine Or.inr ⟨by omega, u, Nat.le_refl _, hu, rfl, rfl, fun x hx hn => ?_⟩
  by_cases e : x = u
  · rw [e]; exact Or.inr ⟨rfl, Nat.le_refl _⟩
  · rcases hm with ⟨h1, h2, h3⟩ | ⟨h1, w, h2, h3, h4, h5, h6⟩
    · have := h3 x (by omega) hn; omega
    · have := h6 x (by omega) hn; omega
theorem lkS_spec {U : Nat → Nat} : ∀ n, (lkS U n = (-1, 0) ∧ ∀ x, x < n → U x = 0) ∨ ∃ w, w < n ∧ lkS U n = (nI w, U w) ∧ 0 < U w ∧ ∀ x, x < n → U x < U w ∨ (U x = U w ∧ w ≤ x)
  | 0 => Or.inl ⟨rfl, fun x hx => absurd hx (Nat.not_lt_zero _)⟩
  | n + 1 => by
    unfold lkS
    rcases lkS_spec (U := U) n with ⟨e, hf⟩ | ⟨w, hw, e, h0, hx⟩
    · rw [e]
      by_cases hn : 0 < U n
      · rw [if_pos hn]
        refine Or.inr ⟨n, by omega, rfl, hn, fun x h => ?_⟩
        by_cases ex : x = n
        · rw [ex]; exact Or.inr ⟨rfl, Nat.le_refl _⟩
        · rw [hf x (by omega)]; exact Or.inl hn
      · rw [if_neg hn]
        refine Or.inl ⟨rfl, fun x h => ?_⟩
        by_cases ex : x = n
        · rw [ex]; omega
        · exact hf x (by omega)
    · rw [e]
      by_cases hn : U w < U n
      · rw [if_pos hn]
        refine Or.inr ⟨n, by omega, rfl, by omega, fun x h => ?_⟩
        by_cases ex : x = n
        · rw [ex]; exact Or.inr ⟨rfl, Nat.le_refl _⟩
        · have := hx x (by omega); omega
      · rw [if_neg hn]
        refine Or.inr ⟨w, by omega, rfl, h0, fun x h => ?_⟩
        by_cases ex : x = n
        · rw [ex]; omega
        · exact hx x (by omega)
theorem lk_congr {U V : Nat → Nat} : ∀ n, (∀ x, x < n → U x = V x) → lkS U n = lkS V n
  | 0, _ => rfl
  | n + 1, h => by
    unfold lkS
    rw [lk_congr n (fun x hx => h x (by omega)), h n (by omega)]
theorem LKp.fin {S : Nat → Nat → Int32} {s : sS} (hw : LW S s) {best : Int32} {mo : Nat} (hm : LKp s 0 best mo) : aLocked s = best := by
  have hr := hw.2.2.1
  rw [aLocked, if_neg (by omega), lk_congr (V := usL s) (hNd (sH s)) (fun x hx => us_eq hw hx)]
  rcases lkS_spec (U := usL s) (hNd (sH s)) with ⟨e, hf⟩ | ⟨w, hwn, e, h0, hx⟩
  · rw [e]
    rcases hm with ⟨-, h2, -⟩ | ⟨h1, w, -, h3, -, h5, -⟩
    · exact h2.symm
    · rw [hf w h3] at h5; omega
  · rw [e]
    rcases hm with ⟨-, -, h3⟩ | ⟨h1, v, -, h3, h4, h5, h6⟩
    · rw [h3 w (Nat.zero_le _) hwn] at h0; omega
    · have a1 := hx v h3
      have a2 := h6 w (Nat.zero_le _) hwn
      rw [h4, show w = v by omega]
theorem dI_sub : ∀ u, u < 11 → nI u - 1 = dI u := by decide +kernel
theorem us_le (s : sS) (j k : Nat) : cn (fun p => thr (sH s) (sL s p) j) k ≤ k := cn_le _ _

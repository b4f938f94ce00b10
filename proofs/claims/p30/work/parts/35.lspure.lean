/-! ===== what stands, pure: who is met, how many there are ===== -/
/-- what of the law's world the asks need -/
def LW (S : Nat → Nat → Int32) (s : sS) : Prop := CS S s ∧ RH (S 54) (sH s) ∧ 0 < sHr s ∧ PL S s
theorem LW.hok {S : Nat → Nat → Int32} {s : sS} (h : LW S s) : hOk (sH s) ∧ 5 ≤ hSt (sH s) := (h.1.2.1.2.2.2 h.2.2.1).1.2
theorem LW.lG {S : Nat → Nat → Int32} {s : sS} (h : LW S s) {k : Nat} (hk : k < sP s) : lG (sH s) (sL s k) := (h.1.2.2.1.2.2 k hk).2.2.2
theorem fwS_spec {m : Nat → Nat} {ok : Nat → Bool} : ∀ n, (∀ i, i < n → m i < 60) → (fwS (fun j => nI (m j)) ok n = -1 ∧ ∀ i, i < n → ok i = false) ∨ ∃ i, i < n ∧ ok i = true ∧ fwS (fun j => nI (m j)) ok n = nI (m i) ∧ ∀ j, j < n → ok j = true → m i ≤ m j
  | 0, _ => Or.inl ⟨rfl, fun i hi => absurd hi (Nat.not_lt_zero _)⟩
  | n + 1, hm => by
    have hn := hm n (by omega)
    unfold fwS
    rcases fwS_spec (m := m) (ok := ok) n (fun i hi => hm i (by omega)) with ⟨e, hf⟩ | ⟨i, hi, ho, e, hmin⟩
    · rw [e]
      cases hok : ok n with
      | false =>
        rw [if_neg (fun q => by cases q.2)]
        refine Or.inl ⟨rfl, fun i hi => ?_⟩
        by_cases ei : i = n
        · rw [ei]; exact hok
        · exact hf i (by omega)
      | true =>
        rw [if_pos ⟨Or.inl rfl, rfl⟩]
        refine Or.inr ⟨n, by omega, hok, rfl, fun j hj hoj => ?_⟩
        by_cases ej : j = n
        · rw [ej]; exact Nat.le_refl _
        · rw [hf j (by omega)] at hoj; cases hoj
    · have hi60 := hm i (by omega)
      rw [e]
      cases hok : ok n with
      | false =>
        rw [if_neg (fun q => by cases q.2)]
        refine Or.inr ⟨i, by omega, ho, rfl, fun j hj hoj => ?_⟩
        by_cases ej : j = n
        · rw [ej, hok] at hoj; cases hoj
        · exact hmin j (by omega) hoj
      | true =>
        by_cases hlt : m n < m i
        · rw [if_pos ⟨Or.inr (nI_lt hlt (by omega)), rfl⟩]
          refine Or.inr ⟨n, by omega, hok, rfl, fun j hj hoj => ?_⟩
          by_cases ej : j = n
          · rw [ej]; exact Nat.le_refl _
          · have := hmin j (by omega) hoj
            omega
        · rw [if_neg (fun q => q.1.elim (nI_m1 (by omega)) (fun z => hlt ((nI_ltI (by omega) (by omega)).mp z)))]
          refine Or.inr ⟨i, by omega, ho, rfl, fun j hj hoj => ?_⟩
          by_cases ej : j = n
          · rw [ej]; omega
          · exact hmin j (by omega) hoj
/-- selves a and b of a life meet, as the law asks it -/
def mc (h : hS) (kd : Nat) (l : lS) (a b : Nat) : Prop := lSp l a / 6 = lSp l b / 6 ∧ kd ≤ 2 ∧ (lSp l a % 6 = lSp l b % 6 ∨ (¬ kd = 1 ∧ (hSr h (lSp l a % 6)).testBit (lSp l b % 6) = true))
def MT (h : hS) (kd : Nat) (l : lS) (i j v : Nat) : Prop := (v = 99 ∨ (v < 60 ∧ ∃ a b, (a < i ∨ (a = i ∧ b < j)) ∧ b < a ∧ mc h kd l a b ∧ v = lSp l a / 6)) ∧ ∀ a b, (a < i ∨ (a = i ∧ b < j)) → b < a → mc h kd l a b → v ≤ lSp l a / 6
section MTs
variable {h : hS} {kd i j v : Nat} {l : lS}
theorem MT.zero : MT h kd l 0 0 99 := ⟨Or.inl rfl, fun a b q => by omega⟩
theorem MT.le (hm : MT h kd l i j v) : v ≤ 99 := by
  rcases hm.1 with z | z <;> omega
theorem MT.skip (hm : MT h kd l i j v) (hn : ¬ mc h kd l i j) : MT h kd l i (j + 1) v := by
  obtain ⟨h1, h2⟩ := hm
  refine ⟨?_, fun a b q hb hc => ?_⟩
  · rcases h1 with z | ⟨z, a, b, q, r⟩
    · exact Or.inl z
    · exact Or.inr ⟨z, a, b, by omega, r⟩
  · by_cases e : a = i ∧ b = j
    · rw [e.1, e.2] at hc; exact absurd hc hn
    · exact h2 a b (by omega) hb hc
theorem MT.keep (hm : MT h kd l i j v) (hv : v ≤ lSp l i / 6) : MT h kd l i (j + 1) v := by
  obtain ⟨h1, h2⟩ := hm
  refine ⟨?_, fun a b q hb hc => ?_⟩
  · rcases h1 with z | ⟨z, a, b, q, r⟩
    · exact Or.inl z
    · exact Or.inr ⟨z, a, b, by omega, r⟩
  · by_cases e : a = i
    · rw [e]; exact hv
    · exact h2 a b (by omega) hb hc
theorem MT.take (hm : MT h kd l i j v) (hj : j < i) (hc : mc h kd l i j) (hv : ¬ v ≤ lSp l i / 6) (h60 : lSp l i / 6 < 60) : MT h kd l i (j + 1) (lSp l i / 6) := by
  obtain ⟨h1, h2⟩ := hm
  refine ⟨Or.inr ⟨h60, i, j, by omega, hj, hc, rfl⟩, fun a b q hb hc2 => ?_⟩
  by_cases e : a = i
  · rw [e]; exact Nat.le_refl _
  · have := h2 a b (by omega) hb hc2
    omega
theorem MT.next (hm : MT h kd l i i v) : MT h kd l (i + 1) 0 v := by
  obtain ⟨h1, h2⟩ := hm
  refine ⟨?_, fun a b q hb hc => h2 a b (by omega) hb hc⟩
  rcases h1 with z | ⟨z, a, b, q, r⟩
  · exact Or.inl z
  · exact Or.inr ⟨z, a, b, by omega, r⟩
theorem see_iff {a b : Nat} (hkd : kd < 5) : seeB h kd a b = true ↔ kd ≤ 2 ∧ (a = b ∨ (¬ kd = 1 ∧ (hSr h a).testBit b = true)) := by
  unfold seeB
  split
  · exact ⟨fun q => absurd q (by decide), fun q => by omega⟩
  · split
    · rw [decide_eq_true_eq]
      exact ⟨fun q => ⟨by omega, Or.inl q⟩, fun q => q.2.elim id (fun z => absurd (by assumption) z.1)⟩
    · rw [Bool.or_eq_true, decide_eq_true_eq]
      exact ⟨fun q => ⟨by omega, q.imp id (fun z => ⟨by omega, z⟩)⟩, fun q => q.2.imp id (fun z => z.2)⟩
theorem metB_iff (hkd : kd < 5) {q : Nat} : metB h kd l q = true ↔ ∃ i, i < lN' l ∧ ¬ i = q ∧ lSp l i / 6 = lSp l q / 6 ∧ kd ≤ 2 ∧ (lSp l q % 6 = lSp l i % 6 ∨ (¬ kd = 1 ∧ (hSr h (lSp l q % 6)).testBit (lSp l i % 6) = true)) := by
  unfold metB
  rw [decide_eq_true_eq, cn_pos]
  refine exists_congr fun i => and_congr_right fun _ => ?_
  rw [Bool.and_eq_true, Bool.and_eq_true, decide_eq_true_eq, decide_eq_true_eq, see_iff hkd]
theorem MT.fin (ho : hOk h) (hkd : kd < 5) (hg : ∀ i, i < lN' l → lSp l i < 360) (hm : MT h kd l (lN' l) 0 v) : (if v = 99 then (-1 : Int32) else nI v) = metN h kd l := by
  have hsy := ho.2.2.2.2.2.2.2.2.2.1
  have key : ∀ a b, a < lN' l → b < a → mc h kd l a b → metB h kd l a = true := fun a b ha hb hc => (metB_iff hkd).mpr ⟨b, by omega, by omega, hc.1.symm, hc.2.1, hc.2.2⟩
  unfold metN
  rcases fwS_spec (m := fun j => lSp l j / 6) (ok := metB h kd l) (lN' l) (fun i hi => by have := hg i hi; omega) with ⟨e, hf⟩ | ⟨i, hi, hok, e, hmin⟩
  · rw [e]
    rcases hm.1 with z | ⟨-, a, b, q, hb, hc, -⟩
    · rw [if_pos z]
    · have := key a b (by omega) hb hc
      rw [hf a (by omega)] at this; cases this
  · rw [e]
    obtain ⟨j, hj, hji, h1, h2, h3⟩ := (metB_iff hkd).mp hok
    have hle : v ≤ lSp l i / 6 := by
      rcases Nat.lt_or_ge j i with hlt | hge
      · exact hm.2 i j (by omega) hlt ⟨h1.symm, h2, h3⟩
      · rw [← h1]
        refine hm.2 j i (by omega) (by omega) ⟨h1, h2, h3.imp Eq.symm (fun z => ⟨z.1, ?_⟩)⟩
        rw [hsy _ _ (by omega) (by omega)]; exact z.2
    have h60 := hg i hi
    rcases hm.1 with z | ⟨z, a, b, q, hb, hc, ea⟩
    · omega
    · have h5 := hmin a (by omega) (key a b (by omega) hb hc)
      rw [if_neg (by omega), show v = lSp l i / 6 by omega]
end MTs
/-! how many selves there are in a minute -/
def mnC (l : lS) (x : Nat) : Nat := cn (fun j => decide (lSp l j / 6 = x)) (lN' l)
def rmC (l : lS) (m r : Nat) : Nat := cn (fun j => decide (lSp l j / 6 = m) && decide (lSp l j % 6 < r)) (lN' l)
theorem cn_add {f g h : Nat → Bool} : ∀ n, (∀ i, i < n → (if f i = true then 1 else 0) + (if g i = true then 1 else 0) = (if h i = true then 1 else 0)) → cn f n + cn g n = cn h n
  | 0, _ => rfl
  | n + 1, e => by
    have h1 := cn_add n (fun i hi => e i (by omega))
    have h2 := e n (by omega)
    unfold cn
    omega
theorem rmC_add {l : lS} {m r : Nat} (hr : r < 6) : rmC l m r + thN l (m * 6 + r) = rmC l m (r + 1) := by
  refine cn_add _ fun i _ => ?_
  simp only [Bool.and_eq_true, decide_eq_true_eq]
  by_cases h1 : lSp l i / 6 = m ∧ lSp l i % 6 < r
  · rw [if_pos h1, if_neg (by omega), if_pos (by omega)]
  · rw [if_neg h1]
    by_cases h2 : lSp l i = m * 6 + r
    · rw [if_pos h2, if_pos (by omega)]
    · rw [if_neg h2, if_neg (by omega)]
theorem rmC_0 {l : lS} {m : Nat} : rmC l m 0 = 0 := by
  unfold rmC
  generalize lN' l = n
  induction n with
  | zero => rfl
  | succ n ih => unfold cn; rw [ih]; simp
theorem rmC_6 {l : lS} {m : Nat} : rmC l m 6 = mnC l m := cn_congr fun i _ => by
  have : lSp l i % 6 < 6 := Nat.mod_lt _ (by decide)
  simp [this]
theorem mnC_le (l : lS) (x : Nat) : mnC l x ≤ lN' l := cn_le _ _
theorem rmC_le (l : lS) (m r : Nat) : rmC l m r ≤ lN' l := cn_le _ _
theorem thN_le (l : lS) (q : Nat) : thN l q ≤ lN' l := cn_le _ _
def MO (l : lS) (u mo : Nat) (wh : Int32) : Prop := (mo = 0 ∧ wh = -1 ∧ ∀ x, u ≤ x → mnC l x = 0) ∨ (0 < mo ∧ ∃ w, u ≤ w ∧ w < 60 ∧ wh = nI w ∧ mnC l w = mo ∧ ∀ x, u ≤ x → mnC l x < mo ∨ (mnC l x = mo ∧ w ≤ x))
theorem MO.first {l : lS} (hg : ∀ i, i < lN' l → lSp l i < 360) : MO l 60 0 (-1) := Or.inl ⟨rfl, rfl, fun x hx => by
  refine Nat.eq_zero_of_not_pos fun q => ?_
  obtain ⟨i, hi, h1⟩ := cn_pos.mp q
  have := hg i hi
  have := of_decide_eq_true h1
  omega⟩
theorem MO.keep {l : lS} {u mo : Nat} {wh : Int32} (hm : MO l (u + 1) mo wh) (hk : mnC l u = 0 ∨ mnC l u < mo) : MO l u mo wh := by
  rcases hm with ⟨h1, h2, h3⟩ | ⟨h1, w, h2, h3, h4, h5, h6⟩
  · refine Or.inl ⟨h1, h2, fun x hx => ?_⟩
    by_cases e : x = u
    · rw [e]; omega
    · exact h3 x (by omega)
  · refine Or.inr ⟨h1, w, by omega, h3, h4, h5, fun x hx => ?_⟩
    by_cases e : x = u
    · rw [e]; omega
    · exact h6 x (by omega)
theorem MO.take {l : lS} {u mo : Nat} {wh : Int32} (hm : MO l (u + 1) mo wh) (hu : u < 60) (h0 : 0 < mnC l u) (hk : mo ≤ mnC l u) : MO l u (mnC l u) (nI u) := by
  refine Or.inr ⟨h0, u, Nat.le_refl _, hu, rfl, rfl, fun x hx => ?_⟩
  by_cases e : x = u
  · rw [e]; exact Or.inr ⟨rfl, Nat.le_refl _⟩
  · rcases hm with ⟨h1, h2, h3⟩ | ⟨h1, w, h2, h3, h4, h5, h6⟩
    · have := h3 x (by omega); omega
    · have := h6 x (by omega); omega
theorem inN_nI {l : lS} (hg : ∀ i, i < lN' l → lSp l i < 360) {w : Nat} (hw : w < 60) : inN l (nI w) = mnC l w := cn_congr fun i hi => by
  have := hg i hi
  exact decide_eq_decide.mpr (nI_eq (by omega) (by omega))
theorem fmS_spec {m : Nat → Nat} {c : Int32 → Nat} : ∀ n, (∀ i, i < n → m i < 60 ∧ 0 < c (nI (m i))) → (n = 0 ∧ fmS (fun j => nI (m j)) c n = (-1, 0)) ∨ ∃ i, i < n ∧ fmS (fun j => nI (m j)) c n = (nI (m i), c (nI (m i))) ∧ ∀ j, j < n → c (nI (m j)) < c (nI (m i)) ∨ (c (nI (m j)) = c (nI (m i)) ∧ m i ≤ m j)
  | 0, _ => Or.inl ⟨rfl, rfl⟩
  | n + 1, hm => by
    have hn := hm n (by omega)
    refine Or.inr ?_
    unfold fmS
    rcases fmS_spec (m := m) (c := c) n (fun i hi => hm i (by omega)) with ⟨e0, e⟩ | ⟨i, hi, e, hmin⟩
    · rw [e, if_pos (Or.inl hn.2)]
      refine ⟨n, by omega, rfl, fun j hj => ?_⟩
      rw [show j = n by omega]; exact Or.inr ⟨rfl, Nat.le_refl _⟩
    · have hi60 := hm i (by omega)
      rw [e]
      by_cases hc : c (nI (m i)) < c (nI (m n)) ∨ (c (nI (m n)) = c (nI (m i)) ∧ nI (m n) < nI (m i))
      · rw [if_pos hc]
        refine ⟨n, by omega, rfl, fun j hj => ?_⟩
        rw [nI_ltI (by omega) (by omega)] at hc
        by_cases ej : j = n
        · rw [ej]; exact Or.inr ⟨rfl, Nat.le_refl _⟩
        · have := hmin j (by omega); omega
      · rw [if_neg hc]
        rw [nI_ltI (by omega) (by omega)] at hc
        refine ⟨i, by omega, rfl, fun j hj => ?_⟩
        by_cases ej : j = n
        · rw [ej]; omega
        · exact hmin j (by omega)
theorem MO.fin {l : lS} {mo : Nat} {wh : Int32} (hg : ∀ i, i < lN' l → lSp l i < 360) (hm : MO l 0 mo wh) : inN l (fmN l) = mo ∧ fmN l = wh := by
  have hc : ∀ i, i < lN' l → 0 < mnC l (lSp l i / 6) := fun i hi => cn_pos.mpr ⟨i, hi, decide_eq_true rfl⟩
  have hI : ∀ i, i < lN' l → inN l (nI (lSp l i / 6)) = mnC l (lSp l i / 6) := fun i hi => inN_nI hg (by have := hg i hi; omega)
  have h60 : ∀ i, i < lN' l → lSp l i / 6 < 60 := fun i hi => by have := hg i hi; omega
  rcases fmS_spec (m := fun j => lSp l j / 6) (c := inN l) (lN' l) (fun i hi => ⟨h60 i hi, by rw [hI i hi]; exact hc i hi⟩) with ⟨e0, e⟩ | ⟨i, hi, e, hmin⟩
  · have ef : fmN l = -1 := congrArg Prod.fst e
    have ez : ∀ x, mnC l x = 0 := fun x => by unfold mnC; rw [e0]; rfl
    have ei : inN l (-1) = 0 := by unfold inN; rw [e0]; rfl
    rw [ef, ei]
    rcases hm with ⟨h1, h2, -⟩ | ⟨h1, w, -, -, -, h5, -⟩
    · exact ⟨h1.symm, h2.symm⟩
    · rw [ez w] at h5; omega
  · have ef : fmN l = nI (lSp l i / 6) := congrArg Prod.fst e
    have hmin2 : ∀ j, j < lN' l → mnC l (lSp l j / 6) < mnC l (lSp l i / 6) ∨ (mnC l (lSp l j / 6) = mnC l (lSp l i / 6) ∧ lSp l i / 6 ≤ lSp l j / 6) := fun j hj => by
      have := hmin j hj
      rw [hI j hj, hI i hi] at this
      exact this
    rw [ef, hI i hi]
    rcases hm with ⟨-, -, h3⟩ | ⟨h1, w, -, h3, h4, h5, h6⟩
    · have := hc i hi
      rw [h3 _ (Nat.zero_le _)] at this; omega
    · have ew : ∃ j, j < lN' l ∧ lSp l j / 6 = w := by
        have : 0 < mnC l w := by omega
        obtain ⟨j, hj, q⟩ := cn_pos.mp this
        exact ⟨j, hj, of_decide_eq_true q⟩
      obtain ⟨j, hj, ej⟩ := ew
      have a1 := hmin2 j hj
      have a2 := h6 (lSp l i / 6) (Nat.zero_le _)
      rw [ej] at a1
      have e1 : mnC l (lSp l i / 6) = mo := by omega
      have e2 : lSp l i / 6 = w := by omega
      rw [e2] at e1 ⊢
      exact ⟨e1, h4.symm⟩
/-! the asks, at numbers that name a person -/
theorem a_self {s : sS} {k i : Nat} (hk : k < sP s) (h4 : sP s ≤ 4) (hi : i < lN' (sL s k)) (h17 : lN' (sL s k) ≤ 17) : aSelf s (nI k) (nI i) 0 = nI (lSp (sL s k) i / 6) ∧ aSelf s (nI k) (nI i) 1 = nI (lSp (sL s k) i % 6) := by
  have h1 : rg (nI k) (sP s) := rg_of hk (by omega)
  have h2 : rg (nI i) (lN' (sL s k)) := rg_of hi (by omega)
  constructor
  · rw [aSelf, nI_clamp (by omega), nI_clamp (by omega), if_pos ⟨h1, h2⟩, if_pos rfl]
  · rw [aSelf, nI_clamp (by omega), nI_clamp (by omega), if_pos ⟨h1, h2⟩, if_neg (by decide), if_pos rfl]
theorem rg_no {j n : Nat} (h : n ≤ j) (hj : j < 2 ^ 31) : ¬ rg (nI j) n := fun q => by
  have := q.2
  rw [nI_toInt hj] at this
  omega
theorem a_selfN {s : sS} {k i : Nat} {w : Int32} (hk : k < 2 ^ 31) (hi : lN' (sL s k) ≤ i) (h17 : i ≤ 17) : aSelf s (nI k) (nI i) w = -101 := by
  rw [aSelf, nI_clamp hk, if_neg (fun q => rg_no hi (by omega) q.2)]
theorem atN_th {l : lS} (hg : ∀ i, i < lN' l → lSp l i < 360) {q : Nat} (hq : q < 360) : atN l (nI q) = thN l q := cn_congr fun i hi => by
  have := hg i hi
  exact decide_eq_decide.mpr (nI_eq (by omega) (by omega))
theorem a_there {s : sS} {k q : Nat} (hk : k < sP s) (h4 : sP s ≤ 4) (hg : ∀ i, i < lN' (sL s k) → lSp (sL s k) i < 360) (hq : q < 360) : aThere s (nI k) (nI (q / 6)) (nI (q % 6)) = nI (thN (sL s k) q) := by
  rw [aThere, nI_clamp (by omega), if_pos ⟨rg_of hk (by omega), rg_of (by omega) (by decide)⟩, if_pos (rg_of (by omega) (by decide)), nI_spot, show q / 6 * 6 + q % 6 = q by omega, atN_th hg hq]
theorem a_about {s : sS} {k : Nat} (hk : k < sP s) (h4 : sP s ≤ 4) : aAbout s (nI k) 0 = nI (sKd s k) ∧ aAbout s (nI k) 1 = nI (lN' (sL s k)) ∧ aAbout s (nI k) 2 = nI (lTh (sL s k)) ∧ aAbout s (nI k) 3 = (if lN' (sL s k) = 0 then -1 else nI (lSp (sL s k) (lN' (sL s k) - 1) / 6)) ∧ aAbout s (nI k) 4 = (if lN' (sL s k) = 0 then -1 else nI (lSp (sL s k) (lN' (sL s k) - 1) % 6)) := by
  have h1 : rg (nI k) (sP s) := rg_of hk (by omega)
  have hkc := nI_clamp (n := k) (by omega)
  refine ⟨?_, ?_, ?_, ?_, ?_⟩
  · rw [aAbout, hkc, if_pos h1, if_pos rfl]
  · rw [aAbout, hkc, if_pos h1, if_neg (by decide), if_pos rfl]
  · rw [aAbout, hkc, if_pos h1, if_neg (by decide), if_neg (by decide), if_pos rfl]
  · rw [aAbout, hkc, if_pos h1, if_neg (by decide), if_neg (by decide), if_neg (by decide), if_pos rfl]
  · rw [aAbout, hkc, if_pos h1, if_neg (by decide), if_neg (by decide), if_neg (by decide), if_neg (by decide), if_pos rfl]
theorem a_met {s : sS} {k : Nat} (hk : k < sP s) (h4 : sP s ≤ 4) : aMet s (nI k) = metN (sH s) (sKd s k) (sL s k) := by
  rw [aMet, nI_clamp (by omega), if_pos (rg_of hk (by omega))]
theorem a_most {s : sS} {k : Nat} (hk : k < sP s) (h4 : sP s ≤ 4) : aMost s (nI k) 0 = nI (inN (sL s k) (fmN (sL s k))) ∧ aMost s (nI k) 1 = fmN (sL s k) := by
  have h1 : rg (nI k) (sP s) := rg_of hk (by omega)
  have hkc := nI_clamp (n := k) (by omega)
  constructor
  · rw [aMost, hkc, if_pos h1, if_pos (Or.inl rfl), if_neg (by decide)]
  · rw [aMost, hkc, if_pos h1, if_pos (Or.inr rfl), if_pos rfl]
def dI : Nat → Int32
  | 0 => -1
  | u + 1 => nI u
theorem dI_dec : ∀ u, u < 61 → nI u + Int32.ofInt (-1) = dI u := by decide +kernel
theorem pas_f {f : Nat → Bool} {i : Nat} (hi : 1 ≤ i) (h : f (i - 1) = false) : cn f (i - 1) = cn f i := by
  have e : i = i - 1 + 1 := by omega
  rw [e, cn, ← e, h]; simp
theorem pas_t {f : Nat → Bool} {i : Nat} (hi : 1 ≤ i) (h : f (i - 1) = true) : cn f (i - 1) + 1 = cn f i := by
  have e : i = i - 1 + 1 := by omega
  rw [e, cn, ← e, h]; simp
theorem pas_0 {f : Nat → Bool} {i : Nat} (hi : i ≤ 0) : cn f (i - 1) = cn f i := by
  have e : i = 0 := by omega
  rw [e]
theorem pas_d {g : Nat → Nat} {i : Nat} (hi : 1 ≤ i) (h : ¬ g i / 6 < g (i - 1) / 6) : (fun t => decide (g (t + 1) / 6 < g t / 6)) (i - 1) = false := by
  show decide (g (i - 1 + 1) / 6 < g (i - 1) / 6) = false
  rw [show i - 1 + 1 = i by omega]; exact decide_eq_false h
theorem pas_e {g : Nat → Nat} {i : Nat} (hi : 1 ≤ i) (h : g i / 6 < g (i - 1) / 6) : (fun t => decide (g (t + 1) / 6 < g t / 6)) (i - 1) = true := by
  show decide (g (i - 1 + 1) / 6 < g (i - 1) / 6) = true
  rw [show i - 1 + 1 = i by omega]; exact decide_eq_true h

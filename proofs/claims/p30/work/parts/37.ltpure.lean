/-! ===== tasks, pure ===== -/
theorem LW.to {S S' : Nat → Nat → Int32} {s : sS} (h : LW S s) (e : ∀ j, j < 57 → S' j = S j) : LW S' s := by
  refine ⟨h.1.lo (fun j hj => e j (by omega)), by rw [e 54 (by decide)]; exact h.2.1, h.2.2.1, ?_⟩
  unfold PL
  rw [e 55 (by decide), e 56 (by decide)]
  exact h.2.2.2
theorem LW.op {S S' : Nat → Nat → Int32} {s s' : sS} (h : LW S s) (hc : CS S' s') (e : ∀ j, 54 ≤ j → S' j = S j) (e1 : sHr s' = sHr s) (e2 : sH s' = sH s) (e3 : sP s' = sP s) (e4 : sKd s' = sKd s) (e5 : sL s' = sL s) : LW S' s' := by
  refine ⟨hc, by rw [e 54 (by decide), e2]; exact h.2.1, by rw [e1]; exact h.2.2.1, ?_⟩
  unfold PL
  rw [e 55 (by decide), e 56 (by decide), e3, e4, e5]
  exact h.2.2.2
theorem xz_off {α : Type} {z : α} {S : Nat → Nat → α} {k j : Nat} (h : j ≠ k) : xz z S k j = S j := if_neg h
/-- one more bit each, as it is so *there* -/
def obits (f : Nat → Bool) : Nat → Nat
  | 0 => 0
  | i + 1 => obits f i ||| (if f i = true then 2 ^ i else 0)
def orN (a : Nat → Nat) : Nat → Nat
  | 0 => 0
  | i + 1 => orN a i ||| a i
theorem orI_nI {f : Nat → Int32} {a : Nat → Nat} : ∀ n, (∀ i, i < n → f i = nI (a i)) → orI f n = nI (orN a n)
  | 0, _ => rfl
  | n + 1, h => by
    show orI f n ||| f n = nI (orN a n ||| a n)
    rw [orI_nI n (fun i hi => h i (by omega)), h n (by omega), nI_or]
theorem orN_test {a : Nat → Nat} {b : Nat} : ∀ n, (orN a n).testBit b = true ↔ ∃ i, i < n ∧ (a i).testBit b = true
  | 0 => by simp [orN]
  | n + 1 => by
    show (orN a n ||| a n).testBit b = true ↔ _
    rw [Nat.testBit_or, Bool.or_eq_true, orN_test n]
    constructor
    · rintro (⟨i, hi, h⟩ | h)
      · exact ⟨i, by omega, h⟩
      · exact ⟨n, by omega, h⟩
    · rintro ⟨i, hi, h⟩
      by_cases e : i = n
      · subst e; exact Or.inr h
      · exact Or.inl ⟨i, by omega, h⟩
theorem if_test {p : Prop} [Decidable p] {i b : Nat} : (if p then 2 ^ i else 0).testBit b = true ↔ p ∧ i = b := by
  split
  · rename_i h
    rw [Nat.testBit_two_pow]
    simp [h]
  · rename_i h
    simp [h]
theorem obits_test {f : Nat → Bool} {b : Nat} : ∀ n, (obits f n).testBit b = true ↔ b < n ∧ f b = true
  | 0 => by simp [obits]
  | n + 1 => by
    show (obits f n ||| _).testBit b = true ↔ _
    rw [Nat.testBit_or, Bool.or_eq_true, obits_test n, if_test]
    constructor
    · rintro (⟨h1, h2⟩ | ⟨h1, h2⟩)
      · exact ⟨by omega, h2⟩
      · subst h2; exact ⟨by omega, h1⟩
    · rintro ⟨h1, h2⟩
      by_cases e : b = n
      · subst e; exact Or.inr ⟨h2, rfl⟩
      · exact Or.inl ⟨by omega, h2⟩
theorem nat_bits {a b : Nat} (h : ∀ i, a.testBit i = true ↔ b.testBit i = true) : a = b := Nat.eq_of_testBit_eq fun i => by
  have := h i
  cases ha : a.testBit i <;> cases hb : b.testBit i <;> simp_all
/-- task, by its numbers: done by a life *ever* -/
def tdn (l : lS) (rm fr to : Nat) : Bool := decide (0 < cn (fun j => decide (lSp l j % 6 = rm ∧ fr ≤ lSp l j / 6 ∧ lSp l j / 6 ≤ to)) (lN' l))
def tfl (l : lS) (rm fr m : Nat) : Bool := decide (0 < cn (fun j => decide (lSp l j % 6 = rm ∧ fr ≤ lSp l j / 6 ∧ lSp l j / 6 < m)) (lN' l))
theorem tfl_0 {l : lS} {rm fr : Nat} : tfl l rm fr fr = false := decide_eq_false fun q => by
  obtain ⟨j, -, h⟩ := cn_pos.mp q
  have := of_decide_eq_true h
  omega
theorem tfl_end {l : lS} {rm fr to : Nat} : tfl l rm fr (to + 1) = tdn l rm fr to := by
  unfold tfl tdn
  refine decide_eq_decide.mpr (Iff.of_eq (congrArg (fun z => 0 < z) (cn_congr fun j _ => decide_eq_decide.mpr ?_)))
  omega
theorem tfl_t {l : lS} {rm fr m : Nat} (hr : rm < 6) (hm : fr ≤ m) (h : 0 < thN l (m * 6 + rm)) : tfl l rm fr (m + 1) = true := by
  obtain ⟨j, hj, e⟩ := cn_pos.mp h
  have := of_decide_eq_true e
  exact decide_eq_true (cn_pos.mpr ⟨j, hj, decide_eq_true (by omega)⟩)
theorem tfl_f {l : lS} {rm fr m : Nat} (hr : rm < 6) (h : ¬ 0 < thN l (m * 6 + rm)) : tfl l rm fr (m + 1) = tfl l rm fr m := by
  unfold tfl
  refine decide_eq_decide.mpr ?_
  rw [cn_pos, cn_pos]
  refine exists_congr fun j => and_congr_right fun hj => ?_
  rw [decide_eq_true_eq, decide_eq_true_eq]
  have : ¬ lSp l j = m * 6 + rm := fun q => h (cn_pos.mpr ⟨j, hj, decide_eq_true q⟩)
  omega
/-- the tasks, in the law's rows and the class's state -/
def TK (S : Nat → Nat → Int32) (s : sS) (n : Nat) : Prop := (sTk s).1 = n ∧ n ≤ 5 ∧ ∀ j, j < n → ∃ rm fr to, rm < 6 ∧ fr ≤ to ∧ to < 60 ∧ S 58 j = nI rm ∧ S 59 j = nI fr ∧ S 60 j = nI to ∧ (sTk s).2.1 j = nI rm ∧ (sTk s).2.2.1 j = nI fr ∧ (sTk s).2.2.2 j = nI to
/-- whether the i-th task is done, by the class's state -/
def tds (s : sS) (l : lS) (i : Nat) : Bool := tdn l ((sTk s).2.1 i).toNatClampNeg ((sTk s).2.2.1 i).toNatClampNeg ((sTk s).2.2.2 i).toNatClampNeg
theorem done_eq {S : Nat → Nat → Int32} {s : sS} {n : Nat} {l : lS} (ht : TK S s n) (hg : ∀ i, i < lN' l → lSp l i < 360) : doneN (sTk s) l = nI (obits (tds s l) n) := by
  obtain ⟨h1, h5, h2⟩ := ht
  unfold doneN
  rw [h1]
  rw [orI_nI (a := fun j => orN (fun i => if (lSp l j % 6 = ((sTk s).2.1 i).toNatClampNeg ∧ ((sTk s).2.2.1 i).toNatClampNeg ≤ lSp l j / 6 ∧ lSp l j / 6 ≤ ((sTk s).2.2.2 i).toNatClampNeg) then 2 ^ i else 0) n) (lN' l) (fun j hj => ?_)]
  · refine congrArg nI (nat_bits fun b => ?_)
    rw [orN_test, obits_test]
    simp only [orN_test, if_test]
    constructor
    · rintro ⟨j, hj, i, hi, hq, rfl⟩
      exact ⟨hi, decide_eq_true (cn_pos.mpr ⟨j, hj, decide_eq_true hq⟩)⟩
    · rintro ⟨hb, hq⟩
      obtain ⟨j, hj, h⟩ := cn_pos.mp (of_decide_eq_true hq)
      exact ⟨j, hj, b, hb, of_decide_eq_true h, rfl⟩
  · refine orI_nI n fun i hi => ?_
    obtain ⟨rm, fr, to, q1, q2, q3, -, -, -, e1, e2, e3⟩ := h2 i hi
    have := hg j hj
    unfold tkN
    rw [e1, e2, e3, nI_clamp (by omega), nI_clamp (by omega), nI_clamp (by omega), nI_shl i (by omega)]
    have hI : (nI rm = nI (lSp l j % 6) ∧ nI fr ≤ nI (lSp l j / 6) ∧ nI (lSp l j / 6) ≤ nI to) ↔ (rm = lSp l j % 6 ∧ fr ≤ lSp l j / 6 ∧ lSp l j / 6 ≤ to) := by
      rw [nI_eq (by omega) (by omega), nI_leI (by omega) (by omega), nI_leI (by omega) (by omega)]
    by_cases hc : lSp l j % 6 = rm ∧ fr ≤ lSp l j / 6 ∧ lSp l j / 6 ≤ to
    · rw [if_pos hc, if_pos (hI.mpr ⟨hc.1.symm, hc.2⟩)]
    · rw [if_neg hc, if_neg (fun q => hc ⟨(hI.mp q).1.symm, (hI.mp q).2⟩)]; rfl
def taS (s : sS) (n rm fr to : Nat) : sS := mkS s (sPg s) (sN s) (sHr s) (sH s) (sP s) (sKd s) (sL s) (n + 1, iu (sTk s).2.1 n (nI rm), iu (sTk s).2.2.1 n (nI fr), iu (sTk s).2.2.2 n (nI to)) (sGl s) (sSd s) (sIm s)
theorem task_ok {s : sS} {n rm fr to : Nat} (hn : (sTk s).1 = n) (h5 : n < 5) (hr : 0 < sHr s) (h1 : rm < 6) (h2 : fr ≤ to) (h3 : to < 60) : aTask s (nI rm) (nI fr) (nI to) = nI n ∧ tTask s (nI rm) (nI fr) (nI to) = taS s n rm fr to := by
  subst hn
  have a1 : rg (nI rm) 6 := rg_of h1 (by decide)
  have a2 : rg (nI fr) 60 ∧ rg (nI to) 60 ∧ ¬ nI to < nI fr := ⟨rg_of (by omega) (by decide), rg_of h3 (by decide), nI_nlt h2 (by omega)⟩
  constructor
  · rw [aTask, if_pos a1, if_pos a2, if_neg (by omega), if_neg (by omega)]
  · rw [tTask, if_pos ⟨a1, a2, by omega, by omega⟩]; rfl
theorem TK_add {S S' : Nat → Nat → Int32} {s : sS} {n rm fr to : Nat} (ht : TK S s n) (h5 : n < 5) (h1 : rm < 6) (h2 : fr ≤ to) (h3 : to < 60) (e8 : S' 58 = iu (S 58) n (nI rm)) (e9 : S' 59 = iu (S 59) n (nI fr)) (e10 : S' 60 = iu (S 60) n (nI to)) : TK S' (taS s n rm fr to) (n + 1) := by
  refine ⟨rfl, by omega, fun j hj => ?_⟩
  rw [e8, e9, e10]
  by_cases e : j = n
  · subst e
    refine ⟨rm, fr, to, h1, h2, h3, iu_at, iu_at, iu_at, ?_, ?_, ?_⟩
    · show iu (sTk s).2.1 j (nI rm) j = _
      exact iu_at
    · show iu (sTk s).2.2.1 j (nI fr) j = _
      exact iu_at
    · show iu (sTk s).2.2.2 j (nI to) j = _
      exact iu_at
  · obtain ⟨a, b, c, q1, q2, q3, q4, q5, q6, q7, q8, q9⟩ := ht.2.2 j (by omega)
    refine ⟨a, b, c, q1, q2, q3, by rw [iu_off e]; exact q4, by rw [iu_off e]; exact q5, by rw [iu_off e]; exact q6, ?_, ?_, ?_⟩
    · show iu (sTk s).2.1 n (nI rm) j = _
      rw [iu_off e]; exact q7
    · show iu (sTk s).2.2.1 n (nI fr) j = _
      rw [iu_off e]; exact q8
    · show iu (sTk s).2.2.2 n (nI to) j = _
      rw [iu_off e]; exact q9
theorem or_idem {B i : Nat} {b : Bool} (h : b = true) : B ||| (if b = true then 2 ^ i else 0) ||| 2 ^ i = B ||| 2 ^ i := by
  rw [if_pos h, Nat.or_assoc, Nat.or_self]
theorem or_any {B i : Nat} {b : Bool} : B ||| (if b = true then 2 ^ i else 0) ||| 2 ^ i = B ||| 2 ^ i := by
  cases b with
  | true => exact or_idem rfl
  | false => simp
theorem xA.shp {X : Option (Nat × (Nat → Int32))} {d : Nat} {M : xM} {c n mc ms pc : Nat} {L : List (Option Value)} {st : List Value} {σ σ' : List xSh} {S : Nat → Nat → Int32} {G : Nat → Nat → Int64} {Q : Option Value → xH → Prop} (e : σ = σ') (kk : xA X d M c n mc ms pc L st (σ', S, G) Q) : xA X d M c n mc ms pc L st (σ, S, G) Q := e ▸ kk
theorem xA.top {X : Option (Nat × (Nat → Int32))} {d : Nat} {M : xM} {c n mc ms pc k k' : Nat} {L : List (Option Value)} {st : List Value} {h : xH} {Q : Option Value → xH → Prop} (e : k = k') (kk : xA X d M c n mc ms pc L (.ref k' :: st) h Q) : xA X d M c n mc ms pc L (.ref k :: st) h Q := e ▸ kk

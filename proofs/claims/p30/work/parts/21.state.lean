variable {τ : List xSh}
/-! ===== the state, in whole numbers; what the class holds of it ===== -/
abbrev tS : Type := Nat × (Nat → Int32) × (Nat → Int32) × (Nat → Int32)
abbrev gS : Type := Nat × (Nat → Nat)
abbrev iS : Type := Nat × Nat × (Nat → lS) × tS × gS
/-- page, letters, houses read, the house, people, kinds, lives, tasks, glimpses, searches, image -/
abbrev sS : Type := (Nat → Nat) × Nat × Nat × hS × Nat × (Nat → Nat) × (Nat → lS) × tS × gS × Nat × iS
abbrev sPg (s : sS) : Nat → Nat := s.1
abbrev sN (s : sS) : Nat := s.2.1
abbrev sHr (s : sS) : Nat := s.2.2.1
abbrev sH (s : sS) : hS := s.2.2.2.1
abbrev sP (s : sS) : Nat := s.2.2.2.2.1
abbrev sKd (s : sS) : Nat → Nat := s.2.2.2.2.2.1
abbrev sL (s : sS) : Nat → lS := s.2.2.2.2.2.2.1
abbrev sTk (s : sS) : tS := s.2.2.2.2.2.2.2.1
abbrev sGl (s : sS) : gS := s.2.2.2.2.2.2.2.2.1
abbrev sSd (s : sS) : Nat := s.2.2.2.2.2.2.2.2.2.1
abbrev sIm (s : sS) : iS := s.2.2.2.2.2.2.2.2.2.2
/-- whether a life goes through door j -/
def thr (h : hS) (l : lS) (j : Nat) : Bool := decide (0 < cn (fun i => decide ((lSp l i % 6 = hOn h j ∧ lSp l (i + 1) % 6 = hTw h j) ∨ (lSp l i % 6 = hTw h j ∧ lSp l (i + 1) % 6 = hOn h j))) (lN' l - 1))
/-- a life that stands -/
def lG (h : hS) (l : lS) : Prop := lN' l ≤ 17 ∧ (∀ i, i < lN' l → lSp l i < 360) ∧ lTh l ≤ 17 ∧ lDb l < 1024 ∧ ∀ j, j < hNd h → (lDb l).testBit j = thr h l j
def tkC (S : Nat → Nat → Int32) (k : Nat) (t : tS) : Prop := S k 3 = nI t.1 ∧ t.1 ≤ 5 ∧ ∀ i, i < t.1 → S (k + 1) i = t.2.1 i ∧ S (k + 2) i = t.2.2.1 i ∧ S (k + 3) i = t.2.2.2 i
def glC (S : Nat → Nat → Int32) (k : Nat) (g : gS) : Prop := S k 1 = nI g.1 ∧ g.1 ≤ 8 ∧ ∀ i, i < g.1 → S (k + 1) i = nI (g.2 i) ∧ g.2 i < 360
/-- the class holds the house -/
def hsC (S : Nat → Nat → Int32) (hr : Nat) (h : hS) : Prop := S 0 11 = nI hr ∧ hr ≤ 600 ∧ (hr = 0 → S 3 2 = 0 ∧ S 3 3 = 0 ∧ S 3 4 = -1 ∧ S 3 5 = 0) ∧ (0 < hr → hSd S h ∧ (hSt h = 5 ∨ hSt h = 8))
def ppC (S : Nat → Nat → Int32) (h : hS) (P : Nat) (kd : Nat → Nat) (L : Nat → lS) : Prop := S 0 10 = nI P ∧ P ≤ 4 ∧ ∀ p, p < P → S (42 + 3 * p) 1 = nI (kd p) ∧ kd p < 5 ∧ lC S (42 + 3 * p + 1) (L p) ∧ lG h (L p)
def imC (S : Nat → Nat → Int32) (h : hS) (im : iS) : Prop := S 18 3 = nI im.1 ∧ im.1 ≤ 1 ∧ (im.1 = 1 → S 18 4 = nI im.2.1 ∧ im.2.1 ≤ 4 ∧ (∀ p, p < im.2.1 → lC S (26 + 3 * p + 1) (im.2.2.1 p) ∧ lG h (im.2.2.1 p)) ∧ tkC S 20 im.2.2.2.1 ∧ glC S 24 im.2.2.2.2)
/-- the class holds the state -/
def CS (S : Nat → Nat → Int32) (s : sS) : Prop := pgC S (sPg s) (sN s) ∧ hsC S (sHr s) (sH s) ∧ ppC S (sH s) (sP s) (sKd s) (sL s) ∧ tkC S 12 (sTk s) ∧ glC S 16 (sGl s) ∧ (S 0 12 = nI (sSd s) ∧ sSd s ≤ 30) ∧ imC S (sH s) (sIm s) ∧ (sHr s = 0 → sP s = 0 ∧ (sTk s).1 = 0 ∧ (sGl s).1 = 0 ∧ (sIm s).1 = 0)
theorem isP : ∀ i, i < 4 → isPers τ (42 + 3 * i)
  | 0, _ => ⟨rfl, rfl, rfl⟩
  | 1, _ => ⟨rfl, rfl, rfl⟩
  | 2, _ => ⟨rfl, rfl, rfl⟩
  | 3, _ => ⟨rfl, rfl, rfl⟩
  | i + 4, h => absurd h (by omega)
theorem isI : ∀ i, i < 4 → isPers τ (26 + 3 * i)
  | 0, _ => ⟨rfl, rfl, rfl⟩
  | 1, _ => ⟨rfl, rfl, rfl⟩
  | 2, _ => ⟨rfl, rfl, rfl⟩
  | 3, _ => ⟨rfl, rfl, rfl⟩
  | i + 4, h => absurd h (by omega)
theorem pAt : ∀ i, i < 4 → ([some 42, some 45, some 48, some 51] : List (Option Nat))[i]? = some (some (42 + 3 * i)) := by decide
theorem iAt : ∀ i, i < 4 → ([some 26, some 29, some 32, some 35] : List (Option Nat))[i]? = some (some (26 + 3 * i)) := by decide
theorem iH3 : isHouse τ 3 := ⟨rfl, rfl, rfl⟩
theorem iH6 : isHouse τ 6 := ⟨rfl, rfl, rfl⟩
theorem iT12 : isTasks τ 12 := ⟨rfl, rfl, rfl, rfl⟩
theorem iT20 : isTasks τ 20 := ⟨rfl, rfl, rfl, rfl⟩
theorem iG16 : isGlim τ 16 := ⟨rfl, rfl⟩
theorem iG24 : isGlim τ 24 := ⟨rfl, rfl⟩
theorem iL9 : isLife τ 9 := ⟨rfl, rfl⟩
/-! counts, in whole numbers -/
def atN (l : lS) (x : Int32) : Nat := cn (fun j => decide (nI (lSp l j) = x)) (lN' l)
def inN (l : lS) (x : Int32) : Nat := cn (fun j => decide (nI (lSp l j / 6) = x)) (lN' l)
theorem lC_sp {S : Nat → Nat → Int32} {k : Nat} {l : lS} (h : lC S k l) (hg : ∀ i, i < lN' l → lSp l i < 360) {i : Nat} (hi : i < lN' l) : S (k + 1) i = nI (lSp l i / 6 * 6 + lSp l i % 6) := by
  rw [h.2.2.2 i hi, show lSp l i / 6 * 6 + lSp l i % 6 = lSp l i by omega]
theorem lC_at {S : Nat → Nat → Int32} {k : Nat} {l : lS} (h : lC S k l) (x : Int32) : cn (fun j => decide (S (k + 1) j = x)) (lN' l) = atN l x := cn_congr fun i hi => by rw [h.2.2.2 i hi]
theorem lC_xmin {S : Nat → Nat → Int32} {k : Nat} {l : lS} (h : lC S k l) (hg : ∀ i, i < lN' l → lSp l i < 360) {i : Nat} (hi : i < lN' l) : xmin (S (k + 1) i) = nI (lSp l i / 6) := by
  have := hg i hi
  rw [lC_sp h hg hi, xmin_nI (by omega) (by omega)]
theorem lC_xroom {S : Nat → Nat → Int32} {k : Nat} {l : lS} (h : lC S k l) (hg : ∀ i, i < lN' l → lSp l i < 360) {i : Nat} (hi : i < lN' l) : xroom (S (k + 1) i) = nI (lSp l i % 6) := by
  have := hg i hi
  rw [lC_sp h hg hi, xroom_nI (by omega) (by omega)]
theorem lC_in {S : Nat → Nat → Int32} {k : Nat} {l : lS} (h : lC S k l) (hg : ∀ i, i < lN' l → lSp l i < 360) (x : Int32) : cn (fun j => decide (xmin (S (k + 1) j) = x)) (lN' l) = inN l x := cn_congr fun i hi => by rw [lC_xmin h hg hi]
theorem lC_ok {S : Nat → Nat → Int32} {k : Nat} {l : lS} (h : lC S k l) (hg : ∀ i, i < lN' l → lSp l i < 360) : okSp (S (k + 1)) (lN' l) := fun i hi => ⟨lSp l i / 6, lSp l i % 6, by have := hg i hi; omega, by omega, lC_sp h hg hi⟩
theorem fwS_congr {mi mi' : Nat → Int32} {ok ok' : Nat → Bool} {n : Nat} (h : ∀ i, i < n → mi i = mi' i ∧ ok i = ok' i) : fwS mi ok n = fwS mi' ok' n := by
  induction n with
  | zero => rfl
  | succ n ih =>
    have e := h n (by omega)
    rw [fwS, fwS, ih (fun i hi => h i (by omega)), e.1, e.2]
theorem fmS_congr {mi mi' : Nat → Int32} {c c' : Int32 → Nat} {n : Nat} (h : ∀ i, i < n → mi i = mi' i) (hc : ∀ x, c x = c' x) : fmS mi c n = fmS mi' c' n := by
  induction n with
  | zero => rfl
  | succ n ih => rw [fmS, fmS, ih (fun i hi => h i (by omega)), h n (by omega), hc]
/-- whether one in room a sees, or is with, one in room b -/
def seeB (h : hS) (kd a b : Nat) : Bool := if kd = 3 ∨ kd = 4 then false else if kd = 1 then decide (a = b) else decide (a = b) || (hSr h a).testBit b
def metB (h : hS) (kd : Nat) (l : lS) (q : Nat) : Bool := decide (0 < cn (fun i => decide (¬ i = q) && (decide (lSp l i / 6 = lSp l q / 6) && seeB h kd (lSp l q % 6) (lSp l i % 6))) (lN' l))
def metN (h : hS) (kd : Nat) (l : lS) : Int32 := fwS (fun j => nI (lSp l j / 6)) (metB h kd l) (lN' l)
theorem dec_bt {x b : Nat} (hx : x < 64) (hb : b < 6) : decide (bt (nI x) (nI b)) = x.testBit b := by
  cases hz : x.testBit b
  · exact decide_eq_false (fun q => by rw [bt_nI x hx b hb, hz] at q; cases q)
  · exact decide_eq_true ((bt_nI x hx b hb).mpr hz)
theorem bt_mrm {h : hS} (ho : hOk h) {kd a b : Nat} (hk : kd < 5) (ha : a < 6) (hb : b < 6) : decide (bt (mrm (nI kd) a (nI (hSr h a))) (nI b)) = seeB h kd a b := by
  have h0 : ∀ b, b < 6 → decide (bt 0 (nI b)) = false := by decide +kernel
  have h1 := ho.2.2.2.2.2.2.2.2.1 a
  have e3 : nI kd = 3 ↔ kd = 3 := nI_eq (b := 3) (by omega) (by omega)
  have e4 : nI kd = 4 ↔ kd = 4 := nI_eq (b := 4) (by omega) (by omega)
  have e1 : nI kd = 1 ↔ kd = 1 := nI_eq (b := 1) (by omega) (by omega)
  unfold mrm seeB
  simp only [e3, e4, e1, nI_shl a (by omega), nI_or]
  split
  · exact h0 b hb
  · split
    · have h2 : 2 ^ a < 64 := by have := or_lt64 (a := 0) (by omega) ha; simpa using this
      rw [dec_bt h2 hb, Nat.testBit_two_pow]
    · have h2 : 2 ^ a ||| hSr h a < 64 := by rw [Nat.or_comm]; exact or_lt64 h1 ha
      rw [dec_bt h2 hb, Nat.testBit_or, Nat.testBit_two_pow]
theorem lC_met {S : Nat → Nat → Int32} {k : Nat} {h : hS} {kd : Nat} {l : lS} (hh : hSd S h) (hk : kd < 5) (h1 : S k 1 = nI kd) (hl : lC S (k + 1) l) (hg : ∀ i, i < lN' l → lSp l i < 360) :
    fwS (fun j => xmin (S (k + 1 + 1) j)) (fun j => decide (0 < cn (mtF (S (k + 1 + 1)) (mrm (S k 1) (xroom (S (k + 1 + 1) j)).toNatClampNeg (S 5 (xroom (S (k + 1 + 1) j)).toNatClampNeg)) j) (lN' l))) (lN' l) = metN h kd l := by
  refine fwS_congr fun q hq => ⟨lC_xmin hl hg hq, ?_⟩
  have hqg := hg q hq
  refine decide_eq_decide.mpr (Iff.of_eq (congrArg (fun z => 0 < z) (cn_congr fun i hi => ?_)))
  have hig := hg i hi
  rw [mtF, lC_xmin hl hg hi, lC_xmin hl hg hq, lC_xroom hl hg hi, lC_xroom hl hg hq, nI_clamp (by omega), h1, show S 5 (lSp l q % 6) = nI (hSr h (lSp l q % 6)) from hh.1.2.2.2.2.2.2.2 _ (by omega), bt_mrm hh.2.1 hk (by omega) (by omega)]
  congr 2
  exact decide_eq_decide.mpr (nI_eq (by omega) (by omega))


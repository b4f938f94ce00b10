/-! ===== the reference: what it holds; its small methods ===== -/
/-- the reference holds so many spots from place k on -/
def rwC (S : Nat → Nat → Int32) (m r k : Nat) (l : lS) : Prop := ∀ i, i < lN' l → S m (k + i) = nI (lSp l i / 6) ∧ S r (k + i) = nI (lSp l i % 6)
/-- the reference holds the house -/
def mhC (S : Nat → Nat → Int32) (hr : Nat) (h : hS) : Prop := S 54 16 = nI hr ∧ hr ≤ 600 ∧ (hr = 0 → S 54 12 = 0 ∧ S 54 13 = 0 ∧ S 54 14 = -1 ∧ S 54 15 = 0) ∧
  (0 < hr → (hOk h ∧ 5 ≤ hSt h) ∧ (hSt h = 5 ∨ hSt h = 8) ∧ S 54 12 = nI (hNd h) ∧ S 54 13 = nI (hNs h) ∧ S 54 14 = nI (hLo h) ∧ S 54 15 = nI (hBa h) ∧
    (∀ a, a < 6 → ∃ x, x < 64 ∧ S 60 a = nI x ∧ ∀ b, b < 6 → (x.testBit b = true ↔ ¬ hD h (a * 6 + b) = 0)) ∧ (∀ a, a < 6 → S 61 a = nI (hSr h a)) ∧ (∀ j, j < hNd h → S 62 j = nI (hOn h j) ∧ S 63 j = nI (hTw h j)))
def mpC (S : Nat → Nat → Int32) (h : hS) (P : Nat) (kd : Nat → Nat) (L : Nat → lS) : Prop := S 54 21 = nI P ∧ P ≤ 4 ∧ ∀ p, p < P → S 64 p = nI (kd p) ∧ kd p < 5 ∧ S 65 p = nI (lN' (L p)) ∧ S 66 p = nI (lTh (L p)) ∧ rwC S 67 68 (17 * p) (L p) ∧ lG h (L p)
/-- rows of tasks, of glimpses -/
def mtR (S : Nat → Nat → Int32) (k : Nat) (t : tS) : Prop := t.1 ≤ 5 ∧ ∀ i, i < t.1 → S k (3 * i) = t.2.1 i ∧ S k (3 * i + 1) = t.2.2.1 i ∧ S k (3 * i + 2) = t.2.2.2 i
def mgR (S : Nat → Nat → Int32) (k : Nat) (g : gS) : Prop := g.1 ≤ 8 ∧ ∀ i, i < g.1 → S k (2 * i) = nI (g.2 i / 6) ∧ S k (2 * i + 1) = nI (g.2 i % 6) ∧ g.2 i < 360
def miC (S : Nat → Nat → Int32) (h : hS) (hr : Nat) (im : iS) : Prop := (S 54 37 = -1 ∨ ∃ kh, kh ≤ hr ∧ S 54 37 = nI kh) ∧ im.1 ≤ 1 ∧ (im.1 = 0 → ¬ S 54 37 = nI hr) ∧ (im.1 = 1 → S 54 37 = nI hr ∧ S 54 38 = nI im.2.1 ∧ im.2.1 ≤ 4 ∧
  (∀ p, p < im.2.1 → S 73 p = nI (lN' (im.2.2.1 p)) ∧ S 74 p = nI (lTh (im.2.2.1 p)) ∧ rwC S 75 76 (17 * p) (im.2.2.1 p) ∧ lG h (im.2.2.1 p)) ∧ S 54 39 = nI im.2.2.2.1.1 ∧ mtR S 77 im.2.2.2.1 ∧ S 54 40 = nI im.2.2.2.2.1 ∧ mgR S 78 im.2.2.2.2)
/-- the page -/
def mgP (S : Nat → Nat → Int32) (pg : Nat → Nat) (n : Nat) : Prop := S 54 1 = nI n ∧ n ≤ 45 ∧ (∀ i, i < n → S 55 i = nI (pg i)) ∧ ∀ i, i < n → pg i ≤ 126
/-- the reference holds the state -/
def MS (S : Nat → Nat → Int32) (s : sS) : Prop := mgP S (sPg s) (sN s) ∧ mhC S (sHr s) (sH s) ∧ mpC S (sH s) (sP s) (sKd s) (sL s) ∧ (S 54 31 = nI (sTk s).1 ∧ mtR S 71 (sTk s)) ∧ (S 54 34 = nI (sGl s).1 ∧ mgR S 72 (sGl s)) ∧ (S 54 33 = nI (sSd s) ∧ sSd s ≤ 30) ∧ miC S (sH s) (sHr s) (sIm s) ∧
  (sHr s = 0 → sP s = 0 ∧ (sTk s).1 = 0 ∧ (sGl s).1 = 0 ∧ (sIm s).1 = 0)
/-- an operation of the reference; the class's cells stay -/
def opM (d : Nat) (M : xM) (args : List Value) (s : sS) (v : Value) (s' : sS) : Prop := ∀ S G, MS S s → xC d M args (σF, S, G) 0 0 (fun r h' => ∃ S' G', h' = (σF, S', G') ∧ r = some v ∧ MS S' s' ∧ ∀ j, j < 54 → S' j = S j)
theorem opM.pure {d : Nat} {M : xM} {args : List Value} {s : sS} {v : Value} (h : ∀ S G, MS S s → xR d M args S G (some v) S G) : opM d M args s v s := fun S G hc => (h S G hc).mono (fun r h' q => ⟨S, G, q.2, q.1, hc, fun _ _ => rfl⟩)
theorem opM.scr {d : Nat} {M : xM} {args : List Value} {s : sS} {v : Value} (h : ∀ S G, MS S s → xC d M args (σF, S, G) 0 0 (fun r h' => ∃ S' G', h' = (σF, S', G') ∧ r = some v ∧ MS S' s ∧ ∀ j, j < 54 → S' j = S j)) : opM d M args s v s := h
theorem i64_le {x y : Int32} : x.toInt64 ≤ y.toInt64 ↔ x ≤ y := by rw [Int64.le_iff_toInt_le, Int32.toInt_toInt64, Int32.toInt_toInt64, Int32.le_iff_toInt_le]
theorem i64_lt {x y : Int32} : x.toInt64 < y.toInt64 ↔ x < y := by rw [Int64.lt_iff_toInt_lt, Int32.toInt_toInt64, Int32.toInt_toInt64, Int32.lt_iff_toInt_lt]
theorem lgc_lt {x y : Int64} : lg_cmp x y < 0 ↔ x < y := by
  unfold lg_cmp
  have h1 : x > y ↔ y.toInt < x.toInt := Int64.lt_iff_toInt_lt
  have h2 : x < y ↔ x.toInt < y.toInt := Int64.lt_iff_toInt_lt
  have h3 : x = y ↔ x.toInt = y.toInt := Int64.toInt_inj.symm
  rw [h2]
  simp only [h1, h3]
  split
  · exact ⟨fun z => absurd z (by decide), fun z => by omega⟩
  · split
    · exact ⟨fun z => absurd z (by decide), fun z => by omega⟩
    · exact ⟨fun _ => by omega, fun _ => by decide⟩
theorem lgc_gt {x y : Int64} : 0 < lg_cmp x y ↔ y < x := by
  unfold lg_cmp
  have h1 : x > y ↔ y.toInt < x.toInt := Int64.lt_iff_toInt_lt
  have h2 : y < x ↔ y.toInt < x.toInt := Int64.lt_iff_toInt_lt
  rw [h2]
  simp only [h1]
  split
  · rename_i z; exact ⟨fun _ => z, fun _ => by decide⟩
  · split
    · exact ⟨fun z => absurd z (by decide), fun z => by omega⟩
    · exact ⟨fun z => absurd z (by decide), fun z => by omega⟩
theorem lgc_eq (x : Int64) : lg_cmp x x = 0 := by
  unfold lg_cmp
  rw [if_neg (by show ¬ x < x; rw [Int64.lt_iff_toInt_lt]; omega), if_pos rfl]
theorem in_rg {x : Int32} {n : Nat} (hn : n < 2 ^ 30) : (0 ≤ x ∧ x ≤ nI n) ↔ rg x (n + 1) := by
  rw [Int32.le_iff_toInt_le, Int32.le_iff_toInt_le, nI_toInt (by omega), Int32.toInt_zero]
  constructor <;> rintro ⟨h1, h2⟩ <;> exact ⟨h1, by omega⟩
theorem in_rgm {x : Int32} {n : Nat} (hn : n < 2 ^ 30) : (0 ≤ x ∧ x ≤ nI n - 1) ↔ rg x n := by
  cases n with
  | zero =>
    rw [show nI 0 - 1 = -1 from rfl, Int32.le_iff_toInt_le, Int32.le_iff_toInt_le, Int32.toInt_zero, show (-1 : Int32).toInt = -1 by decide]
    constructor <;> rintro ⟨h1, h2⟩ <;> exact ⟨h1, by omega⟩
  | succ n => rw [show nI (n + 1) - 1 = nI n from nI_sub (a := n + 1) (b := 1) (by omega)]; exact in_rg (by omega)

set_option maxRecDepth 100000 in
set_option maxHeartbeats 400000 in
theorem c_X10_in (d : Nat) (S : Nat → Nat → Int32) (G : Nat → Nat → Int64) (x a b : Int32) : xR d mX10_in [.long x.toInt64, .long a.toInt64, .long b.toInt64] S G (some (.int (xb (a ≤ x ∧ x ≤ b)))) S G := by
  refine xC.of okX10_in (Nat.le_of_ble_eq_true rfl) (L := [_, _, _, _, _, _]) rfl ?_
  refine xA.lload_n (i := 0) rfl rfl rfl rfl ?_
  refine xA.lload_n (i := 2) rfl rfl rfl rfl ?_
  refine xA.lcmp rfl rfl ?_
  refine xA.if_lt (tgt := 17) rfl rfl rfl (fun h3 => ?_) (fun h3 => ?_)
  · rw [lgc_lt, i64_lt] at h3
    refine xA.iconst (v := 0) rfl (by decide) rfl ?_
    exact xA.iret rfl rfl rfl ⟨by first | (rw [xb_f (fun q => absurd h3 (Int32.not_lt.mpr q.1))]; done) | (rw [xb_f (fun q => absurd h10 (Int32.not_lt.mpr q.2))]; done) | (rw [xb_t ⟨Int32.not_lt.mp h3, Int32.not_lt.mp h10⟩]; done), rfl⟩
  · rw [lgc_lt, i64_lt] at h3
    refine xA.lload_n (i := 0) rfl rfl rfl rfl ?_
    refine xA.lload rfl rfl rfl ?_
    refine xA.lcmp rfl rfl ?_
    refine xA.if_gt (tgt := 17) rfl rfl rfl (fun h10 => ?_) (fun h10 => ?_)
    · rw [lgc_gt, i64_lt] at h10
      refine xA.iconst (v := 0) rfl (by decide) rfl ?_
      exact xA.iret rfl rfl rfl ⟨by first | (rw [xb_f (fun q => absurd h3 (Int32.not_lt.mpr q.1))]; done) | (rw [xb_f (fun q => absurd h10 (Int32.not_lt.mpr q.2))]; done) | (rw [xb_t ⟨Int32.not_lt.mp h3, Int32.not_lt.mp h10⟩]; done), rfl⟩
    · rw [lgc_gt, i64_lt] at h10
      refine xA.iconst (v := 1) rfl (by decide) rfl ?_
      refine xA.goto (q := 18) rfl rfl ?_
      exact xA.iret rfl rfl rfl ⟨by first | (rw [xb_f (fun q => absurd h3 (Int32.not_lt.mpr q.1))]; done) | (rw [xb_f (fun q => absurd h10 (Int32.not_lt.mpr q.2))]; done) | (rw [xb_t ⟨Int32.not_lt.mp h3, Int32.not_lt.mp h10⟩]; done), rfl⟩
set_option maxRecDepth 100000 in
set_option maxHeartbeats 400000 in
theorem c_X10_isRoom (d : Nat) (S : Nat → Nat → Int32) (G : Nat → Nat → Int64) (x : Int32) : xR (d + 1) mX10_isRoom [.int x] S G (some (.int (xb (rg x 6)))) S G := by
  refine xC.of okX10_isRoom (Nat.le_of_ble_eq_true rfl) (L := [_]) rfl ?_
  refine xA.iload_n (i := 0) rfl rfl rfl rfl ?_
  refine xA.i2l rfl rfl ?_
  refine xA.lconst (v := 0) rfl (by decide) rfl ?_
  refine xA.ldc2 (v := 5) rfl w997 rfl ?_
  refine xA.callSi (As := [_, _, _]) rfl k10_96 okX10_in rfl rfl (Nat.le_of_ble_eq_true rfl) (c_X10_in d _ G x 0 5) rfl rfl ?_
  refine xA.topi (xb_iff (in_rg (n := 5) (by omega))) ?_
  exact xA.iret rfl rfl xb_nar ⟨rfl, rfl⟩
set_option maxRecDepth 100000 in
set_option maxHeartbeats 400000 in
theorem c_X10_isPerson (d : Nat) (S : Nat → Nat → Int32) (G : Nat → Nat → Int64) (x : Int32) (P : Nat) (hP : S 54 21 = nI P) (h4 : P ≤ 4) : xR (d + 1) mX10_isPerson [.ref 54, .int x] S G (some (.int (xb (rg x P)))) S G := by
  refine xC.of okX10_isPerson (Nat.le_of_ble_eq_true rfl) (L := [_, _]) rfl ?_
  refine xA.iload_n (i := 1) rfl rfl rfl rfl ?_
  refine xA.i2l rfl rfl ?_
  refine xA.lconst (v := 0) rfl (by decide) rfl ?_
  refine xA.aload_n (i := 0) rfl rfl rfl rfl ?_
  refine xA.getI rfl f10_156 rfl rfl rfl ?_
  refine xA.topi (hP) ?_
  refine xA.iconst (v := 1) rfl (by decide) rfl ?_
  refine xA.isub rfl rfl ?_
  refine xA.i2l rfl rfl ?_
  refine xA.callSi (As := [_, _, _]) rfl k10_96 okX10_in rfl rfl (Nat.le_of_ble_eq_true rfl) (c_X10_in d _ G x 0 (nI P - 1)) rfl rfl ?_
  refine xA.topi (xb_iff (in_rgm (by omega))) ?_
  exact xA.iret rfl rfl xb_nar ⟨rfl, rfl⟩
set_option maxRecDepth 100000 in
set_option maxHeartbeats 400000 in
theorem c_X10_lacks (d : Nat) (S : Nat → Nat → Int32) (G : Nat → Nat → Int64)  : xR d mX10_lacks [.ref 54] S G (some (.int (xb (S 54 12 = 0)))) S G := by
  refine xC.of okX10_lacks (Nat.le_of_ble_eq_true rfl) (L := [_]) rfl ?_
  refine xA.aload_n (i := 0) rfl rfl rfl rfl ?_
  refine xA.getI rfl f10_147 rfl rfl rfl ?_
  refine xA.if_ne (tgt := 11) rfl rfl rfl (fun h4 => ?_) (fun h4 => ?_)
  · refine xA.iconst (v := 0) rfl (by decide) rfl ?_
    exact xA.iret rfl rfl rfl ⟨by first | (rw [xb_t h4]; done) | (rw [xb_f h4]; done), rfl⟩
  · refine xA.iconst (v := 1) rfl (by decide) rfl ?_
    refine xA.goto (q := 12) rfl rfl ?_
    exact xA.iret rfl rfl rfl ⟨by first | (rw [xb_t h4]; done) | (rw [xb_f h4]; done), rfl⟩
set_option maxRecDepth 100000 in
set_option maxHeartbeats 400000 in
theorem c_X10_backOf (d : Nat) (S : Nat → Nat → Int32) (G : Nat → Nat → Int64) (x : Int32) : xR d mX10_backOf [.ref 54, .int x] S G (some (.int (if x = 2 then S 54 15 + 1 else S 54 15))) S G := by
  refine xC.of okX10_backOf (Nat.le_of_ble_eq_true rfl) (L := [_, _]) rfl ?_
  refine xA.iload_n (i := 1) rfl rfl rfl rfl ?_
  refine xA.iconst (v := 2) rfl (by decide) rfl ?_
  refine xA.icmp_ne (tgt := 14) rfl rfl rfl (fun h2 => ?_) (fun h2 => ?_)
  · refine xA.aload_n (i := 0) rfl rfl rfl rfl ?_
    refine xA.getI rfl f10_153 rfl rfl rfl ?_
    exact xA.iret rfl rfl rfl ⟨by first | (rw [if_pos h2]; done) | (rw [if_neg h2]; done), rfl⟩
  · refine xA.aload_n (i := 0) rfl rfl rfl rfl ?_
    refine xA.getI rfl f10_153 rfl rfl rfl ?_
    refine xA.iconst (v := 1) rfl (by decide) rfl ?_
    refine xA.iadd rfl rfl ?_
    refine xA.goto (q := 18) rfl rfl ?_
    exact xA.iret rfl rfl rfl ⟨by first | (rw [if_pos h2]; done) | (rw [if_neg h2]; done), rfl⟩
set_option maxRecDepth 100000 in
set_option maxHeartbeats 400000 in
theorem c_X10_say (d : Nat) (S : Nat → Nat → Int32) (G : Nat → Nat → Int64) (x : Int32) : xR d mX10_say [.ref 54, .long x.toInt64] S G none S (xul G 54 47 (mx (G 54 47) x)) := by
  refine xC.of okX10_say (Nat.le_of_ble_eq_true rfl) (L := [_, _, _]) rfl ?_
  refine xA.aload_n (i := 0) rfl rfl rfl rfl ?_
  refine xA.ldc2 (v := 31) rfl w1231 rfl ?_
  refine xA.aload_n (i := 0) rfl rfl rfl rfl ?_
  refine xA.getL rfl f10_293 rfl rfl rfl ?_
  refine xA.lmul rfl rfl ?_
  refine xA.lload_n (i := 1) rfl rfl rfl rfl ?_
  refine xA.ladd rfl rfl ?_
  refine xA.putL rfl p10_293 rfl rfl rfl ?_
  exact xA.vret rfl rfl ⟨rfl, rfl⟩
theorem mlk {S : Nat → Nat → Int32} {hr : Nat} {h : hS} (hm : mhC S hr h) : S 54 12 = 0 ↔ hr = 0 := by
  constructor
  · intro z
    rcases Nat.eq_zero_or_pos hr with q | q
    · exact q
    · obtain ⟨a1, a2, a3, _⟩ := hm.2.2.2 q
      have h1 := a1.1.2.2.2.2.2.2.2.2.2.2.2.2.2.2 (by omega)
      have h2 := a1.1.2.1
      rw [a3] at z
      exact absurd ((nI_eq (b := 0) (by omega) (by omega)).mp z) (by omega)
  · intro z; exact (hm.2.2.1 z).1
theorem mhC.f {S : Nat → Nat → Int32} {hr : Nat} {h : hS} (hm : mhC S hr h) : S 54 12 = (if hr = 0 then 0 else nI (hNd h)) ∧ S 54 13 = (if hr = 0 then 0 else nI (hNs h)) ∧ S 54 15 = (if hr = 0 then 0 else nI (hBa h)) ∧ S 54 14 = (if hr = 0 then -1 else nI (hLo h)) := by
  by_cases z : hr = 0
  · obtain ⟨a1, a2, a3, a4⟩ := hm.2.2.1 z
    rw [if_pos z, if_pos z, if_pos z, if_pos z]; exact ⟨a1, a2, a4, a3⟩
  · obtain ⟨_, _, a1, a2, a3, a4, _⟩ := hm.2.2.2 (by omega)
    rw [if_neg z, if_neg z, if_neg z, if_neg z]; exact ⟨a1, a2, a4, a3⟩
/-- what of the reference's own fields others don't read -/
theorem rwC.to {S S' : Nat → Nat → Int32} {m r k : Nat} {l : lS} (h : rwC S m r k l) (hm : S' m = S m) (hr : S' r = S r) : rwC S' m r k l := fun i hi => by rw [hm, hr]; exact h i hi
/-- cells that nobody reads: what was read last, the life tried, the seed, the hash -/
theorem MS.scr {S S' : Nat → Nat → Int32} {s : sS} (h : MS S s) (hj : ∀ j, 54 < j → ¬ (56 ≤ j ∧ j < 60) → ¬ (69 ≤ j ∧ j < 71) → S' j = S j) (hf : ∀ f, ¬ (6 ≤ f ∧ f < 12) → ¬ f = 29 → ¬ f = 30 → ¬ f = 36 → S' 54 f = S 54 f) : MS S' s := by
  obtain ⟨hpg, hho, hpp, htk, hgl, hsd, him, hno⟩ := h
  have c : ∀ j, 54 < j → ¬ (56 ≤ j ∧ j < 60) → ¬ (69 ≤ j ∧ j < 71) → S' j = S j := hj
  refine ⟨⟨by rw [hf 1 (by omega) (by omega) (by omega) (by omega)]; exact hpg.1, hpg.2.1, by rw [c 55 (by omega) (by omega) (by omega)]; exact hpg.2.2.1, hpg.2.2.2⟩, ?_, ?_, ?_, ?_, ?_, ?_, hno⟩
  · unfold mhC
    rw [hf 16 (by omega) (by omega) (by omega) (by omega), hf 12 (by omega) (by omega) (by omega) (by omega), hf 13 (by omega) (by omega) (by omega) (by omega), hf 14 (by omega) (by omega) (by omega) (by omega), hf 15 (by omega) (by omega) (by omega) (by omega), c 60 (by omega) (by omega) (by omega), c 61 (by omega) (by omega) (by omega), c 62 (by omega) (by omega) (by omega), c 63 (by omega) (by omega) (by omega)]
    exact hho
  · unfold mpC rwC
    rw [hf 21 (by omega) (by omega) (by omega) (by omega), c 64 (by omega) (by omega) (by omega), c 65 (by omega) (by omega) (by omega), c 66 (by omega) (by omega) (by omega), c 67 (by omega) (by omega) (by omega), c 68 (by omega) (by omega) (by omega)]
    exact hpp
  · unfold mtR
    rw [hf 31 (by omega) (by omega) (by omega) (by omega), c 71 (by omega) (by omega) (by omega)]
    exact htk
  · unfold mgR
    rw [hf 34 (by omega) (by omega) (by omega) (by omega), c 72 (by omega) (by omega) (by omega)]
    exact hgl
  · rw [hf 33 (by omega) (by omega) (by omega) (by omega)]; exact hsd
  · unfold miC rwC mtR mgR
    rw [hf 37 (by omega) (by omega) (by omega) (by omega), hf 38 (by omega) (by omega) (by omega) (by omega), hf 39 (by omega) (by omega) (by omega) (by omega), hf 40 (by omega) (by omega) (by omega) (by omega), c 73 (by omega) (by omega) (by omega), c 74 (by omega) (by omega) (by omega), c 75 (by omega) (by omega) (by omega), c 76 (by omega) (by omega) (by omega), c 77 (by omega) (by omega) (by omega), c 78 (by omega) (by omega) (by omega)]
    exact him


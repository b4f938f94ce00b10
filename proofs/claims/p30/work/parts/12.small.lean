variable {τ : List xSh}
/-! ===== small methods of the class ===== -/
abbrev rg (x : Int32) (n : Nat) : Prop := 0 ≤ x.toInt ∧ x.toInt < (n : Int)
theorem rg_nI {x : Int32} {n : Nat} (h : rg x n) (hn : n < 2 ^ 31) : ∃ j, j < n ∧ x = nI j := vp_in_of (vp_in_iff.mpr h) hn
theorem rg_of {j n : Nat} (h : j < n) (hn : n < 2 ^ 31) : rg (nI j) n := vp_in_iff.mp (vp_in_nI h hn)
/-- a spot's minute, room; none stays none -/
def xmin (x : Int32) : Int32 := if x = -1 then -1 else x / 6
def xroom (x : Int32) : Int32 := if x = -1 then -1 else x - x / 6 * 6
/-- the digit that a letter tells -/
def xdig (x lo hi : Int32) : Int32 := if lo ≤ x - 48 ∧ x - 48 ≤ hi then x - 48 else -1
theorem i32_toInt_m1 : (-1 : Int32).toInt = -1 := by decide
theorem nI_m1 {n : Nat} (h : n < 2 ^ 31) : ¬ nI n = -1 := by
  intro q
  have a := nI_toInt h
  rw [q, i32_toInt_m1] at a
  omega
theorem nI_div6 {n : Nat} (h : n < 2 ^ 31) : nI n / 6 = nI (n / 6) := by
  rw [i32_ext, Int32.toInt_div_of_ne_right _ _ (by decide), nI_toInt h, nI_toInt (by omega), show (6 : Int32).toInt = 6 from rfl, Int.tdiv_eq_ediv_of_nonneg (by omega)]
  omega
theorem xmin_nI {m r : Nat} (hm : m < 60) (hr : r < 6) : xmin (nI (m * 6 + r)) = nI m := by
  unfold xmin
  rw [if_neg (nI_m1 (by omega)), nI_div6 (by omega)]
  congr 1; omega
theorem xroom_nI {m r : Nat} (hm : m < 60) (hr : r < 6) : xroom (nI (m * 6 + r)) = nI r := by
  unfold xroom
  rw [if_neg (nI_m1 (by omega)), nI_div6 (by omega), show (6 : Int32) = nI 6 from rfl, nI_mul, nI_sub (by omega)]
  congr 1; omega

set_option maxRecDepth 100000 in
set_option maxHeartbeats 400000 in
theorem c_X9_isRoom (d : Nat) (S : Nat → Nat → Int32) (G : Nat → Nat → Int64) (x : Int32) : xR τ d mX9_isRoom [.int x] S G (some (.int (xb (rg x 6)))) S G := by
  refine xC.of okX9_isRoom (Nat.le_of_ble_eq_true rfl) (L := [_]) rfl ?_
  refine xA.iload_n (i := 0) rfl rfl rfl rfl ?_
  refine xA.if_lt (tgt := 14) rfl rfl rfl (fun h1 => ?_) (fun h1 => ?_)
  · refine xA.iconst (v := 0) rfl (by decide) rfl ?_
    exact xA.iret rfl rfl rfl ⟨by first | (rw [xb_t (by simp only [Int32.lt_iff_toInt_lt, Int32.le_iff_toInt_le, i32_ext, Int32.reduceToInt] at *; omega)]; done) | (rw [xb_f (by simp only [Int32.lt_iff_toInt_lt, Int32.le_iff_toInt_le, i32_ext, Int32.reduceToInt] at *; omega)]; done), rfl⟩
  · refine xA.iload_n (i := 0) rfl rfl rfl rfl ?_
    refine xA.bipush (v := 6) rfl (by decide) rfl ?_
    refine xA.icmp_ge (tgt := 14) rfl rfl rfl (fun h7 => ?_) (fun h7 => ?_)
    · refine xA.iconst (v := 0) rfl (by decide) rfl ?_
      exact xA.iret rfl rfl rfl ⟨by first | (rw [xb_t (by simp only [Int32.lt_iff_toInt_lt, Int32.le_iff_toInt_le, i32_ext, Int32.reduceToInt] at *; omega)]; done) | (rw [xb_f (by simp only [Int32.lt_iff_toInt_lt, Int32.le_iff_toInt_le, i32_ext, Int32.reduceToInt] at *; omega)]; done), rfl⟩
    · refine xA.iconst (v := 1) rfl (by decide) rfl ?_
      refine xA.goto (q := 15) rfl rfl ?_
      exact xA.iret rfl rfl rfl ⟨by first | (rw [xb_t (by simp only [Int32.lt_iff_toInt_lt, Int32.le_iff_toInt_le, i32_ext, Int32.reduceToInt] at *; omega)]; done) | (rw [xb_f (by simp only [Int32.lt_iff_toInt_lt, Int32.le_iff_toInt_le, i32_ext, Int32.reduceToInt] at *; omega)]; done), rfl⟩
set_option maxRecDepth 100000 in
set_option maxHeartbeats 400000 in
theorem c_X9_isMinute (d : Nat) (S : Nat → Nat → Int32) (G : Nat → Nat → Int64) (x : Int32) : xR τ d mX9_isMinute [.int x] S G (some (.int (xb (rg x 60)))) S G := by
  refine xC.of okX9_isMinute (Nat.le_of_ble_eq_true rfl) (L := [_]) rfl ?_
  refine xA.iload_n (i := 0) rfl rfl rfl rfl ?_
  refine xA.if_lt (tgt := 14) rfl rfl rfl (fun h1 => ?_) (fun h1 => ?_)
  · refine xA.iconst (v := 0) rfl (by decide) rfl ?_
    exact xA.iret rfl rfl rfl ⟨by first | (rw [xb_t (by simp only [Int32.lt_iff_toInt_lt, Int32.le_iff_toInt_le, i32_ext, Int32.reduceToInt] at *; omega)]; done) | (rw [xb_f (by simp only [Int32.lt_iff_toInt_lt, Int32.le_iff_toInt_le, i32_ext, Int32.reduceToInt] at *; omega)]; done), rfl⟩
  · refine xA.iload_n (i := 0) rfl rfl rfl rfl ?_
    refine xA.bipush (v := 60) rfl (by decide) rfl ?_
    refine xA.icmp_ge (tgt := 14) rfl rfl rfl (fun h7 => ?_) (fun h7 => ?_)
    · refine xA.iconst (v := 0) rfl (by decide) rfl ?_
      exact xA.iret rfl rfl rfl ⟨by first | (rw [xb_t (by simp only [Int32.lt_iff_toInt_lt, Int32.le_iff_toInt_le, i32_ext, Int32.reduceToInt] at *; omega)]; done) | (rw [xb_f (by simp only [Int32.lt_iff_toInt_lt, Int32.le_iff_toInt_le, i32_ext, Int32.reduceToInt] at *; omega)]; done), rfl⟩
    · refine xA.iconst (v := 1) rfl (by decide) rfl ?_
      refine xA.goto (q := 15) rfl rfl ?_
      exact xA.iret rfl rfl rfl ⟨by first | (rw [xb_t (by simp only [Int32.lt_iff_toInt_lt, Int32.le_iff_toInt_le, i32_ext, Int32.reduceToInt] at *; omega)]; done) | (rw [xb_f (by simp only [Int32.lt_iff_toInt_lt, Int32.le_iff_toInt_le, i32_ext, Int32.reduceToInt] at *; omega)]; done), rfl⟩
set_option maxRecDepth 100000 in
set_option maxHeartbeats 400000 in
theorem c_X9_isKind (d : Nat) (S : Nat → Nat → Int32) (G : Nat → Nat → Int64) (x : Int32) : xR τ d mX9_isKind [.int x] S G (some (.int (xb (rg x 5)))) S G := by
  refine xC.of okX9_isKind (Nat.le_of_ble_eq_true rfl) (L := [_]) rfl ?_
  refine xA.iload_n (i := 0) rfl rfl rfl rfl ?_
  refine xA.if_lt (tgt := 13) rfl rfl rfl (fun h1 => ?_) (fun h1 => ?_)
  · refine xA.iconst (v := 0) rfl (by decide) rfl ?_
    exact xA.iret rfl rfl rfl ⟨by first | (rw [xb_t (by simp only [Int32.lt_iff_toInt_lt, Int32.le_iff_toInt_le, i32_ext, Int32.reduceToInt] at *; omega)]; done) | (rw [xb_f (by simp only [Int32.lt_iff_toInt_lt, Int32.le_iff_toInt_le, i32_ext, Int32.reduceToInt] at *; omega)]; done), rfl⟩
  · refine xA.iload_n (i := 0) rfl rfl rfl rfl ?_
    refine xA.iconst (v := 5) rfl (by decide) rfl ?_
    refine xA.icmp_ge (tgt := 13) rfl rfl rfl (fun h6 => ?_) (fun h6 => ?_)
    · refine xA.iconst (v := 0) rfl (by decide) rfl ?_
      exact xA.iret rfl rfl rfl ⟨by first | (rw [xb_t (by simp only [Int32.lt_iff_toInt_lt, Int32.le_iff_toInt_le, i32_ext, Int32.reduceToInt] at *; omega)]; done) | (rw [xb_f (by simp only [Int32.lt_iff_toInt_lt, Int32.le_iff_toInt_le, i32_ext, Int32.reduceToInt] at *; omega)]; done), rfl⟩
    · refine xA.iconst (v := 1) rfl (by decide) rfl ?_
      refine xA.goto (q := 14) rfl rfl ?_
      exact xA.iret rfl rfl rfl ⟨by first | (rw [xb_t (by simp only [Int32.lt_iff_toInt_lt, Int32.le_iff_toInt_le, i32_ext, Int32.reduceToInt] at *; omega)]; done) | (rw [xb_f (by simp only [Int32.lt_iff_toInt_lt, Int32.le_iff_toInt_le, i32_ext, Int32.reduceToInt] at *; omega)]; done), rfl⟩
set_option maxRecDepth 100000 in
set_option maxHeartbeats 400000 in
theorem c_X9_isOfKind (d : Nat) (S : Nat → Nat → Int32) (G : Nat → Nat → Int64) (x y : Int32) : xR τ d mX9_isOfKind [.int x, .int y] S G (some (.int (xb (y = 0 ∨ y = x ∨ (y = 3 ∧ x = 4))))) S G := by
  refine xC.of okX9_isOfKind (Nat.le_of_ble_eq_true rfl) (L := [_, _]) rfl ?_
  refine xA.iload_n (i := 1) rfl rfl rfl rfl ?_
  refine xA.if_eq (tgt := 19) rfl rfl rfl (fun h1 => ?_) (fun h1 => ?_)
  · refine xA.iconst (v := 1) rfl (by decide) rfl ?_
    refine xA.goto (q := 24) rfl rfl ?_
    exact xA.iret rfl rfl rfl ⟨by first | (rw [xb_t (by simp only [Int32.lt_iff_toInt_lt, Int32.le_iff_toInt_le, i32_ext, Int32.reduceToInt] at *; omega)]; done) | (rw [xb_f (by simp only [Int32.lt_iff_toInt_lt, Int32.le_iff_toInt_le, i32_ext, Int32.reduceToInt] at *; omega)]; done), rfl⟩
  · refine xA.iload_n (i := 1) rfl rfl rfl rfl ?_
    refine xA.iload_n (i := 0) rfl rfl rfl rfl ?_
    refine xA.icmp_eq (tgt := 19) rfl rfl rfl (fun h6 => ?_) (fun h6 => ?_)
    · refine xA.iconst (v := 1) rfl (by decide) rfl ?_
      refine xA.goto (q := 24) rfl rfl ?_
      exact xA.iret rfl rfl rfl ⟨by first | (rw [xb_t (by simp only [Int32.lt_iff_toInt_lt, Int32.le_iff_toInt_le, i32_ext, Int32.reduceToInt] at *; omega)]; done) | (rw [xb_f (by simp only [Int32.lt_iff_toInt_lt, Int32.le_iff_toInt_le, i32_ext, Int32.reduceToInt] at *; omega)]; done), rfl⟩
    · refine xA.iload_n (i := 1) rfl rfl rfl rfl ?_
      refine xA.iconst (v := 3) rfl (by decide) rfl ?_
      refine xA.icmp_ne (tgt := 23) rfl rfl rfl (fun h11 => ?_) (fun h11 => ?_)
      · refine xA.iconst (v := 0) rfl (by decide) rfl ?_
        exact xA.iret rfl rfl rfl ⟨by first | (rw [xb_t (by simp only [Int32.lt_iff_toInt_lt, Int32.le_iff_toInt_le, i32_ext, Int32.reduceToInt] at *; omega)]; done) | (rw [xb_f (by simp only [Int32.lt_iff_toInt_lt, Int32.le_iff_toInt_le, i32_ext, Int32.reduceToInt] at *; omega)]; done), rfl⟩
      · refine xA.iload_n (i := 0) rfl rfl rfl rfl ?_
        refine xA.iconst (v := 4) rfl (by decide) rfl ?_
        refine xA.icmp_ne (tgt := 23) rfl rfl rfl (fun h16 => ?_) (fun h16 => ?_)
        · refine xA.iconst (v := 0) rfl (by decide) rfl ?_
          exact xA.iret rfl rfl rfl ⟨by first | (rw [xb_t (by simp only [Int32.lt_iff_toInt_lt, Int32.le_iff_toInt_le, i32_ext, Int32.reduceToInt] at *; omega)]; done) | (rw [xb_f (by simp only [Int32.lt_iff_toInt_lt, Int32.le_iff_toInt_le, i32_ext, Int32.reduceToInt] at *; omega)]; done), rfl⟩
        · refine xA.iconst (v := 1) rfl (by decide) rfl ?_
          refine xA.goto (q := 24) rfl rfl ?_
          exact xA.iret rfl rfl rfl ⟨by first | (rw [xb_t (by simp only [Int32.lt_iff_toInt_lt, Int32.le_iff_toInt_le, i32_ext, Int32.reduceToInt] at *; omega)]; done) | (rw [xb_f (by simp only [Int32.lt_iff_toInt_lt, Int32.le_iff_toInt_le, i32_ext, Int32.reduceToInt] at *; omega)]; done), rfl⟩
set_option maxRecDepth 100000 in
set_option maxHeartbeats 400000 in
theorem c_X9_spotOf (d : Nat) (S : Nat → Nat → Int32) (G : Nat → Nat → Int64) (x y : Int32) : xR τ d mX9_spotOf [.int x, .int y] S G (some (.int (x * 6 + y))) S G := by
  refine xC.of okX9_spotOf (Nat.le_of_ble_eq_true rfl) (L := [_, _]) rfl ?_
  refine xA.iload_n (i := 0) rfl rfl rfl rfl ?_
  refine xA.bipush (v := 6) rfl (by decide) rfl ?_
  refine xA.imul rfl rfl ?_
  refine xA.iload_n (i := 1) rfl rfl rfl rfl ?_
  refine xA.iadd rfl rfl ?_
  exact xA.iret rfl rfl rfl ⟨rfl, rfl⟩
set_option maxRecDepth 100000 in
set_option maxHeartbeats 400000 in
theorem c_X9_minuteOf (d : Nat) (S : Nat → Nat → Int32) (G : Nat → Nat → Int64) (x : Int32) : xR τ d mX9_minuteOf [.int x] S G (some (.int (xmin x))) S G := by
  refine xC.of okX9_minuteOf (Nat.le_of_ble_eq_true rfl) (L := [_]) rfl ?_
  refine xA.iload_n (i := 0) rfl rfl rfl rfl ?_
  refine xA.iconst (v := (-1)) rfl (by decide) rfl ?_
  refine xA.icmp_ne (tgt := 9) rfl rfl rfl (fun h2 => ?_) (fun h2 => ?_)
  · refine xA.iload_n (i := 0) rfl rfl rfl rfl ?_
    refine xA.bipush (v := 6) rfl (by decide) rfl ?_
    refine xA.idiv rfl (by decide) rfl ?_
    exact xA.iret rfl rfl rfl ⟨by simp [xmin, *], rfl⟩
  · refine xA.iconst (v := (-1)) rfl (by decide) rfl ?_
    refine xA.goto (q := 13) rfl rfl ?_
    exact xA.iret rfl rfl rfl ⟨by simp [xmin, *], rfl⟩
set_option maxRecDepth 100000 in
set_option maxHeartbeats 400000 in
theorem c_X9_roomOf (d : Nat) (S : Nat → Nat → Int32) (G : Nat → Nat → Int64) (x : Int32) : xR τ d mX9_roomOf [.int x] S G (some (.int (xroom x))) S G := by
  refine xC.of okX9_roomOf (Nat.le_of_ble_eq_true rfl) (L := [_]) rfl ?_
  refine xA.iload_n (i := 0) rfl rfl rfl rfl ?_
  refine xA.iconst (v := (-1)) rfl (by decide) rfl ?_
  refine xA.icmp_ne (tgt := 9) rfl rfl rfl (fun h2 => ?_) (fun h2 => ?_)
  · refine xA.iload_n (i := 0) rfl rfl rfl rfl ?_
    refine xA.bipush (v := 6) rfl (by decide) rfl ?_
    refine xA.irem rfl (by decide) rfl ?_
    exact xA.iret rfl rfl rfl ⟨by simp [xroom, *], rfl⟩
  · refine xA.iconst (v := (-1)) rfl (by decide) rfl ?_
    refine xA.goto (q := 13) rfl rfl ?_
    exact xA.iret rfl rfl rfl ⟨by simp [xroom, *], rfl⟩
set_option maxRecDepth 100000 in
set_option maxHeartbeats 400000 in
theorem c_X9_digitOf (d : Nat) (S : Nat → Nat → Int32) (G : Nat → Nat → Int64) (x lo hi : Int32) : xR τ d mX9_digitOf [.int x, .int lo, .int hi] S G (some (.int (xdig x lo hi))) S G := by
  refine xC.of okX9_digitOf (Nat.le_of_ble_eq_true rfl) (L := [_, _, _, _]) rfl ?_
  refine xA.iload_n (i := 0) rfl rfl rfl rfl ?_
  refine xA.bipush (v := 48) rfl (by decide) rfl ?_
  refine xA.isub rfl rfl ?_
  refine xA.istore_n (i := 3) (L' := [_, _, _, _]) rfl rfl (Nat.le_of_ble_eq_true rfl) rfl rfl ?_
  refine xA.iload_n (i := 3) rfl rfl rfl rfl ?_
  refine xA.iload_n (i := 1) rfl rfl rfl rfl ?_
  refine xA.icmp_lt (tgt := 19) rfl rfl rfl (fun h7 => ?_) (fun h7 => ?_)
  · refine xA.iconst (v := (-1)) rfl (by decide) rfl ?_
    exact xA.iret rfl rfl rfl ⟨by unfold xdig; first | (rw [if_pos (by simp only [Int32.lt_iff_toInt_lt, Int32.le_iff_toInt_le, i32_ext, Int32.reduceToInt] at *; omega)]; done) | (rw [if_neg (by simp only [Int32.lt_iff_toInt_lt, Int32.le_iff_toInt_le, i32_ext, Int32.reduceToInt] at *; omega)]; done), rfl⟩
  · refine xA.iload_n (i := 3) rfl rfl rfl rfl ?_
    refine xA.iload_n (i := 2) rfl rfl rfl rfl ?_
    refine xA.icmp_gt (tgt := 19) rfl rfl rfl (fun h12 => ?_) (fun h12 => ?_)
    · refine xA.iconst (v := (-1)) rfl (by decide) rfl ?_
      exact xA.iret rfl rfl rfl ⟨by unfold xdig; first | (rw [if_pos (by simp only [Int32.lt_iff_toInt_lt, Int32.le_iff_toInt_le, i32_ext, Int32.reduceToInt] at *; omega)]; done) | (rw [if_neg (by simp only [Int32.lt_iff_toInt_lt, Int32.le_iff_toInt_le, i32_ext, Int32.reduceToInt] at *; omega)]; done), rfl⟩
    · refine xA.iload_n (i := 3) rfl rfl rfl rfl ?_
      refine xA.goto (q := 20) rfl rfl ?_
      exact xA.iret rfl rfl rfl ⟨by unfold xdig; first | (rw [if_pos (by simp only [Int32.lt_iff_toInt_lt, Int32.le_iff_toInt_le, i32_ext, Int32.reduceToInt] at *; omega)]; done) | (rw [if_neg (by simp only [Int32.lt_iff_toInt_lt, Int32.le_iff_toInt_le, i32_ext, Int32.reduceToInt] at *; omega)]; done), rfl⟩
set_option maxRecDepth 100000 in
set_option maxHeartbeats 400000 in
theorem c_X9_roomDigitOf (d : Nat) (S : Nat → Nat → Int32) (G : Nat → Nat → Int64) (x : Int32) : xR τ (d + 1) mX9_roomDigitOf [.int x] S G (some (.int (xdig x 0 5))) S G := by
  refine xC.of okX9_roomDigitOf (Nat.le_of_ble_eq_true rfl) (L := [_]) rfl ?_
  refine xA.iload_n (i := 0) rfl rfl rfl rfl ?_
  refine xA.iconst (v := 0) rfl (by decide) rfl ?_
  refine xA.iconst (v := 5) rfl (by decide) rfl ?_
  refine xA.callSi (As := [_, _, _]) rfl k9_334 okX9_digitOf rfl rfl (Nat.le_of_ble_eq_true rfl) (c_X9_digitOf d S G _ _ _) rfl rfl ?_
  exact xA.iret rfl rfl rfl ⟨rfl, rfl⟩
set_option maxRecDepth 100000 in
set_option maxHeartbeats 400000 in
theorem c_X9_hasHouse (d : Nat) (S : Nat → Nat → Int32) (G : Nat → Nat → Int64)  : xR τ d mX9_hasHouse [.ref 0] S G (some (.int (xb (0 < S 0 11)))) S G := by
  refine xC.of okX9_hasHouse (Nat.le_of_ble_eq_true rfl) (L := [_]) rfl ?_
  refine xA.aload_n (i := 0) rfl rfl rfl rfl ?_
  refine xA.getI rfl f9_101 rfl rfl rfl ?_
  refine xA.if_le (tgt := 11) rfl rfl rfl (fun h4 => ?_) (fun h4 => ?_)
  · refine xA.iconst (v := 0) rfl (by decide) rfl ?_
    exact xA.iret rfl rfl rfl ⟨by simp [xb, *], rfl⟩
  · refine xA.iconst (v := 1) rfl (by decide) rfl ?_
    refine xA.goto (q := 12) rfl rfl ?_
    exact xA.iret rfl rfl rfl ⟨by simp [xb, *], rfl⟩
set_option maxRecDepth 100000 in
set_option maxHeartbeats 400000 in
theorem c_X4_length (d : Nat) (S : Nat → Nat → Int32) (G : Nat → Nat → Int64)  : xR τ d mX4_length [.ref 1] S G (some (.int (S 1 1))) S G := by
  refine xC.of okX4_length (Nat.le_of_ble_eq_true rfl) (L := [_]) rfl ?_
  refine xA.aload_n (i := 0) rfl rfl rfl rfl ?_
  refine xA.getI rfl f4_21 rfl rfl rfl ?_
  exact xA.iret rfl rfl rfl ⟨rfl, rfl⟩
set_option maxRecDepth 100000 in
set_option maxHeartbeats 400000 in
theorem c_X4_clear (d : Nat) (S : Nat → Nat → Int32) (G : Nat → Nat → Int64)  : xR τ d mX4_clear [.ref 1] S G none (xu S 1 1 0) G := by
  refine xC.of okX4_clear (Nat.le_of_ble_eq_true rfl) (L := [_]) rfl ?_
  refine xA.aload_n (i := 0) rfl rfl rfl rfl ?_
  refine xA.iconst (v := 0) rfl (by decide) rfl ?_
  refine xA.putI rfl p4_21 rfl rfl rfl ?_
  exact xA.vret rfl rfl ⟨rfl, rfl⟩
set_option maxRecDepth 100000 in
set_option maxHeartbeats 400000 in
theorem c_X8_begin (d : Nat) (S : Nat → Nat → Int32) (G : Nat → Nat → Int64) (x y : Int32) : xR τ d mX8_begin [.ref 41, .int x, .int y] S G none (xu (xu (xu S 41 0 x) 41 1 0) 41 2 y) G := by
  refine xC.of okX8_begin (Nat.le_of_ble_eq_true rfl) (L := [_, _, _]) rfl ?_
  refine xA.aload_n (i := 0) rfl rfl rfl rfl ?_
  refine xA.iload_n (i := 1) rfl rfl rfl rfl ?_
  refine xA.putI rfl p8_9 rfl rfl rfl ?_
  refine xA.aload_n (i := 0) rfl rfl rfl rfl ?_
  refine xA.iconst (v := 0) rfl (by decide) rfl ?_
  refine xA.putI rfl p8_15 rfl rfl rfl ?_
  refine xA.aload_n (i := 0) rfl rfl rfl rfl ?_
  refine xA.iload_n (i := 2) rfl rfl rfl rfl ?_
  refine xA.putI rfl p8_18 rfl rfl rfl ?_
  exact xA.vret rfl rfl ⟨rfl, rfl⟩
/-- the shapes of a house, a life, tasks, glimpses, a person, by the number of the first cell -/
def isHouse (τ : List xSh) (k : Nat) : Prop := (σF τ)[k]? = some (.inl (1, [some (k + 1), some (k + 2), none, none, none, none, none, none])) ∧ (σF τ)[k + 1]? = some (.inr (.inl 36)) ∧ (σF τ)[k + 2]? = some (.inr (.inl 6))
def isLife (τ : List xSh) (k : Nat) : Prop := (σF τ)[k]? = some (.inl (3, [some (k + 1), none, none, none])) ∧ (σF τ)[k + 1]? = some (.inr (.inl 17))
def isTasks (τ : List xSh) (k : Nat) : Prop := (σF τ)[k]? = some (.inl (7, [some (k + 1), some (k + 2), some (k + 3), none])) ∧ (σF τ)[k + 1]? = some (.inr (.inl 5)) ∧ (σF τ)[k + 2]? = some (.inr (.inl 5)) ∧ (σF τ)[k + 3]? = some (.inr (.inl 5))
def isGlim (τ : List xSh) (k : Nat) : Prop := (σF τ)[k]? = some (.inl (0, [some (k + 1), none])) ∧ (σF τ)[k + 1]? = some (.inr (.inl 8))
def isPers (τ : List xSh) (k : Nat) : Prop := (σF τ)[k]? = some (.inl (5, [some (k + 1), none])) ∧ isLife τ (k + 1)
set_option maxRecDepth 100000 in
set_option maxHeartbeats 400000 in
theorem c_X1_doors (d : Nat) (S : Nat → Nat → Int32) (G : Nat → Nat → Int64) (k : Nat) (hk : isHouse τ k) : xR τ d mX1_doors [.ref k] S G (some (.int (S k 2))) S G := by
  refine xC.of okX1_doors (Nat.le_of_ble_eq_true rfl) (L := [_]) rfl ?_
  refine xA.aload_n (i := 0) rfl rfl rfl rfl ?_
  refine xA.getI rfl f1_42 hk.1 rfl rfl ?_
  exact xA.iret rfl rfl rfl ⟨rfl, rfl⟩
set_option maxRecDepth 100000 in
set_option maxHeartbeats 400000 in
theorem c_X1_sights (d : Nat) (S : Nat → Nat → Int32) (G : Nat → Nat → Int64) (k : Nat) (hk : isHouse τ k) : xR τ d mX1_sights [.ref k] S G (some (.int (S k 3))) S G := by
  refine xC.of okX1_sights (Nat.le_of_ble_eq_true rfl) (L := [_]) rfl ?_
  refine xA.aload_n (i := 0) rfl rfl rfl rfl ?_
  refine xA.getI rfl f1_45 hk.1 rfl rfl ?_
  exact xA.iret rfl rfl rfl ⟨rfl, rfl⟩
set_option maxRecDepth 100000 in
set_option maxHeartbeats 400000 in
theorem c_X1_lowRoom (d : Nat) (S : Nat → Nat → Int32) (G : Nat → Nat → Int64) (k : Nat) (hk : isHouse τ k) : xR τ d mX1_lowRoom [.ref k] S G (some (.int (S k 4))) S G := by
  refine xC.of okX1_lowRoom (Nat.le_of_ble_eq_true rfl) (L := [_]) rfl ?_
  refine xA.aload_n (i := 0) rfl rfl rfl rfl ?_
  refine xA.getI rfl f1_18 hk.1 rfl rfl ?_
  exact xA.iret rfl rfl rfl ⟨rfl, rfl⟩
set_option maxRecDepth 100000 in
set_option maxHeartbeats 400000 in
theorem c_X1_back (d : Nat) (S : Nat → Nat → Int32) (G : Nat → Nat → Int64) (k : Nat) (hk : isHouse τ k) : xR τ d mX1_back [.ref k] S G (some (.int (S k 5))) S G := by
  refine xC.of okX1_back (Nat.le_of_ble_eq_true rfl) (L := [_]) rfl ?_
  refine xA.aload_n (i := 0) rfl rfl rfl rfl ?_
  refine xA.getI rfl f1_48 hk.1 rfl rfl ?_
  exact xA.iret rfl rfl rfl ⟨rfl, rfl⟩
set_option maxRecDepth 100000 in
set_option maxHeartbeats 400000 in
theorem c_X1_isWhole (d : Nat) (S : Nat → Nat → Int32) (G : Nat → Nat → Int64) (k : Nat) (hk : isHouse τ k) : xR τ d mX1_isWhole [.ref k] S G (some (.int (xb (S k 6 = 5 ∨ S k 6 = 8)))) S G := by
  refine xC.of okX1_isWhole (Nat.le_of_ble_eq_true rfl) (L := [_]) rfl ?_
  refine xA.aload_n (i := 0) rfl rfl rfl rfl ?_
  refine xA.getI rfl f1_39 hk.1 rfl rfl ?_
  refine xA.iconst (v := 5) rfl (by decide) rfl ?_
  refine xA.icmp_eq (tgt := 17) rfl rfl rfl (fun h5 => ?_) (fun h5 => ?_)
  · refine xA.iconst (v := 1) rfl (by decide) rfl ?_
    refine xA.goto (q := 22) rfl rfl ?_
    exact xA.iret rfl rfl rfl ⟨by simp [xb, *], rfl⟩
  · refine xA.aload_n (i := 0) rfl rfl rfl rfl ?_
    refine xA.getI rfl f1_39 hk.1 rfl rfl ?_
    refine xA.bipush (v := 8) rfl (by decide) rfl ?_
    refine xA.icmp_ne (tgt := 21) rfl rfl rfl (fun h14 => ?_) (fun h14 => ?_)
    · refine xA.iconst (v := 0) rfl (by decide) rfl ?_
      exact xA.iret rfl rfl rfl ⟨by simp [xb, *], rfl⟩
    · refine xA.iconst (v := 1) rfl (by decide) rfl ?_
      refine xA.goto (q := 22) rfl rfl ?_
      exact xA.iret rfl rfl rfl ⟨by simp [xb, *], rfl⟩
set_option maxRecDepth 100000 in
set_option maxHeartbeats 400000 in
theorem c_X1_leapOf (d : Nat) (S : Nat → Nat → Int32) (G : Nat → Nat → Int64) (k : Nat) (hk : isHouse τ k) (x : Int32) : xR τ (d + 1) mX1_leapOf [.ref k, .int x] S G (some (.int (if x = 2 then S k 5 + 1 else S k 5))) S G := by
  refine xC.of okX1_leapOf (Nat.le_of_ble_eq_true rfl) (L := [_, _]) rfl ?_
  refine xA.iload_n (i := 1) rfl rfl rfl rfl ?_
  refine xA.iconst (v := 2) rfl (by decide) rfl ?_
  refine xA.callSNi (As := [_, _]) rfl k1_82 okX9_isOfKind rfl rfl (Nat.le_of_ble_eq_true rfl) (c_X9_isOfKind d S G _ _) rfl rfl ?_
  refine xA.if_eq (tgt := 17) rfl rfl rfl (fun h5 => ?_) (fun h5 => ?_)
  · refine xA.aload_n (i := 0) rfl rfl rfl rfl ?_
    refine xA.getI rfl f1_48 hk.1 rfl rfl ?_
    exact xA.iret rfl rfl rfl ⟨by by_cases hx : x = 2 <;> simp_all [xb, eq_comm], rfl⟩
  · refine xA.aload_n (i := 0) rfl rfl rfl rfl ?_
    refine xA.getI rfl f1_48 hk.1 rfl rfl ?_
    refine xA.iconst (v := 1) rfl (by decide) rfl ?_
    refine xA.iadd rfl rfl ?_
    refine xA.goto (q := 21) rfl rfl ?_
    exact xA.iret rfl rfl rfl ⟨by by_cases hx : x = 2 <;> simp_all [xb, eq_comm], rfl⟩
set_option maxRecDepth 100000 in
set_option maxHeartbeats 400000 in
theorem c_X3_selves (d : Nat) (S : Nat → Nat → Int32) (G : Nat → Nat → Int64) (k : Nat) (hk : isLife τ k) : xR τ d mX3_selves [.ref k] S G (some (.int (S k 1))) S G := by
  refine xC.of okX3_selves (Nat.le_of_ble_eq_true rfl) (L := [_]) rfl ?_
  refine xA.aload_n (i := 0) rfl rfl rfl rfl ?_
  refine xA.getI rfl f3_79 hk.1 rfl rfl ?_
  exact xA.iret rfl rfl rfl ⟨rfl, rfl⟩
set_option maxRecDepth 100000 in
set_option maxHeartbeats 400000 in
theorem c_X3_throughs (d : Nat) (S : Nat → Nat → Int32) (G : Nat → Nat → Int64) (k : Nat) (hk : isLife τ k) : xR τ d mX3_throughs [.ref k] S G (some (.int (S k 2))) S G := by
  refine xC.of okX3_throughs (Nat.le_of_ble_eq_true rfl) (L := [_]) rfl ?_
  refine xA.aload_n (i := 0) rfl rfl rfl rfl ?_
  refine xA.getI rfl f3_66 hk.1 rfl rfl ?_
  exact xA.iret rfl rfl rfl ⟨rfl, rfl⟩
set_option maxRecDepth 100000 in
set_option maxHeartbeats 400000 in
theorem c_X3_clear (d : Nat) (S : Nat → Nat → Int32) (G : Nat → Nat → Int64) (k : Nat) (hk : isLife τ k) : xR τ d mX3_clear [.ref k] S G none (xu (xu (xu S k 1 0) k 2 0) k 3 0) G := by
  refine xC.of okX3_clear (Nat.le_of_ble_eq_true rfl) (L := [_]) rfl ?_
  refine xA.aload_n (i := 0) rfl rfl rfl rfl ?_
  refine xA.iconst (v := 0) rfl (by decide) rfl ?_
  refine xA.putI rfl p3_79 hk.1 rfl rfl ?_
  refine xA.aload_n (i := 0) rfl rfl rfl rfl ?_
  refine xA.iconst (v := 0) rfl (by decide) rfl ?_
  refine xA.putI rfl p3_66 hk.1 rfl rfl ?_
  refine xA.aload_n (i := 0) rfl rfl rfl rfl ?_
  refine xA.iconst (v := 0) rfl (by decide) rfl ?_
  refine xA.putI rfl p3_70 hk.1 rfl rfl ?_
  exact xA.vret rfl rfl ⟨rfl, rfl⟩
set_option maxRecDepth 100000 in
set_option maxHeartbeats 400000 in
theorem c_X3_usesDoor (d : Nat) (S : Nat → Nat → Int32) (G : Nat → Nat → Int64) (k : Nat) (hk : isLife τ k) (x : Int32) : xR τ d mX3_usesDoor [.ref k, .int x] S G (some (.int (xb (¬ ((S k 3 >>> (x &&& 31)) &&& 1 = 0))))) S G := by
  refine xC.of okX3_usesDoor (Nat.le_of_ble_eq_true rfl) (L := [_, _]) rfl ?_
  refine xA.aload_n (i := 0) rfl rfl rfl rfl ?_
  refine xA.getI rfl f3_70 hk.1 rfl rfl ?_
  refine xA.iload_n (i := 1) rfl rfl rfl rfl ?_
  refine xA.ishr rfl rfl ?_
  refine xA.iconst (v := 1) rfl (by decide) rfl ?_
  refine xA.iand rfl rfl ?_
  refine xA.if_eq (tgt := 15) rfl rfl rfl (fun h8 => ?_) (fun h8 => ?_)
  · refine xA.iconst (v := 0) rfl (by decide) rfl ?_
    exact xA.iret rfl rfl rfl ⟨by simp [xb, *], rfl⟩
  · refine xA.iconst (v := 1) rfl (by decide) rfl ?_
    refine xA.goto (q := 16) rfl rfl ?_
    exact xA.iret rfl rfl rfl ⟨by simp [xb, *], rfl⟩
set_option maxRecDepth 100000 in
set_option maxHeartbeats 400000 in
theorem c_X7_size (d : Nat) (S : Nat → Nat → Int32) (G : Nat → Nat → Int64) (k : Nat) (hk : isTasks τ k) : xR τ d mX7_size [.ref k] S G (some (.int (S k 3))) S G := by
  refine xC.of okX7_size (Nat.le_of_ble_eq_true rfl) (L := [_]) rfl ?_
  refine xA.aload_n (i := 0) rfl rfl rfl rfl ?_
  refine xA.getI rfl f7_21 hk.1 rfl rfl ?_
  exact xA.iret rfl rfl rfl ⟨rfl, rfl⟩
set_option maxRecDepth 100000 in
set_option maxHeartbeats 400000 in
theorem c_X7_clear (d : Nat) (S : Nat → Nat → Int32) (G : Nat → Nat → Int64) (k : Nat) (hk : isTasks τ k) : xR τ d mX7_clear [.ref k] S G none (xu S k 3 0) G := by
  refine xC.of okX7_clear (Nat.le_of_ble_eq_true rfl) (L := [_]) rfl ?_
  refine xA.aload_n (i := 0) rfl rfl rfl rfl ?_
  refine xA.iconst (v := 0) rfl (by decide) rfl ?_
  refine xA.putI rfl p7_21 hk.1 rfl rfl ?_
  exact xA.vret rfl rfl ⟨rfl, rfl⟩
set_option maxRecDepth 100000 in
set_option maxHeartbeats 400000 in
theorem c_X0_size (d : Nat) (S : Nat → Nat → Int32) (G : Nat → Nat → Int64) (k : Nat) (hk : isGlim τ k) : xR τ d mX0_size [.ref k] S G (some (.int (S k 1))) S G := by
  refine xC.of okX0_size (Nat.le_of_ble_eq_true rfl) (L := [_]) rfl ?_
  refine xA.aload_n (i := 0) rfl rfl rfl rfl ?_
  refine xA.getI rfl f0_15 hk.1 rfl rfl ?_
  exact xA.iret rfl rfl rfl ⟨rfl, rfl⟩
set_option maxRecDepth 100000 in
set_option maxHeartbeats 400000 in
theorem c_X0_clear (d : Nat) (S : Nat → Nat → Int32) (G : Nat → Nat → Int64) (k : Nat) (hk : isGlim τ k) : xR τ d mX0_clear [.ref k] S G none (xu S k 1 0) G := by
  refine xC.of okX0_clear (Nat.le_of_ble_eq_true rfl) (L := [_]) rfl ?_
  refine xA.aload_n (i := 0) rfl rfl rfl rfl ?_
  refine xA.iconst (v := 0) rfl (by decide) rfl ?_
  refine xA.putI rfl p0_15 hk.1 rfl rfl ?_
  exact xA.vret rfl rfl ⟨rfl, rfl⟩
set_option maxRecDepth 100000 in
set_option maxHeartbeats 400000 in
theorem c_X5_kind (d : Nat) (S : Nat → Nat → Int32) (G : Nat → Nat → Int64) (k : Nat) (hk : isPers τ k) : xR τ d mX5_kind [.ref k] S G (some (.int (S k 1))) S G := by
  refine xC.of okX5_kind (Nat.le_of_ble_eq_true rfl) (L := [_]) rfl ?_
  refine xA.aload_n (i := 0) rfl rfl rfl rfl ?_
  refine xA.getI rfl f5_18 hk.1 rfl rfl ?_
  exact xA.iret rfl rfl rfl ⟨rfl, rfl⟩
set_option maxRecDepth 100000 in
set_option maxHeartbeats 400000 in
theorem c_X5_lived (d : Nat) (S : Nat → Nat → Int32) (G : Nat → Nat → Int64) (k : Nat) (hk : isPers τ k) : xR τ d mX5_lived [.ref k] S G (some (.ref (k + 1))) S G := by
  refine xC.of okX5_lived (Nat.le_of_ble_eq_true rfl) (L := [_]) rfl ?_
  refine xA.aload_n (i := 0) rfl rfl rfl rfl ?_
  refine xA.getR rfl f5_12 hk.1 rfl rfl rfl ?_
  exact xA.aret rfl rfl (Or.inr ⟨_, rfl⟩) ⟨rfl, rfl⟩
set_option maxRecDepth 100000 in
set_option maxHeartbeats 400000 in
theorem c_X5_begin (d : Nat) (S : Nat → Nat → Int32) (G : Nat → Nat → Int64) (k : Nat) (hk : isPers τ k) (x : Int32) : xR τ (d + 1) mX5_begin [.ref k, .int x] S G none (xu (xu (xu (xu S k 1 x) (k + 1) 1 0) (k + 1) 2 0) (k + 1) 3 0) G := by
  refine xC.of okX5_begin (Nat.le_of_ble_eq_true rfl) (L := [_, _]) rfl ?_
  refine xA.aload_n (i := 0) rfl rfl rfl rfl ?_
  refine xA.iload_n (i := 1) rfl rfl rfl rfl ?_
  refine xA.putI rfl p5_18 hk.1 rfl rfl ?_
  refine xA.aload_n (i := 0) rfl rfl rfl rfl ?_
  refine xA.getR rfl f5_12 hk.1 rfl rfl rfl ?_
  refine xA.callVv (As := []) rfl k5_22 okX3_clear hk.2.1 rfl rfl rfl (Nat.le_of_ble_eq_true rfl) (c_X3_clear d _ G _ hk.2) rfl rfl ?_
  exact xA.vret rfl rfl ⟨rfl, rfl⟩
set_option maxRecDepth 100000 in
set_option maxHeartbeats 400000 in
theorem c_X2_drop (d : Nat) (S : Nat → Nat → Int32) (G : Nat → Nat → Int64)  : xR τ d mX2_drop [.ref 18] S G none (xu S 18 3 0) G := by
  refine xC.of okX2_drop (Nat.le_of_ble_eq_true rfl) (L := [_]) rfl ?_
  refine xA.aload_n (i := 0) rfl rfl rfl rfl ?_
  refine xA.iconst (v := 0) rfl (by decide) rfl ?_
  refine xA.putZ rfl p2_32 rfl rfl (by decide) rfl ?_
  exact xA.vret rfl rfl ⟨rfl, rfl⟩

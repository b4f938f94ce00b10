/-! ===== small methods of the class ===== -/
abbrev rg (x : Int32) (n : Nat) : Prop := 0 ≤ x.toInt ∧ x.toInt < (n : Int)
theorem rg_nI {x : Int32} {n : Nat} (h : rg x n) (hn : n < 2 ^ 31) : ∃ j, j < n ∧ x = nI j := vp_in_of (vp_in_iff.mpr h) hn
theorem rg_of {j n : Nat} (h : j < n) (hn : n < 2 ^ 31) : rg (nI j) n := vp_in_iff.mp (vp_in_nI h hn)

set_option maxRecDepth 100000 in
theorem c_X9_isRoom (d : Nat) (x : Int32) (S : Nat → Nat → Int32) (G : Nat → Nat → Int64) : xR d mX9_isRoom [.int x] S G (some (.int (xb (rg x 6)))) S G := by
  refine xC.of okX9_isRoom (Nat.le_of_ble_eq_true rfl) (L := [_]) rfl ?_
  refine xA.iload_n (i := 0) rfl rfl rfl rfl ?_
  refine xA.if_lt (tgt := 14) rfl rfl rfl (fun h1 => ?_) (fun h1 => ?_)
  · refine xA.iconst (v := 0) rfl (by decide) rfl ?_
    exact xA.iret rfl rfl rfl ⟨by first | (rw [xb_t (by simp only [Int32.lt_iff_toInt_lt, Int32.le_iff_toInt_le, i32_ext, Int32.reduceToInt] at *; omega)]; done) | (rw [xb_f (by simp only [Int32.lt_iff_toInt_lt, Int32.le_iff_toInt_le, i32_ext, Int32.reduceToInt] at *; omega)]; done), rfl⟩
  · refine xA.iload_n (i := 0) rfl rfl rfl rfl ?_
    refine xA.bipush (v := 6) rfl (by decide) rfl ?_
    refine xA.icmp_ge (tgt := 14) rfl rfl rfl (fun h7 => ?_) (fun h7 => ?_)
    · refine xA.iconst (v := 0) rfl (by decide) rfl ?_
      exact xA.iret rfl rfl rfl ⟨by first | (rw [xb_t (by simp only [Int32.lt_iff_toInt_lt, Int32.le_iff_toInt_le, i32_ext, Int32.reduceToInt] at *; omega)]; done) | (rw [xb_f (by simp only [Int32.lt_iff_toInt_lt, Int32.le_iff_toInt_le, i32_ext, Int32.reduceToInt] at *; omega)]; done), rfl⟩
    · refine xA.iconst (v := 1) rfl (by decide) rfl ?_
      refine xA.goto (q := 15) rfl rfl ?_
      exact xA.iret rfl rfl rfl ⟨by first | (rw [xb_t (by simp only [Int32.lt_iff_toInt_lt, Int32.le_iff_toInt_le, i32_ext, Int32.reduceToInt] at *; omega)]; done) | (rw [xb_f (by simp only [Int32.lt_iff_toInt_lt, Int32.le_iff_toInt_le, i32_ext, Int32.reduceToInt] at *; omega)]; done), rfl⟩

set_option maxRecDepth 100000 in
theorem c_X9_isMinute (d : Nat) (x : Int32) (S : Nat → Nat → Int32) (G : Nat → Nat → Int64) : xR d mX9_isMinute [.int x] S G (some (.int (xb (rg x 60)))) S G := by
  refine xC.of okX9_isMinute (Nat.le_of_ble_eq_true rfl) (L := [_]) rfl ?_
  refine xA.iload_n (i := 0) rfl rfl rfl rfl ?_
  refine xA.if_lt (tgt := 14) rfl rfl rfl (fun h1 => ?_) (fun h1 => ?_)
  · refine xA.iconst (v := 0) rfl (by decide) rfl ?_
    exact xA.iret rfl rfl rfl ⟨by first | (rw [xb_t (by simp only [Int32.lt_iff_toInt_lt, Int32.le_iff_toInt_le, i32_ext, Int32.reduceToInt] at *; omega)]; done) | (rw [xb_f (by simp only [Int32.lt_iff_toInt_lt, Int32.le_iff_toInt_le, i32_ext, Int32.reduceToInt] at *; omega)]; done), rfl⟩
  · refine xA.iload_n (i := 0) rfl rfl rfl rfl ?_
    refine xA.bipush (v := 60) rfl (by decide) rfl ?_
    refine xA.icmp_ge (tgt := 14) rfl rfl rfl (fun h7 => ?_) (fun h7 => ?_)
    · refine xA.iconst (v := 0) rfl (by decide) rfl ?_
      exact xA.iret rfl rfl rfl ⟨by first | (rw [xb_t (by simp only [Int32.lt_iff_toInt_lt, Int32.le_iff_toInt_le, i32_ext, Int32.reduceToInt] at *; omega)]; done) | (rw [xb_f (by simp only [Int32.lt_iff_toInt_lt, Int32.le_iff_toInt_le, i32_ext, Int32.reduceToInt] at *; omega)]; done), rfl⟩
    · refine xA.iconst (v := 1) rfl (by decide) rfl ?_
      refine xA.goto (q := 15) rfl rfl ?_
      exact xA.iret rfl rfl rfl ⟨by first | (rw [xb_t (by simp only [Int32.lt_iff_toInt_lt, Int32.le_iff_toInt_le, i32_ext, Int32.reduceToInt] at *; omega)]; done) | (rw [xb_f (by simp only [Int32.lt_iff_toInt_lt, Int32.le_iff_toInt_le, i32_ext, Int32.reduceToInt] at *; omega)]; done), rfl⟩

set_option maxRecDepth 100000 in
theorem c_X9_isKind (d : Nat) (x : Int32) (S : Nat → Nat → Int32) (G : Nat → Nat → Int64) : xR d mX9_isKind [.int x] S G (some (.int (xb (rg x 5)))) S G := by
  refine xC.of okX9_isKind (Nat.le_of_ble_eq_true rfl) (L := [_]) rfl ?_
  refine xA.iload_n (i := 0) rfl rfl rfl rfl ?_
  refine xA.if_lt (tgt := 13) rfl rfl rfl (fun h1 => ?_) (fun h1 => ?_)
  · refine xA.iconst (v := 0) rfl (by decide) rfl ?_
    exact xA.iret rfl rfl rfl ⟨by first | (rw [xb_t (by simp only [Int32.lt_iff_toInt_lt, Int32.le_iff_toInt_le, i32_ext, Int32.reduceToInt] at *; omega)]; done) | (rw [xb_f (by simp only [Int32.lt_iff_toInt_lt, Int32.le_iff_toInt_le, i32_ext, Int32.reduceToInt] at *; omega)]; done), rfl⟩
  · refine xA.iload_n (i := 0) rfl rfl rfl rfl ?_
    refine xA.iconst (v := 5) rfl (by decide) rfl ?_
    refine xA.icmp_ge (tgt := 13) rfl rfl rfl (fun h6 => ?_) (fun h6 => ?_)
    · refine xA.iconst (v := 0) rfl (by decide) rfl ?_
      exact xA.iret rfl rfl rfl ⟨by first | (rw [xb_t (by simp only [Int32.lt_iff_toInt_lt, Int32.le_iff_toInt_le, i32_ext, Int32.reduceToInt] at *; omega)]; done) | (rw [xb_f (by simp only [Int32.lt_iff_toInt_lt, Int32.le_iff_toInt_le, i32_ext, Int32.reduceToInt] at *; omega)]; done), rfl⟩
    · refine xA.iconst (v := 1) rfl (by decide) rfl ?_
      refine xA.goto (q := 14) rfl rfl ?_
      exact xA.iret rfl rfl rfl ⟨by first | (rw [xb_t (by simp only [Int32.lt_iff_toInt_lt, Int32.le_iff_toInt_le, i32_ext, Int32.reduceToInt] at *; omega)]; done) | (rw [xb_f (by simp only [Int32.lt_iff_toInt_lt, Int32.le_iff_toInt_le, i32_ext, Int32.reduceToInt] at *; omega)]; done), rfl⟩

set_option maxRecDepth 100000 in
theorem c_X9_isOfKind (d : Nat) (x y : Int32) (S : Nat → Nat → Int32) (G : Nat → Nat → Int64) : xR d mX9_isOfKind [.int x, .int y] S G (some (.int (xb (y = 0 ∨ y = x ∨ (y = 3 ∧ x = 4))))) S G := by
  refine xC.of okX9_isOfKind (Nat.le_of_ble_eq_true rfl) (L := [_, _]) rfl ?_
  refine xA.iload_n (i := 1) rfl rfl rfl rfl ?_
  refine xA.if_eq (tgt := 19) rfl rfl rfl (fun h1 => ?_) (fun h1 => ?_)
  · refine xA.iconst (v := 1) rfl (by decide) rfl ?_
    refine xA.goto (q := 24) rfl rfl ?_
    exact xA.iret rfl rfl rfl ⟨by first | (rw [xb_t (by simp only [Int32.lt_iff_toInt_lt, Int32.le_iff_toInt_le, i32_ext, Int32.reduceToInt] at *; omega)]; done) | (rw [xb_f (by simp only [Int32.lt_iff_toInt_lt, Int32.le_iff_toInt_le, i32_ext, Int32.reduceToInt] at *; omega)]; done), rfl⟩
  · refine xA.iload_n (i := 1) rfl rfl rfl rfl ?_
    refine xA.iload_n (i := 0) rfl rfl rfl rfl ?_
    refine xA.icmp_eq (tgt := 19) rfl rfl rfl (fun h6 => ?_) (fun h6 => ?_)
    · refine xA.iconst (v := 1) rfl (by decide) rfl ?_
      refine xA.goto (q := 24) rfl rfl ?_
      exact xA.iret rfl rfl rfl ⟨by first | (rw [xb_t (by simp only [Int32.lt_iff_toInt_lt, Int32.le_iff_toInt_le, i32_ext, Int32.reduceToInt] at *; omega)]; done) | (rw [xb_f (by simp only [Int32.lt_iff_toInt_lt, Int32.le_iff_toInt_le, i32_ext, Int32.reduceToInt] at *; omega)]; done), rfl⟩
    · refine xA.iload_n (i := 1) rfl rfl rfl rfl ?_
      refine xA.iconst (v := 3) rfl (by decide) rfl ?_
      refine xA.icmp_ne (tgt := 23) rfl rfl rfl (fun h11 => ?_) (fun h11 => ?_)
      · refine xA.iconst (v := 0) rfl (by decide) rfl ?_
        exact xA.iret rfl rfl rfl ⟨by first | (rw [xb_t (by simp only [Int32.lt_iff_toInt_lt, Int32.le_iff_toInt_le, i32_ext, Int32.reduceToInt] at *; omega)]; done) | (rw [xb_f (by simp only [Int32.lt_iff_toInt_lt, Int32.le_iff_toInt_le, i32_ext, Int32.reduceToInt] at *; omega)]; done), rfl⟩
      · refine xA.iload_n (i := 0) rfl rfl rfl rfl ?_
        refine xA.iconst (v := 4) rfl (by decide) rfl ?_
        refine xA.icmp_ne (tgt := 23) rfl rfl rfl (fun h16 => ?_) (fun h16 => ?_)
        · refine xA.iconst (v := 0) rfl (by decide) rfl ?_
          exact xA.iret rfl rfl rfl ⟨by first | (rw [xb_t (by simp only [Int32.lt_iff_toInt_lt, Int32.le_iff_toInt_le, i32_ext, Int32.reduceToInt] at *; omega)]; done) | (rw [xb_f (by simp only [Int32.lt_iff_toInt_lt, Int32.le_iff_toInt_le, i32_ext, Int32.reduceToInt] at *; omega)]; done), rfl⟩
        · refine xA.iconst (v := 1) rfl (by decide) rfl ?_
          refine xA.goto (q := 24) rfl rfl ?_
          exact xA.iret rfl rfl rfl ⟨by first | (rw [xb_t (by simp only [Int32.lt_iff_toInt_lt, Int32.le_iff_toInt_le, i32_ext, Int32.reduceToInt] at *; omega)]; done) | (rw [xb_f (by simp only [Int32.lt_iff_toInt_lt, Int32.le_iff_toInt_le, i32_ext, Int32.reduceToInt] at *; omega)]; done), rfl⟩

set_option maxRecDepth 100000 in
theorem c_X9_spotOf (d : Nat) (x y : Int32) (S : Nat → Nat → Int32) (G : Nat → Nat → Int64) : xR d mX9_spotOf [.int x, .int y] S G (some (.int (x * 6 + y))) S G := by
  refine xC.of okX9_spotOf (Nat.le_of_ble_eq_true rfl) (L := [_, _]) rfl ?_
  refine xA.iload_n (i := 0) rfl rfl rfl rfl ?_
  refine xA.bipush (v := 6) rfl (by decide) rfl ?_
  refine xA.imul rfl rfl ?_
  refine xA.iload_n (i := 1) rfl rfl rfl rfl ?_
  refine xA.iadd rfl rfl ?_
  exact xA.iret rfl rfl rfl ⟨rfl, rfl⟩

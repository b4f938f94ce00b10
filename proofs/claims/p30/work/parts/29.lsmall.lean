variable {ρ : List xSh}
/-! ===== the small methods of the law ===== -/
variable {τ : List xSh}
/-- behind the class's cells: the law's rows h, p, l, t *in order* -/
def τL (ρ : List xSh) : List xSh := .inr (.inl 36) :: .inr (.inl 8) :: .inr (.inl 51) :: .inr (.inl 45) :: ρ
/-- the law's row of a house -/
def RH (A : Nat → Int32) (h : hS) : Prop := A 12 = nI (hLo h) ∧ A 13 = nI (hBa h) ∧ A 14 = nI (hNd h) ∧ A 15 = nI (hNs h) ∧ (∀ a, a < 6 → ∃ x, x < 64 ∧ A a = nI x ∧ ∀ b, b < 6 → x.testBit b = decide (¬ hD h (a * 6 + b) = 0)) ∧ (∀ a, a < 6 → A (6 + a) = nI (hSr h a)) ∧ ∀ j, j < hNd h → A (16 + j) = nI (hOn h j) ∧ A (26 + j) = nI (hTw h j)
/-- the law's rows of a life -/
def RL1 (P Ls : Nat → Int32) (k : Nat) (l : lS) : Prop := P (5 + k) = nI (lN' l) ∧ lN' l ≤ 17 ∧ ∀ i, i < lN' l → Ls (17 * k + i) = nI (e8 (lSp l i)) ∧ lSp l i < 360
def TX (T : Nat → Int32) (pg : Nat → Nat) (n : Nat) : Prop := ∀ i, i < n → T i = nI (pg i) ∧ 1 ≤ pg i ∧ pg i ≤ 126
theorem rdA {f : Nat → Int32} {k : Nat} {v : Int32} (hk : k < 2 ^ 31) (h : f k = v) : f (nI k).toNatClampNeg = v := by rw [nI_clamp hk]; exact h
theorem bt1_nI : ∀ x, x < 64 → ∀ b, b < 6 → (nI x >>> (nI b &&& 31)) &&& 1 = xb (x.testBit b = true) := by decide +kernel
theorem xb_eq1 {p : Prop} [Decidable p] : xb p = 1 ↔ p := by unfold xb; split <;> simp_all
theorem d8_div {m r : Nat} (hm : m < 60) (hr : r < 6) : nI (m * 8 + r) / 8 = nI m := by
  rw [show (8 : Int32) = nI 8 from rfl, nI_div (by omega) (by omega) (by omega)]; congr 1; omega
theorem d8_mod {m r : Nat} (hm : m < 60) (hr : r < 6) : nI (m * 8 + r) - nI (m * 8 + r) / 8 * 8 = nI r := by
  rw [show (8 : Int32) = nI 8 from rfl, nI_rem (by omega) (by omega) (by omega)]; congr 1; omega
theorem e8I_div {q : Nat} (h : q < 360) : nI (e8 q) / 8 = nI (q / 6) := by
  have := e8_lt h
  rw [show (8 : Int32) = nI 8 from rfl, nI_div (by omega) (by omega) (by omega), e8_div]
theorem e8I_mod {q : Nat} (h : q < 360) : nI (e8 q) - nI (e8 q) / 8 * 8 = nI (q % 6) := by
  have := e8_lt h
  rw [show (8 : Int32) = nI 8 from rfl, nI_rem (by omega) (by omega) (by omega), e8_mod]
def o8 : Option Nat → Int32
  | none => -1
  | some q => nI (e8 q)
theorem o8_nx {D : Nat → Nat} {low m r s lp : Nat} (hm : m < 60) (hr : r < 6) (hs : s < 8) : o8 (nxH D low m r s lp) = if s = 7 then (if r = low ∧ lp ≤ m then nI ((m - lp) * 8 + r) else -1) else if m = 59 then -1 else if s = 6 then nI (8 * (m + 1) + r) else if D (r * 6 + s) = 0 then -1 else nI (8 * (m + 1) + s) := by
  unfold nxH
  by_cases h7 : s = 7
  · rw [if_pos h7, if_pos h7]
    split
    · show nI (e8 ((m - lp) * 6 + r)) = _
      rw [e8_mk hr]
    · rfl
  · rw [if_neg h7, if_neg h7]
    by_cases h59 : m = 59
    · rw [if_pos (by omega), if_pos h59]; rfl
    · rw [if_neg (by omega), if_neg h59]
      by_cases h6 : s = 6
      · rw [if_pos h6, if_pos h6]
        show nI (e8 ((m + 1) * 6 + r)) = _
        rw [e8_mk hr, Nat.mul_comm]
      · rw [if_neg h6, if_neg h6]
        split
        · rfl
        · show nI (e8 ((m + 1) * 6 + s)) = _
          rw [e8_mk (by omega), Nat.mul_comm]
/-- one letter alone *told* -/
theorem byN1 : ∀ c, c < 127 → ∀ j, j < 8 → byN (nI c).toInt64 j = if j = 0 then c else 0 := by decide +kernel
theorem wN1 {c : Nat} (h1 : 1 ≤ c) (h2 : c ≤ 126) : wN (nI c).toInt64 = some 1 := by
  have key : ∀ t, t < 8 → ltS (byN (nI c).toInt64) (t + 1) = some (1, decide (0 < t)) := by
    intro t
    induction t with
    | zero =>
      intro _
      have e := byN1 c (by omega) 0 (by omega)
      rw [if_pos rfl] at e
      show (some ((0 : Nat), false)).bind _ = _
      rw [Option.bind_some, e, if_neg (by simp; omega), if_neg (by omega), decide_eq_false (by omega : ¬ c = 0)]
      rfl
    | succ t ih =>
      intro h8
      have e := byN1 c (by omega) (t + 1) (by omega)
      rw [if_neg (by omega)] at e
      show (ltS (byN (nI c).toInt64) (t + 1)).bind _ = _
      rw [ih (by omega), Option.bind_some, e, if_neg (by simp), if_pos rfl]
      simp
  show (ltS (byN (nI c).toInt64) 8).map _ = _
  rw [key 7 (by omega)]
  rfl
theorem ltr1 {s : sS} {c i : Nat} (h1 : 1 ≤ c) (h2 : c ≤ 126) (hi : i < 45) (hs : sN s = i) : aLetters s (nI c).toInt64 = nI (i + 1) ∧ tLetters s (nI c).toInt64 = (pgA (sPg s) i (byN (nI c).toInt64), i + 1, s.2.2) := by
  subst hs
  constructor
  · rw [aLetters, wN1 h1 h2]
    exact if_neg (by omega)
  · rw [tLetters, wN1 h1 h2]
    exact if_neg (by omega)
theorem pgA_new {pg0 pg : Nat → Nat} {c i : Nat} (hc : c < 127) (h : ∀ j, j < i → pg0 j = pg j) (hp : pg i = c) : ∀ j, j < i + 1 → pgA pg0 i (byN (nI c).toInt64) j = pg j := by
  intro j hj
  unfold pgA
  by_cases hji : j < i
  · rw [if_pos hji]; exact h j hji
  · have e : j = i := by omega
    subst e
    rw [if_neg hji, Nat.sub_self, byN1 c hc 0 (by omega), if_pos rfl, hp]
def thN (l : lS) (q : Nat) : Nat := cn (fun j => decide (lSp l j = q)) (lN' l)

set_option maxRecDepth 100000 in
set_option maxHeartbeats 400000 in
theorem c_L_cell (d : Nat) (S : Nat → Nat → Int32) (G : Nat → Nat → Int64) (N : Nat) (xs : Nat → Int32) (hN : N ≤ 260) (k : Nat) (hk : k < 100) : xRs (some (N, xs)) τ d mL_cell [.retAddr 0, .int (nI k)] S G (some (.int (clV N xs k))) := by
  refine xCs.of okL_cell (Nat.le_of_ble_eq_true rfl) (L := [_, _]) rfl ?_
  refine xA.iload_n (i := 1) rfl rfl rfl rfl ?_
  refine xA.aloadX_n (i := 0) rfl rfl rfl rfl ?_
  refine xA.slen rfl rfl ?_
  refine xA.icmp_ge (tgt := 12) rfl rfl rfl (fun h3 => ?_) (fun h3 => ?_)
  · rw [nI_leI (by omega) (by omega)] at h3
    refine xA.ldc (v := 747796405) rfl w604 rfl ?_
    refine xA.iload_n (i := 1) rfl rfl rfl rfl ?_
    refine xA.iconst (v := 1) rfl (by decide) rfl ?_
    refine xA.iadd rfl rfl ?_
    refine xA.topi (nI_1 k) ?_
    refine xA.imul rfl rfl ?_
    exact xA.iret rfl rfl rfl ⟨by unfold clV; split <;> first | rfl | (exfalso; omega), rfl⟩
  · rw [nI_leI (by omega) (by omega)] at h3
    refine xA.aloadX_n (i := 0) rfl rfl rfl rfl ?_
    refine xA.iload_n (i := 1) rfl rfl rfl rfl ?_
    refine xA.sld rfl (vp_in_nI (by omega) (by omega)) rfl ?_
    refine xA.topi (congrArg xs (nI_clamp (by omega))) ?_
    refine xA.goto (q := 18) rfl rfl ?_
    exact xA.iret rfl rfl rfl ⟨by unfold clV; split <;> first | rfl | (exfalso; omega), rfl⟩
set_option maxRecDepth 100000 in
set_option maxHeartbeats 400000 in
theorem c_L_at (d : Nat) (S : Nat → Nat → Int32) (G : Nat → Nat → Int64) (x : Int32) (n : Nat) (hn : n < 2 ^ 31) (h0 : 0 < n) : xR τ d mL_at [.int x, .int (nI n)] S G (some (.int (nI (atv x n)))) S G := by
  refine xC.of okL_at (Nat.le_of_ble_eq_true rfl) (L := [_, _]) rfl ?_
  refine xA.iload_n (i := 0) rfl rfl rfl rfl ?_
  refine xA.iconst (v := 1) rfl (by decide) rfl ?_
  refine xA.iushr rfl rfl ?_
  refine xA.iload_n (i := 1) rfl rfl rfl rfl ?_
  refine xA.irem rfl (nI_ne0 h0 hn) rfl ?_
  exact xA.iret rfl rfl rfl ⟨by rw [at_eq hn h0], rfl⟩
set_option maxRecDepth 100000 in
set_option maxHeartbeats 400000 in
theorem c_L_back (d : Nat) (S : Nat → Nat → Int32) (G : Nat → Nat → Int64) (h : hS) (hh : RH (S 54) h) (kd : Nat) (hk : kd < 5) : xR (τL ρ) d mL_back [.ref 54, .int (nI kd)] S G (some (.int (nI (lpN h kd)))) S G := by
  refine xC.of okL_back (Nat.le_of_ble_eq_true rfl) (L := [_, _]) rfl ?_
  refine xA.iload_n (i := 1) rfl rfl rfl rfl ?_
  refine xA.iconst (v := 2) rfl (by decide) rfl ?_
  refine xA.icmp_ne (tgt := 14) rfl rfl rfl (fun h2 => ?_) (fun h2 => ?_)
  · rw [show (2 : Int32) = nI 2 from rfl, nI_eq (by omega) (by omega)] at h2
    refine xA.aload_n (i := 0) rfl rfl rfl rfl ?_
    refine xA.bipush (v := 13) rfl (by decide) rfl ?_
    refine xA.iald rfl rfl (vp_in_nI (n := 13) (by decide) (by decide)) rfl ?_
    refine xA.topi (hh.2.1) ?_
    exact xA.iret rfl rfl rfl ⟨by unfold lpN; first | rw [if_pos h2] | rw [if_neg h2], rfl⟩
  · rw [show (2 : Int32) = nI 2 from rfl, nI_eq (by omega) (by omega)] at h2
    refine xA.aload_n (i := 0) rfl rfl rfl rfl ?_
    refine xA.bipush (v := 13) rfl (by decide) rfl ?_
    refine xA.iald rfl rfl (vp_in_nI (n := 13) (by decide) (by decide)) rfl ?_
    refine xA.topi (hh.2.1) ?_
    refine xA.iconst (v := 1) rfl (by decide) rfl ?_
    refine xA.iadd rfl rfl ?_
    refine xA.topi (nI_1 _) ?_
    refine xA.goto (q := 18) rfl rfl ?_
    exact xA.iret rfl rfl rfl ⟨by unfold lpN; first | rw [if_pos h2] | rw [if_neg h2], rfl⟩
set_option maxRecDepth 100000 in
set_option maxHeartbeats 400000 in
theorem c_L_step (d : Nat) (S : Nat → Nat → Int32) (G : Nat → Nat → Int64) (h : hS) (hh : RH (S 54) h) (hlo : hLo h < 6) (hba : hBa h ≤ 9) (kd m r s : Nat) (hk : kd < 5) (hm : m < 60) (hr : r < 6) (hs : s < 8) : xR (τL ρ) (d + 1) mL_step [.ref 54, .int (nI kd), .int (nI (m * 8 + r)), .int (nI s)] S G (some (.int (o8 (nxH (hD h) (hLo h) m r s (lpN h kd))))) S G := by
  refine xC.of okL_step (Nat.le_of_ble_eq_true rfl) (L := [_, _, _, _, _, _]) rfl ?_
  have hlp : lpN h kd ≤ 10 := by unfold lpN; split <;> omega
  obtain ⟨x, hx, hxA, hxb⟩ := hh.2.2.2.2.1 r hr
  refine xA.iload_n (i := 2) rfl rfl rfl rfl ?_
  refine xA.bipush (v := 8) rfl (by decide) rfl ?_
  refine xA.idiv rfl (by decide) rfl ?_
  refine xA.topi (d8_div hm hr) ?_
  refine xA.istore (L' := [_, _, _, _, _, _]) rfl (Nat.le_of_ble_eq_true rfl) rfl rfl ?_
  refine xA.iload_n (i := 2) rfl rfl rfl rfl ?_
  refine xA.bipush (v := 8) rfl (by decide) rfl ?_
  refine xA.irem rfl (by decide) rfl ?_
  refine xA.topi (d8_mod hm hr) ?_
  refine xA.istore (L' := [_, _, _, _, _, _]) rfl (Nat.le_of_ble_eq_true rfl) rfl rfl ?_
  refine xA.iload_n (i := 3) rfl rfl rfl rfl ?_
  refine xA.bipush (v := 7) rfl (by decide) rfl ?_
  refine xA.icmp_ne (tgt := 52) rfl rfl rfl (fun h15 => ?_) (fun h15 => ?_)
  · rw [show (7 : Int32) = nI 7 from rfl, nI_eq (by omega) (by omega)] at h15
    refine xA.iload rfl rfl rfl ?_
    refine xA.bipush (v := 59) rfl (by decide) rfl ?_
    refine xA.icmp_eq (tgt := 76) rfl rfl rfl (fun h56 => ?_) (fun h56 => ?_)
    · rw [show (59 : Int32) = nI 59 from rfl, nI_eq (by omega) (by omega)] at h56
      refine xA.iconst (v := (-1)) rfl (by decide) rfl ?_
      exact xA.iret rfl rfl rfl ⟨by rw [o8_nx hm hr hs]; (repeat' split) <;> first | rfl | (exfalso; omega), rfl⟩
    · rw [show (59 : Int32) = nI 59 from rfl, nI_eq (by omega) (by omega)] at h56
      refine xA.iload_n (i := 3) rfl rfl rfl rfl ?_
      refine xA.bipush (v := 6) rfl (by decide) rfl ?_
      refine xA.icmp_ge (tgt := 78) rfl rfl rfl (fun h62 => ?_) (fun h62 => ?_)
      · rw [show (6 : Int32) = nI 6 from rfl, nI_leI (by omega) (by omega)] at h62
        refine xA.bipush (v := 8) rfl (by decide) rfl ?_
        refine xA.iload rfl rfl rfl ?_
        refine xA.iconst (v := 1) rfl (by decide) rfl ?_
        refine xA.iadd rfl rfl ?_
        refine xA.topi (nI_1 m) ?_
        refine xA.imul rfl rfl ?_
        refine xA.topi (show (8 : Int32) * nI (m + 1) = nI (8 * (m + 1)) from nI_mul 8 _) ?_
        refine xA.iload_n (i := 3) rfl rfl rfl rfl ?_
        refine xA.bipush (v := 6) rfl (by decide) rfl ?_
        refine xA.icmp_ne (tgt := 96) rfl rfl rfl (fun h88 => ?_) (fun h88 => ?_)
        · rw [show (6 : Int32) = nI 6 from rfl, nI_eq (by omega) (by omega)] at h88
          refine xA.iload_n (i := 3) rfl rfl rfl rfl ?_
          refine xA.iadd rfl rfl ?_
          refine xA.topi (nI_add _ _) ?_
          exact xA.iret rfl rfl rfl ⟨by rw [o8_nx hm hr hs]; (repeat' split) <;> first | rfl | (exfalso; omega), rfl⟩
        · rw [show (6 : Int32) = nI 6 from rfl, nI_eq (by omega) (by omega)] at h88
          refine xA.iload rfl rfl rfl ?_
          refine xA.goto (q := 97) rfl rfl ?_
          refine xA.iadd rfl rfl ?_
          refine xA.topi (nI_add _ _) ?_
          exact xA.iret rfl rfl rfl ⟨by rw [o8_nx hm hr hs]; (repeat' split) <;> first | rfl | (exfalso; omega), rfl⟩
      · rw [show (6 : Int32) = nI 6 from rfl, nI_leI (by omega) (by omega)] at h62
        refine xA.aload_n (i := 0) rfl rfl rfl rfl ?_
        refine xA.iload rfl rfl rfl ?_
        refine xA.iald rfl rfl (vp_in_nI (by omega) (by omega)) rfl ?_
        refine xA.topi (rdA (by omega) hxA) ?_
        refine xA.iload_n (i := 3) rfl rfl rfl rfl ?_
        refine xA.ishr rfl rfl ?_
        refine xA.iconst (v := 1) rfl (by decide) rfl ?_
        refine xA.iand rfl rfl ?_
        refine xA.if_ne (tgt := 78) rfl rfl rfl (fun h73 => ?_) (fun h73 => ?_)
        · have h73 := (bt_nI x hx s (by omega)).mp h73
          rw [hxb s (by omega), decide_eq_true_eq] at h73
          refine xA.bipush (v := 8) rfl (by decide) rfl ?_
          refine xA.iload rfl rfl rfl ?_
          refine xA.iconst (v := 1) rfl (by decide) rfl ?_
          refine xA.iadd rfl rfl ?_
          refine xA.topi (nI_1 m) ?_
          refine xA.imul rfl rfl ?_
          refine xA.topi (show (8 : Int32) * nI (m + 1) = nI (8 * (m + 1)) from nI_mul 8 _) ?_
          refine xA.iload_n (i := 3) rfl rfl rfl rfl ?_
          refine xA.bipush (v := 6) rfl (by decide) rfl ?_
          refine xA.icmp_ne (tgt := 96) rfl rfl rfl (fun h88 => ?_) (fun h88 => ?_)
          · rw [show (6 : Int32) = nI 6 from rfl, nI_eq (by omega) (by omega)] at h88
            refine xA.iload_n (i := 3) rfl rfl rfl rfl ?_
            refine xA.iadd rfl rfl ?_
            refine xA.topi (nI_add _ _) ?_
            exact xA.iret rfl rfl rfl ⟨by rw [o8_nx hm hr hs]; (repeat' split) <;> first | rfl | (exfalso; omega), rfl⟩
          · rw [show (6 : Int32) = nI 6 from rfl, nI_eq (by omega) (by omega)] at h88
            refine xA.iload rfl rfl rfl ?_
            refine xA.goto (q := 97) rfl rfl ?_
            refine xA.iadd rfl rfl ?_
            refine xA.topi (nI_add _ _) ?_
            exact xA.iret rfl rfl rfl ⟨by rw [o8_nx hm hr hs]; (repeat' split) <;> first | rfl | (exfalso; omega), rfl⟩
        · have h73 : ¬ x.testBit s = true := fun q => absurd h73 ((bt_nI x hx s (by omega)).mpr q)
          rw [hxb s (by omega), decide_eq_true_eq] at h73
          refine xA.iconst (v := (-1)) rfl (by decide) rfl ?_
          exact xA.iret rfl rfl rfl ⟨by rw [o8_nx hm hr hs]; (repeat' split) <;> first | rfl | (exfalso; omega), rfl⟩
  · rw [show (7 : Int32) = nI 7 from rfl, nI_eq (by omega) (by omega)] at h15
    refine xA.iload rfl rfl rfl ?_
    refine xA.aload_n (i := 0) rfl rfl rfl rfl ?_
    refine xA.bipush (v := 12) rfl (by decide) rfl ?_
    refine xA.iald rfl rfl (vp_in_nI (n := 12) (by decide) (by decide)) rfl ?_
    refine xA.topi (hh.1) ?_
    refine xA.icmp_ne (tgt := 50) rfl rfl rfl (fun h24 => ?_) (fun h24 => ?_)
    · rw [nI_eq (by omega) (by omega)] at h24
      refine xA.iconst (v := (-1)) rfl (by decide) rfl ?_
      exact xA.iret rfl rfl rfl ⟨by rw [o8_nx hm hr hs]; (repeat' split) <;> first | rfl | (exfalso; omega), rfl⟩
    · rw [nI_eq (by omega) (by omega)] at h24
      refine xA.iload rfl rfl rfl ?_
      refine xA.aload_n (i := 0) rfl rfl rfl rfl ?_
      refine xA.iload_n (i := 1) rfl rfl rfl rfl ?_
      refine xA.callSi (As := [_, _]) rfl k11_24 okL_back rfl rfl (Nat.le_of_ble_eq_true rfl) (c_L_back d S G h hh kd hk) rfl rfl ?_
      refine xA.icmp_lt (tgt := 50) rfl rfl rfl (fun h34 => ?_) (fun h34 => ?_)
      · rw [nI_ltI (by omega) (by omega)] at h34
        refine xA.iconst (v := (-1)) rfl (by decide) rfl ?_
        exact xA.iret rfl rfl rfl ⟨by rw [o8_nx hm hr hs]; (repeat' split) <;> first | rfl | (exfalso; omega), rfl⟩
      · rw [nI_ltI (by omega) (by omega)] at h34
        refine xA.iload_n (i := 2) rfl rfl rfl rfl ?_
        refine xA.bipush (v := 8) rfl (by decide) rfl ?_
        refine xA.aload_n (i := 0) rfl rfl rfl rfl ?_
        refine xA.iload_n (i := 1) rfl rfl rfl rfl ?_
        refine xA.callSi (As := [_, _]) rfl k11_24 okL_back rfl rfl (Nat.le_of_ble_eq_true rfl) (c_L_back d S G h hh kd hk) rfl rfl ?_
        refine xA.imul rfl rfl ?_
        refine xA.topi (show (8 : Int32) * nI (lpN h kd) = nI (8 * lpN h kd) from nI_mul 8 _) ?_
        refine xA.isub rfl rfl ?_
        refine xA.topi (show _ = nI ((m - lpN h kd) * 8 + r) from by rw [nI_sub (by omega)]; congr 1; omega) ?_
        refine xA.goto (q := 51) rfl rfl ?_
        exact xA.iret rfl rfl rfl ⟨by rw [o8_nx hm hr hs]; (repeat' split) <;> first | rfl | (exfalso; omega), rfl⟩
set_option maxRecDepth 100000 in
set_option maxHeartbeats 400000 in
theorem c_L_met (d : Nat) (S : Nat → Nat → Int32) (G : Nat → Nat → Int64) (h : hS) (hh : RH (S 54) h) (h64 : ∀ a, hSr h a < 64) (kd a b : Nat) (hk : kd < 5) (ha : a < 360) (hb : b < 360) : xR (τL ρ) d mL_met [.ref 54, .int (nI kd), .int (nI (e8 a)), .int (nI (e8 b))] S G (some (.int (xb (a / 6 = b / 6 ∧ kd ≤ 2 ∧ (a % 6 = b % 6 ∨ (¬ kd = 1 ∧ (hSr h (a % 6)).testBit (b % 6) = true)))))) S G := by
  refine xC.of okL_met (Nat.le_of_ble_eq_true rfl) (L := [_, _, _, _]) rfl ?_
  refine xA.iload_n (i := 2) rfl rfl rfl rfl ?_
  refine xA.bipush (v := 8) rfl (by decide) rfl ?_
  refine xA.idiv rfl (by decide) rfl ?_
  refine xA.topi (e8I_div ha) ?_
  refine xA.iload_n (i := 3) rfl rfl rfl rfl ?_
  refine xA.bipush (v := 8) rfl (by decide) rfl ?_
  refine xA.idiv rfl (by decide) rfl ?_
  refine xA.topi (e8I_div hb) ?_
  refine xA.icmp_ne (tgt := 16) rfl rfl rfl (fun h8 => ?_) (fun h8 => ?_)
  · rw [nI_eq (by omega) (by omega)] at h8
    refine xA.iconst (v := 0) rfl (by decide) rfl ?_
    exact xA.iret rfl rfl rfl ⟨by first | (rw [xb_t ⟨h8, h13, Or.inl h26⟩]; done) | (rw [xb_t ⟨h8, h13, Or.inr ⟨h31, h51⟩⟩]; done) | (rw [xb_f (fun q => h8 q.1)]; done) | (rw [xb_f (fun q => h13 q.2.1)]; done) | (rw [xb_f (fun q => q.2.2.elim h26 (fun z => z.1 h31))]; done) | (rw [xb_f (fun q => q.2.2.elim h26 (fun z => h51 z.2))]; done), rfl⟩
  · rw [nI_eq (by omega) (by omega)] at h8
    refine xA.iload_n (i := 1) rfl rfl rfl rfl ?_
    refine xA.iconst (v := 2) rfl (by decide) rfl ?_
    refine xA.icmp_le (tgt := 18) rfl rfl rfl (fun h13 => ?_) (fun h13 => ?_)
    · rw [show (2 : Int32) = nI 2 from rfl, nI_leI (by omega) (by omega)] at h13
      refine xA.iload_n (i := 2) rfl rfl rfl rfl ?_
      refine xA.bipush (v := 8) rfl (by decide) rfl ?_
      refine xA.irem rfl (by decide) rfl ?_
      refine xA.topi (e8I_mod ha) ?_
      refine xA.iload_n (i := 3) rfl rfl rfl rfl ?_
      refine xA.bipush (v := 8) rfl (by decide) rfl ?_
      refine xA.irem rfl (by decide) rfl ?_
      refine xA.topi (e8I_mod hb) ?_
      refine xA.icmp_eq (tgt := 54) rfl rfl rfl (fun h26 => ?_) (fun h26 => ?_)
      · rw [nI_eq (by omega) (by omega)] at h26
        refine xA.iconst (v := 1) rfl (by decide) rfl ?_
        refine xA.goto (q := 59) rfl rfl ?_
        exact xA.iret rfl rfl rfl ⟨by first | (rw [xb_t ⟨h8, h13, Or.inl h26⟩]; done) | (rw [xb_t ⟨h8, h13, Or.inr ⟨h31, h51⟩⟩]; done) | (rw [xb_f (fun q => h8 q.1)]; done) | (rw [xb_f (fun q => h13 q.2.1)]; done) | (rw [xb_f (fun q => q.2.2.elim h26 (fun z => z.1 h31))]; done) | (rw [xb_f (fun q => q.2.2.elim h26 (fun z => h51 z.2))]; done), rfl⟩
      · rw [nI_eq (by omega) (by omega)] at h26
        refine xA.iload_n (i := 1) rfl rfl rfl rfl ?_
        refine xA.iconst (v := 1) rfl (by decide) rfl ?_
        refine xA.icmp_eq (tgt := 58) rfl rfl rfl (fun h31 => ?_) (fun h31 => ?_)
        · rw [show (1 : Int32) = nI 1 from rfl, nI_eq (by omega) (by omega)] at h31
          refine xA.iconst (v := 0) rfl (by decide) rfl ?_
          exact xA.iret rfl rfl rfl ⟨by first | (rw [xb_t ⟨h8, h13, Or.inl h26⟩]; done) | (rw [xb_t ⟨h8, h13, Or.inr ⟨h31, h51⟩⟩]; done) | (rw [xb_f (fun q => h8 q.1)]; done) | (rw [xb_f (fun q => h13 q.2.1)]; done) | (rw [xb_f (fun q => q.2.2.elim h26 (fun z => z.1 h31))]; done) | (rw [xb_f (fun q => q.2.2.elim h26 (fun z => h51 z.2))]; done), rfl⟩
        · rw [show (1 : Int32) = nI 1 from rfl, nI_eq (by omega) (by omega)] at h31
          refine xA.aload_n (i := 0) rfl rfl rfl rfl ?_
          refine xA.bipush (v := 6) rfl (by decide) rfl ?_
          refine xA.iload_n (i := 2) rfl rfl rfl rfl ?_
          refine xA.bipush (v := 8) rfl (by decide) rfl ?_
          refine xA.irem rfl (by decide) rfl ?_
          refine xA.topi (e8I_mod ha) ?_
          refine xA.iadd rfl rfl ?_
          refine xA.topi (show (6 : Int32) + nI (a % 6) = nI (6 + a % 6) from nI_add 6 _) ?_
          refine xA.iald rfl rfl (vp_in_nI (by omega) (by omega)) rfl ?_
          refine xA.topi (rdA (by omega) (hh.2.2.2.2.2.1 (a % 6) (by omega))) ?_
          refine xA.iload_n (i := 3) rfl rfl rfl rfl ?_
          refine xA.bipush (v := 8) rfl (by decide) rfl ?_
          refine xA.irem rfl (by decide) rfl ?_
          refine xA.topi (e8I_mod hb) ?_
          refine xA.ishr rfl rfl ?_
          refine xA.iconst (v := 1) rfl (by decide) rfl ?_
          refine xA.iand rfl rfl ?_
          refine xA.topi (bt1_nI _ (h64 _) _ (by omega)) ?_
          refine xA.iconst (v := 1) rfl (by decide) rfl ?_
          refine xA.icmp_ne (tgt := 58) rfl rfl rfl (fun h51 => ?_) (fun h51 => ?_)
          · rw [xb_eq1] at h51
            refine xA.iconst (v := 0) rfl (by decide) rfl ?_
            exact xA.iret rfl rfl rfl ⟨by first | (rw [xb_t ⟨h8, h13, Or.inl h26⟩]; done) | (rw [xb_t ⟨h8, h13, Or.inr ⟨h31, h51⟩⟩]; done) | (rw [xb_f (fun q => h8 q.1)]; done) | (rw [xb_f (fun q => h13 q.2.1)]; done) | (rw [xb_f (fun q => q.2.2.elim h26 (fun z => z.1 h31))]; done) | (rw [xb_f (fun q => q.2.2.elim h26 (fun z => h51 z.2))]; done), rfl⟩
          · rw [xb_eq1] at h51
            refine xA.iconst (v := 1) rfl (by decide) rfl ?_
            refine xA.goto (q := 59) rfl rfl ?_
            exact xA.iret rfl rfl rfl ⟨by first | (rw [xb_t ⟨h8, h13, Or.inl h26⟩]; done) | (rw [xb_t ⟨h8, h13, Or.inr ⟨h31, h51⟩⟩]; done) | (rw [xb_f (fun q => h8 q.1)]; done) | (rw [xb_f (fun q => h13 q.2.1)]; done) | (rw [xb_f (fun q => q.2.2.elim h26 (fun z => z.1 h31))]; done) | (rw [xb_f (fun q => q.2.2.elim h26 (fun z => h51 z.2))]; done), rfl⟩
    · rw [show (2 : Int32) = nI 2 from rfl, nI_leI (by omega) (by omega)] at h13
      refine xA.iconst (v := 0) rfl (by decide) rfl ?_
      exact xA.iret rfl rfl rfl ⟨by first | (rw [xb_t ⟨h8, h13, Or.inl h26⟩]; done) | (rw [xb_t ⟨h8, h13, Or.inr ⟨h31, h51⟩⟩]; done) | (rw [xb_f (fun q => h8 q.1)]; done) | (rw [xb_f (fun q => h13 q.2.1)]; done) | (rw [xb_f (fun q => q.2.2.elim h26 (fun z => z.1 h31))]; done) | (rw [xb_f (fun q => q.2.2.elim h26 (fun z => h51 z.2))]; done), rfl⟩
set_option maxRecDepth 100000 in
set_option maxHeartbeats 400000 in
theorem c_L_there (d : Nat) (S : Nat → Nat → Int32) (G : Nat → Nat → Int64) (k : Nat) (hk : k < 3) (l : lS) (hl : RL1 (S 55) (S 56) k l) (q : Nat) (hq : q < 360) : xR (τL ρ) d mL_there [.ref 55, .ref 56, .int (nI k), .int (nI (e8 q))] S G (some (.int (nI (thN l q)))) S G := by
  refine xC.of okL_there (Nat.le_of_ble_eq_true rfl) (L := [_, _, _, _, _, _]) rfl ?_
  have h17 := hl.2.1
  have hq8 := e8_lt hq
  have loop : ∀ i, i ≤ lN' l → xA none d mL_there 0 0 0 0 6 [some (.ref 55), some (.ref 56), some (.int (nI k)), some (.int (nI (e8 q))), some (.int (nI (cn (fun j => decide (lSp l j = q)) i))), some (.int (nI i))] [] (σF (τL ρ), S, G) (fun r' h' => r' = (some (.int (nI (thN l q)))) ∧ h' = (σF (τL ρ), S, G)) := by
    refine xloop (lN' l) (fun i hi ih => ?_) ?_
    · have hi8 := e8_lt (hl.2.2 i hi).2
      refine xA.iload rfl rfl rfl ?_
      refine xA.aload_n (i := 0) rfl rfl rfl rfl ?_
      refine xA.iconst (v := 5) rfl (by decide) rfl ?_
      refine xA.iload_n (i := 2) rfl rfl rfl rfl ?_
      refine xA.iadd rfl rfl ?_
      refine xA.topi (show (5 : Int32) + nI k = nI (5 + k) from nI_add 5 _) ?_
      refine xA.iald rfl rfl (vp_in_nI (by omega) (by omega)) rfl ?_
      refine xA.topi (rdA (by omega) hl.1) ?_
      refine xA.icmp_ge (tgt := 45) rfl rfl rfl (fun h13 => ?_) (fun h13 => ?_)
      · exact absurd h13 (nI_ge hi (by omega))
      · refine xA.iload rfl rfl rfl ?_
        refine xA.aload_n (i := 1) rfl rfl rfl rfl ?_
        refine xA.bipush (v := 17) rfl (by decide) rfl ?_
        refine xA.iload_n (i := 2) rfl rfl rfl rfl ?_
        refine xA.imul rfl rfl ?_
        refine xA.topi (show (17 : Int32) * nI k = nI (17 * k) from nI_mul 17 _) ?_
        refine xA.iload rfl rfl rfl ?_
        refine xA.iadd rfl rfl ?_
        refine xA.topi (nI_add _ _) ?_
        refine xA.iald rfl rfl (vp_in_nI (by omega) (by omega)) rfl ?_
        refine xA.topi (rdA (by omega) (hl.2.2 i hi).1) ?_
        refine xA.iload_n (i := 3) rfl rfl rfl rfl ?_
        refine xA.icmp_ne (tgt := 35) rfl rfl rfl (fun h28 => ?_) (fun h28 => ?_)
        · rw [nI_eq (by omega) (by omega), e8_inj] at h28
          refine xA.iconst (v := 0) rfl (by decide) rfl ?_
          refine xA.iadd rfl rfl ?_
          refine xA.topi (show _ = nI (cn (fun j => decide (lSp l j = q)) (i + 1)) from by first | exact cn_t (by simp [h28]) | exact cn_f (by simp [h28])) ?_
          refine xA.istore (L' := [_, _, _, _, _, _]) rfl (Nat.le_of_ble_eq_true rfl) rfl rfl ?_
          refine xA.iinc (L' := [_, _, _, _, _, _]) rfl rfl (nI_1 i) rfl rfl ?_
          refine xA.goto (q := 6) rfl rfl ?_
          exact ih
        · rw [nI_eq (by omega) (by omega), e8_inj] at h28
          refine xA.iconst (v := 1) rfl (by decide) rfl ?_
          refine xA.goto (q := 36) rfl rfl ?_
          refine xA.iadd rfl rfl ?_
          refine xA.topi (show _ = nI (cn (fun j => decide (lSp l j = q)) (i + 1)) from by first | exact cn_t (by simp [h28]) | exact cn_f (by simp [h28])) ?_
          refine xA.istore (L' := [_, _, _, _, _, _]) rfl (Nat.le_of_ble_eq_true rfl) rfl rfl ?_
          refine xA.iinc (L' := [_, _, _, _, _, _]) rfl rfl (nI_1 i) rfl rfl ?_
          refine xA.goto (q := 6) rfl rfl ?_
          exact ih
    · skip
      refine xA.iload rfl rfl rfl ?_
      refine xA.aload_n (i := 0) rfl rfl rfl rfl ?_
      refine xA.iconst (v := 5) rfl (by decide) rfl ?_
      refine xA.iload_n (i := 2) rfl rfl rfl rfl ?_
      refine xA.iadd rfl rfl ?_
      refine xA.topi (show (5 : Int32) + nI k = nI (5 + k) from nI_add 5 _) ?_
      refine xA.iald rfl rfl (vp_in_nI (by omega) (by omega)) rfl ?_
      refine xA.topi (rdA (by omega) hl.1) ?_
      refine xA.icmp_ge (tgt := 45) rfl rfl rfl (fun h13 => ?_) (fun h13 => ?_)
      · refine xA.iload rfl rfl rfl ?_
        exact xA.iret rfl rfl rfl ⟨rfl, rfl⟩
      · exact absurd (nI_le (Nat.le_refl _) (by omega)) h13
  refine xA.iconst (v := 0) rfl (by decide) rfl ?_
  refine xA.istore (L' := [_, _, _, _, _, _]) rfl (Nat.le_of_ble_eq_true rfl) rfl rfl ?_
  refine xA.iconst (v := 0) rfl (by decide) rfl ?_
  refine xA.istore (L' := [_, _, _, _, _, _]) rfl (Nat.le_of_ble_eq_true rfl) rfl rfl ?_
  exact loop 0 (Nat.zero_le _)
set_option maxRecDepth 100000 in
set_option maxHeartbeats 400000 in
theorem c_L_write (d : Nat) (S : Nat → Nat → Int32) (G : Nat → Nat → Int64) (s : sS) (hc : CS S s) (hn0 : sN s = 0) (pg : Nat → Nat) (n : Nat) (hn : n ≤ 45) (ht : TX (S 57) pg n) : xC (d + 3) mL_write [.ref 0, .ref 57, .int (nI n)] (σF (τL ρ), S, G) 0 0 (fun r h' => r = some (.int 1) ∧ ∃ S' pg', h' = (σF (τL ρ), S', G) ∧ CS S' (pg', n, s.2.2) ∧ (∀ j, 54 ≤ j → S' j = S j) ∧ ∀ i, i < n → pg' i = pg i) := by
  refine xC.of okL_write (Nat.le_of_ble_eq_true rfl) (L := [_, _, _, _]) rfl ?_
  have loop : ∀ i, i ≤ n → ∀ S1 pg1, CS S1 (pg1, i, s.2.2) → (∀ j, 54 ≤ j → S1 j = S j) → (∀ j, j < i → pg1 j = pg j) → xA none (d + 3) mL_write 0 0 0 0 2 [some (.ref 0), some (.ref 57), some (.int (nI n)), some (.int (nI i))] [] (σF (τL ρ), S1, G) (fun r h' => r = some (.int 1) ∧ ∃ S' pg', h' = (σF (τL ρ), S', G) ∧ CS S' (pg', n, s.2.2) ∧ (∀ j, 54 ≤ j → S' j = S j) ∧ ∀ i, i < n → pg' i = pg i) := by
    refine xloop n (fun i hi ih => ?_) ?_
    · intro S1 pg1 hc1 hf1 hp1
      refine xA.iload_n (i := 3) rfl rfl rfl rfl ?_
      refine xA.iload_n (i := 2) rfl rfl rfl rfl ?_
      refine xA.icmp_ge (tgt := 29) rfl rfl rfl (fun h4 => ?_) (fun h4 => ?_)
      · exact absurd h4 (nI_ge hi (by omega))
      · refine xA.aload_n (i := 0) rfl rfl rfl rfl ?_
        refine xA.aload_n (i := 1) rfl rfl rfl rfl ?_
        refine xA.iload_n (i := 3) rfl rfl rfl rfl ?_
        refine xA.iald rfl rfl (vp_in_nI (by omega) (by omega)) rfl ?_
        refine xA.topi (rdA (by omega) ((congrFun (hf1 57 (by decide)) i).trans (ht i hi).1)) ?_
        refine xA.i2l rfl rfl ?_
        refine xA.gO (As := [_]) rfl k11_18 okX9_letters rfl rfl rfl (Nat.le_of_ble_eq_true rfl) (Nat.le_of_ble_eq_true rfl) (Nat.le_of_ble_eq_true rfl) (o_letters d _ _) (hc1) rfl rfl ?_
        intro S2 hc2 hf2
        have hl := ltr1 (s := (pg1, i, s.2.2)) (ht i hi).2.1 (ht i hi).2.2 (by omega : i < 45) rfl
        rw [hl.2] at hc2
        refine xA.topi hl.1 ?_
        refine xA.iload_n (i := 3) rfl rfl rfl rfl ?_
        refine xA.iconst (v := 1) rfl (by decide) rfl ?_
        refine xA.iadd rfl rfl ?_
        refine xA.topi (nI_1 i) ?_
        refine xA.icmp_eq (tgt := 23) rfl rfl rfl (fun h18 => ?_) (fun h18 => ?_)
        · refine xA.iinc (L' := [_, _, _, _]) rfl rfl (nI_1 i) rfl rfl ?_
          refine xA.goto (q := 2) rfl rfl ?_
          exact ih S2 _ hc2 (fun j hj => (hf2 j hj).trans (hf1 j hj)) (pgA_new (by have := (ht i hi).2.2; omega) hp1 rfl)
        · exact absurd rfl h18
    · intro S1 pg1 hc1 hf1 hp1
      refine xA.iload_n (i := 3) rfl rfl rfl rfl ?_
      refine xA.iload_n (i := 2) rfl rfl rfl rfl ?_
      refine xA.icmp_ge (tgt := 29) rfl rfl rfl (fun h4 => ?_) (fun h4 => ?_)
      · refine xA.iconst (v := 1) rfl (by decide) rfl ?_
        exact xA.iret rfl rfl rfl ⟨rfl, S1, pg1, rfl, hc1, hf1, hp1⟩
      · exact absurd (nI_le (Nat.le_refl _) (by omega)) h4
  refine xA.iconst (v := 0) rfl (by decide) rfl ?_
  refine xA.istore_n (i := 3) (L' := [_, _, _, _]) rfl rfl (Nat.le_of_ble_eq_true rfl) rfl rfl ?_
  exact loop 0 (Nat.zero_le _) S (sPg s) (by rw [← hn0]; exact hc) (fun _ _ => rfl) (fun j hj => absurd hj (Nat.not_lt_zero _))

variable {τ : List xSh}
/-! ===== the house read ===== -/
/-- a house as far as it is read: stage, doors, sights, low door's room, back, first digit; the doors' numbers, what is seen, the doors' rooms -/
abbrev hS : Type := Nat × Nat × Nat × Nat × Nat × Nat × (Nat → Nat) × (Nat → Nat) × (Nat → Nat) × (Nat → Nat)
abbrev hSt (h : hS) : Nat := h.1
abbrev hNd (h : hS) : Nat := h.2.1
abbrev hNs (h : hS) : Nat := h.2.2.1
abbrev hLo (h : hS) : Nat := h.2.2.2.1
abbrev hBa (h : hS) : Nat := h.2.2.2.2.1
abbrev hFi (h : hS) : Nat := h.2.2.2.2.2.1
abbrev hD (h : hS) : Nat → Nat := h.2.2.2.2.2.2.1
abbrev hSr (h : hS) : Nat → Nat := h.2.2.2.2.2.2.2.1
abbrev hOn (h : hS) : Nat → Nat := h.2.2.2.2.2.2.2.2.1
abbrev hTw (h : hS) : Nat → Nat := h.2.2.2.2.2.2.2.2.2
def nu (f : Nat → Nat) (k v : Nat) : Nat → Nat := fun j => if j = k then v else f j
/-- a digit -/
def hdg (c lo hi : Nat) : Option Nat := if 48 + lo ≤ c ∧ c ≤ 48 + hi then some (c - 48) else none
theorem hdg_some {c lo hi v : Nat} (h : hdg c lo hi = some v) : lo ≤ v ∧ v ≤ hi ∧ c = 48 + v := by
  unfold hdg at h
  split at h
  · cases h; omega
  · cases h
theorem i32_sub48 {c : Nat} (hc : c ≤ 126) : (nI c - 48).toInt = (c : Int) - 48 := by
  rw [Int32.toInt_sub, nI_toInt (by omega), show (48 : Int32).toInt = 48 from rfl, Int.bmod_def]
  split <;> omega
theorem i32_sub48n {c : Nat} (h : 48 ≤ c) : nI c - 48 = nI (c - 48) := nI_sub (b := 48) h
theorem xdig_nI {c : Nat} (lo hi : Nat) (hc : c ≤ 126) (hl : lo ≤ 9) (hh : hi ≤ 9) : xdig (nI c) (nI lo) (nI hi) = oI (hdg c lo hi) := by
  unfold xdig hdg
  by_cases h : 48 + lo ≤ c ∧ c ≤ 48 + hi
  · rw [if_pos h, if_pos, i32_sub48n (by omega)]
    · rfl
    · rw [Int32.le_iff_toInt_le, Int32.le_iff_toInt_le, i32_sub48 hc, nI_toInt (by omega), nI_toInt (by omega)]
      omega
  · rw [if_neg h, if_neg]
    · rfl
    · rw [Int32.le_iff_toInt_le, Int32.le_iff_toInt_le, i32_sub48 hc, nI_toInt (by omega), nI_toInt (by omega)]
      omega
theorem oI_m1 {o : Option Nat} (h : ∀ v, o = some v → v < 2 ^ 31) : oI o = -1 ↔ o = none := by
  cases o with
  | none => simp [oI]
  | some v => simp only [oI, reduceCtorEq, iff_false]; exact nI_m1 (h v rfl)

/-- one letter more -/
def hstep (h : hS) (c : Nat) : Option hS :=
  if hSt h = 0 ∨ hSt h = 6 then (hdg c 0 5).map (fun v => (hSt h + 1, hNd h, hNs h, hLo h, hBa h, v, hD h, hSr h, hOn h, hTw h))
  else if hSt h = 1 then (hdg c 0 5).bind (fun v => if v ≠ hFi h ∧ hD h (hFi h * 6 + v) = 0 then some (2, hNd h + 1, hNs h, hLo h, hBa h, hFi h, nu (nu (hD h) (hFi h * 6 + v) (hNd h + 1)) (v * 6 + hFi h) (hNd h + 1), hSr h, nu (hOn h) (hNd h) (hFi h), nu (hTw h) (hNd h) v) else none)
  else if hSt h = 2 then (if c = 59 then some (3, h.2) else if c = 44 ∧ hNd h < 10 then some (0, h.2) else none)
  else if hSt h = 3 then (hdg c 0 5).map (fun v => (4, hNd h, hNs h, v, hBa h, hFi h, hD h, hSr h, hOn h, hTw h))
  else if hSt h = 4 then (hdg c 1 9).map (fun v => (5, hNd h, hNs h, hLo h, v, hFi h, hD h, hSr h, hOn h, hTw h))
  else if hSt h = 5 then (if c = 59 then some (6, h.2) else none)
  else if hSt h = 7 then (hdg c 0 5).bind (fun v => if v ≠ hFi h ∧ (hSr h (hFi h)).testBit v = false then some (8, hNd h, hNs h + 1, hLo h, hBa h, hFi h, hD h, nu (nu (hSr h) (hFi h) (hSr h (hFi h) ||| 2 ^ v)) v (hSr h v ||| 2 ^ hFi h), hOn h, hTw h) else none)
  else if c = 44 ∧ hNs h < 4 then some (6, h.2) else none
def h0 : hS := (0, 0, 0, 0, 0, 0, fun _ => 0, fun _ => 0, fun _ => 0, fun _ => 0)
/-- what holds of every house so far -/
def hOk (h : hS) : Prop := hSt h ≤ 8 ∧ hNd h ≤ 10 ∧ (hSt h ≤ 1 → hNd h < 10) ∧ hNs h ≤ 4 ∧ (hSt h ≤ 7 → hNs h < 4) ∧ (4 ≤ hSt h → hLo h < 6) ∧ (5 ≤ hSt h → 1 ≤ hBa h ∧ hBa h ≤ 9) ∧ ((hSt h = 1 ∨ hSt h = 7) → hFi h < 6) ∧
  (∀ a, hSr h a < 64) ∧ (∀ a b, a < 6 → b < 6 → (hSr h a).testBit b = (hSr h b).testBit a) ∧
  (∀ a b, a < 6 → b < 6 → hD h (a * 6 + b) = hD h (b * 6 + a) ∧ hD h (a * 6 + b) ≤ hNd h) ∧ (∀ a, a < 6 → hD h (a * 6 + a) = 0) ∧
  (∀ j, j < hNd h → hOn h j < 6 ∧ hTw h j < 6 ∧ hD h (hOn h j * 6 + hTw h j) = j + 1) ∧
  (∀ a b j, a < 6 → b < 6 → hD h (a * 6 + b) = j + 1 → (a = hOn h j ∧ b = hTw h j) ∨ (a = hTw h j ∧ b = hOn h j)) ∧ (2 ≤ hSt h → 1 ≤ hNd h)
/-- the class's house k holds it -/
def hC (S : Nat → Nat → Int32) (k : Nat) (h : hS) : Prop := S k 6 = nI (hSt h) ∧ S k 2 = nI (hNd h) ∧ S k 3 = nI (hNs h) ∧ (4 ≤ hSt h → S k 4 = nI (hLo h)) ∧ (5 ≤ hSt h → S k 5 = nI (hBa h)) ∧ ((hSt h = 1 ∨ hSt h = 7) → S k 7 = nI (hFi h)) ∧ (∀ a, a < 36 → S (k + 1) a = nI (hD h a)) ∧ (∀ a, a < 6 → S (k + 2) a = nI (hSr h a))
/-- nothing changed but cells k .. k + w - 1 -/
def frW (k w : Nat) (S S' : Nat → Nat → Int32) : Prop := ∀ j, (j < k ∨ k + w ≤ j) → S' j = S j
theorem nI_or (a b : Nat) : nI a ||| nI b = nI (a ||| b) := by
  unfold nI
  apply Int32.toBitVec_inj.mp
  simp
theorem nI_and (a b : Nat) : nI a &&& nI b = nI (a &&& b) := by
  unfold nI
  apply Int32.toBitVec_inj.mp
  simp
theorem nI_shl : ∀ b, b < 16 → (1 : Int32) <<< (nI b &&& 31) = nI (2 ^ b) := by decide +kernel
theorem bt_nI : ∀ x, x < 64 → ∀ b, b < 6 → (bt (nI x) (nI b) ↔ x.testBit b = true) := by decide +kernel
theorem or_lt64 {a b : Nat} (ha : a < 64) (hb : b < 6) : a ||| 2 ^ b < 64 := Nat.or_lt_two_pow (n := 6) ha (by have := Nat.pow_lt_pow_right (a := 2) (by decide) hb; simpa using this)

def hcS (S : Nat → Nat → Int32) (k n m : Nat) : Nat → Nat → Int32 := fun j i => if j = k + 1 then (if i < n then 0 else S j i) else if j = k + 2 then (if i < m then 0 else S j i) else S j i
def hcE (S : Nat → Nat → Int32) (k : Nat) : Nat → Nat → Int32 := xu (xu (xu (xu (xu (hcS S k 36 6) k 2 0) k 3 0) k 4 (-1)) k 5 0) k 6 0

set_option maxRecDepth 100000 in
set_option maxHeartbeats 400000 in
theorem c_X1_clear (d : Nat) (S : Nat → Nat → Int32) (G : Nat → Nat → Int64) (k : Nat) (hk : isHouse τ k) : xR τ d mX1_clear [.ref k] S G none (hcE S k) G := by
  refine xC.of okX1_clear (Nat.le_of_ble_eq_true rfl) (L := [_, _]) rfl ?_
  have loop2 : ∀ i, i ≤ 6 → xA none d mX1_clear 0 0 0 0 26 [some (.ref k), some (.int (nI i))] [] ((σF τ), hcS S k 36 i, G) (fun r' h' => r' = none ∧ h' = ((σF τ), hcE S k, G)) := by
    refine xloop 6 (fun i hi ih => ?_) ?_
    · skip
      refine xA.iload_n (i := 1) rfl rfl rfl rfl ?_
      refine xA.aload_n (i := 0) rfl rfl rfl rfl ?_
      refine xA.getR rfl f1_15 hk.1 rfl rfl rfl ?_
      refine xA.alen rfl hk.2.2 rfl ?_
      refine xA.icmp_ge (tgt := 48) rfl rfl rfl (fun h32 => ?_) (fun h32 => ?_)
      · exact absurd h32 (nI_ge hi (by omega))
      · refine xA.aload_n (i := 0) rfl rfl rfl rfl ?_
        refine xA.getR rfl f1_15 hk.1 rfl rfl rfl ?_
        refine xA.iload_n (i := 1) rfl rfl rfl rfl ?_
        refine xA.iconst (v := 0) rfl (by decide) rfl ?_
        refine xA.iast rfl hk.2.2 (vp_in_nI (by omega) (by omega)) rfl ?_
        rw [nI_clamp (by omega)]
        refine xA.iinc (L' := [_, _]) rfl rfl (nI_1 i) rfl rfl ?_
        refine xA.goto (q := 26) rfl rfl ?_
        refine xA.store (S' := hcS S k 36 (i + 1)) (by funext j i; simp only [hcS, xu]; repeat (first | split | (exfalso; omega) | rfl | simp_all)) ih
    · skip
      refine xA.iload_n (i := 1) rfl rfl rfl rfl ?_
      refine xA.aload_n (i := 0) rfl rfl rfl rfl ?_
      refine xA.getR rfl f1_15 hk.1 rfl rfl rfl ?_
      refine xA.alen rfl hk.2.2 rfl ?_
      refine xA.icmp_ge (tgt := 48) rfl rfl rfl (fun h32 => ?_) (fun h32 => ?_)
      · refine xA.aload_n (i := 0) rfl rfl rfl rfl ?_
        refine xA.iconst (v := 0) rfl (by decide) rfl ?_
        refine xA.putI rfl p1_42 hk.1 rfl rfl ?_
        refine xA.aload_n (i := 0) rfl rfl rfl rfl ?_
        refine xA.iconst (v := 0) rfl (by decide) rfl ?_
        refine xA.putI rfl p1_45 hk.1 rfl rfl ?_
        refine xA.aload_n (i := 0) rfl rfl rfl rfl ?_
        refine xA.iconst (v := (-1)) rfl (by decide) rfl ?_
        refine xA.putI rfl p1_18 hk.1 rfl rfl ?_
        refine xA.aload_n (i := 0) rfl rfl rfl rfl ?_
        refine xA.iconst (v := 0) rfl (by decide) rfl ?_
        refine xA.putI rfl p1_48 hk.1 rfl rfl ?_
        refine xA.aload_n (i := 0) rfl rfl rfl rfl ?_
        refine xA.iconst (v := 0) rfl (by decide) rfl ?_
        refine xA.putI rfl p1_39 hk.1 rfl rfl ?_
        exact xA.vret rfl rfl ⟨rfl, rfl⟩
      · exact absurd (nI_le (Nat.le_refl _) (by omega)) h32
  have loop1 : ∀ i, i ≤ 36 → xA none d mX1_clear 0 0 0 0 2 [some (.ref k), some (.int (nI i))] [] ((σF τ), hcS S k i 0, G) (fun r' h' => r' = none ∧ h' = ((σF τ), hcE S k, G)) := by
    refine xloop 36 (fun i hi ih => ?_) ?_
    · skip
      refine xA.iload_n (i := 1) rfl rfl rfl rfl ?_
      refine xA.aload_n (i := 0) rfl rfl rfl rfl ?_
      refine xA.getR rfl f1_9 hk.1 rfl rfl rfl ?_
      refine xA.alen rfl hk.2.1 rfl ?_
      refine xA.icmp_ge (tgt := 24) rfl rfl rfl (fun h8 => ?_) (fun h8 => ?_)
      · exact absurd h8 (nI_ge hi (by omega))
      · refine xA.aload_n (i := 0) rfl rfl rfl rfl ?_
        refine xA.getR rfl f1_9 hk.1 rfl rfl rfl ?_
        refine xA.iload_n (i := 1) rfl rfl rfl rfl ?_
        refine xA.iconst (v := 0) rfl (by decide) rfl ?_
        refine xA.iast rfl hk.2.1 (vp_in_nI (by omega) (by omega)) rfl ?_
        rw [nI_clamp (by omega)]
        refine xA.iinc (L' := [_, _]) rfl rfl (nI_1 i) rfl rfl ?_
        refine xA.goto (q := 2) rfl rfl ?_
        refine xA.store (S' := hcS S k (i + 1) 0) (by funext j i; simp only [hcS, xu]; repeat (first | split | (exfalso; omega) | rfl | simp_all)) ih
    · skip
      refine xA.iload_n (i := 1) rfl rfl rfl rfl ?_
      refine xA.aload_n (i := 0) rfl rfl rfl rfl ?_
      refine xA.getR rfl f1_9 hk.1 rfl rfl rfl ?_
      refine xA.alen rfl hk.2.1 rfl ?_
      refine xA.icmp_ge (tgt := 24) rfl rfl rfl (fun h8 => ?_) (fun h8 => ?_)
      · refine xA.iconst (v := 0) rfl (by decide) rfl ?_
        refine xA.istore_n (i := 1) (L' := [_, _]) rfl rfl (Nat.le_of_ble_eq_true rfl) rfl rfl ?_
        exact loop2 0 (Nat.zero_le _)
      · exact absurd (nI_le (Nat.le_refl _) (by omega)) h8
  refine xA.iconst (v := 0) rfl (by decide) rfl ?_
  refine xA.istore_n (i := 1) (L' := [_, _]) rfl rfl (Nat.le_of_ble_eq_true rfl) rfl rfl ?_
  refine xA.store (S' := hcS S k 0 0) (by funext j i; simp only [hcS, xu]; repeat (first | split | (exfalso; omega) | rfl | simp_all)) (loop1 0 (Nat.zero_le _))
set_option maxRecDepth 100000 in
set_option maxHeartbeats 400000 in
theorem c_X1_goesOn1 (d : Nat) (S : Nat → Nat → Int32) (G : Nat → Nat → Int64) (k : Nat) (hk : isHouse τ k) (x : Int32) : xR τ d mX1_goesOn [.ref k, .int 1, .int x] S G (some (.int 1)) (xu S k 6 x) G := by
  refine xC.of okX1_goesOn (Nat.le_of_ble_eq_true rfl) (L := [_, _, _]) rfl ?_
  refine xA.iload_n (i := 1) rfl rfl rfl rfl ?_
  refine xA.if_eq (tgt := 9) rfl rfl rfl (fun h1 => ?_) (fun h1 => ?_)
  · exact absurd h1 (by decide)
  · refine xA.aload_n (i := 0) rfl rfl rfl rfl ?_
    refine xA.iload_n (i := 2) rfl rfl rfl rfl ?_
    refine xA.putI rfl p1_39 hk.1 rfl rfl ?_
    refine xA.iload_n (i := 1) rfl rfl rfl rfl ?_
    exact xA.iret rfl rfl rfl ⟨rfl, rfl⟩
set_option maxRecDepth 100000 in
set_option maxHeartbeats 400000 in
theorem c_X1_goesOn0 (d : Nat) (S : Nat → Nat → Int32) (G : Nat → Nat → Int64) (k : Nat) (hk : isHouse τ k) (x : Int32) : xR τ d mX1_goesOn [.ref k, .int 0, .int x] S G (some (.int 0)) S G := by
  refine xC.of okX1_goesOn (Nat.le_of_ble_eq_true rfl) (L := [_, _, _]) rfl ?_
  refine xA.iload_n (i := 1) rfl rfl rfl rfl ?_
  refine xA.if_eq (tgt := 9) rfl rfl rfl (fun h1 => ?_) (fun h1 => ?_)
  · refine xA.iload_n (i := 1) rfl rfl rfl rfl ?_
    exact xA.iret rfl rfl rfl ⟨rfl, rfl⟩
  · exact absurd rfl h1
set_option maxRecDepth 100000 in
set_option maxHeartbeats 400000 in
theorem c_X1_addsDoorN (d : Nat) (S : Nat → Nat → Int32) (G : Nat → Nat → Int64) (k : Nat) (hk : isHouse τ k) (a b : Nat) (ha : a < 6) : xR τ (d + 2) mX1_addsDoor [.ref k, .int (nI a), .int (-1)] S G (some (.int 0)) S G := by
  refine xC.of okX1_addsDoor (Nat.le_of_ble_eq_true rfl) (L := [_, _, _]) rfl ?_
  refine xA.iload_n (i := 1) rfl rfl rfl rfl ?_
  refine xA.callSNi (As := [_]) rfl k1_72 okX9_isRoom rfl rfl (Nat.le_of_ble_eq_true rfl) (c_X9_isRoom (d + 1) S G _) rfl rfl ?_
  refine xA.if_eq (tgt := 29) rfl rfl rfl (fun h4 => ?_) (fun h4 => ?_)
  · exact absurd h4 (xb_ne0.mpr (rg_of ha (by omega)))
  · refine xA.iload_n (i := 2) rfl rfl rfl rfl ?_
    refine xA.callSNi (As := [_]) rfl k1_72 okX9_isRoom rfl rfl (Nat.le_of_ble_eq_true rfl) (c_X9_isRoom (d + 1) S G _) rfl rfl ?_
    refine xA.if_eq (tgt := 29) rfl rfl rfl (fun h11 => ?_) (fun h11 => ?_)
    · refine xA.iconst (v := 0) rfl (by decide) rfl ?_
      exact xA.iret rfl rfl rfl ⟨rfl, rfl⟩
    · exact absurd (xb_f (by decide)) h11
set_option maxRecDepth 100000 in
set_option maxHeartbeats 400000 in
theorem c_X1_addsDoorF (d : Nat) (S : Nat → Nat → Int32) (G : Nat → Nat → Int64) (k : Nat) (hk : isHouse τ k) (a b : Nat) (ha : a < 6) (hb : b < 6) (hn : b = a ∨ ¬ S (k + 1) (a * 6 + b) = 0) : xR τ (d + 2) mX1_addsDoor [.ref k, .int (nI a), .int (nI b)] S G (some (.int 0)) S G := by
  refine xC.of okX1_addsDoor (Nat.le_of_ble_eq_true rfl) (L := [_, _, _]) rfl ?_
  refine xA.iload_n (i := 1) rfl rfl rfl rfl ?_
  refine xA.callSNi (As := [_]) rfl k1_72 okX9_isRoom rfl rfl (Nat.le_of_ble_eq_true rfl) (c_X9_isRoom (d + 1) S G _) rfl rfl ?_
  refine xA.if_eq (tgt := 29) rfl rfl rfl (fun h4 => ?_) (fun h4 => ?_)
  · exact absurd h4 (xb_ne0.mpr (rg_of ha (by omega)))
  · refine xA.iload_n (i := 2) rfl rfl rfl rfl ?_
    refine xA.callSNi (As := [_]) rfl k1_72 okX9_isRoom rfl rfl (Nat.le_of_ble_eq_true rfl) (c_X9_isRoom (d + 1) S G _) rfl rfl ?_
    refine xA.if_eq (tgt := 29) rfl rfl rfl (fun h11 => ?_) (fun h11 => ?_)
    · exact absurd h11 (xb_ne0.mpr (rg_of hb (by omega)))
    · refine xA.iload_n (i := 1) rfl rfl rfl rfl ?_
      refine xA.iload_n (i := 2) rfl rfl rfl rfl ?_
      refine xA.icmp_eq (tgt := 29) rfl rfl rfl (fun h16 => ?_) (fun h16 => ?_)
      · refine xA.iconst (v := 0) rfl (by decide) rfl ?_
        exact xA.iret rfl rfl rfl ⟨rfl, rfl⟩
      · refine xA.aload_n (i := 0) rfl rfl rfl rfl ?_
        refine xA.iload_n (i := 1) rfl rfl rfl rfl ?_
        refine xA.iload_n (i := 2) rfl rfl rfl rfl ?_
        refine xA.callVi (As := [_, _]) rfl k1_75 okX1_doorBetween hk.1 rfl rfl rfl (Nat.le_of_ble_eq_true rfl) (c_X1_doorBetween d S G k hk a b ha hb) rfl rfl ?_
        refine xA.iconst (v := (-1)) rfl (by decide) rfl ?_
        refine xA.icmp_eq (tgt := 31) rfl rfl rfl (fun h26 => ?_) (fun h26 => ?_)
        · rcases hn with hn | hn
          · exact absurd (by rw [hn]) h16
          · exact absurd (i32_sub1.mp h26) hn
        · refine xA.iconst (v := 0) rfl (by decide) rfl ?_
          exact xA.iret rfl rfl rfl ⟨rfl, rfl⟩
set_option maxRecDepth 100000 in
set_option maxHeartbeats 400000 in
theorem c_X1_addsDoorT (d : Nat) (S : Nat → Nat → Int32) (G : Nat → Nat → Int64) (k : Nat) (hk : isHouse τ k) (a b : Nat) (ha : a < 6) (hb : b < 6) (hn1 : ¬ b = a) (hn2 : S (k + 1) (a * 6 + b) = 0) (nd : Nat) (hnd : S k 2 = nI nd) : xR τ (d + 2) mX1_addsDoor [.ref k, .int (nI a), .int (nI b)] S G (some (.int 1)) (xu (xu (xu S k 2 (nI (nd + 1))) (k + 1) (a * 6 + b) (nI (nd + 1))) (k + 1) (b * 6 + a) (nI (nd + 1))) G := by
  refine xC.of okX1_addsDoor (Nat.le_of_ble_eq_true rfl) (L := [_, _, _]) rfl ?_
  refine xA.iload_n (i := 1) rfl rfl rfl rfl ?_
  refine xA.callSNi (As := [_]) rfl k1_72 okX9_isRoom rfl rfl (Nat.le_of_ble_eq_true rfl) (c_X9_isRoom (d + 1) S G _) rfl rfl ?_
  refine xA.if_eq (tgt := 29) rfl rfl rfl (fun h4 => ?_) (fun h4 => ?_)
  · exact absurd h4 (xb_ne0.mpr (rg_of ha (by omega)))
  · refine xA.iload_n (i := 2) rfl rfl rfl rfl ?_
    refine xA.callSNi (As := [_]) rfl k1_72 okX9_isRoom rfl rfl (Nat.le_of_ble_eq_true rfl) (c_X9_isRoom (d + 1) S G _) rfl rfl ?_
    refine xA.if_eq (tgt := 29) rfl rfl rfl (fun h11 => ?_) (fun h11 => ?_)
    · exact absurd h11 (xb_ne0.mpr (rg_of hb (by omega)))
    · refine xA.iload_n (i := 1) rfl rfl rfl rfl ?_
      refine xA.iload_n (i := 2) rfl rfl rfl rfl ?_
      refine xA.icmp_eq (tgt := 29) rfl rfl rfl (fun h16 => ?_) (fun h16 => ?_)
      · exact absurd ((nI_eq (by omega) (by omega)).mp h16).symm hn1
      · refine xA.aload_n (i := 0) rfl rfl rfl rfl ?_
        refine xA.iload_n (i := 1) rfl rfl rfl rfl ?_
        refine xA.iload_n (i := 2) rfl rfl rfl rfl ?_
        refine xA.callVi (As := [_, _]) rfl k1_75 okX1_doorBetween hk.1 rfl rfl rfl (Nat.le_of_ble_eq_true rfl) (c_X1_doorBetween d S G k hk a b ha hb) rfl rfl ?_
        refine xA.iconst (v := (-1)) rfl (by decide) rfl ?_
        refine xA.icmp_eq (tgt := 31) rfl rfl rfl (fun h26 => ?_) (fun h26 => ?_)
        · refine xA.aload_n (i := 0) rfl rfl rfl rfl ?_
          refine xA.dup rfl rfl rfl ?_
          refine xA.getI rfl f1_42 hk.1 rfl rfl ?_
          refine xA.topi (hnd) ?_
          refine xA.iconst (v := 1) rfl (by decide) rfl ?_
          refine xA.iadd rfl rfl ?_
          refine xA.topi (nI_1 nd) ?_
          refine xA.putI rfl p1_42 hk.1 rfl rfl ?_
          refine xA.aload_n (i := 0) rfl rfl rfl rfl ?_
          refine xA.getR rfl f1_9 hk.1 rfl rfl rfl ?_
          refine xA.iload_n (i := 1) rfl rfl rfl rfl ?_
          refine xA.bipush (v := 6) rfl (by decide) rfl ?_
          refine xA.imul rfl rfl ?_
          refine xA.iload_n (i := 2) rfl rfl rfl rfl ?_
          refine xA.iadd rfl rfl ?_
          refine xA.topi (nI_spot a b) ?_
          refine xA.aload_n (i := 0) rfl rfl rfl rfl ?_
          refine xA.getI rfl f1_42 hk.1 rfl rfl ?_
          refine xA.topi (xu_same) ?_
          refine xA.iast rfl hk.2.1 (vp_in_nI (by omega) (by omega)) rfl ?_
          rw [nI_clamp (by omega)]
          refine xA.aload_n (i := 0) rfl rfl rfl rfl ?_
          refine xA.getR rfl f1_9 hk.1 rfl rfl rfl ?_
          refine xA.iload_n (i := 2) rfl rfl rfl rfl ?_
          refine xA.bipush (v := 6) rfl (by decide) rfl ?_
          refine xA.imul rfl rfl ?_
          refine xA.iload_n (i := 1) rfl rfl rfl rfl ?_
          refine xA.iadd rfl rfl ?_
          refine xA.topi (nI_spot b a) ?_
          refine xA.aload_n (i := 0) rfl rfl rfl rfl ?_
          refine xA.getI rfl f1_42 hk.1 rfl rfl ?_
          refine xA.topi (((xu_ne1 (by omega)).trans xu_same : _ = nI (nd + 1))) ?_
          refine xA.iast rfl hk.2.1 (vp_in_nI (by omega) (by omega)) rfl ?_
          rw [nI_clamp (by omega)]
          refine xA.iconst (v := 1) rfl (by decide) rfl ?_
          exact xA.iret rfl rfl rfl ⟨rfl, rfl⟩
        · exact absurd (i32_sub1.mpr hn2) h26
set_option maxRecDepth 100000 in
set_option maxHeartbeats 400000 in
theorem c_X1_addsSightN (d : Nat) (S : Nat → Nat → Int32) (G : Nat → Nat → Int64) (k : Nat) (hk : isHouse τ k) (a b : Nat) (ha : a < 6) : xR τ (d + 2) mX1_addsSight [.ref k, .int (nI a), .int (-1)] S G (some (.int 0)) S G := by
  refine xC.of okX1_addsSight (Nat.le_of_ble_eq_true rfl) (L := [_, _, _]) rfl ?_
  refine xA.iload_n (i := 1) rfl rfl rfl rfl ?_
  refine xA.callSNi (As := [_]) rfl k1_72 okX9_isRoom rfl rfl (Nat.le_of_ble_eq_true rfl) (c_X9_isRoom (d + 1) S G _) rfl rfl ?_
  refine xA.if_eq (tgt := 28) rfl rfl rfl (fun h4 => ?_) (fun h4 => ?_)
  · exact absurd h4 (xb_ne0.mpr (rg_of ha (by omega)))
  · refine xA.iload_n (i := 2) rfl rfl rfl rfl ?_
    refine xA.callSNi (As := [_]) rfl k1_72 okX9_isRoom rfl rfl (Nat.le_of_ble_eq_true rfl) (c_X9_isRoom (d + 1) S G _) rfl rfl ?_
    refine xA.if_eq (tgt := 28) rfl rfl rfl (fun h11 => ?_) (fun h11 => ?_)
    · refine xA.iconst (v := 0) rfl (by decide) rfl ?_
      exact xA.iret rfl rfl rfl ⟨rfl, rfl⟩
    · exact absurd (xb_f (by decide)) h11
set_option maxRecDepth 100000 in
set_option maxHeartbeats 400000 in
theorem c_X1_addsSightF (d : Nat) (S : Nat → Nat → Int32) (G : Nat → Nat → Int64) (k : Nat) (hk : isHouse τ k) (a b : Nat) (ha : a < 6) (hb : b < 6) (hn : b = a ∨ bt (S (k + 2) a) (nI b)) : xR τ (d + 2) mX1_addsSight [.ref k, .int (nI a), .int (nI b)] S G (some (.int 0)) S G := by
  refine xC.of okX1_addsSight (Nat.le_of_ble_eq_true rfl) (L := [_, _, _]) rfl ?_
  refine xA.iload_n (i := 1) rfl rfl rfl rfl ?_
  refine xA.callSNi (As := [_]) rfl k1_72 okX9_isRoom rfl rfl (Nat.le_of_ble_eq_true rfl) (c_X9_isRoom (d + 1) S G _) rfl rfl ?_
  refine xA.if_eq (tgt := 28) rfl rfl rfl (fun h4 => ?_) (fun h4 => ?_)
  · exact absurd h4 (xb_ne0.mpr (rg_of ha (by omega)))
  · refine xA.iload_n (i := 2) rfl rfl rfl rfl ?_
    refine xA.callSNi (As := [_]) rfl k1_72 okX9_isRoom rfl rfl (Nat.le_of_ble_eq_true rfl) (c_X9_isRoom (d + 1) S G _) rfl rfl ?_
    refine xA.if_eq (tgt := 28) rfl rfl rfl (fun h11 => ?_) (fun h11 => ?_)
    · exact absurd h11 (xb_ne0.mpr (rg_of hb (by omega)))
    · refine xA.iload_n (i := 1) rfl rfl rfl rfl ?_
      refine xA.iload_n (i := 2) rfl rfl rfl rfl ?_
      refine xA.icmp_eq (tgt := 28) rfl rfl rfl (fun h16 => ?_) (fun h16 => ?_)
      · refine xA.iconst (v := 0) rfl (by decide) rfl ?_
        exact xA.iret rfl rfl rfl ⟨rfl, rfl⟩
      · refine xA.aload_n (i := 0) rfl rfl rfl rfl ?_
        refine xA.iload_n (i := 1) rfl rfl rfl rfl ?_
        refine xA.iload_n (i := 2) rfl rfl rfl rfl ?_
        refine xA.callVi (As := [_, _]) rfl k1_79 okX1_isSeenFrom hk.1 rfl rfl rfl (Nat.le_of_ble_eq_true rfl) (c_X1_isSeenFrom d S G k hk a b ha hb) rfl rfl ?_
        refine xA.if_eq (tgt := 30) rfl rfl rfl (fun h25 => ?_) (fun h25 => ?_)
        · rcases hn with hn | hn
          · exact absurd (by rw [hn]) h16
          · exact absurd hn (xb_eq0.mp h25)
        · refine xA.iconst (v := 0) rfl (by decide) rfl ?_
          exact xA.iret rfl rfl rfl ⟨rfl, rfl⟩
set_option maxRecDepth 100000 in
set_option maxHeartbeats 400000 in
theorem c_X1_addsSightT (d : Nat) (S : Nat → Nat → Int32) (G : Nat → Nat → Int64) (k : Nat) (hk : isHouse τ k) (a b : Nat) (ha : a < 6) (hb : b < 6) (hn1 : ¬ b = a) (hn2 : ¬ bt (S (k + 2) a) (nI b)) (ns : Nat) (hns : S k 3 = nI ns) : xR τ (d + 2) mX1_addsSight [.ref k, .int (nI a), .int (nI b)] S G (some (.int 1)) (xu (xu (xu S k 3 (nI (ns + 1))) (k + 2) a (S (k + 2) a ||| nI (2 ^ b))) (k + 2) b (S (k + 2) b ||| nI (2 ^ a))) G := by
  refine xC.of okX1_addsSight (Nat.le_of_ble_eq_true rfl) (L := [_, _, _]) rfl ?_
  refine xA.iload_n (i := 1) rfl rfl rfl rfl ?_
  refine xA.callSNi (As := [_]) rfl k1_72 okX9_isRoom rfl rfl (Nat.le_of_ble_eq_true rfl) (c_X9_isRoom (d + 1) S G _) rfl rfl ?_
  refine xA.if_eq (tgt := 28) rfl rfl rfl (fun h4 => ?_) (fun h4 => ?_)
  · exact absurd h4 (xb_ne0.mpr (rg_of ha (by omega)))
  · refine xA.iload_n (i := 2) rfl rfl rfl rfl ?_
    refine xA.callSNi (As := [_]) rfl k1_72 okX9_isRoom rfl rfl (Nat.le_of_ble_eq_true rfl) (c_X9_isRoom (d + 1) S G _) rfl rfl ?_
    refine xA.if_eq (tgt := 28) rfl rfl rfl (fun h11 => ?_) (fun h11 => ?_)
    · exact absurd h11 (xb_ne0.mpr (rg_of hb (by omega)))
    · refine xA.iload_n (i := 1) rfl rfl rfl rfl ?_
      refine xA.iload_n (i := 2) rfl rfl rfl rfl ?_
      refine xA.icmp_eq (tgt := 28) rfl rfl rfl (fun h16 => ?_) (fun h16 => ?_)
      · exact absurd ((nI_eq (by omega) (by omega)).mp h16).symm hn1
      · refine xA.aload_n (i := 0) rfl rfl rfl rfl ?_
        refine xA.iload_n (i := 1) rfl rfl rfl rfl ?_
        refine xA.iload_n (i := 2) rfl rfl rfl rfl ?_
        refine xA.callVi (As := [_, _]) rfl k1_79 okX1_isSeenFrom hk.1 rfl rfl rfl (Nat.le_of_ble_eq_true rfl) (c_X1_isSeenFrom d S G k hk a b ha hb) rfl rfl ?_
        refine xA.if_eq (tgt := 30) rfl rfl rfl (fun h25 => ?_) (fun h25 => ?_)
        · refine xA.aload_n (i := 0) rfl rfl rfl rfl ?_
          refine xA.dup rfl rfl rfl ?_
          refine xA.getI rfl f1_45 hk.1 rfl rfl ?_
          refine xA.topi (hns) ?_
          refine xA.iconst (v := 1) rfl (by decide) rfl ?_
          refine xA.iadd rfl rfl ?_
          refine xA.topi (nI_1 ns) ?_
          refine xA.putI rfl p1_45 hk.1 rfl rfl ?_
          refine xA.aload_n (i := 0) rfl rfl rfl rfl ?_
          refine xA.getR rfl f1_15 hk.1 rfl rfl rfl ?_
          refine xA.iload_n (i := 1) rfl rfl rfl rfl ?_
          refine xA.dup2 rfl rfl rfl rfl ?_
          refine xA.iald rfl hk.2.2 (vp_in_nI (by omega) (by omega)) rfl ?_
          refine xA.topi ((show _ = S (k + 2) a from by rw [nI_clamp (by omega)]; exact xu_ne1 (by omega))) ?_
          refine xA.iconst (v := 1) rfl (by decide) rfl ?_
          refine xA.iload_n (i := 2) rfl rfl rfl rfl ?_
          refine xA.ishl rfl rfl ?_
          refine xA.topi (nI_shl b (by omega)) ?_
          refine xA.ior rfl rfl ?_
          refine xA.iast rfl hk.2.2 (vp_in_nI (by omega) (by omega)) rfl ?_
          rw [nI_clamp (by omega)]
          refine xA.aload_n (i := 0) rfl rfl rfl rfl ?_
          refine xA.getR rfl f1_15 hk.1 rfl rfl rfl ?_
          refine xA.iload_n (i := 2) rfl rfl rfl rfl ?_
          refine xA.dup2 rfl rfl rfl rfl ?_
          refine xA.iald rfl hk.2.2 (vp_in_nI (by omega) (by omega)) rfl ?_
          refine xA.topi ((show _ = S (k + 2) b from by rw [nI_clamp (by omega), xu_ne2 (by omega)]; exact xu_ne1 (by omega))) ?_
          refine xA.iconst (v := 1) rfl (by decide) rfl ?_
          refine xA.iload_n (i := 1) rfl rfl rfl rfl ?_
          refine xA.ishl rfl rfl ?_
          refine xA.topi (nI_shl a (by omega)) ?_
          refine xA.ior rfl rfl ?_
          refine xA.iast rfl hk.2.2 (vp_in_nI (by omega) (by omega)) rfl ?_
          rw [nI_clamp (by omega)]
          refine xA.iconst (v := 1) rfl (by decide) rfl ?_
          exact xA.iret rfl rfl rfl ⟨rfl, rfl⟩
        · exact absurd (xb_ne0.mp h25) hn2

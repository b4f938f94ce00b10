variable {τ : List xSh}
/-! ===== persons, the house asked, tasks, glimpses ===== -/
/-- bit b of x -/
abbrev bt (x : Int32) (b : Int32) : Prop := ¬ ((x >>> (b &&& 31)) &&& 1 = 0)
def orI (f : Nat → Int32) : Nat → Int32
  | 0 => 0
  | i + 1 => orI f i ||| f i
def prI (f : Nat → Int32) : Nat → Int32
  | 0 => 1
  | i + 1 => prI f i * f i
def oI : Option Nat → Int32
  | none => -1
  | some q => nI q
theorem i32_sub1 {x : Int32} : x - 1 = -1 ↔ x = 0 := by
  constructor
  · intro h
    have h1 := congrArg (· + (1 : Int32)) h
    simpa [Int32.sub_add_cancel] using h1
  · intro h; rw [h]; rfl
/-- where a step leads: the doors' numbers, the room of the low door -/
def nx (D : Nat → Int32) (low : Int32) (m r s lp : Nat) : Option Nat :=
  if s = 7 then (if nI r = low ∧ lp ≤ m then some ((m - lp) * 6 + r) else none)
  else if 60 ≤ m + 1 then none
  else if s = 6 then some ((m + 1) * 6 + r)
  else if D (r * 6 + s) = 0 then none else some ((m + 1) * 6 + s)
def mrm (kd : Int32) (r : Nat) (sr : Int32) : Int32 := if kd = 3 ∨ kd = 4 then 0 else if kd = 1 then 1 <<< (nI r &&& 31) else (1 <<< (nI r &&& 31)) ||| sr
theorem nI_spot (m r : Nat) : nI m * 6 + nI r = nI (m * 6 + r) := by rw [show (6 : Int32) = nI 6 from rfl, nI_mul, nI_add]

set_option maxRecDepth 100000 in
set_option maxHeartbeats 400000 in
theorem c_X1_doorBetween (d : Nat) (S : Nat → Nat → Int32) (G : Nat → Nat → Int64) (k : Nat) (hk : isHouse τ k) (a b : Nat) (ha : a < 6) (hb : b < 6) : xR τ (d + 1) mX1_doorBetween [.ref k, .int (nI a), .int (nI b)] S G (some (.int (S (k + 1) (a * 6 + b) - 1))) S G := by
  refine xC.of okX1_doorBetween (Nat.le_of_ble_eq_true rfl) (L := [_, _, _]) rfl ?_
  refine xA.iload_n (i := 1) rfl rfl rfl rfl ?_
  refine xA.callSNi (As := [_]) rfl k1_72 okX9_isRoom rfl rfl (Nat.le_of_ble_eq_true rfl) (c_X9_isRoom d S G _) rfl rfl ?_
  refine xA.if_eq (tgt := 30) rfl rfl rfl (fun h4 => ?_) (fun h4 => ?_)
  · exact absurd h4 (xb_ne0.mpr (rg_of ha (by omega)))
  · refine xA.iload_n (i := 2) rfl rfl rfl rfl ?_
    refine xA.callSNi (As := [_]) rfl k1_72 okX9_isRoom rfl rfl (Nat.le_of_ble_eq_true rfl) (c_X9_isRoom d S G _) rfl rfl ?_
    refine xA.if_eq (tgt := 30) rfl rfl rfl (fun h11 => ?_) (fun h11 => ?_)
    · exact absurd h11 (xb_ne0.mpr (rg_of hb (by omega)))
    · refine xA.aload_n (i := 0) rfl rfl rfl rfl ?_
      refine xA.getR rfl f1_9 hk.1 rfl rfl rfl ?_
      refine xA.iload_n (i := 1) rfl rfl rfl rfl ?_
      refine xA.bipush (v := 6) rfl (by decide) rfl ?_
      refine xA.imul rfl rfl ?_
      refine xA.iload_n (i := 2) rfl rfl rfl rfl ?_
      refine xA.iadd rfl rfl ?_
      refine xA.topi (nI_spot a b) ?_
      refine xA.iald rfl hk.2.1 (vp_in_nI (by omega) (by omega)) rfl ?_
      refine xA.topi (congrArg (S (k + 1)) (nI_clamp (by omega))) ?_
      refine xA.iconst (v := 1) rfl (by decide) rfl ?_
      refine xA.isub rfl rfl ?_
      refine xA.goto (q := 31) rfl rfl ?_
      exact xA.iret rfl rfl rfl ⟨rfl, rfl⟩
set_option maxRecDepth 100000 in
set_option maxHeartbeats 400000 in
theorem c_X1_isSeenFrom (d : Nat) (S : Nat → Nat → Int32) (G : Nat → Nat → Int64) (k : Nat) (hk : isHouse τ k) (a b : Nat) (ha : a < 6) (hb : b < 6) : xR τ (d + 1) mX1_isSeenFrom [.ref k, .int (nI a), .int (nI b)] S G (some (.int (xb (bt (S (k + 2) a) (nI b))))) S G := by
  refine xC.of okX1_isSeenFrom (Nat.le_of_ble_eq_true rfl) (L := [_, _, _]) rfl ?_
  refine xA.iload_n (i := 1) rfl rfl rfl rfl ?_
  refine xA.callSNi (As := [_]) rfl k1_72 okX9_isRoom rfl rfl (Nat.le_of_ble_eq_true rfl) (c_X9_isRoom d S G _) rfl rfl ?_
  refine xA.if_eq (tgt := 31) rfl rfl rfl (fun h4 => ?_) (fun h4 => ?_)
  · exact absurd h4 (xb_ne0.mpr (rg_of ha (by omega)))
  · refine xA.iload_n (i := 2) rfl rfl rfl rfl ?_
    refine xA.callSNi (As := [_]) rfl k1_72 okX9_isRoom rfl rfl (Nat.le_of_ble_eq_true rfl) (c_X9_isRoom d S G _) rfl rfl ?_
    refine xA.if_eq (tgt := 31) rfl rfl rfl (fun h11 => ?_) (fun h11 => ?_)
    · exact absurd h11 (xb_ne0.mpr (rg_of hb (by omega)))
    · refine xA.aload_n (i := 0) rfl rfl rfl rfl ?_
      refine xA.getR rfl f1_15 hk.1 rfl rfl rfl ?_
      refine xA.iload_n (i := 1) rfl rfl rfl rfl ?_
      refine xA.iald rfl hk.2.2 (vp_in_nI (by omega) (by omega)) rfl ?_
      refine xA.topi (congrArg (S (k + 2)) (nI_clamp (by omega))) ?_
      refine xA.iload_n (i := 2) rfl rfl rfl rfl ?_
      refine xA.ishr rfl rfl ?_
      refine xA.iconst (v := 1) rfl (by decide) rfl ?_
      refine xA.iand rfl rfl ?_
      refine xA.if_eq (tgt := 31) rfl rfl rfl (fun h24 => ?_) (fun h24 => ?_)
      · refine xA.iconst (v := 0) rfl (by decide) rfl ?_
        exact xA.iret rfl rfl rfl ⟨by simp [xb, *], rfl⟩
      · refine xA.iconst (v := 1) rfl (by decide) rfl ?_
        refine xA.goto (q := 32) rfl rfl ?_
        exact xA.iret rfl rfl rfl ⟨by simp [xb, *], rfl⟩
set_option maxRecDepth 100000 in
set_option maxHeartbeats 400000 in
theorem c_X1_meetingRooms (d : Nat) (S : Nat → Nat → Int32) (G : Nat → Nat → Int64) (k : Nat) (hk : isHouse τ k) (kd : Int32) (r : Nat) (hr : r < 6) : xR τ (d + 1) mX1_meetingRooms [.ref k, .int kd, .int (nI r)] S G (some (.int (mrm kd r (S (k + 2) r)))) S G := by
  refine xC.of okX1_meetingRooms (Nat.le_of_ble_eq_true rfl) (L := [_, _, _, _]) rfl ?_
  refine xA.iload_n (i := 2) rfl rfl rfl rfl ?_
  refine xA.callSNi (As := [_]) rfl k1_72 okX9_isRoom rfl rfl (Nat.le_of_ble_eq_true rfl) (c_X9_isRoom d S G _) rfl rfl ?_
  refine xA.if_eq (tgt := 15) rfl rfl rfl (fun h4 => ?_) (fun h4 => ?_)
  · exact absurd h4 (xb_ne0.mpr (rg_of hr (by omega)))
  · refine xA.iload_n (i := 1) rfl rfl rfl rfl ?_
    refine xA.iconst (v := 3) rfl (by decide) rfl ?_
    refine xA.callSNi (As := [_, _]) rfl k1_82 okX9_isOfKind rfl rfl (Nat.le_of_ble_eq_true rfl) (c_X9_isOfKind d S G _ _) rfl rfl ?_
    refine xA.if_eq (tgt := 17) rfl rfl rfl (fun h12 => ?_) (fun h12 => ?_)
    · rw [xb_eq0] at h12
      refine xA.iconst (v := 1) rfl (by decide) rfl ?_
      refine xA.iload_n (i := 2) rfl rfl rfl rfl ?_
      refine xA.ishl rfl rfl ?_
      refine xA.istore_n (i := 3) (L' := [_, _, _, _]) rfl rfl (Nat.le_of_ble_eq_true rfl) rfl rfl ?_
      refine xA.iload_n (i := 1) rfl rfl rfl rfl ?_
      refine xA.iconst (v := 1) rfl (by decide) rfl ?_
      refine xA.callSNi (As := [_, _]) rfl k1_82 okX9_isOfKind rfl rfl (Nat.le_of_ble_eq_true rfl) (c_X9_isOfKind d S G _ _) rfl rfl ?_
      refine xA.if_eq (tgt := 33) rfl rfl rfl (fun h26 => ?_) (fun h26 => ?_)
      · rw [xb_eq0] at h26
        refine xA.iload_n (i := 3) rfl rfl rfl rfl ?_
        refine xA.aload_n (i := 0) rfl rfl rfl rfl ?_
        refine xA.getR rfl f1_15 hk.1 rfl rfl rfl ?_
        refine xA.iload_n (i := 2) rfl rfl rfl rfl ?_
        refine xA.iald rfl hk.2.2 (vp_in_nI (by omega) (by omega)) rfl ?_
        refine xA.topi (congrArg (S (k + 2)) (nI_clamp (by omega))) ?_
        refine xA.ior rfl rfl ?_
        exact xA.iret rfl rfl rfl ⟨by unfold mrm; by_cases e3 : kd = 3 <;> by_cases e4 : kd = 4 <;> by_cases e1 : kd = 1 <;> simp_all [eq_comm], rfl⟩
      · rw [xb_ne0] at h26
        refine xA.iload_n (i := 3) rfl rfl rfl rfl ?_
        refine xA.goto (q := 41) rfl rfl ?_
        exact xA.iret rfl rfl rfl ⟨by unfold mrm; by_cases e3 : kd = 3 <;> by_cases e4 : kd = 4 <;> by_cases e1 : kd = 1 <;> simp_all [eq_comm], rfl⟩
    · rw [xb_ne0] at h12
      refine xA.iconst (v := 0) rfl (by decide) rfl ?_
      exact xA.iret rfl rfl rfl ⟨by unfold mrm; by_cases e3 : kd = 3 <;> by_cases e4 : kd = 4 <;> by_cases e1 : kd = 1 <;> simp_all [eq_comm], rfl⟩
set_option maxRecDepth 100000 in
set_option maxHeartbeats 400000 in
theorem c_X1_spotAfter (d : Nat) (S : Nat → Nat → Int32) (G : Nat → Nat → Int64) (k : Nat) (hk : isHouse τ k) (m r s lp : Nat) (hm : m < 60) (hr : r < 6) (hs : s < 8) (hlp : lp ≤ 10) : xR τ (d + 2) mX1_spotAfter [.ref k, .int (nI (m * 6 + r)), .int (nI s), .int (nI lp)] S G (some (.int (oI (nx (S (k + 1)) (S k 4) m r s lp)))) S G := by
  refine xC.of okX1_spotAfter (Nat.le_of_ble_eq_true rfl) (L := [_, _, _, _, _, _]) rfl ?_
  refine xA.iload_n (i := 1) rfl rfl rfl rfl ?_
  refine xA.callSNi (As := [_]) rfl k1_85 okX9_minuteOf rfl rfl (Nat.le_of_ble_eq_true rfl) (c_X9_minuteOf (d + 1) S G _) rfl rfl ?_
  refine xA.topi (xmin_nI hm hr) ?_
  refine xA.istore (L' := [_, _, _, _, _, _]) rfl (Nat.le_of_ble_eq_true rfl) rfl rfl ?_
  refine xA.iload_n (i := 1) rfl rfl rfl rfl ?_
  refine xA.callSNi (As := [_]) rfl k1_88 okX9_roomOf rfl rfl (Nat.le_of_ble_eq_true rfl) (c_X9_roomOf (d + 1) S G _) rfl rfl ?_
  refine xA.topi (xroom_nI hm hr) ?_
  refine xA.istore (L' := [_, _, _, _, _, _]) rfl (Nat.le_of_ble_eq_true rfl) rfl rfl ?_
  refine xA.iload_n (i := 2) rfl rfl rfl rfl ?_
  refine xA.bipush (v := 7) rfl (by decide) rfl ?_
  refine xA.icmp_ne (tgt := 47) rfl rfl rfl (fun h15 => ?_) (fun h15 => ?_)
  · have e7 : ¬ s = 7 := fun z => h15 (by rw [z]; rfl)
    refine xA.iload rfl rfl rfl ?_
    refine xA.callSNi (As := [_]) rfl k1_94 okX9_isMinute rfl rfl (Nat.le_of_ble_eq_true rfl) (c_X9_isMinute (d + 1) S G _) rfl rfl ?_
    refine xA.if_eq (tgt := 65) rfl rfl rfl (fun h52 => ?_) (fun h52 => ?_)
    · exact absurd h52 (xb_ne0.mpr (rg_of hm (by omega)))
    · refine xA.iload rfl rfl rfl ?_
      refine xA.iconst (v := 1) rfl (by decide) rfl ?_
      refine xA.iadd rfl rfl ?_
      refine xA.topi (nI_1 m) ?_
      refine xA.callSNi (As := [_]) rfl k1_94 okX9_isMinute rfl rfl (Nat.le_of_ble_eq_true rfl) (c_X9_isMinute (d + 1) S G _) rfl rfl ?_
      refine xA.if_ne (tgt := 67) rfl rfl rfl (fun h62 => ?_) (fun h62 => ?_)
      · rw [xb_ne0] at h62; have e62 : m + 1 < 60 := by have := h62.2; rw [nI_toInt (by omega)] at this; omega
        refine xA.iload_n (i := 2) rfl rfl rfl rfl ?_
        refine xA.bipush (v := 6) rfl (by decide) rfl ?_
        refine xA.icmp_ne (tgt := 83) rfl rfl rfl (fun h70 => ?_) (fun h70 => ?_)
        · have e6 : ¬ s = 6 := fun z => h70 (by rw [z]; rfl)
          have hs6 : s < 6 := by
            have e7 : ¬ s = 7 := fun z => h15 (by rw [z]; rfl)
            have e6 : ¬ s = 6 := fun z => h70 (by rw [z]; rfl)
            omega
          refine xA.aload_n (i := 0) rfl rfl rfl rfl ?_
          refine xA.iload rfl rfl rfl ?_
          refine xA.iload_n (i := 2) rfl rfl rfl rfl ?_
          refine xA.callVi (As := [_, _]) rfl k1_75 okX1_doorBetween hk.1 rfl rfl rfl (Nat.le_of_ble_eq_true rfl) (c_X1_doorBetween d S G k hk r s hr (by omega)) rfl rfl ?_
          refine xA.iconst (v := (-1)) rfl (by decide) rfl ?_
          refine xA.icmp_ne (tgt := 98) rfl rfl rfl (fun h91 => ?_) (fun h91 => ?_)
          · rw [i32_sub1] at h91
            refine xA.iload rfl rfl rfl ?_
            refine xA.iconst (v := 1) rfl (by decide) rfl ?_
            refine xA.iadd rfl rfl ?_
            refine xA.topi (nI_1 m) ?_
            refine xA.iload_n (i := 2) rfl rfl rfl rfl ?_
            refine xA.callSNi (As := [_, _]) rfl k1_91 okX9_spotOf rfl rfl (Nat.le_of_ble_eq_true rfl) (c_X9_spotOf (d + 1) S G _ _) rfl rfl ?_
            refine xA.topi (nI_spot _ _) ?_
            exact xA.iret rfl rfl rfl ⟨by unfold nx; first | (rw [if_pos e7, if_neg (by simp_all)]; rfl) | (rw [if_pos e7, if_neg (by omega)]; rfl) | (rw [if_pos e7, if_pos ⟨by simp_all, by omega⟩]; rfl) | (rw [if_neg e7, if_pos (by omega)]; rfl) | (rw [if_neg e7, if_neg (by omega), if_pos e6]; rfl) | (rw [if_neg e7, if_neg (by omega), if_neg e6, if_pos h91]; rfl) | (rw [if_neg e7, if_neg (by omega), if_neg e6, if_neg h91]; rfl), rfl⟩
          · rw [i32_sub1] at h91
            refine xA.iconst (v := (-1)) rfl (by decide) rfl ?_
            refine xA.goto (q := 106) rfl rfl ?_
            exact xA.iret rfl rfl rfl ⟨by unfold nx; first | (rw [if_pos e7, if_neg (by simp_all)]; rfl) | (rw [if_pos e7, if_neg (by omega)]; rfl) | (rw [if_pos e7, if_pos ⟨by simp_all, by omega⟩]; rfl) | (rw [if_neg e7, if_pos (by omega)]; rfl) | (rw [if_neg e7, if_neg (by omega), if_pos e6]; rfl) | (rw [if_neg e7, if_neg (by omega), if_neg e6, if_pos h91]; rfl) | (rw [if_neg e7, if_neg (by omega), if_neg e6, if_neg h91]; rfl), rfl⟩
        · have e6 : s = 6 := (nI_eq (b := 6) (by omega) (by omega)).mp h70
          refine xA.iload rfl rfl rfl ?_
          refine xA.iconst (v := 1) rfl (by decide) rfl ?_
          refine xA.iadd rfl rfl ?_
          refine xA.topi (nI_1 m) ?_
          refine xA.iload rfl rfl rfl ?_
          refine xA.callSNi (As := [_, _]) rfl k1_91 okX9_spotOf rfl rfl (Nat.le_of_ble_eq_true rfl) (c_X9_spotOf (d + 1) S G _ _) rfl rfl ?_
          refine xA.topi (nI_spot _ _) ?_
          exact xA.iret rfl rfl rfl ⟨by unfold nx; first | (rw [if_pos e7, if_neg (by simp_all)]; rfl) | (rw [if_pos e7, if_neg (by omega)]; rfl) | (rw [if_pos e7, if_pos ⟨by simp_all, by omega⟩]; rfl) | (rw [if_neg e7, if_pos (by omega)]; rfl) | (rw [if_neg e7, if_neg (by omega), if_pos e6]; rfl) | (rw [if_neg e7, if_neg (by omega), if_neg e6, if_pos h91]; rfl) | (rw [if_neg e7, if_neg (by omega), if_neg e6, if_neg h91]; rfl), rfl⟩
      · rw [xb_eq0] at h62; have e62 : ¬ m + 1 < 60 := fun z => h62 (rg_of z (by omega))
        refine xA.iconst (v := (-1)) rfl (by decide) rfl ?_
        exact xA.iret rfl rfl rfl ⟨by unfold nx; first | (rw [if_pos e7, if_neg (by simp_all)]; rfl) | (rw [if_pos e7, if_neg (by omega)]; rfl) | (rw [if_pos e7, if_pos ⟨by simp_all, by omega⟩]; rfl) | (rw [if_neg e7, if_pos (by omega)]; rfl) | (rw [if_neg e7, if_neg (by omega), if_pos e6]; rfl) | (rw [if_neg e7, if_neg (by omega), if_neg e6, if_pos h91]; rfl) | (rw [if_neg e7, if_neg (by omega), if_neg e6, if_neg h91]; rfl), rfl⟩
  · have e7 : s = 7 := (nI_eq (b := 7) (by omega) (by omega)).mp h15
    refine xA.iload rfl rfl rfl ?_
    refine xA.aload_n (i := 0) rfl rfl rfl rfl ?_
    refine xA.getI rfl f1_18 hk.1 rfl rfl ?_
    refine xA.icmp_ne (tgt := 45) rfl rfl rfl (fun h24 => ?_) (fun h24 => ?_)
    · refine xA.iconst (v := (-1)) rfl (by decide) rfl ?_
      exact xA.iret rfl rfl rfl ⟨by unfold nx; first | (rw [if_pos e7, if_neg (by simp_all)]; rfl) | (rw [if_pos e7, if_neg (by omega)]; rfl) | (rw [if_pos e7, if_pos ⟨by simp_all, by omega⟩]; rfl) | (rw [if_neg e7, if_pos (by omega)]; rfl) | (rw [if_neg e7, if_neg (by omega), if_pos e6]; rfl) | (rw [if_neg e7, if_neg (by omega), if_neg e6, if_pos h91]; rfl) | (rw [if_neg e7, if_neg (by omega), if_neg e6, if_neg h91]; rfl), rfl⟩
    · refine xA.iload rfl rfl rfl ?_
      refine xA.iload_n (i := 3) rfl rfl rfl rfl ?_
      refine xA.icmp_lt (tgt := 45) rfl rfl rfl (fun h30 => ?_) (fun h30 => ?_)
      · have e30 := (nI_ltI (a := m) (b := lp) (by omega) (by omega)).mp h30
        refine xA.iconst (v := (-1)) rfl (by decide) rfl ?_
        exact xA.iret rfl rfl rfl ⟨by unfold nx; first | (rw [if_pos e7, if_neg (by simp_all)]; rfl) | (rw [if_pos e7, if_neg (by omega)]; rfl) | (rw [if_pos e7, if_pos ⟨by simp_all, by omega⟩]; rfl) | (rw [if_neg e7, if_pos (by omega)]; rfl) | (rw [if_neg e7, if_neg (by omega), if_pos e6]; rfl) | (rw [if_neg e7, if_neg (by omega), if_neg e6, if_pos h91]; rfl) | (rw [if_neg e7, if_neg (by omega), if_neg e6, if_neg h91]; rfl), rfl⟩
      · have e30 : ¬ m < lp := mt (nI_ltI (a := m) (b := lp) (by omega) (by omega)).mpr h30
        refine xA.iload rfl rfl rfl ?_
        refine xA.iload_n (i := 3) rfl rfl rfl rfl ?_
        refine xA.isub rfl rfl ?_
        refine xA.topi (nI_sub (by have := mt (nI_ltI (a := m) (b := lp) (by omega) (by omega)).mpr h30; omega)) ?_
        refine xA.iload rfl rfl rfl ?_
        refine xA.callSNi (As := [_, _]) rfl k1_91 okX9_spotOf rfl rfl (Nat.le_of_ble_eq_true rfl) (c_X9_spotOf (d + 1) S G _ _) rfl rfl ?_
        refine xA.topi (nI_spot _ _) ?_
        refine xA.goto (q := 46) rfl rfl ?_
        exact xA.iret rfl rfl rfl ⟨by unfold nx; first | (rw [if_pos e7, if_neg (by simp_all)]; rfl) | (rw [if_pos e7, if_neg (by omega)]; rfl) | (rw [if_pos e7, if_pos ⟨by simp_all, by omega⟩]; rfl) | (rw [if_neg e7, if_pos (by omega)]; rfl) | (rw [if_neg e7, if_neg (by omega), if_pos e6]; rfl) | (rw [if_neg e7, if_neg (by omega), if_neg e6, if_pos h91]; rfl) | (rw [if_neg e7, if_neg (by omega), if_neg e6, if_neg h91]; rfl), rfl⟩
/-- whether a life's self is met there: the rooms as bits -/
def mtF (sp : Nat → Int32) (rooms : Int32) (q : Nat) (i : Nat) : Bool := decide (¬ i = q) && (decide (xmin (sp i) = xmin (sp q)) && decide (bt rooms (xroom (sp i))))
/-- all spots of a life lie in minutes and rooms -/
def okSp (sp : Nat → Int32) (n : Nat) : Prop := ∀ i, i < n → ∃ m r, m < 60 ∧ r < 6 ∧ sp i = nI (m * 6 + r)

set_option maxRecDepth 100000 in
set_option maxHeartbeats 400000 in
theorem c_X5_isMetBySelf (d : Nat) (S : Nat → Nat → Int32) (G : Nat → Nat → Int64) (k : Nat) (hk : isPers τ k) (hh : isHouse τ 3) (n : Nat) (hn : S (k + 1) 1 = nI n) (h17 : n ≤ 17) (hok : okSp (S (k + 1 + 1)) n) (m r q : Nat) (hm : m < 60) (hr : r < 6) (hq : q < n) (hsq : S (k + 1 + 1) q = nI (m * 6 + r)) : xR τ (d + 2) mX5_isMetBySelf [.ref k, .ref 3, .int (nI q)] S G (some (.int (xb (0 < cn (mtF (S (k + 1 + 1)) (mrm (S k 1) r (S 5 r)) q) n)))) S G := by
  refine xC.of okX5_isMetBySelf (Nat.le_of_ble_eq_true rfl) (L := [_, _, _, _, _, _, _]) rfl ?_
  have loop : ∀ i, i ≤ n → cn (mtF (S (k + 1 + 1)) (mrm (S k 1) r (S 5 r)) q) i = 0 → ∀ x6 : Option Value, xA none (d + 2) mX5_isMetBySelf 0 0 0 0 26 [some (.ref k), some (.ref 3), some (.int (nI q)), some (.int (nI (m * 6 + r))), some (.int (mrm (S k 1) r (S 5 r))), some (.int (nI i)), x6] [] ((σF τ), S, G) (fun r' h' => r' = (some (.int (xb (0 < cn (mtF (S (k + 1 + 1)) (mrm (S k 1) r (S 5 r)) q) n)))) ∧ h' = ((σF τ), S, G)) := by
    refine xloop n (fun i hi ih => ?_) ?_
    · skip
      intro hc x6
      refine xA.iload rfl rfl rfl ?_
      refine xA.aload_n (i := 0) rfl rfl rfl rfl ?_
      refine xA.getR rfl f5_12 hk.1 rfl rfl rfl ?_
      refine xA.callVi (As := []) rfl k5_25 okX3_selves hk.2.1 rfl rfl rfl (Nat.le_of_ble_eq_true rfl) (c_X3_selves (d + 1) S G (k + 1) hk.2) rfl rfl ?_
      refine xA.topi hn ?_
      refine xA.icmp_ge (tgt := 88) rfl rfl rfl (fun h35 => ?_) (fun h35 => ?_)
      · exact absurd h35 (nI_ge hi (by omega))
      · refine xA.aload_n (i := 0) rfl rfl rfl rfl ?_
        refine xA.getR rfl f5_12 hk.1 rfl rfl rfl ?_
        refine xA.iload rfl rfl rfl ?_
        refine xA.callVi (As := [_]) rfl k5_29 okX3_spotAt hk.2.1 rfl rfl rfl (Nat.le_of_ble_eq_true rfl) (c_X3_spotAt (d + 1) S G (k + 1) hk.2 n i hn hi h17) rfl rfl ?_
        refine xA.istore (L' := [_, _, _, _, _, _, _]) rfl (Nat.le_of_ble_eq_true rfl) rfl rfl ?_
        refine xA.iload rfl rfl rfl ?_
        refine xA.iload_n (i := 2) rfl rfl rfl rfl ?_
        refine xA.icmp_eq (tgt := 82) rfl rfl rfl (fun h52 => ?_) (fun h52 => ?_)
        · refine xA.iinc (L' := [_, _, _, _, _, _, _]) rfl rfl (nI_1 i) rfl rfl ?_
          refine xA.goto (q := 26) rfl rfl ?_
          have hf : mtF (S (k + 1 + 1)) (mrm (S k 1) r (S 5 r)) q i = false := by
            first
            | (have e52 : i = q := (nI_eq (by omega) (by omega)).mp h52; simp [mtF, e52]; done)
            | (simp [mtF, hsq, h64]; done)
            | (simp [mtF, bt, h77]; done)
          exact ih (by rw [cn, hc, hf]; rfl) _
        · refine xA.iload rfl rfl rfl ?_
          refine xA.callSNi (As := [_]) rfl k5_33 okX9_minuteOf rfl rfl (Nat.le_of_ble_eq_true rfl) (c_X9_minuteOf (d + 1) S G _) rfl rfl ?_
          refine xA.iload_n (i := 3) rfl rfl rfl rfl ?_
          refine xA.callSNi (As := [_]) rfl k5_33 okX9_minuteOf rfl rfl (Nat.le_of_ble_eq_true rfl) (c_X9_minuteOf (d + 1) S G _) rfl rfl ?_
          refine xA.icmp_ne (tgt := 82) rfl rfl rfl (fun h64 => ?_) (fun h64 => ?_)
          · refine xA.iinc (L' := [_, _, _, _, _, _, _]) rfl rfl (nI_1 i) rfl rfl ?_
            refine xA.goto (q := 26) rfl rfl ?_
            have hf : mtF (S (k + 1 + 1)) (mrm (S k 1) r (S 5 r)) q i = false := by
              first
              | (have e52 : i = q := (nI_eq (by omega) (by omega)).mp h52; simp [mtF, e52]; done)
              | (simp [mtF, hsq, h64]; done)
              | (simp [mtF, bt, h77]; done)
            exact ih (by rw [cn, hc, hf]; rfl) _
          · refine xA.iload rfl rfl rfl ?_
            refine xA.iload rfl rfl rfl ?_
            refine xA.callSNi (As := [_]) rfl k5_40 okX9_roomOf rfl rfl (Nat.le_of_ble_eq_true rfl) (c_X9_roomOf (d + 1) S G _) rfl rfl ?_
            refine xA.ishr rfl rfl ?_
            refine xA.iconst (v := 1) rfl (by decide) rfl ?_
            refine xA.iand rfl rfl ?_
            refine xA.if_eq (tgt := 82) rfl rfl rfl (fun h77 => ?_) (fun h77 => ?_)
            · refine xA.iinc (L' := [_, _, _, _, _, _, _]) rfl rfl (nI_1 i) rfl rfl ?_
              refine xA.goto (q := 26) rfl rfl ?_
              have hf : mtF (S (k + 1 + 1)) (mrm (S k 1) r (S 5 r)) q i = false := by
                first
                | (have e52 : i = q := (nI_eq (by omega) (by omega)).mp h52; simp [mtF, e52]; done)
                | (simp [mtF, hsq, h64]; done)
                | (simp [mtF, bt, h77]; done)
              exact ih (by rw [cn, hc, hf]; rfl) _
            · refine xA.iconst (v := 1) rfl (by decide) rfl ?_
              have hf : mtF (S (k + 1 + 1)) (mrm (S k 1) r (S 5 r)) q i = true := by
                have e52 : ¬ i = q := fun z => h52 (by rw [z])
                simp only [mtF, hsq, e52, h64, h77, bt, not_false_eq_true, decide_true, Bool.and_true]
              exact xA.iret rfl rfl rfl ⟨by rw [xb_t (cn_pos.mpr ⟨i, hi, hf⟩)], rfl⟩
    · skip
      intro hc x6
      refine xA.iload rfl rfl rfl ?_
      refine xA.aload_n (i := 0) rfl rfl rfl rfl ?_
      refine xA.getR rfl f5_12 hk.1 rfl rfl rfl ?_
      refine xA.callVi (As := []) rfl k5_25 okX3_selves hk.2.1 rfl rfl rfl (Nat.le_of_ble_eq_true rfl) (c_X3_selves (d + 1) S G (k + 1) hk.2) rfl rfl ?_
      refine xA.topi hn ?_
      refine xA.icmp_ge (tgt := 88) rfl rfl rfl (fun h35 => ?_) (fun h35 => ?_)
      · refine xA.iconst (v := 0) rfl (by decide) rfl ?_
        exact xA.iret rfl rfl rfl ⟨by rw [xb_f (by omega)], rfl⟩
      · exact absurd (nI_le (Nat.le_refl _) (by omega)) h35
  refine xA.aload_n (i := 0) rfl rfl rfl rfl ?_
  refine xA.getR rfl f5_12 hk.1 rfl rfl rfl ?_
  refine xA.iload_n (i := 2) rfl rfl rfl rfl ?_
  refine xA.callVi (As := [_]) rfl k5_29 okX3_spotAt hk.2.1 rfl rfl rfl (Nat.le_of_ble_eq_true rfl) (c_X3_spotAt (d + 1) S G (k + 1) hk.2 n q hn hq h17) rfl rfl ?_
  refine xA.topi hsq ?_
  refine xA.istore_n (i := 3) (L' := [_, _, _, _, _, _, _]) rfl rfl (Nat.le_of_ble_eq_true rfl) rfl rfl ?_
  refine xA.aload_n (i := 1) rfl rfl rfl rfl ?_
  refine xA.aload_n (i := 0) rfl rfl rfl rfl ?_
  refine xA.getI rfl f5_18 hk.1 rfl rfl ?_
  refine xA.iload_n (i := 3) rfl rfl rfl rfl ?_
  refine xA.callSNi (As := [_]) rfl k5_40 okX9_roomOf rfl rfl (Nat.le_of_ble_eq_true rfl) (c_X9_roomOf (d + 1) S G _) rfl rfl ?_
  refine xA.topi (xroom_nI hm hr) ?_
  refine xA.callVi (As := [_, _]) rfl k5_43 okX1_meetingRooms rfl rfl rfl rfl (Nat.le_of_ble_eq_true rfl) (c_X1_meetingRooms d S G 3 hh _ r hr) rfl rfl ?_
  refine xA.istore (L' := [_, _, _, _, _, _, _]) rfl (Nat.le_of_ble_eq_true rfl) rfl rfl ?_
  refine xA.iconst (v := 0) rfl (by decide) rfl ?_
  refine xA.istore (L' := [_, _, _, _, _, _, _]) rfl (Nat.le_of_ble_eq_true rfl) rfl rfl ?_
  exact loop 0 (Nat.zero_le _) rfl _
set_option maxRecDepth 100000 in
set_option maxHeartbeats 400000 in
theorem c_X5_firstMeeting (d : Nat) (S : Nat → Nat → Int32) (G : Nat → Nat → Int64) (k : Nat) (hk : isPers τ k) (hh : isHouse τ 3) (n : Nat) (hn : S (k + 1) 1 = nI n) (h17 : n ≤ 17) (hok : okSp (S (k + 1 + 1)) n) : xR τ (d + 3) mX5_firstMeeting [.ref k, .ref 3] S G (some (.int (fwS (fun j => xmin ((S (k + 1 + 1)) j)) (fun j => decide (0 < cn (mtF (S (k + 1 + 1)) (mrm (S k 1) (xroom ((S (k + 1 + 1)) j)).toNatClampNeg (S 5 (xroom ((S (k + 1 + 1)) j)).toNatClampNeg)) j) n)) n))) S G := by
  refine xC.of okX5_firstMeeting (Nat.le_of_ble_eq_true rfl) (L := [_, _, _, _, _]) rfl ?_
  have loop : ∀ i, i ≤ n → ∀ x4 : Option Value, xA none (d + 3) mX5_firstMeeting 0 0 0 0 4 [some (.ref k), some (.ref 3), some (.int (fwS (fun j => xmin ((S (k + 1 + 1)) j)) (fun j => decide (0 < cn (mtF (S (k + 1 + 1)) (mrm (S k 1) (xroom ((S (k + 1 + 1)) j)).toNatClampNeg (S 5 (xroom ((S (k + 1 + 1)) j)).toNatClampNeg)) j) n)) i)), some (.int (nI i)), x4] [] ((σF τ), S, G) (fun r' h' => r' = (some (.int (fwS (fun j => xmin ((S (k + 1 + 1)) j)) (fun j => decide (0 < cn (mtF (S (k + 1 + 1)) (mrm (S k 1) (xroom ((S (k + 1 + 1)) j)).toNatClampNeg (S 5 (xroom ((S (k + 1 + 1)) j)).toNatClampNeg)) j) n)) n))) ∧ h' = ((σF τ), S, G)) := by
    refine xloop n (fun i hi ih => ?_) ?_
    · skip
      intro x4
      refine xA.iload_n (i := 3) rfl rfl rfl rfl ?_
      refine xA.aload_n (i := 0) rfl rfl rfl rfl ?_
      refine xA.getR rfl f5_12 hk.1 rfl rfl rfl ?_
      refine xA.callVi (As := []) rfl k5_25 okX3_selves hk.2.1 rfl rfl rfl (Nat.le_of_ble_eq_true rfl) (c_X3_selves (d + 2) S G (k + 1) hk.2) rfl rfl ?_
      refine xA.topi hn ?_
      refine xA.icmp_ge (tgt := 57) rfl rfl rfl (fun h12 => ?_) (fun h12 => ?_)
      · exact absurd h12 (nI_ge hi (by omega))
      · obtain ⟨m, r, hm, hr, hsq⟩ := hok i hi
        have hxr : (xroom (S (k + 1 + 1) i)).toNatClampNeg = r := by rw [hsq, xroom_nI hm hr, nI_clamp (by omega)]
        refine xA.aload_n (i := 0) rfl rfl rfl rfl ?_
        refine xA.getR rfl f5_12 hk.1 rfl rfl rfl ?_
        refine xA.iload_n (i := 3) rfl rfl rfl rfl ?_
        refine xA.callVi (As := [_]) rfl k5_29 okX3_spotAt hk.2.1 rfl rfl rfl (Nat.le_of_ble_eq_true rfl) (c_X3_spotAt (d + 2) S G (k + 1) hk.2 n i hn hi h17) rfl rfl ?_
        refine xA.callSNi (As := [_]) rfl k5_33 okX9_minuteOf rfl rfl (Nat.le_of_ble_eq_true rfl) (c_X9_minuteOf (d + 2) S G _) rfl rfl ?_
        refine xA.istore (L' := [_, _, _, _, _]) rfl (Nat.le_of_ble_eq_true rfl) rfl rfl ?_
        refine xA.iload_n (i := 2) rfl rfl rfl rfl ?_
        refine xA.iconst (v := (-1)) rfl (by decide) rfl ?_
        refine xA.icmp_eq (tgt := 39) rfl rfl rfl (fun h30 => ?_) (fun h30 => ?_)
        · refine xA.aload_n (i := 0) rfl rfl rfl rfl ?_
          refine xA.aload_n (i := 1) rfl rfl rfl rfl ?_
          refine xA.iload_n (i := 3) rfl rfl rfl rfl ?_
          refine xA.callVi (As := [_, _]) rfl k5_36 okX5_isMetBySelf hk.1 rfl rfl rfl (Nat.le_of_ble_eq_true rfl) (c_X5_isMetBySelf d S G k hk hh n hn h17 hok m r i hm hr hi hsq) rfl rfl ?_
          refine xA.if_eq (tgt := 51) rfl rfl rfl (fun h45 => ?_) (fun h45 => ?_)
          · rw [xb_eq0] at h45
            refine xA.iinc (L' := [_, _, _, _, _]) rfl rfl (nI_1 i) rfl rfl ?_
            refine xA.goto (q := 4) rfl rfl ?_
            have ih := ih (some (.int (xmin (S (k + 1 + 1) i))))
            simp only [fwS, decide_eq_true_eq, hxr] at ih
            first | (rw [if_pos (by first | exact ⟨Or.inl h30, h45⟩ | exact ⟨Or.inr (Int32.not_le.mp h36), h45⟩)] at ih; exact ih) | (rw [if_neg (by rintro ⟨h, hh⟩; first | exact h45 hh | (rcases h with h | h; exact h30 h; exact absurd h36 (Int32.not_le.mpr h)))] at ih; exact ih)
          · rw [xb_ne0] at h45
            refine xA.iload rfl rfl rfl ?_
            refine xA.istore_n (i := 2) (L' := [_, _, _, _, _]) rfl rfl (Nat.le_of_ble_eq_true rfl) rfl rfl ?_
            refine xA.iinc (L' := [_, _, _, _, _]) rfl rfl (nI_1 i) rfl rfl ?_
            refine xA.goto (q := 4) rfl rfl ?_
            have ih := ih (some (.int (xmin (S (k + 1 + 1) i))))
            simp only [fwS, decide_eq_true_eq, hxr] at ih
            first | (rw [if_pos (by first | exact ⟨Or.inl h30, h45⟩ | exact ⟨Or.inr (Int32.not_le.mp h36), h45⟩)] at ih; exact ih) | (rw [if_neg (by rintro ⟨h, hh⟩; first | exact h45 hh | (rcases h with h | h; exact h30 h; exact absurd h36 (Int32.not_le.mpr h)))] at ih; exact ih)
        · refine xA.iload rfl rfl rfl ?_
          refine xA.iload_n (i := 2) rfl rfl rfl rfl ?_
          refine xA.icmp_ge (tgt := 51) rfl rfl rfl (fun h36 => ?_) (fun h36 => ?_)
          · refine xA.iinc (L' := [_, _, _, _, _]) rfl rfl (nI_1 i) rfl rfl ?_
            refine xA.goto (q := 4) rfl rfl ?_
            have ih := ih (some (.int (xmin (S (k + 1 + 1) i))))
            simp only [fwS, decide_eq_true_eq, hxr] at ih
            first | (rw [if_pos (by first | exact ⟨Or.inl h30, h45⟩ | exact ⟨Or.inr (Int32.not_le.mp h36), h45⟩)] at ih; exact ih) | (rw [if_neg (by rintro ⟨h, hh⟩; first | exact h45 hh | (rcases h with h | h; exact h30 h; exact absurd h36 (Int32.not_le.mpr h)))] at ih; exact ih)
          · refine xA.aload_n (i := 0) rfl rfl rfl rfl ?_
            refine xA.aload_n (i := 1) rfl rfl rfl rfl ?_
            refine xA.iload_n (i := 3) rfl rfl rfl rfl ?_
            refine xA.callVi (As := [_, _]) rfl k5_36 okX5_isMetBySelf hk.1 rfl rfl rfl (Nat.le_of_ble_eq_true rfl) (c_X5_isMetBySelf d S G k hk hh n hn h17 hok m r i hm hr hi hsq) rfl rfl ?_
            refine xA.if_eq (tgt := 51) rfl rfl rfl (fun h45 => ?_) (fun h45 => ?_)
            · rw [xb_eq0] at h45
              refine xA.iinc (L' := [_, _, _, _, _]) rfl rfl (nI_1 i) rfl rfl ?_
              refine xA.goto (q := 4) rfl rfl ?_
              have ih := ih (some (.int (xmin (S (k + 1 + 1) i))))
              simp only [fwS, decide_eq_true_eq, hxr] at ih
              first | (rw [if_pos (by first | exact ⟨Or.inl h30, h45⟩ | exact ⟨Or.inr (Int32.not_le.mp h36), h45⟩)] at ih; exact ih) | (rw [if_neg (by rintro ⟨h, hh⟩; first | exact h45 hh | (rcases h with h | h; exact h30 h; exact absurd h36 (Int32.not_le.mpr h)))] at ih; exact ih)
            · rw [xb_ne0] at h45
              refine xA.iload rfl rfl rfl ?_
              refine xA.istore_n (i := 2) (L' := [_, _, _, _, _]) rfl rfl (Nat.le_of_ble_eq_true rfl) rfl rfl ?_
              refine xA.iinc (L' := [_, _, _, _, _]) rfl rfl (nI_1 i) rfl rfl ?_
              refine xA.goto (q := 4) rfl rfl ?_
              have ih := ih (some (.int (xmin (S (k + 1 + 1) i))))
              simp only [fwS, decide_eq_true_eq, hxr] at ih
              first | (rw [if_pos (by first | exact ⟨Or.inl h30, h45⟩ | exact ⟨Or.inr (Int32.not_le.mp h36), h45⟩)] at ih; exact ih) | (rw [if_neg (by rintro ⟨h, hh⟩; first | exact h45 hh | (rcases h with h | h; exact h30 h; exact absurd h36 (Int32.not_le.mpr h)))] at ih; exact ih)
    · skip
      intro x4
      refine xA.iload_n (i := 3) rfl rfl rfl rfl ?_
      refine xA.aload_n (i := 0) rfl rfl rfl rfl ?_
      refine xA.getR rfl f5_12 hk.1 rfl rfl rfl ?_
      refine xA.callVi (As := []) rfl k5_25 okX3_selves hk.2.1 rfl rfl rfl (Nat.le_of_ble_eq_true rfl) (c_X3_selves (d + 2) S G (k + 1) hk.2) rfl rfl ?_
      refine xA.topi hn ?_
      refine xA.icmp_ge (tgt := 57) rfl rfl rfl (fun h12 => ?_) (fun h12 => ?_)
      · refine xA.iload_n (i := 2) rfl rfl rfl rfl ?_
        exact xA.iret rfl rfl rfl ⟨rfl, rfl⟩
      · exact absurd (nI_le (Nat.le_refl _) (by omega)) h12
  refine xA.iconst (v := (-1)) rfl (by decide) rfl ?_
  refine xA.istore_n (i := 2) (L' := [_, _, _, _, _]) rfl rfl (Nat.le_of_ble_eq_true rfl) rfl rfl ?_
  refine xA.iconst (v := 0) rfl (by decide) rfl ?_
  refine xA.istore_n (i := 3) (L' := [_, _, _, _, _]) rfl rfl (Nat.le_of_ble_eq_true rfl) rfl rfl ?_
  exact loop 0 (Nat.zero_le _) _

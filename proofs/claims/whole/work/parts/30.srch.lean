/-! ===== the search, in whole numbers; its small methods ===== -/
/-- the first below n that does -/
def ff (p : Nat → Bool) : Nat → Option Nat
  | 0 => none
  | n + 1 => if (ff p n).isSome = true then ff p n else if p n = true then some n else none
theorem ff_none {p : Nat → Bool} {n : Nat} (h : ∀ j, j < n → p j = false) : ff p n = none := by
  induction n with
  | zero => rfl
  | succ n ih => rw [ff, ih (fun j hj => h j (by omega)), h n (by omega)]; rfl
theorem ff_some {p : Nat → Bool} {n i : Nat} (h : ff p n = some i) : i < n ∧ p i = true ∧ ∀ j, j < i → p j = false := by
  induction n with
  | zero => cases h
  | succ n ih =>
    rw [ff] at h
    split at h
    · have := ih h; exact ⟨by omega, this.2⟩
    · rename_i hn
      split at h
      · cases h
        rename_i hp
        refine ⟨by omega, hp, ?_⟩
        clear ih hp
        have key : ∀ m, (ff p m).isSome = false → ∀ j, j < m → p j = false := by
          intro m
          induction m with
          | zero => intro _ j hj; omega
          | succ m ih =>
            intro hm j hj
            rw [ff] at hm
            by_cases h1 : (ff p m).isSome = true
            · rw [if_pos h1, h1] at hm; cases hm
            · rw [if_neg h1] at hm
              by_cases h2 : p m = true
              · rw [if_pos h2] at hm; cases hm
              · by_cases e : j = m
                · subst e; exact Bool.eq_false_iff.mpr h2
                · exact ih (Bool.eq_false_iff.mpr h1) j (by omega)
        exact key _ (Bool.eq_false_iff.mpr hn)
      · cases h
theorem ff_eq {p : Nat → Bool} {n i : Nat} (hi : i < n) (hp : p i = true) (h : ∀ j, j < i → p j = false) : ff p n = some i := by
  induction n with
  | zero => omega
  | succ n ih =>
    by_cases e : i = n
    · subst e; rw [ff, ff_none h, hp]; rfl
    · rw [ff, ih (by omega)]; rfl
theorem ff_no {p : Nat → Bool} {n : Nat} (h : ff p n = none) : ∀ j, j < n → p j = false := by
  intro j hj
  rcases Bool.eq_false_or_eq_true (p j) with z | z
  · exfalso
    have key : ∀ m, j < m → (ff p m).isSome = true := by
      intro m
      induction m with
      | zero => intro q; omega
      | succ m ih =>
        intro q
        rw [ff]
        by_cases h1 : (ff p m).isSome = true
        · rw [if_pos h1]; exact h1
        · rw [if_neg h1]
          by_cases e : j = m
          · subst e; rw [if_pos z]; rfl
          · exact absurd (ih (by omega)) h1
    have := key n hj
    rw [h] at this; cases this
  · exact z
theorem ff_is {p : Nat → Bool} {n : Nat} : (ff p n).isSome = true ↔ ∃ j, j < n ∧ p j = true := by
  cases h : ff p n with
  | none => exact ⟨fun z => (by cases z), fun ⟨j, hj, hp⟩ => by rw [ff_no h j hj] at hp; cases hp⟩
  | some i => exact ⟨fun _ => ⟨i, (ff_some h).1, (ff_some h).2.1⟩, fun _ => rfl⟩
theorem ff_congr {p q : Nat → Bool} {n : Nat} (h : ∀ j, j < n → p j = q j) : ff p n = ff q n := by
  induction n with
  | zero => rfl
  | succ n ih => rw [ff, ff, ih (fun j hj => h j (by omega)), h n (by omega)]
def cvB (set b : Int32) : Bool := decide (b &&& set = set)
def okP (mt : Nat → Nat → Bool) (prev : List Nat) (sp : Nat) : Bool := prev.all (fun q => !mt sp q)
/-- what may be reached by so many steps, met or not -/
def rF (N : Nat → Nat → Option Nat) (f : Nat → Int32) (sp : Nat) : Nat → Int32
  | 0 => f sp
  | i + 1 => rF N f sp i ||| ((N sp i).map f).getD 0
def rS (N : Nat → Nat → Option Nat) (dI : Nat → Int32) : Nat → Nat → Int32
  | 0, sp => dI sp
  | l + 1, sp => rF N (rS N dI l) sp 8
/-- whether fewer than t steps can do it -/
def eS (N : Nat → Nat → Option Nat) (dI : Nat → Int32) (mt : Nat → Nat → Bool) (set : Int32) : Nat → List Nat → Nat → Int32 → Bool
  | 0, _, _, _ => false
  | t + 1, prev, sp, b => okP mt prev sp && (cvB set (b ||| dI sp) || (ff (fun s => (N sp s).any (fun q => eS N dI mt set t (sp :: prev) q (b ||| dI sp))) 8).isSome)
/-- whether so many steps can do it -/
def xS (N : Nat → Nat → Option Nat) (dI : Nat → Int32) (mt : Nat → Nat → Bool) (set : Int32) : Nat → List Nat → Nat → Int32 → Bool
  | 0, prev, sp, b => okP mt prev sp && cvB set (b ||| dI sp)
  | t + 1, prev, sp, b => okP mt prev sp && (ff (fun s => (N sp s).any (fun q => xS N dI mt set t (sp :: prev) q (b ||| dI sp))) 8).isSome
theorem any_iff {o : Option Nat} {f : Nat → Bool} : o.any f = true ↔ ∃ q, o = some q ∧ f q = true := by
  cases o <;> simp
theorem eS_iff {N : Nat → Nat → Option Nat} {dI : Nat → Int32} {mt : Nat → Nat → Bool} {set : Int32} : ∀ t prev sp b, eS N dI mt set t prev sp b = true ↔ ∃ j, j < t ∧ xS N dI mt set j prev sp b = true := by
  intro t
  induction t with
  | zero => intro prev sp b; simp [eS]
  | succ t ih =>
    intro prev sp b
    rw [eS, Bool.and_eq_true, Bool.or_eq_true, ff_is]
    constructor
    · rintro ⟨h1, h2 | ⟨s, hs, h2⟩⟩
      · exact ⟨0, by omega, by rw [xS, h1, h2]; rfl⟩
      · obtain ⟨q, hq, h3⟩ := any_iff.mp h2
        obtain ⟨j, hj, h4⟩ := (ih _ _ _).mp h3
        exact ⟨j + 1, by omega, by rw [xS, h1, Bool.true_and, ff_is]; exact ⟨s, hs, any_iff.mpr ⟨q, hq, h4⟩⟩⟩
    · rintro ⟨j, hj, h⟩
      cases j with
      | zero => rw [xS, Bool.and_eq_true] at h; exact ⟨h.1, Or.inl h.2⟩
      | succ j =>
        rw [xS, Bool.and_eq_true, ff_is] at h
        obtain ⟨h1, s, hs, h2⟩ := h
        obtain ⟨q, hq, h3⟩ := any_iff.mp h2
        exact ⟨h1, Or.inr ⟨s, hs, any_iff.mpr ⟨q, hq, (ih _ _ _).mpr ⟨j, by omega, h3⟩⟩⟩⟩
theorem i32_bits {x y : Int32} (h : ∀ i, x.toBitVec.getLsbD i = y.toBitVec.getLsbD i) : x = y := Int32.toBitVec_inj.mp (BitVec.eq_of_getLsbD_eq fun i _ => h i)
theorem i32_or_bit (x y : Int32) (i : Nat) : (x ||| y).toBitVec.getLsbD i = (x.toBitVec.getLsbD i || y.toBitVec.getLsbD i) := by rw [Int32.toBitVec_or, BitVec.getLsbD_or]
theorem i32_and_bit (x y : Int32) (i : Nat) : (x &&& y).toBitVec.getLsbD i = (x.toBitVec.getLsbD i && y.toBitVec.getLsbD i) := by rw [Int32.toBitVec_and, BitVec.getLsbD_and]
/-- all bits of one in the other -/
def sub (x y : Int32) : Prop := ∀ i, x.toBitVec.getLsbD i = true → y.toBitVec.getLsbD i = true
theorem sub.orl {x y z : Int32} (h : sub x y) : sub x (y ||| z) := fun i hi => by rw [i32_or_bit, h i hi]; rfl
theorem sub.orr {x y z : Int32} (h : sub x y) : sub x (z ||| y) := fun i hi => by rw [i32_or_bit, h i hi, Bool.or_true]
theorem sub.or2 {x y z : Int32} (h : sub x z) (h2 : sub y z) : sub (x ||| y) z := fun i hi => by
  rw [i32_or_bit, Bool.or_eq_true] at hi
  exact hi.elim (h i) (h2 i)
theorem cvB_iff {set b : Int32} : cvB set b = true ↔ sub set b := by
  rw [cvB, decide_eq_true_eq]
  constructor
  · intro h i hi
    have h2 : (b &&& set).toBitVec.getLsbD i = true := by rw [h]; exact hi
    rw [i32_and_bit, Bool.and_eq_true] at h2
    exact h2.1
  · intro h
    refine i32_bits fun i => ?_
    rw [i32_and_bit]
    cases hs : set.toBitVec.getLsbD i
    · rw [Bool.and_false]
    · rw [h i hs]; rfl
theorem cvB_mono {set b c : Int32} (h : cvB set b = true) (hb : sub b c) : cvB set c = true := cvB_iff.mpr fun i hi => hb i (cvB_iff.mp h i hi)
theorem rF_mono {N : Nat → Nat → Option Nat} {f : Nat → Int32} {sp : Nat} {x : Int32} {i n : Nat} (h : sub x (rF N f sp i)) (hn : i ≤ n) : sub x (rF N f sp n) := by
  induction n with
  | zero => have : i = 0 := by omega
            subst this; exact h
  | succ n ih =>
    by_cases e : i = n + 1
    · subst e; exact h
    · exact (ih (by omega)).orl
theorem sub_refl (x : Int32) : sub x x := fun _ h => h
theorem rS_self {N : Nat → Nat → Option Nat} {dI : Nat → Int32} : ∀ l sp, sub (dI sp) (rS N dI l sp) := by
  intro l
  induction l with
  | zero => intro sp; exact sub_refl _
  | succ l ih => intro sp; exact rF_mono (i := 0) (ih sp) (by omega)
theorem rS_next {N : Nat → Nat → Option Nat} {dI : Nat → Int32} {l sp s q : Nat} (hs : s < 8) (hq : N sp s = some q) : sub (rS N dI l q) (rS N dI (l + 1) sp) := by
  refine rF_mono (i := s + 1) ?_ (by omega)
  rw [rF, hq]
  exact (sub_refl _).orr
theorem eS_prune {N : Nat → Nat → Option Nat} {dI : Nat → Int32} {mt : Nat → Nat → Bool} {set : Int32} : ∀ l prev sp b, eS N dI mt set (l + 1) prev sp b = true → cvB set (b ||| rS N dI l sp) = true := by
  intro l
  induction l with
  | zero =>
    intro prev sp b h
    rw [eS, Bool.and_eq_true, Bool.or_eq_true] at h
    rcases h.2 with z | z
    · exact z
    · obtain ⟨s, hs, h2⟩ := ff_is.mp z
      obtain ⟨q, hq, h3⟩ := any_iff.mp h2
      rw [eS] at h3; cases h3
  | succ l ih =>
    intro prev sp b h
    rw [eS, Bool.and_eq_true, Bool.or_eq_true] at h
    rcases h.2 with z | z
    · exact cvB_mono z ((sub_refl _).orl.or2 (rS_self _ _).orr)
    · obtain ⟨s, hs, h2⟩ := ff_is.mp z
      obtain ⟨q, hq, h3⟩ := any_iff.mp h2
      exact cvB_mono (ih _ _ _ h3) (((sub_refl _).orl.or2 (rS_self _ _).orr).or2 (rS_next hs hq).orr)
/-- the rooms of a minute among the spots -/
def mkN : List Nat → Nat → Nat
  | [], _ => 0
  | q :: p, m => if q / 6 = m then mkN p m ||| 2 ^ (q % 6) else mkN p m
theorem mkN_lt (p : List Nat) (m : Nat) : mkN p m < 64 := by
  induction p with
  | nil => exact (by decide : 0 < 64)
  | cons q p ih => rw [mkN]; split; exact or_lt64 ih (Nat.mod_lt _ (by decide)); exact ih
theorem mkN_bit (p : List Nat) (m b : Nat) (hb : b < 6) : (mkN p m).testBit b = true ↔ ∃ q, q ∈ p ∧ q / 6 = m ∧ q % 6 = b := by
  induction p with
  | nil => simp [mkN]
  | cons q p ih =>
    rw [mkN]
    by_cases e : q / 6 = m
    · rw [if_pos e, Nat.testBit_or, Bool.or_eq_true, ih, Nat.testBit_two_pow, decide_eq_true_eq]
      constructor
      · rintro (⟨r, h1, h2⟩ | h)
        · exact ⟨r, List.mem_cons_of_mem _ h1, h2⟩
        · exact ⟨q, List.mem_cons_self .., e, h⟩
      · rintro ⟨r, h1, h2, h3⟩
        rcases List.mem_cons.mp h1 with z | z
        · subst z; exact Or.inr h3
        · exact Or.inl ⟨r, z, h2, h3⟩
    · rw [if_neg e, ih]
      constructor
      · rintro ⟨r, h1, h2⟩; exact ⟨r, List.mem_cons_of_mem _ h1, h2⟩
      · rintro ⟨r, h1, h2, h3⟩
        rcases List.mem_cons.mp h1 with z | z
        · subst z; exact absurd h2 e
        · exact ⟨r, z, h2, h3⟩
theorem and_0 : ∀ x, x < 64 → ∀ y, y < 64 → (nI x &&& nI y = 0 ↔ ∀ b, b < 6 → ¬ (x.testBit b = true ∧ y.testBit b = true)) := by decide +kernel
theorem nI_shlx : ∀ r, r < 6 → ((1 : Int32) <<< (nI r &&& 31)) = nI (2 ^ r) := by decide +kernel
theorem nI_clr : ∀ x, x < 64 → ∀ r, r < 6 → x.testBit r = false → nI (x ||| 2 ^ r) &&& ((1 : Int32) <<< (nI r &&& 31) ^^^ -1) = nI x := by decide +kernel
/-- whether one in this spot is met by the other -/
def mtB (h : hS) (kd : Nat) (sp q : Nat) : Bool := decide (q / 6 = sp / 6) && seeB h kd (sp % 6) (q % 6)
theorem mrm_n {h : hS} (ho : hOk h) {kd a : Nat} (hk : kd < 5) (ha : a < 6) : ∃ y, y < 64 ∧ mrm (nI kd) a (nI (hSr h a)) = nI y ∧ ∀ b, b < 6 → (y.testBit b = true ↔ seeB h kd a b = true) := by
  have h1 := ho.2.2.2.2.2.2.2.2.1 a
  have e3 : nI kd = 3 ↔ kd = 3 := nI_eq (b := 3) (by omega) (by omega)
  have e4 : nI kd = 4 ↔ kd = 4 := nI_eq (b := 4) (by omega) (by omega)
  have e1 : nI kd = 1 ↔ kd = 1 := nI_eq (b := 1) (by omega) (by omega)
  have h2 : 2 ^ a < 64 := by have := or_lt64 (a := 0) (by omega) ha; simpa using this
  have key : ∃ y, y < 64 ∧ mrm (nI kd) a (nI (hSr h a)) = nI y := by
    unfold mrm
    simp only [e3, e4, e1, nI_shl a (by omega), nI_or]
    split
    · exact ⟨0, by omega, rfl⟩
    · split
      · exact ⟨_, h2, rfl⟩
      · exact ⟨_, by rw [Nat.or_comm]; exact or_lt64 h1 ha, rfl⟩
  obtain ⟨y, hy, e⟩ := key
  refine ⟨y, hy, e, fun b hb => ?_⟩
  have := bt_mrm ho hk ha hb
  rw [e, dec_bt hy hb] at this
  rw [this]

set_option maxRecDepth 100000 in
set_option maxHeartbeats 400000 in
theorem c_X6_covers (d : Nat) (S : Nat → Nat → Int32) (G : Nat → Nat → Int64) (b : Int32) : xR d mX6_covers [.ref 38, .int b] S G (some (.int (xb (b &&& S 38 4 = S 38 4)))) S G := by
  refine xC.of okX6_covers (Nat.le_of_ble_eq_true rfl) (L := [_, _]) rfl ?_
  refine xA.iload_n (i := 1) rfl rfl rfl rfl ?_
  refine xA.aload_n (i := 0) rfl rfl rfl rfl ?_
  refine xA.getI rfl f6_25 rfl rfl rfl ?_
  refine xA.iand rfl rfl ?_
  refine xA.aload_n (i := 0) rfl rfl rfl rfl ?_
  refine xA.getI rfl f6_25 rfl rfl rfl ?_
  refine xA.icmp_ne (tgt := 17) rfl rfl rfl (fun h10 => ?_) (fun h10 => ?_)
  · refine xA.iconst (v := 0) rfl (by decide) rfl ?_
    exact xA.iret rfl rfl rfl ⟨by simp [xb, *], rfl⟩
  · refine xA.iconst (v := 1) rfl (by decide) rfl ?_
    refine xA.goto (q := 18) rfl rfl ?_
    exact xA.iret rfl rfl rfl ⟨by simp [xb, *], rfl⟩
set_option maxRecDepth 100000 in
set_option maxHeartbeats 400000 in
theorem c_X6_isMetAt (d : Nat) (S : Nat → Nat → Int32) (G : Nat → Nat → Int64) (m r : Nat) (hm : m < 60) (hr : r < 6) : xR (d + 2) mX6_isMetAt [.ref 38, .ref 3, .int (nI (m * 6 + r))] S G (some (.int (xb (¬ S 40 m &&& mrm (S 38 2) r (S 5 r) = 0)))) S G := by
  refine xC.of okX6_isMetAt (Nat.le_of_ble_eq_true rfl) (L := [_, _, _, _, _]) rfl ?_
  refine xA.iload_n (i := 2) rfl rfl rfl rfl ?_
  refine xA.callSNi (As := [_]) rfl k6_69 okX9_minuteOf rfl rfl (Nat.le_of_ble_eq_true rfl) (c_X9_minuteOf (d + 1) _ G _) rfl rfl ?_
  refine xA.topi (xmin_nI hm hr) ?_
  refine xA.istore_n (i := 3) (L' := [_, _, _, _, _]) rfl rfl (Nat.le_of_ble_eq_true rfl) rfl rfl ?_
  refine xA.iload_n (i := 3) rfl rfl rfl rfl ?_
  refine xA.if_lt (tgt := 27) rfl rfl rfl (fun h6 => ?_) (fun h6 => ?_)
  · exact absurd h6 (nI_pos (by omega))
  · refine xA.iload_n (i := 3) rfl rfl rfl rfl ?_
    refine xA.aload_n (i := 0) rfl rfl rfl rfl ?_
    refine xA.getR rfl f6_15 rfl rfl rfl rfl ?_
    refine xA.alen rfl rfl rfl ?_
    refine xA.icmp_ge (tgt := 27) rfl rfl rfl (fun h15 => ?_) (fun h15 => ?_)
    · exact absurd h15 (nI_ge (b := 60) hm (by omega))
    · refine xA.aload_n (i := 0) rfl rfl rfl rfl ?_
      refine xA.getR rfl f6_15 rfl rfl rfl rfl ?_
      refine xA.iload_n (i := 3) rfl rfl rfl rfl ?_
      refine xA.iald rfl rfl (vp_in_nI (by omega) (by omega)) rfl ?_
      refine xA.topi (congrArg (S 40) (nI_clamp (by omega))) ?_
      refine xA.goto (q := 28) rfl rfl ?_
      refine xA.istore (L' := [_, _, _, _, _]) rfl (Nat.le_of_ble_eq_true rfl) rfl rfl ?_
      refine xA.iload rfl rfl rfl ?_
      refine xA.aload_n (i := 1) rfl rfl rfl rfl ?_
      refine xA.aload_n (i := 0) rfl rfl rfl rfl ?_
      refine xA.getI rfl f6_18 rfl rfl rfl ?_
      refine xA.iload_n (i := 2) rfl rfl rfl rfl ?_
      refine xA.callSNi (As := [_]) rfl k6_72 okX9_roomOf rfl rfl (Nat.le_of_ble_eq_true rfl) (c_X9_roomOf (d + 1) _ G _) rfl rfl ?_
      refine xA.topi (xroom_nI hm hr) ?_
      refine xA.callVi (As := [_, _]) rfl k6_75 okX1_meetingRooms rfl rfl rfl rfl (Nat.le_of_ble_eq_true rfl) (c_X1_meetingRooms d _ G 3 iH3 _ r hr) rfl rfl ?_
      refine xA.iand rfl rfl ?_
      refine xA.if_eq (tgt := 52) rfl rfl rfl (fun h45 => ?_) (fun h45 => ?_)
      · refine xA.iconst (v := 0) rfl (by decide) rfl ?_
        exact xA.iret rfl rfl rfl ⟨by simp [xb, *], rfl⟩
      · refine xA.iconst (v := 1) rfl (by decide) rfl ?_
        refine xA.goto (q := 53) rfl rfl ?_
        exact xA.iret rfl rfl rfl ⟨by simp [xb, *], rfl⟩
set_option maxRecDepth 100000 in
set_option maxHeartbeats 400000 in
theorem c_X6_enter (d : Nat) (S : Nat → Nat → Int32) (G : Nat → Nat → Int64) (m r : Nat) (hm : m < 60) (hr : r < 6) : xR (d + 1) mX6_enter [.ref 38, .int (nI (m * 6 + r))] S G none (xu S 40 m (S 40 m ||| 1 <<< (nI r &&& 31))) G := by
  refine xC.of okX6_enter (Nat.le_of_ble_eq_true rfl) (L := [_, _, _]) rfl ?_
  refine xA.iload_n (i := 1) rfl rfl rfl rfl ?_
  refine xA.callSNi (As := [_]) rfl k6_69 okX9_minuteOf rfl rfl (Nat.le_of_ble_eq_true rfl) (c_X9_minuteOf d _ G _) rfl rfl ?_
  refine xA.topi (xmin_nI hm hr) ?_
  refine xA.istore_n (i := 2) (L' := [_, _, _]) rfl rfl (Nat.le_of_ble_eq_true rfl) rfl rfl ?_
  refine xA.iload_n (i := 2) rfl rfl rfl rfl ?_
  refine xA.if_lt (tgt := 33) rfl rfl rfl (fun h6 => ?_) (fun h6 => ?_)
  · exact absurd h6 (nI_pos (by omega))
  · refine xA.iload_n (i := 2) rfl rfl rfl rfl ?_
    refine xA.aload_n (i := 0) rfl rfl rfl rfl ?_
    refine xA.getR rfl f6_15 rfl rfl rfl rfl ?_
    refine xA.alen rfl rfl rfl ?_
    refine xA.icmp_ge (tgt := 33) rfl rfl rfl (fun h15 => ?_) (fun h15 => ?_)
    · exact absurd h15 (nI_ge (b := 60) hm (by omega))
    · refine xA.aload_n (i := 0) rfl rfl rfl rfl ?_
      refine xA.getR rfl f6_15 rfl rfl rfl rfl ?_
      refine xA.iload_n (i := 2) rfl rfl rfl rfl ?_
      refine xA.dup2 rfl rfl rfl rfl ?_
      refine xA.iald rfl rfl (vp_in_nI (by omega) (by omega)) rfl ?_
      refine xA.topi (congrArg (S 40) (nI_clamp (by omega))) ?_
      refine xA.iconst (v := 1) rfl (by decide) rfl ?_
      refine xA.iload_n (i := 1) rfl rfl rfl rfl ?_
      refine xA.callSNi (As := [_]) rfl k6_72 okX9_roomOf rfl rfl (Nat.le_of_ble_eq_true rfl) (c_X9_roomOf d _ G _) rfl rfl ?_
      refine xA.topi (xroom_nI hm hr) ?_
      refine xA.ishl rfl rfl ?_
      refine xA.ior rfl rfl ?_
      refine xA.iast rfl rfl (vp_in_nI (by omega) (by omega)) rfl ?_
      rw [nI_clamp (by omega)]
      exact xA.vret rfl rfl ⟨rfl, rfl⟩
set_option maxRecDepth 100000 in
set_option maxHeartbeats 400000 in
theorem c_X6_leave (d : Nat) (S : Nat → Nat → Int32) (G : Nat → Nat → Int64) (m r : Nat) (hm : m < 60) (hr : r < 6) : xR (d + 1) mX6_leave [.ref 38, .int (nI (m * 6 + r))] S G none (xu S 40 m (S 40 m &&& ((1 <<< (nI r &&& 31)) ^^^ -1))) G := by
  refine xC.of okX6_leave (Nat.le_of_ble_eq_true rfl) (L := [_, _, _]) rfl ?_
  refine xA.iload_n (i := 1) rfl rfl rfl rfl ?_
  refine xA.callSNi (As := [_]) rfl k6_69 okX9_minuteOf rfl rfl (Nat.le_of_ble_eq_true rfl) (c_X9_minuteOf d _ G _) rfl rfl ?_
  refine xA.topi (xmin_nI hm hr) ?_
  refine xA.istore_n (i := 2) (L' := [_, _, _]) rfl rfl (Nat.le_of_ble_eq_true rfl) rfl rfl ?_
  refine xA.iload_n (i := 2) rfl rfl rfl rfl ?_
  refine xA.if_lt (tgt := 35) rfl rfl rfl (fun h6 => ?_) (fun h6 => ?_)
  · exact absurd h6 (nI_pos (by omega))
  · refine xA.iload_n (i := 2) rfl rfl rfl rfl ?_
    refine xA.aload_n (i := 0) rfl rfl rfl rfl ?_
    refine xA.getR rfl f6_15 rfl rfl rfl rfl ?_
    refine xA.alen rfl rfl rfl ?_
    refine xA.icmp_ge (tgt := 35) rfl rfl rfl (fun h15 => ?_) (fun h15 => ?_)
    · exact absurd h15 (nI_ge (b := 60) hm (by omega))
    · refine xA.aload_n (i := 0) rfl rfl rfl rfl ?_
      refine xA.getR rfl f6_15 rfl rfl rfl rfl ?_
      refine xA.iload_n (i := 2) rfl rfl rfl rfl ?_
      refine xA.dup2 rfl rfl rfl rfl ?_
      refine xA.iald rfl rfl (vp_in_nI (by omega) (by omega)) rfl ?_
      refine xA.topi (congrArg (S 40) (nI_clamp (by omega))) ?_
      refine xA.iconst (v := 1) rfl (by decide) rfl ?_
      refine xA.iload_n (i := 1) rfl rfl rfl rfl ?_
      refine xA.callSNi (As := [_]) rfl k6_72 okX9_roomOf rfl rfl (Nat.le_of_ble_eq_true rfl) (c_X9_roomOf d _ G _) rfl rfl ?_
      refine xA.topi (xroom_nI hm hr) ?_
      refine xA.ishl rfl rfl ?_
      refine xA.iconst (v := (-1)) rfl (by decide) rfl ?_
      refine xA.ixor rfl rfl ?_
      refine xA.iand rfl rfl ?_
      refine xA.iast rfl rfl (vp_in_nI (by omega) (by omega)) rfl ?_
      rw [nI_clamp (by omega)]
      exact xA.vret rfl rfl ⟨rfl, rfl⟩

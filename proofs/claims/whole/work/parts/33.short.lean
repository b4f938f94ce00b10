/-! ===== the shortest ===== -/
def kSx (h : hS) (kd lp : Nat) (tk : tS) (set : Int32) (sp : Nat) : Option Nat := ff (fun k => xS (NX h lp) (dIt tk) (mtB h kd) set k [] sp 0) 7
def stx (h : hS) (kd lp : Nat) (tk : tS) (set : Int32) (sp k : Nat) : Option Nat := if k = 0 then none else ff (fun s => (NX h lp sp s).any (fun q => xS (NX h lp) (dIt tk) (mtB h kd) set (k - 1) [sp] q (0 ||| dIt tk sp))) 8
theorem xS_okn {h : hS} {kd lp : Nat} {tk : tS} {set : Int32} {sp k : Nat} : xS (NX h lp) (dIt tk) (mtB h kd) set (k + 1) [] sp 0 = (ff (fun s => (NX h lp sp s).any (fun q => xS (NX h lp) (dIt tk) (mtB h kd) set k [sp] q (0 ||| dIt tk sp))) 8).isSome := by
  rw [xS]; rfl
theorem srch_fs {h : hS} {kd lp : Nat} {tk : tS} {set : Int32} {sp i : Nat} (hi : i < 7) (hno : ∀ k, k < i → xS (NX h lp) (dIt tk) (mtB h kd) set k [] sp 0 = false) (hE : eS (NX h lp) (dIt tk) (mtB h kd) set (i + 1) [] sp 0 = true) :
    kSx h kd lp tk set sp = some i ∧ fsV h kd lp tk set (i + 1) [] sp 0 (-1) = oI (stx h kd lp tk set sp i) := by
  have hx : xS (NX h lp) (dIt tk) (mtB h kd) set i [] sp 0 = true := by
    obtain ⟨j, hj, hx⟩ := (eS_iff _ _ _ _).mp hE
    by_cases e : j = i
    · exact e ▸ hx
    · rw [hno j (by omega)] at hx; cases hx
  refine ⟨ff_eq hi hx hno, ?_⟩
  rw [fsV, stx]
  cases i with
  | zero =>
    rw [xS, Bool.and_eq_true] at hx
    rw [if_pos rfl, if_neg (fun z => by rw [hx.2] at z; exact absurd z.2 (by decide))]; rfl
  | succ i =>
    have h0 := hno 0 (by omega)
    rw [xS, show okP (mtB h kd) [] sp = true from rfl, Bool.true_and] at h0
    rw [if_pos ⟨hE, h0⟩, if_neg (Nat.succ_ne_zero i)]
    refine congrArg oI (ff_congr fun s hs => ?_)
    rw [gS8]
    cases hq : NX h lp sp s with
    | none => rfl
    | some q =>
      show eS (NX h lp) (dIt tk) (mtB h kd) set (i + 1) [sp] q (0 ||| dIt tk sp) = xS (NX h lp) (dIt tk) (mtB h kd) set i [sp] q (0 ||| dIt tk sp)
      refine Bool.eq_iff_iff.mpr ⟨fun z => ?_, fun z => (eS_iff _ _ _ _).mpr ⟨i, by omega, z⟩⟩
      obtain ⟨j, hj, hx2⟩ := (eS_iff _ _ _ _).mp z
      by_cases e : j = i
      · exact e ▸ hx2
      · have h1 := hno (j + 1) (by omega)
        rw [xS_okn] at h1
        have h2 : (ff (fun s => (NX h lp sp s).any (fun q => xS (NX h lp) (dIt tk) (mtB h kd) set j [sp] q (0 ||| dIt tk sp))) 8).isSome = true := ff_is.mpr ⟨s, hs, any_iff.mpr ⟨q, hq, hx2⟩⟩
        rw [h2] at h1; cases h1
theorem srch_no {h : hS} {kd lp : Nat} {tk : tS} {set : Int32} {sp i : Nat} (hno : ∀ k, k < i → xS (NX h lp) (dIt tk) (mtB h kd) set k [] sp 0 = false) (hE : ¬ eS (NX h lp) (dIt tk) (mtB h kd) set (i + 1) [] sp 0 = true) : ∀ k, k < i + 1 → xS (NX h lp) (dIt tk) (mtB h kd) set k [] sp 0 = false := fun k hk =>
  Bool.eq_false_iff.mpr (fun z => hE ((eS_iff _ _ _ _).mpr ⟨k, hk, z⟩))
/-- ahead of the search -/
def bgF (S S1 : Nat → Nat → Int32) (kd lp : Nat) (set : Int32) : Prop := S1 38 2 = nI kd ∧ S1 38 3 = nI lp ∧ S1 38 4 = set ∧ S1 38 5 = -1 ∧ S1 38 6 = -1 ∧ ∀ j, ¬ j = 38 → ¬ j = 39 → ¬ j = 40 → S1 j = S j
theorem bgF.m {S S1 : Nat → Nat → Int32} {kd lp a k : Nat} {set v : Int32} (hb : bgF S S1 kd lp set) (ha : a = 39 ∨ a = 40) : bgF S (xu S1 a k v) kd lp set := by
  have e : xu S1 a k v 38 = S1 38 := xu_c (by omega)
  exact ⟨by rw [e]; exact hb.1, by rw [e]; exact hb.2.1, by rw [e]; exact hb.2.2.1, by rw [e]; exact hb.2.2.2.1, by rw [e]; exact hb.2.2.2.2.1, fun j h1 h2 h3 => (xu_c (by omega)).trans (hb.2.2.2.2.2 j h1 h2 h3)⟩

set_option maxRecDepth 100000 in
set_option maxHeartbeats 1000000 in
theorem c_begin (d : Nat) (S : Nat → Nat → Int32) (G : Nat → Nat → Int64) (h : hS) (hh : hSd S h) (kd lp : Nat) (tk : tS) (htk : tkC S 12 tk) (set : Int32) : xC (d + 2) mX6_begin [.ref 38, .int (nI kd), .int (nI lp), .ref 12, .int set] (σF, S, G) 0 0 (fun r h' => ∃ S', h' = (σF, S', G) ∧ r = none ∧ SI S' h kd lp tk set ∧ MK S' kd [] ∧ S' 38 5 = -1 ∧ S' 38 6 = -1 ∧ ∀ j, ¬ j = 38 → ¬ j = 39 → ¬ j = 40 → S' j = S j) := by
  refine xC.of okX6_begin (Nat.le_of_ble_eq_true rfl) (L := [_, _, _, _, _, _]) rfl ?_
  have lpB : ∀ i, i ≤ 2520 → ∀ S1 : Nat → Nat → Int32, bgF S S1 kd lp set → (∀ k, k < 60 → S1 40 k = 0) → (∀ q, q < i → S1 39 q = if q < 360 then dIt tk q else -1) → xA none (d + 2) mX6_begin 0 0 0 0 56 [some (.ref 38), some (.int (nI kd)), some (.int (nI lp)), some (.ref 12), some (.int set), some (.int (nI i))] [] (σF, S1, G) (fun r h' => ∃ S', h' = (σF, S', G) ∧ r = none ∧ SI S' h kd lp tk set ∧ MK S' kd [] ∧ S' 38 5 = -1 ∧ S' 38 6 = -1 ∧ ∀ j, ¬ j = 38 → ¬ j = 39 → ¬ j = 40 → S' j = S j) := by
    refine xloop 2520 (fun i hi ih => ?_) ?_
    · intro S1 hb hz hq0
      refine xA.iload rfl rfl rfl ?_
      refine xA.aload_n (i := 0) rfl rfl rfl rfl ?_
      refine xA.getR rfl f6_11 rfl rfl rfl rfl ?_
      refine xA.alen rfl rfl rfl ?_
      refine xA.icmp_ge (tgt := 97) rfl rfl rfl (fun h63 => ?_) (fun h63 => ?_)
      · exact absurd h63 (nI_ge (b := 2520) hi (by omega))
      · refine xA.aload_n (i := 0) rfl rfl rfl rfl ?_
        refine xA.getR rfl f6_11 rfl rfl rfl rfl ?_
        refine xA.iload rfl rfl rfl ?_
        refine xA.iload rfl rfl rfl ?_
        refine xA.sipush (v := 360) rfl (by decide) rfl ?_
        refine xA.icmp_ge (tgt := 89) rfl rfl rfl (fun h77 => ?_) (fun h77 => ?_)
        · have hlt : ¬ i < 360 := fun z => nI_ge (b := 360) z (by omega) h77
          refine xA.iconst (v := (-1)) rfl (by decide) rfl ?_
          refine xA.iast rfl rfl (vp_in_nI (by omega) (by omega)) rfl ?_
          rw [nI_clamp (by omega)]
          refine xA.iinc (L' := [_, _, _, _, _, _]) rfl rfl (nI_1 i) rfl rfl ?_
          refine xA.goto (q := 56) rfl rfl ?_
          exact ih _ (hb.m (Or.inl rfl)) (fun k hk => by rw [xu_c (by decide)]; exact hz k hk) (fun q hq => by
            simp only [xu, if_true]
            by_cases e : q = i
            · subst e; first | (rw [if_pos rfl, if_neg hlt]; done) | (rw [if_pos rfl, if_pos hlt]; rfl)
            · rw [if_neg e]; exact hq0 q (by omega))
        · have hlt : i < 360 := by
            by_cases z : i < 360
            · exact z
            · exact absurd (nI_le (a := 360) (by omega) (by omega)) h77
          have htk1 : tkC S1 12 tk := htk.to (hb.2.2.2.2.2 _ (by decide) (by decide) (by decide)) (hb.2.2.2.2.2 _ (by decide) (by decide) (by decide)) (hb.2.2.2.2.2 _ (by decide) (by decide) (by decide)) (hb.2.2.2.2.2 _ (by decide) (by decide) (by decide))
          refine xA.aload_n (i := 3) rfl rfl rfl rfl ?_
          refine xA.iload rfl rfl rfl ?_
          refine xA.callVi (As := [_]) rfl k6_34 okX7_doneAt rfl rfl rfl rfl (Nat.le_of_ble_eq_true rfl) (c_X7_doneAt d _ G 12 iT12 _ htk1.1 htk1.2.1 (nI i)) rfl rfl ?_
          refine xA.topi (tkC_at htk1 (spx i) hlt) ?_
          refine xA.goto (q := 90) rfl rfl ?_
          refine xA.iast rfl rfl (vp_in_nI (by omega) (by omega)) rfl ?_
          rw [nI_clamp (by omega)]
          refine xA.iinc (L' := [_, _, _, _, _, _]) rfl rfl (nI_1 i) rfl rfl ?_
          refine xA.goto (q := 56) rfl rfl ?_
          exact ih _ (hb.m (Or.inl rfl)) (fun k hk => by rw [xu_c (by decide)]; exact hz k hk) (fun q hq => by
            simp only [xu, if_true]
            by_cases e : q = i
            · subst e; first | (rw [if_pos rfl, if_neg hlt]; done) | (rw [if_pos rfl, if_pos hlt]; rfl)
            · rw [if_neg e]; exact hq0 q (by omega))
    · intro S1 hb hz hq0
      refine xA.iload rfl rfl rfl ?_
      refine xA.aload_n (i := 0) rfl rfl rfl rfl ?_
      refine xA.getR rfl f6_11 rfl rfl rfl rfl ?_
      refine xA.alen rfl rfl rfl ?_
      refine xA.icmp_ge (tgt := 97) rfl rfl rfl (fun h63 => ?_) (fun h63 => ?_)
      · exact xA.vret rfl rfl ⟨S1, rfl, rfl, ⟨hh.to (hb.2.2.2.2.2 _ (by decide) (by decide) (by decide)) (hb.2.2.2.2.2 _ (by decide) (by decide) (by decide)) (hb.2.2.2.2.2 _ (by decide) (by decide) (by decide)), hb.1, hb.2.1, hb.2.2.1, fun l sp hl hsp => by
          rw [hq0 _ (by omega)]
          cases l with
          | zero => rw [if_pos (by omega)]; exact Or.inl (by rw [Nat.zero_mul, Nat.zero_add]; rfl)
          | succ l => rw [if_neg (by omega)]; exact Or.inr ⟨rfl, by omega⟩⟩, Or.inr (Or.inr fun m hm => hz m hm), hb.2.2.2.1, hb.2.2.2.2.1, hb.2.2.2.2.2⟩
      · exact absurd (nI_le (a := 2520) (b := 2520) (Nat.le_refl _) (by omega)) h63
  have lpA : ∀ i, i ≤ 60 → ∀ S1 : Nat → Nat → Int32, bgF S S1 kd lp set → (∀ k, k < i → S1 40 k = 0) → xA none (d + 2) mX6_begin 0 0 0 0 29 [some (.ref 38), some (.int (nI kd)), some (.int (nI lp)), some (.ref 12), some (.int set), some (.int (nI i))] [] (σF, S1, G) (fun r h' => ∃ S', h' = (σF, S', G) ∧ r = none ∧ SI S' h kd lp tk set ∧ MK S' kd [] ∧ S' 38 5 = -1 ∧ S' 38 6 = -1 ∧ ∀ j, ¬ j = 38 → ¬ j = 39 → ¬ j = 40 → S' j = S j) := by
    refine xloop 60 (fun i hi ih => ?_) ?_
    · intro S1 hb hz
      refine xA.iload rfl rfl rfl ?_
      refine xA.aload_n (i := 0) rfl rfl rfl rfl ?_
      refine xA.getR rfl f6_15 rfl rfl rfl rfl ?_
      refine xA.alen rfl rfl rfl ?_
      refine xA.icmp_ge (tgt := 53) rfl rfl rfl (fun h36 => ?_) (fun h36 => ?_)
      · exact absurd h36 (nI_ge (b := 60) hi (by omega))
      · refine xA.aload_n (i := 0) rfl rfl rfl rfl ?_
        refine xA.getR rfl f6_15 rfl rfl rfl rfl ?_
        refine xA.iload rfl rfl rfl ?_
        refine xA.iconst (v := 0) rfl (by decide) rfl ?_
        refine xA.iast rfl rfl (vp_in_nI (by omega) (by omega)) rfl ?_
        rw [nI_clamp (by omega)]
        refine xA.iinc (L' := [_, _, _, _, _, _]) rfl rfl (nI_1 i) rfl rfl ?_
        refine xA.goto (q := 29) rfl rfl ?_
        exact ih _ (hb.m (Or.inr rfl)) (fun k hk => by simp only [xu, if_true]; split; rfl; exact hz k (by omega))
    · intro S1 hb hz
      refine xA.iload rfl rfl rfl ?_
      refine xA.aload_n (i := 0) rfl rfl rfl rfl ?_
      refine xA.getR rfl f6_15 rfl rfl rfl rfl ?_
      refine xA.alen rfl rfl rfl ?_
      refine xA.icmp_ge (tgt := 53) rfl rfl rfl (fun h36 => ?_) (fun h36 => ?_)
      · refine xA.iconst (v := 0) rfl (by decide) rfl ?_
        refine xA.istore (L' := [_, _, _, _, _, _]) rfl (Nat.le_of_ble_eq_true rfl) rfl rfl ?_
        exact lpB 0 (Nat.zero_le _) S1 hb hz (fun q hq => absurd hq (Nat.not_lt_zero _))
      · exact absurd (nI_le (a := 60) (b := 60) (Nat.le_refl _) (by omega)) h36
  refine xA.aload_n (i := 0) rfl rfl rfl rfl ?_
  refine xA.iload_n (i := 1) rfl rfl rfl rfl ?_
  refine xA.putI rfl p6_18 rfl rfl rfl ?_
  refine xA.aload_n (i := 0) rfl rfl rfl rfl ?_
  refine xA.iload_n (i := 2) rfl rfl rfl rfl ?_
  refine xA.putI rfl p6_22 rfl rfl rfl ?_
  refine xA.aload_n (i := 0) rfl rfl rfl rfl ?_
  refine xA.iload rfl rfl rfl ?_
  refine xA.putI rfl p6_25 rfl rfl rfl ?_
  refine xA.aload_n (i := 0) rfl rfl rfl rfl ?_
  refine xA.iconst (v := (-1)) rfl (by decide) rfl ?_
  refine xA.putI rfl p6_28 rfl rfl rfl ?_
  refine xA.aload_n (i := 0) rfl rfl rfl rfl ?_
  refine xA.iconst (v := (-1)) rfl (by decide) rfl ?_
  refine xA.putI rfl p6_31 rfl rfl rfl ?_
  refine xA.iconst (v := 0) rfl (by decide) rfl ?_
  refine xA.istore (L' := [_, _, _, _, _, _]) rfl (Nat.le_of_ble_eq_true rfl) rfl rfl ?_
  exact lpA 0 (Nat.zero_le _) _ ⟨by simp [xu], by simp [xu], by simp [xu], by simp [xu], by simp [xu], fun j h1 _ _ => by rw [xu_c h1, xu_c h1, xu_c h1, xu_c h1, xu_c h1]⟩ (fun k hk => absurd hk (Nat.not_lt_zero _))
set_option maxRecDepth 100000 in
set_option maxHeartbeats 1000000 in
theorem c_look (d : Nat) (S : Nat → Nat → Int32) (G : Nat → Nat → Int64) (h : hS) (kd lp : Nat) (tk : tS) (set : Int32) (hk : kd < 5) (hlp : lp ≤ 10) (htk5 : tk.1 ≤ 5) (sp : Nat) (hsp : sp < 360) (hs : SI S h kd lp tk set) (hm : MK S kd []) (h5 : S 38 5 = -1) (h6 : S 38 6 = -1) : xC (d + 20) mX6_look [.ref 38, .ref 3, .int (nI sp)] (σF, S, G) 0 0 (fun r h' => ∃ S', h' = (σF, S', G) ∧ r = none ∧ S' 38 5 = oI (kSx h kd lp tk set sp) ∧ S' 38 6 = oI ((kSx h kd lp tk set sp).bind (stx h kd lp tk set sp)) ∧ ∀ j, ¬ j = 38 → ¬ j = 39 → ¬ j = 40 → S' j = S j) := by
  refine xC.of okX6_look (Nat.le_of_ble_eq_true rfl) (L := [_, _, _, _]) rfl ?_
  have fnd : ∀ i, i < 7 → ∀ i2, i2 ≤ 7 → ∀ S1 : Nat → Nat → Int32, kSx h kd lp tk set sp = some i → (∀ j, ¬ j = 38 → ¬ j = 39 → ¬ j = 40 → S1 j = S j) → S1 38 5 = nI i → S1 38 6 = oI (stx h kd lp tk set sp i) → xA none (d + 20) mX6_look 0 0 0 0 18 [some (.ref 38), some (.ref 3), some (.int (nI sp)), some (.int (nI i2))] [] (σF, S1, G) (fun r h' => ∃ S', h' = (σF, S', G) ∧ r = none ∧ S' 38 5 = oI (kSx h kd lp tk set sp) ∧ S' 38 6 = oI ((kSx h kd lp tk set sp).bind (stx h kd lp tk set sp)) ∧ ∀ j, ¬ j = 38 → ¬ j = 39 → ¬ j = 40 → S' j = S j) := by
    intro i hi i2 hi2 S1 hkS hf1 hv5 hv6
    refine xA.iload_n (i := 3) rfl rfl rfl rfl ?_
    refine xA.bipush (v := 6) rfl (by decide) rfl ?_
    refine xA.icmp_gt (tgt := 54) rfl rfl rfl (fun h21 => ?_) (fun h21 => ?_)
    · exact xA.vret rfl rfl ⟨S1, rfl, rfl, by rw [hv5, hkS]; rfl, by rw [hv6, hkS]; rfl, hf1⟩
    · refine xA.aload_n (i := 0) rfl rfl rfl rfl ?_
      refine xA.getI rfl f6_28 rfl rfl rfl ?_
      refine xA.topi (hv5) ?_
      refine xA.iconst (v := (-1)) rfl (by decide) rfl ?_
      refine xA.icmp_ne (tgt := 54) rfl rfl rfl (fun h29 => ?_) (fun h29 => ?_)
      · exact xA.vret rfl rfl ⟨S1, rfl, rfl, by rw [hv5, hkS]; rfl, by rw [hv6, hkS]; rfl, hf1⟩
      · exact absurd h29 (nI_m1 (by omega))
  have loop : ∀ i, i ≤ 7 → ∀ S1 : Nat → Nat → Int32, SI S1 h kd lp tk set → MK S1 kd [] → (∀ j, ¬ j = 38 → ¬ j = 39 → ¬ j = 40 → S1 j = S j) → S1 38 5 = -1 → S1 38 6 = -1 → (∀ k, k < i → xS (NX h lp) (dIt tk) (mtB h kd) set k [] sp 0 = false) → xA none (d + 20) mX6_look 0 0 0 0 18 [some (.ref 38), some (.ref 3), some (.int (nI sp)), some (.int (nI i))] [] (σF, S1, G) (fun r h' => ∃ S', h' = (σF, S', G) ∧ r = none ∧ S' 38 5 = oI (kSx h kd lp tk set sp) ∧ S' 38 6 = oI ((kSx h kd lp tk set sp).bind (stx h kd lp tk set sp)) ∧ ∀ j, ¬ j = 38 → ¬ j = 39 → ¬ j = 40 → S' j = S j) := by
    refine xloop 7 (fun i hi ih => ?_) ?_
    · intro S1 hs1 hm1 hf1 hv5 hv6 hno
      refine xA.iload_n (i := 3) rfl rfl rfl rfl ?_
      refine xA.bipush (v := 6) rfl (by decide) rfl ?_
      refine xA.icmp_gt (tgt := 54) rfl rfl rfl (fun h21 => ?_) (fun h21 => ?_)
      · exact absurd ((nI_ltI (a := 6) (by omega) (by omega)).mp h21) (by omega)
      · refine xA.aload_n (i := 0) rfl rfl rfl rfl ?_
        refine xA.getI rfl f6_28 rfl rfl rfl ?_
        refine xA.topi (hv5) ?_
        refine xA.iconst (v := (-1)) rfl (by decide) rfl ?_
        refine xA.icmp_ne (tgt := 54) rfl rfl rfl (fun h29 => ?_) (fun h29 => ?_)
        · exact absurd rfl h29
        · refine xA.aload_n (i := 0) rfl rfl rfl rfl ?_
          refine xA.aload_n (i := 1) rfl rfl rfl rfl ?_
          refine xA.iload_n (i := 2) rfl rfl rfl rfl ?_
          refine xA.iconst (v := 0) rfl (by decide) rfl ?_
          refine xA.iload_n (i := 3) rfl rfl rfl rfl ?_
          refine xA.topi (show nI i = nI (i + 1) - 1 from (nI_sub (a := i + 1) (b := 1) (by omega)).symm) ?_
          refine xA.callS (As := [_, _, _, _, _]) (h := (σF, _, _)) rfl k6_48 okX6_finishes rfl rfl (Nat.le_of_ble_eq_true rfl) (c_fin G h kd lp tk set hk hlp htk5 (i + 1) (by omega) _ S1 [] sp 0 (by omega) hsp hs1 hm1) (Nat.le_refl _) (Nat.le_refl _) rfl rfl ?_
          rintro r9 h9 ⟨S2, rfl, rfl, hs2, hm2, hf2, hv2⟩
          refine xA.if_eq (tgt := 48) rfl rfl rfl (fun h40 => ?_) (fun h40 => ?_)
          · rw [xb_eq0] at h40
            rw [fsV, if_neg (fun z => h40 z.1), hv6] at hv2
            refine xA.iinc (L' := [_, _, _, _]) rfl rfl (nI_1 i) rfl rfl ?_
            refine xA.goto (q := 18) rfl rfl ?_
            exact ih S2 hs2 hm2 (fun j a b c => (hf2.1 j a b c).trans (hf1 j a b c)) ((hf2.2 5 (by decide)).trans hv5) hv2 (srch_no hno h40)
          · rw [xb_ne0] at h40
            obtain ⟨hkS, hfs⟩ := srch_fs hi hno h40
            rw [hv6, hfs] at hv2
            refine xA.aload_n (i := 0) rfl rfl rfl rfl ?_
            refine xA.iload_n (i := 3) rfl rfl rfl rfl ?_
            refine xA.putI rfl p6_28 rfl rfl rfl ?_
            refine xA.iinc (L' := [_, _, _, _]) rfl rfl (nI_1 i) rfl rfl ?_
            refine xA.goto (q := 18) rfl rfl ?_
            exact fnd i hi (i + 1) (by omega) _ hkS (fun j a b c => (xu_c a).trans ((hf2.1 j a b c).trans (hf1 j a b c))) xu_same ((xu_ne2 (by decide)).trans hv2)
    · intro S1 hs1 hm1 hf1 hv5 hv6 hno
      refine xA.iload_n (i := 3) rfl rfl rfl rfl ?_
      refine xA.bipush (v := 6) rfl (by decide) rfl ?_
      refine xA.icmp_gt (tgt := 54) rfl rfl rfl (fun h21 => ?_) (fun h21 => ?_)
      · have hkS : kSx h kd lp tk set sp = none := ff_none hno
        exact xA.vret rfl rfl ⟨S1, rfl, rfl, by rw [hv5, hkS]; rfl, by rw [hv6, hkS]; rfl, hf1⟩
      · exact absurd ((nI_ltI (a := 6) (b := 7) (by omega) (by omega)).mpr (by omega)) h21
  refine xA.aload_n (i := 0) rfl rfl rfl rfl ?_
  refine xA.aload_n (i := 0) rfl rfl rfl rfl ?_
  refine xA.aload_n (i := 1) rfl rfl rfl rfl ?_
  refine xA.iload_n (i := 2) rfl rfl rfl rfl ?_
  refine xA.bipush (v := 6) rfl (by decide) rfl ?_
  refine xA.callS (As := [_, _, _, _]) (h := (σF, _, _)) rfl k6_40 okX6_reachFrom rfl rfl (Nat.le_of_ble_eq_true rfl) (c_reach G h kd lp tk set hlp htk5 6 (by omega) _ S sp (by omega) hsp hs) (Nat.le_refl _) (Nat.le_refl _) rfl rfl ?_
  rintro r9 h9 ⟨S2, rfl, rfl, hs2, hf2⟩
  refine xA.callVi (As := [_]) rfl k6_44 okX6_covers rfl rfl rfl rfl (Nat.le_of_ble_eq_true rfl) (c_X6_covers _ _ G _) rfl rfl ?_
  refine xA.if_ne (tgt := 16) rfl rfl rfl (fun h12 => ?_) (fun h12 => ?_)
  · skip
    refine xA.iconst (v := 0) rfl (by decide) rfl ?_
    refine xA.istore_n (i := 3) (L' := [_, _, _, _]) rfl rfl (Nat.le_of_ble_eq_true rfl) rfl rfl ?_
    exact loop 0 (Nat.zero_le _) S2 hs2 (hm.to (hf2 40 (by decide))) (fun j _ b _ => hf2 j b) (by rw [hf2 38 (by decide)]; exact h5) (by rw [hf2 38 (by decide)]; exact h6) (fun k hk => absurd hk (Nat.not_lt_zero _))
  · rw [xb_eq0, hs2.2.2.2.1] at h12
    have hkS : kSx h kd lp tk set sp = none := ff_none fun k hk => Bool.eq_false_iff.mpr (fun z => h12 (by
      have := of_decide_eq_true (eS_prune 6 [] sp 0 ((eS_iff (set := set) (mt := mtB h kd) 7 [] sp 0).mpr ⟨k, hk, z⟩))
      rwa [Int32.zero_or] at this))
    exact xA.vret rfl rfl ⟨S2, rfl, rfl, by rw [hf2 38 (by decide), h5, hkS]; rfl, by rw [hf2 38 (by decide), h6, hkS]; rfl, fun j _ b _ => hf2 j b⟩

/-! ===== the reference: letters of a life ===== -/
theorem hdg_is {c lo hi : Nat} : (hdg c lo hi).isSome = true ↔ 48 + lo ≤ c ∧ c ≤ 48 + hi := by
  unfold hdg
  split
  · rename_i z; exact ⟨fun _ => z, fun _ => rfl⟩
  · rename_i z; exact ⟨fun w => (by cases w), fun w => absurd w z⟩
theorem stp_is {c : Nat} : (stp c).isSome = true ↔ c = 46 ∨ c = 116 ∨ (48 ≤ c ∧ c ≤ 53) := by
  unfold stp
  split
  · rename_i z; exact ⟨fun _ => Or.inl z, fun _ => rfl⟩
  · rename_i z
    split
    · rename_i z2; exact ⟨fun _ => Or.inr (Or.inl z2), fun _ => rfl⟩
    · rename_i z2
      rw [hdg_is]
      exact ⟨fun w => Or.inr (Or.inr w), fun w => w.elim (fun q => absurd q z) (fun q => q.elim (fun q => absurd q z2) id)⟩
theorem lfo_02 {i c : Nat} (h : i = 0 ∨ i = 2) : lfo i c = true ↔ 48 ≤ c ∧ c ≤ 53 := by rw [lfo, if_pos h, hdg_is]
theorem lfo_1 {c : Nat} : lfo 1 c = true ↔ 48 ≤ c ∧ c ≤ 57 := by rw [lfo, if_neg (by omega), if_pos rfl, hdg_is]
theorem lfo_x {i c : Nat} (h0 : ¬ i = 0) (h2 : ¬ i = 2) (h1 : ¬ i = 1) : lfo i c = true ↔ i < 19 ∧ (c = 46 ∨ c = 116 ∨ (48 ≤ c ∧ c ≤ 53)) := by
  rw [lfo, if_neg (by omega), if_neg h1, Bool.and_eq_true, decide_eq_true_eq, stp_is]
theorem in_nat {a c b : Nat} (ha : a < 2 ^ 31) (hc : c < 2 ^ 31) (hb : b < 2 ^ 31) : (nI a ≤ nI c ∧ nI c ≤ nI b) ↔ (a ≤ c ∧ c ≤ b) := by rw [nI_leI ha hc, nI_leI hc hb]

set_option maxRecDepth 100000 in
set_option maxHeartbeats 400000 in
theorem c_X10_isLifeLetter (d : Nat) (S : Nat → Nat → Int32) (G : Nat → Nat → Int64) (i c : Nat) (hi : i < 100) (hc : c < 1000) : xR (d + 1) mX10_isLifeLetter [.int (nI i), .int (nI c)] S G (some (.int (xb (lfo i c = true)))) S G := by
  refine xC.of okX10_isLifeLetter (Nat.le_of_ble_eq_true rfl) (L := [_, _, _]) rfl ?_
  refine xA.iload_n (i := 1) rfl rfl rfl rfl ?_
  refine xA.i2l rfl rfl ?_
  refine xA.ldc2 (v := 48) rfl w1017 rfl ?_
  refine xA.ldc2 (v := 53) rfl w1018 rfl ?_
  refine xA.callSi (As := [_, _, _]) rfl k10_96 okX10_in rfl rfl (Nat.le_of_ble_eq_true rfl) (c_X10_in d _ G (nI c) (nI 48) (nI 53)) rfl rfl ?_
  refine xA.topi (xb_iff (in_nat (b := 53) (by omega) (by omega) (by omega))) ?_
  refine xA.istore_n (i := 2) (L' := [_, _, _]) rfl rfl (Nat.le_of_ble_eq_true rfl) rfl rfl ?_
  refine xA.iload_n (i := 0) rfl rfl rfl rfl ?_
  refine xA.if_eq (tgt := 21) rfl rfl rfl (fun h13 => ?_) (fun h13 => ?_)
  · have e13 : i = 0 := (nI_eq (b := 0) (by omega) (by omega)).mp h13
    refine xA.iload_n (i := 2) rfl rfl rfl rfl ?_
    refine xA.goto (q := 71) rfl rfl ?_
    exact xA.iret rfl rfl (by first | rfl | exact xb_nar) ⟨by
      first
        | exact congrArg (fun z => some (Value.int z)) (xb_iff (lfo_02 (Or.inl e13)).symm)
        | exact congrArg (fun z => some (Value.int z)) (xb_iff (lfo_02 (Or.inr e18)).symm)
        | (subst e27; exact congrArg (fun z => some (Value.int z)) (xb_iff lfo_1.symm))
        | rw [xb_t ((lfo_x e13 e18 e27).mpr ⟨e47, Or.inr (Or.inr h51)⟩)]
        | rw [xb_t ((lfo_x e13 e18 e27).mpr ⟨e47, Or.inl e57⟩)]
        | rw [xb_t ((lfo_x e13 e18 e27).mpr ⟨e47, Or.inr (Or.inl e63)⟩)]
        | rw [xb_f (fun z => e47 ((lfo_x e13 e18 e27).mp z).1)]
        | rw [xb_f (fun z => ((lfo_x e13 e18 e27).mp z).2.elim e57 (fun w => w.elim e63 h51))], rfl⟩
  · have e13 : ¬ i = 0 := fun z => h13 ((nI_eq (b := 0) (by omega) (by omega)).mpr z)
    refine xA.iload_n (i := 0) rfl rfl rfl rfl ?_
    refine xA.iconst (v := 2) rfl (by decide) rfl ?_
    refine xA.icmp_ne (tgt := 25) rfl rfl rfl (fun h18 => ?_) (fun h18 => ?_)
    · have e18 : ¬ i = 2 := fun z => h18 ((nI_eq (b := 2) (by omega) (by omega)).mpr z)
      refine xA.iload_n (i := 0) rfl rfl rfl rfl ?_
      refine xA.iconst (v := 1) rfl (by decide) rfl ?_
      refine xA.icmp_ne (tgt := 44) rfl rfl rfl (fun h27 => ?_) (fun h27 => ?_)
      · have e27 : ¬ i = 1 := fun z => h27 ((nI_eq (b := 1) (by omega) (by omega)).mpr z)
        refine xA.iload_n (i := 0) rfl rfl rfl rfl ?_
        refine xA.bipush (v := 19) rfl (by decide) rfl ?_
        refine xA.icmp_ge (tgt := 70) rfl rfl rfl (fun h47 => ?_) (fun h47 => ?_)
        · have e47 : ¬ i < 19 := fun z => nI_ge (b := 19) z (by omega) h47
          refine xA.iconst (v := 0) rfl (by decide) rfl ?_
          exact xA.iret rfl rfl (by first | rfl | exact xb_nar) ⟨by
            first
              | exact congrArg (fun z => some (Value.int z)) (xb_iff (lfo_02 (Or.inl e13)).symm)
              | exact congrArg (fun z => some (Value.int z)) (xb_iff (lfo_02 (Or.inr e18)).symm)
              | (subst e27; exact congrArg (fun z => some (Value.int z)) (xb_iff lfo_1.symm))
              | rw [xb_t ((lfo_x e13 e18 e27).mpr ⟨e47, Or.inr (Or.inr h51)⟩)]
              | rw [xb_t ((lfo_x e13 e18 e27).mpr ⟨e47, Or.inl e57⟩)]
              | rw [xb_t ((lfo_x e13 e18 e27).mpr ⟨e47, Or.inr (Or.inl e63)⟩)]
              | rw [xb_f (fun z => e47 ((lfo_x e13 e18 e27).mp z).1)]
              | rw [xb_f (fun z => ((lfo_x e13 e18 e27).mp z).2.elim e57 (fun w => w.elim e63 h51))], rfl⟩
        · have e47 : i < 19 := by
            rcases Nat.lt_or_ge i 19 with w | w
            · exact w
            · exact absurd (nI_le w (by omega)) h47
          refine xA.iload_n (i := 2) rfl rfl rfl rfl ?_
          refine xA.if_ne (tgt := 66) rfl rfl rfl (fun h51 => ?_) (fun h51 => ?_)
          · rw [xb_ne0] at h51
            refine xA.iconst (v := 1) rfl (by decide) rfl ?_
            refine xA.goto (q := 71) rfl rfl ?_
            exact xA.iret rfl rfl (by first | rfl | exact xb_nar) ⟨by
              first
                | exact congrArg (fun z => some (Value.int z)) (xb_iff (lfo_02 (Or.inl e13)).symm)
                | exact congrArg (fun z => some (Value.int z)) (xb_iff (lfo_02 (Or.inr e18)).symm)
                | (subst e27; exact congrArg (fun z => some (Value.int z)) (xb_iff lfo_1.symm))
                | rw [xb_t ((lfo_x e13 e18 e27).mpr ⟨e47, Or.inr (Or.inr h51)⟩)]
                | rw [xb_t ((lfo_x e13 e18 e27).mpr ⟨e47, Or.inl e57⟩)]
                | rw [xb_t ((lfo_x e13 e18 e27).mpr ⟨e47, Or.inr (Or.inl e63)⟩)]
                | rw [xb_f (fun z => e47 ((lfo_x e13 e18 e27).mp z).1)]
                | rw [xb_f (fun z => ((lfo_x e13 e18 e27).mp z).2.elim e57 (fun w => w.elim e63 h51))], rfl⟩
          · rw [xb_eq0] at h51
            refine xA.iload_n (i := 1) rfl rfl rfl rfl ?_
            refine xA.bipush (v := 46) rfl (by decide) rfl ?_
            refine xA.icmp_eq (tgt := 66) rfl rfl rfl (fun h57 => ?_) (fun h57 => ?_)
            · have e57 : c = 46 := (nI_eq (b := 46) (by omega) (by omega)).mp h57
              refine xA.iconst (v := 1) rfl (by decide) rfl ?_
              refine xA.goto (q := 71) rfl rfl ?_
              exact xA.iret rfl rfl (by first | rfl | exact xb_nar) ⟨by
                first
                  | exact congrArg (fun z => some (Value.int z)) (xb_iff (lfo_02 (Or.inl e13)).symm)
                  | exact congrArg (fun z => some (Value.int z)) (xb_iff (lfo_02 (Or.inr e18)).symm)
                  | (subst e27; exact congrArg (fun z => some (Value.int z)) (xb_iff lfo_1.symm))
                  | rw [xb_t ((lfo_x e13 e18 e27).mpr ⟨e47, Or.inr (Or.inr h51)⟩)]
                  | rw [xb_t ((lfo_x e13 e18 e27).mpr ⟨e47, Or.inl e57⟩)]
                  | rw [xb_t ((lfo_x e13 e18 e27).mpr ⟨e47, Or.inr (Or.inl e63)⟩)]
                  | rw [xb_f (fun z => e47 ((lfo_x e13 e18 e27).mp z).1)]
                  | rw [xb_f (fun z => ((lfo_x e13 e18 e27).mp z).2.elim e57 (fun w => w.elim e63 h51))], rfl⟩
            · have e57 : ¬ c = 46 := fun z => h57 ((nI_eq (b := 46) (by omega) (by omega)).mpr z)
              refine xA.iload_n (i := 1) rfl rfl rfl rfl ?_
              refine xA.bipush (v := 116) rfl (by decide) rfl ?_
              refine xA.icmp_ne (tgt := 70) rfl rfl rfl (fun h63 => ?_) (fun h63 => ?_)
              · have e63 : ¬ c = 116 := fun z => h63 ((nI_eq (b := 116) (by omega) (by omega)).mpr z)
                refine xA.iconst (v := 0) rfl (by decide) rfl ?_
                exact xA.iret rfl rfl (by first | rfl | exact xb_nar) ⟨by
                  first
                    | exact congrArg (fun z => some (Value.int z)) (xb_iff (lfo_02 (Or.inl e13)).symm)
                    | exact congrArg (fun z => some (Value.int z)) (xb_iff (lfo_02 (Or.inr e18)).symm)
                    | (subst e27; exact congrArg (fun z => some (Value.int z)) (xb_iff lfo_1.symm))
                    | rw [xb_t ((lfo_x e13 e18 e27).mpr ⟨e47, Or.inr (Or.inr h51)⟩)]
                    | rw [xb_t ((lfo_x e13 e18 e27).mpr ⟨e47, Or.inl e57⟩)]
                    | rw [xb_t ((lfo_x e13 e18 e27).mpr ⟨e47, Or.inr (Or.inl e63)⟩)]
                    | rw [xb_f (fun z => e47 ((lfo_x e13 e18 e27).mp z).1)]
                    | rw [xb_f (fun z => ((lfo_x e13 e18 e27).mp z).2.elim e57 (fun w => w.elim e63 h51))], rfl⟩
              · have e63 : c = 116 := (nI_eq (b := 116) (by omega) (by omega)).mp h63
                refine xA.iconst (v := 1) rfl (by decide) rfl ?_
                refine xA.goto (q := 71) rfl rfl ?_
                exact xA.iret rfl rfl (by first | rfl | exact xb_nar) ⟨by
                  first
                    | exact congrArg (fun z => some (Value.int z)) (xb_iff (lfo_02 (Or.inl e13)).symm)
                    | exact congrArg (fun z => some (Value.int z)) (xb_iff (lfo_02 (Or.inr e18)).symm)
                    | (subst e27; exact congrArg (fun z => some (Value.int z)) (xb_iff lfo_1.symm))
                    | rw [xb_t ((lfo_x e13 e18 e27).mpr ⟨e47, Or.inr (Or.inr h51)⟩)]
                    | rw [xb_t ((lfo_x e13 e18 e27).mpr ⟨e47, Or.inl e57⟩)]
                    | rw [xb_t ((lfo_x e13 e18 e27).mpr ⟨e47, Or.inr (Or.inl e63)⟩)]
                    | rw [xb_f (fun z => e47 ((lfo_x e13 e18 e27).mp z).1)]
                    | rw [xb_f (fun z => ((lfo_x e13 e18 e27).mp z).2.elim e57 (fun w => w.elim e63 h51))], rfl⟩
      · have e27 : i = 1 := (nI_eq (b := 1) (by omega) (by omega)).mp h27
        refine xA.iload_n (i := 1) rfl rfl rfl rfl ?_
        refine xA.i2l rfl rfl ?_
        refine xA.ldc2 (v := 48) rfl w1017 rfl ?_
        refine xA.ldc2 (v := 57) rfl w1019 rfl ?_
        refine xA.callSi (As := [_, _, _]) rfl k10_96 okX10_in rfl rfl (Nat.le_of_ble_eq_true rfl) (c_X10_in d _ G (nI c) (nI 48) (nI 57)) rfl rfl ?_
        refine xA.topi (xb_iff (in_nat (b := 57) (by omega) (by omega) (by omega))) ?_
        refine xA.goto (q := 71) rfl rfl ?_
        exact xA.iret rfl rfl (by first | rfl | exact xb_nar) ⟨by
          first
            | exact congrArg (fun z => some (Value.int z)) (xb_iff (lfo_02 (Or.inl e13)).symm)
            | exact congrArg (fun z => some (Value.int z)) (xb_iff (lfo_02 (Or.inr e18)).symm)
            | (subst e27; exact congrArg (fun z => some (Value.int z)) (xb_iff lfo_1.symm))
            | rw [xb_t ((lfo_x e13 e18 e27).mpr ⟨e47, Or.inr (Or.inr h51)⟩)]
            | rw [xb_t ((lfo_x e13 e18 e27).mpr ⟨e47, Or.inl e57⟩)]
            | rw [xb_t ((lfo_x e13 e18 e27).mpr ⟨e47, Or.inr (Or.inl e63)⟩)]
            | rw [xb_f (fun z => e47 ((lfo_x e13 e18 e27).mp z).1)]
            | rw [xb_f (fun z => ((lfo_x e13 e18 e27).mp z).2.elim e57 (fun w => w.elim e63 h51))], rfl⟩
    · have e18 : i = 2 := (nI_eq (b := 2) (by omega) (by omega)).mp h18
      refine xA.iload_n (i := 2) rfl rfl rfl rfl ?_
      refine xA.goto (q := 71) rfl rfl ?_
      exact xA.iret rfl rfl (by first | rfl | exact xb_nar) ⟨by
        first
          | exact congrArg (fun z => some (Value.int z)) (xb_iff (lfo_02 (Or.inl e13)).symm)
          | exact congrArg (fun z => some (Value.int z)) (xb_iff (lfo_02 (Or.inr e18)).symm)
          | (subst e27; exact congrArg (fun z => some (Value.int z)) (xb_iff lfo_1.symm))
          | rw [xb_t ((lfo_x e13 e18 e27).mpr ⟨e47, Or.inr (Or.inr h51)⟩)]
          | rw [xb_t ((lfo_x e13 e18 e27).mpr ⟨e47, Or.inl e57⟩)]
          | rw [xb_t ((lfo_x e13 e18 e27).mpr ⟨e47, Or.inr (Or.inl e63)⟩)]
          | rw [xb_f (fun z => e47 ((lfo_x e13 e18 e27).mp z).1)]
          | rw [xb_f (fun z => ((lfo_x e13 e18 e27).mp z).2.elim e57 (fun w => w.elim e63 h51))], rfl⟩
set_option maxRecDepth 100000 in
set_option maxHeartbeats 400000 in
theorem c_X10_lifeFault (d : Nat) (S : Nat → Nat → Int32) (G : Nat → Nat → Int64) (pg : Nat → Nat) (n : Nat) (hp : mgP S pg n) : xR (d + 2) mX10_lifeFault [.ref 54] S G (some (.int (nI (fpl (fun j => lfo j (pg j)) n)))) S G := by
  have hn45 := hp.2.1
  refine xC.of okX10_lifeFault (Nat.le_of_ble_eq_true rfl) (L := [_, _]) rfl ?_
  have loop : ∀ i, i ≤ n → pre (fun j => lfo j (pg j)) i = true → xA none (d + 2) mX10_lifeFault 0 0 0 0 2 [some (.ref 54), some (.int (nI i))] [] (σF, S, G) (fun r' h' => r' = (some (.int (nI (fpl (fun j => lfo j (pg j)) n)))) ∧ h' = (σF, S, G)) := by
    refine xloop n (fun i hi ih => ?_) ?_
    · skip
      intro hpr
      refine xA.iload_n (i := 1) rfl rfl rfl rfl ?_
      refine xA.aload_n (i := 0) rfl rfl rfl rfl ?_
      refine xA.getI rfl f10_91 rfl rfl rfl ?_
      refine xA.topi (hp.1) ?_
      refine xA.icmp_ge (tgt := 29) rfl rfl rfl (fun h7 => ?_) (fun h7 => ?_)
      · exact absurd h7 (nI_ge hi (by omega))
      · refine xA.iload_n (i := 1) rfl rfl rfl rfl ?_
        refine xA.aload_n (i := 0) rfl rfl rfl rfl ?_
        refine xA.getR rfl f10_7 rfl rfl rfl rfl ?_
        refine xA.iload_n (i := 1) rfl rfl rfl rfl ?_
        refine xA.iald rfl rfl (vp_in_nI (by omega) (by omega)) rfl ?_
        refine xA.topi ((show S 55 (nI i).toNatClampNeg = nI (pg i) from by rw [nI_clamp (by omega)]; exact hp.2.2.1 i hi)) ?_
        refine xA.callSi (As := [_, _]) rfl k10_136 okX10_isLifeLetter rfl rfl (Nat.le_of_ble_eq_true rfl) (c_X10_isLifeLetter d _ G i (pg i) (by omega) (by have := hp.2.2.2 i hi; omega)) rfl rfl ?_
        refine xA.if_eq (tgt := 29) rfl rfl rfl (fun h20 => ?_) (fun h20 => ?_)
        · rw [xb_eq0] at h20
          refine xA.iload_n (i := 1) rfl rfl rfl rfl ?_
          exact xA.iret rfl rfl rfl ⟨by rw [fpl_at (f := (fun j => lfo j (pg j))) hi hpr (Bool.eq_false_iff.mpr h20)], rfl⟩
        · rw [xb_ne0] at h20
          refine xA.iinc (L' := [_, _]) rfl rfl (nI_1 i) rfl rfl ?_
          refine xA.goto (q := 2) rfl rfl ?_
          exact ih (pre_succ hpr h20)
    · skip
      intro hpr
      refine xA.iload_n (i := 1) rfl rfl rfl rfl ?_
      refine xA.aload_n (i := 0) rfl rfl rfl rfl ?_
      refine xA.getI rfl f10_91 rfl rfl rfl ?_
      refine xA.topi (hp.1) ?_
      refine xA.icmp_ge (tgt := 29) rfl rfl rfl (fun h7 => ?_) (fun h7 => ?_)
      · refine xA.iload_n (i := 1) rfl rfl rfl rfl ?_
        exact xA.iret rfl rfl rfl ⟨by rw [fpl_all hpr], rfl⟩
      · exact absurd (nI_le (Nat.le_refl _) (by omega)) h7
  refine xA.iconst (v := 0) rfl (by decide) rfl ?_
  refine xA.istore_n (i := 1) (L' := [_, _]) rfl rfl (Nat.le_of_ble_eq_true rfl) rfl rfl ?_
  exact loop 0 (Nat.zero_le _) rfl

/-! ===== the reference: letters ===== -/
def lsh (w : Int64) : Nat → Int64
  | 0 => w
  | k + 1 => ((lsh w k).toUInt64 >>> ((8 : Int32).toInt64.toUInt64 &&& Int64.toUInt64 63)).toInt64
theorem lsh_nat (w : Int64) (k : Nat) : (lsh w k).toUInt64.toNat = w.toUInt64.toNat >>> (8 * k) := by
  induction k with
  | zero => rfl
  | succ k ih =>
    rw [lsh]
    show ((lsh w k).toUInt64 >>> ((8 : Int32).toInt64.toUInt64 &&& Int64.toUInt64 63)).toNat = _
    rw [UInt64.toNat_shiftRight, ih, show ((8 : Int32).toInt64.toUInt64 &&& Int64.toUInt64 63).toNat % 64 = 8 by decide, ← Nat.shiftRight_add]
    congr 1
theorem lsh_by (w : Int64) (k : Nat) : ((lsh w k) &&& 255).toInt32 = nI (byN w k) := by
  have := by_and (lsh w k).toUInt64
  rw [lsh_nat] at this
  exact this
theorem lt_next {b : Nat → Nat} {i : Nat} {r : Nat × Bool} (h : ltS b (i + 1) = some r) : ∃ q, ltS b i = some q ∧ r.1 = q.1 + (if b i = 0 then 0 else 1) := by
  obtain ⟨q, hq, h2⟩ := Option.bind_eq_some_iff.mp h
  refine ⟨q, hq, ?_⟩
  split at h2
  · cases h2
  · cases h2; rfl
theorem lt_ok {b : Nat → Nat} {i : Nat} {q : Nat × Bool} (hq : ltS b i = some q) (h1 : b i ≤ 126) (h2 : b i = 0 ∨ q.1 = i) : (ltS b (i + 1)).isSome = true := by
  obtain ⟨a1, a2, a3, a4⟩ := ltS_spec i q hq
  rw [ltS, hq]
  show (if 126 < b i ∨ (q.2 = true ∧ ¬ b i = 0) then (none : Option (Nat × Bool)) else some (q.1 + (if b i = 0 then 0 else 1), decide (b i = 0))).isSome = true
  rw [if_neg (by rintro (z | ⟨z1, z2⟩); omega; have := a4.mp z1; omega)]; rfl
theorem lt_no0 {b : Nat → Nat} {i : Nat} (hq : ¬ (ltS b i).isSome = true) : ¬ (ltS b (i + 1)).isSome = true := by
  intro h
  obtain ⟨r, hr⟩ := Option.isSome_iff_exists.mp h
  obtain ⟨q, h1, _⟩ := lt_next hr
  exact hq (by rw [h1]; rfl)
theorem lt_no1 {b : Nat → Nat} {i : Nat} {q : Nat × Bool} (hq : ltS b i = some q) (h : 126 < b i ∨ (¬ b i = 0 ∧ ¬ q.1 = i)) : ¬ (ltS b (i + 1)).isSome = true := by
  obtain ⟨a1, a2, a3, a4⟩ := ltS_spec i q hq
  rw [ltS, hq]
  show ¬ (if 126 < b i ∨ (q.2 = true ∧ ¬ b i = 0) then (none : Option (Nat × Bool)) else some (q.1 + (if b i = 0 then 0 else 1), decide (b i = 0))).isSome = true
  rw [if_pos (h.imp id (fun z => ⟨a4.mpr (by omega), z.1⟩))]; simp
def mpS (S : Nat → Nat → Int32) (n c : Nat) (b : Nat → Nat) : Nat → Nat → Int32 := fun j i => if j = 54 then (if i = 1 then nI (n + c) else S j i) else if j = 55 then (if n ≤ i ∧ i < n + c then nI (b (i - n)) else S j i) else S j i
theorem mpS_0 {S : Nat → Nat → Int32} {n : Nat} {b : Nat → Nat} (hn : S 54 1 = nI n) : S = mpS S n 0 b := by
  funext j q
  unfold mpS
  by_cases e : j = 54
  · subst e
    by_cases e2 : q = 1
    · subst e2; simp [hn]
    · simp [e2]
  · rw [if_neg e]
    by_cases e2 : j = 55
    · rw [if_pos e2, if_neg (by omega)]
    · rw [if_neg e2]
theorem mpS_s {S : Nat → Nat → Int32} {n c : Nat} {b : Nat → Nat} : xu (xu (mpS S n c b) 55 (n + c) (nI (b c))) 54 1 (nI (n + c + 1)) = mpS S n (c + 1) b := by
  funext j q
  by_cases e : j = 54
  · subst e
    by_cases e2 : q = 1
    · subst e2; rw [xu_same]; simp [mpS]; rfl
    · rw [xu_ne2 e2, xu_ne1 (by omega)]; simp [mpS, e2]
  · rw [xu_ne1 e]
    by_cases e2 : j = 55
    · subst e2
      by_cases e3 : q = n + c
      · subst e3; rw [xu_same]; unfold mpS; rw [if_neg (by omega), if_pos rfl, if_pos (by omega), Nat.add_sub_cancel_left]
      · rw [xu_ne2 e3]
        simp only [mpS, if_neg (show ¬ (55 : Nat) = 54 by omega), if_true]
        by_cases e4 : n ≤ q ∧ q < n + c
        · rw [if_pos e4, if_pos (by omega)]
        · rw [if_neg e4, if_neg (by omega)]
    · rw [xu_ne1 e2]; unfold mpS; rw [if_neg e, if_neg e2, if_neg e, if_neg e2]
theorem mpS_off {S : Nat → Nat → Int32} {n c j : Nat} {b : Nat → Nat} (h1 : ¬ j = 54) (h2 : ¬ j = 55) : mpS S n c b j = S j := by funext q; unfold mpS; rw [if_neg h1, if_neg h2]
theorem mpS_f {S : Nat → Nat → Int32} {n c f : Nat} {b : Nat → Nat} (h1 : ¬ f = 1) : mpS S n c b 54 f = S 54 f := by unfold mpS; rw [if_pos rfl, if_neg h1]

set_option maxRecDepth 100000 in
set_option maxHeartbeats 2000000 in
theorem m_letters (d : Nat) (s : sS) (w : Int64) : opM d mX10_letters [.ref 54, .long w] s (.int (aLetters s w)) (tLetters s w) := by
  intro S G hc
  have hc0 := hc
  obtain ⟨hpg, hho, hpp, htk, hgl, hsd, him, hno⟩ := hc
  have hn45 := hpg.2.1
  refine xC.of okX10_letters (Nat.le_of_ble_eq_true rfl) (L := [_, _, _, _, _, _, _, _, _]) rfl ?_
  have lp2 : ∀ mm, mm ≤ 8 → sN s + mm ≤ 45 → wN w = some mm → ∀ i, i ≤ mm → ∀ (g4 : Int32) (l5 : Int64) (x8 : Option Value), xA none d mX10_letters 0 0 0 0 108 [some (.ref 54), some (.long w), none, some (.int (nI mm)), some (.int g4), some (.long l5), none, some (.int (nI i)), x8] [] (σF, mpS S (sN s) i (byN w), G) (fun r h' => ∃ S' G', h' = (σF, S', G') ∧ r = some (.int (aLetters s w)) ∧ MS S' (tLetters s w) ∧ ∀ j, j < 54 → S' j = S j) := by
    intro mm hm8 h45 hw
    refine xloop mm (fun i hi ih => ?_) ?_
    · intro g4 l5 x8
      refine xA.iload rfl rfl rfl ?_
      refine xA.iload_n (i := 3) rfl rfl rfl rfl ?_
      refine xA.icmp_ge (tgt := 151) rfl rfl rfl (fun h111 => ?_) (fun h111 => ?_)
      · exact absurd h111 (nI_ge hi (by omega))
      · refine xA.aload_n (i := 0) rfl rfl rfl rfl ?_
        refine xA.getR rfl f10_7 rfl rfl rfl rfl ?_
        refine xA.aload_n (i := 0) rfl rfl rfl rfl ?_
        refine xA.getI rfl f10_91 rfl rfl rfl ?_
        refine xA.topi ((show mpS S (sN s) i (byN w) 54 1 = nI (sN s + i) from by simp [mpS])) ?_
        refine xA.lload_n (i := 1) rfl rfl rfl rfl ?_
        refine xA.bipush (v := 8) rfl (by decide) rfl ?_
        refine xA.iload rfl rfl rfl ?_
        refine xA.imul rfl rfl ?_
        refine xA.lushr rfl rfl ?_
        refine xA.ldc2 (v := 255) rfl w980 rfl ?_
        refine xA.land rfl rfl ?_
        refine xA.l2i rfl rfl ?_
        refine xA.topi (by_shift w i (by omega)) ?_
        refine xA.iast rfl rfl (vp_in_nI (by omega) (by omega)) rfl ?_
        rw [nI_clamp (by omega)]
        refine xA.aload_n (i := 0) rfl rfl rfl rfl ?_
        refine xA.dup rfl rfl rfl ?_
        refine xA.getI rfl f10_91 rfl rfl rfl ?_
        refine xA.topi ((show _ = nI (sN s + i) from by rw [xu_ne1 (by omega)]; simp [mpS])) ?_
        refine xA.iconst (v := 1) rfl (by decide) rfl ?_
        refine xA.iadd rfl rfl ?_
        refine xA.topi (nI_1 _) ?_
        refine xA.putI rfl p10_91 rfl rfl rfl ?_
        refine xA.iinc (L' := [_, _, _, _, _, _, _, _, _]) rfl rfl (nI_1 i) rfl rfl ?_
        refine xA.goto (q := 108) rfl rfl ?_
        refine xA.store mpS_s ?_
        exact ih _ _ _
    · intro g4 l5 x8
      refine xA.iload rfl rfl rfl ?_
      refine xA.iload_n (i := 3) rfl rfl rfl rfl ?_
      refine xA.icmp_ge (tgt := 151) rfl rfl rfl (fun h111 => ?_) (fun h111 => ?_)
      · refine xA.aload_n (i := 0) rfl rfl rfl rfl ?_
        refine xA.getI rfl f10_91 rfl rfl rfl ?_
        refine xA.topi ((show mpS S (sN s) mm (byN w) 54 1 = nI (sN s + mm) from by simp [mpS])) ?_
        obtain ⟨q0, hq0, hq1⟩ := Option.map_eq_some_iff.mp hw
        obtain ⟨a1, a2, a3, a4⟩ := ltS_spec 8 q0 hq0
        exact xA.iret rfl rfl rfl ⟨_, G, rfl, by rw [aLetters, hw]; show _ = some (Value.int (if 45 < sN s + mm then -104 else nI (sN s + mm))); rw [if_neg (by omega)], by
          rw [tLetters, hw]
          show MS _ (if 45 < sN s + mm then s else (pgA (sPg s) (sN s) (byN w), sN s + mm, s.2.2))
          rw [if_neg (by omega)]
          refine ⟨⟨by show mpS S (sN s) mm (byN w) 54 1 = nI (sN s + mm); simp [mpS], h45, fun i hi => ?_, fun i hi => ?_⟩, hho.to (fun f a b => mpS_f (by omega)) (fun j a b => mpS_off (by omega) (by omega)), hpp.to (mpS_f (by omega)) (fun j a b => mpS_off (by omega) (by omega)), ⟨(mpS_f (by omega)).trans htk.1, htk.2.to (mpS_off (by omega) (by omega))⟩, ⟨(mpS_f (by omega)).trans hgl.1, hgl.2.to (mpS_off (by omega) (by omega))⟩, ⟨(mpS_f (by omega)).trans hsd.1, hsd.2⟩, him.to (fun f a b => mpS_f (by omega)) (fun j a b => mpS_off (by omega) (by omega)), hno⟩
          · have hi2 : i < sN s + mm := hi
            show mpS S (sN s) mm (byN w) 55 i = nI (pgA (sPg s) (sN s) (byN w) i)
            unfold mpS pgA
            rw [if_neg (by omega), if_pos rfl]
            by_cases e : i < sN s
            · rw [if_neg (by omega), if_pos e]; exact hpg.2.2.1 i e
            · rw [if_pos (by omega), if_neg e]
          · have hi2 : i < sN s + mm := hi
            show pgA (sPg s) (sN s) (byN w) i ≤ 126
            unfold pgA
            by_cases e : i < sN s
            · rw [if_pos e]; exact hpg.2.2.2 i e
            · rw [if_neg e]; exact (a2 _ (by omega)).2, fun j hj => mpS_off (by omega) (by omega)⟩
      · exact absurd (nI_le (Nat.le_refl _) (by omega)) h111
  have lp1 : ∀ i, i ≤ 8 → ∀ (mm : Nat) (x8 : Option Value), mm ≤ i → (∀ q, ltS (byN w) i = some q → q.1 = mm) → xA none d mX10_letters 0 0 0 0 11 [some (.ref 54), some (.long w), none, some (.int (nI mm)), some (.int (xb ((ltS (byN w) i).isSome = true))), some (.long (lsh w i)), none, some (.int (nI i)), x8] [] (σF, S, G) (fun r h' => ∃ S' G', h' = (σF, S', G') ∧ r = some (.int (aLetters s w)) ∧ MS S' (tLetters s w) ∧ ∀ j, j < 54 → S' j = S j) := by
    refine xloop 8 (fun i hi ih => ?_) ?_
    · intro mm x8 hmi hqm
      have hb := byN_lt w i
      refine xA.iload rfl rfl rfl ?_
      refine xA.bipush (v := 8) rfl (by decide) rfl ?_
      refine xA.icmp_ge (tgt := 83) rfl rfl rfl (fun h15 => ?_) (fun h15 => ?_)
      · exact absurd h15 (nI_ge (b := 8) hi (by omega))
      · refine xA.lload rfl rfl rfl ?_
        refine xA.ldc2 (v := 255) rfl w980 rfl ?_
        refine xA.land rfl rfl ?_
        refine xA.l2i rfl rfl ?_
        refine xA.topi (lsh_by w i) ?_
        refine xA.istore (L' := [_, _, _, _, _, _, _, _, _]) rfl (Nat.le_of_ble_eq_true rfl) rfl rfl ?_
        refine xA.lload rfl rfl rfl ?_
        refine xA.bipush (v := 8) rfl (by decide) rfl ?_
        refine xA.lushr rfl rfl ?_
        refine xA.lstore (L' := [_, _, _, _, _, _, _, _, _]) rfl (Nat.le_of_ble_eq_true rfl) rfl rfl ?_
        refine xA.iload rfl rfl rfl ?_
        refine xA.if_eq (tgt := 61) rfl rfl rfl (fun h36 => ?_) (fun h36 => ?_)
        · rw [xb_eq0] at h36
          refine xA.iconst (v := 0) rfl (by decide) rfl ?_
          refine xA.topi (((xb_f (by first | exact lt_no0 h36 | exact lt_no1 hq0 (Or.inl e43) | exact lt_no1 hq0 (Or.inr ⟨e48, fun z => e54 ((hqm _ hq0).symm.trans z)⟩))).symm : (0 : Int32) = xb ((ltS (byN w) (i + 1)).isSome = true))) ?_
          refine xA.istore (L' := [_, _, _, _, _, _, _, _, _]) rfl (Nat.le_of_ble_eq_true rfl) rfl rfl ?_
          refine xA.iload_n (i := 3) rfl rfl rfl rfl ?_
          refine xA.iload rfl rfl rfl ?_
          refine xA.if_le (tgt := 74) rfl rfl rfl (fun h67 => ?_) (fun h67 => ?_)
          · have e67 : byN w i = 0 := by have := (nI_leI (b := 0) (by omega) (by omega)).mp h67; omega
            refine xA.iconst (v := 0) rfl (by decide) rfl ?_
            refine xA.iadd rfl rfl ?_
            refine xA.topi ((show _ = nI (mm + (if byN w i = 0 then 0 else 1)) from by first | (rw [if_pos e67]; exact nI_add mm 0) | (rw [if_neg e67]; exact nI_1 mm))) ?_
            refine xA.istore_n (i := 3) (L' := [_, _, _, _, _, _, _, _, _]) rfl rfl (Nat.le_of_ble_eq_true rfl) rfl rfl ?_
            refine xA.iinc (L' := [_, _, _, _, _, _, _, _, _]) rfl rfl (nI_1 i) rfl rfl ?_
            refine xA.goto (q := 11) rfl rfl ?_
            exact ih (mm + (if byN w i = 0 then 0 else 1)) _ (by split <;> omega) (fun q hq => by obtain ⟨q2, h2, h3⟩ := lt_next hq; rw [h3, hqm q2 h2])
          · have e67 : ¬ byN w i = 0 := fun z => h67 (by rw [z]; decide)
            refine xA.iconst (v := 1) rfl (by decide) rfl ?_
            refine xA.goto (q := 75) rfl rfl ?_
            refine xA.iadd rfl rfl ?_
            refine xA.topi ((show _ = nI (mm + (if byN w i = 0 then 0 else 1)) from by first | (rw [if_pos e67]; exact nI_add mm 0) | (rw [if_neg e67]; exact nI_1 mm))) ?_
            refine xA.istore_n (i := 3) (L' := [_, _, _, _, _, _, _, _, _]) rfl rfl (Nat.le_of_ble_eq_true rfl) rfl rfl ?_
            refine xA.iinc (L' := [_, _, _, _, _, _, _, _, _]) rfl rfl (nI_1 i) rfl rfl ?_
            refine xA.goto (q := 11) rfl rfl ?_
            exact ih (mm + (if byN w i = 0 then 0 else 1)) _ (by split <;> omega) (fun q hq => by obtain ⟨q2, h2, h3⟩ := lt_next hq; rw [h3, hqm q2 h2])
        · rw [xb_ne0] at h36
          obtain ⟨q0, hq0⟩ := Option.isSome_iff_exists.mp h36
          refine xA.iload rfl rfl rfl ?_
          refine xA.bipush (v := 126) rfl (by decide) rfl ?_
          refine xA.icmp_gt (tgt := 61) rfl rfl rfl (fun h43 => ?_) (fun h43 => ?_)
          · have e43 : 126 < byN w i := (nI_ltI (a := 126) (by omega) (by omega)).mp h43
            refine xA.iconst (v := 0) rfl (by decide) rfl ?_
            refine xA.topi (((xb_f (by first | exact lt_no0 h36 | exact lt_no1 hq0 (Or.inl e43) | exact lt_no1 hq0 (Or.inr ⟨e48, fun z => e54 ((hqm _ hq0).symm.trans z)⟩))).symm : (0 : Int32) = xb ((ltS (byN w) (i + 1)).isSome = true))) ?_
            refine xA.istore (L' := [_, _, _, _, _, _, _, _, _]) rfl (Nat.le_of_ble_eq_true rfl) rfl rfl ?_
            refine xA.iload_n (i := 3) rfl rfl rfl rfl ?_
            refine xA.iload rfl rfl rfl ?_
            refine xA.if_le (tgt := 74) rfl rfl rfl (fun h67 => ?_) (fun h67 => ?_)
            · have e67 : byN w i = 0 := by have := (nI_leI (b := 0) (by omega) (by omega)).mp h67; omega
              refine xA.iconst (v := 0) rfl (by decide) rfl ?_
              refine xA.iadd rfl rfl ?_
              refine xA.topi ((show _ = nI (mm + (if byN w i = 0 then 0 else 1)) from by first | (rw [if_pos e67]; exact nI_add mm 0) | (rw [if_neg e67]; exact nI_1 mm))) ?_
              refine xA.istore_n (i := 3) (L' := [_, _, _, _, _, _, _, _, _]) rfl rfl (Nat.le_of_ble_eq_true rfl) rfl rfl ?_
              refine xA.iinc (L' := [_, _, _, _, _, _, _, _, _]) rfl rfl (nI_1 i) rfl rfl ?_
              refine xA.goto (q := 11) rfl rfl ?_
              exact ih (mm + (if byN w i = 0 then 0 else 1)) _ (by split <;> omega) (fun q hq => by obtain ⟨q2, h2, h3⟩ := lt_next hq; rw [h3, hqm q2 h2])
            · have e67 : ¬ byN w i = 0 := fun z => h67 (by rw [z]; decide)
              refine xA.iconst (v := 1) rfl (by decide) rfl ?_
              refine xA.goto (q := 75) rfl rfl ?_
              refine xA.iadd rfl rfl ?_
              refine xA.topi ((show _ = nI (mm + (if byN w i = 0 then 0 else 1)) from by first | (rw [if_pos e67]; exact nI_add mm 0) | (rw [if_neg e67]; exact nI_1 mm))) ?_
              refine xA.istore_n (i := 3) (L' := [_, _, _, _, _, _, _, _, _]) rfl rfl (Nat.le_of_ble_eq_true rfl) rfl rfl ?_
              refine xA.iinc (L' := [_, _, _, _, _, _, _, _, _]) rfl rfl (nI_1 i) rfl rfl ?_
              refine xA.goto (q := 11) rfl rfl ?_
              exact ih (mm + (if byN w i = 0 then 0 else 1)) _ (by split <;> omega) (fun q hq => by obtain ⟨q2, h2, h3⟩ := lt_next hq; rw [h3, hqm q2 h2])
          · have e43 : byN w i ≤ 126 := by
              have := mt (nI_ltI (a := 126) (by omega) (by omega)).mpr h43
              omega
            refine xA.iload rfl rfl rfl ?_
            refine xA.if_eq (tgt := 57) rfl rfl rfl (fun h48 => ?_) (fun h48 => ?_)
            · have e48 : byN w i = 0 := (nI_eq (b := 0) (by omega) (by omega)).mp h48
              refine xA.iconst (v := 1) rfl (by decide) rfl ?_
              refine xA.topi (((xb_t (by first | exact lt_ok hq0 e43 (Or.inl e48) | exact lt_ok hq0 e43 (Or.inr (e54 ▸ hqm _ hq0)))).symm : (1 : Int32) = xb ((ltS (byN w) (i + 1)).isSome = true))) ?_
              refine xA.goto (q := 62) rfl rfl ?_
              refine xA.istore (L' := [_, _, _, _, _, _, _, _, _]) rfl (Nat.le_of_ble_eq_true rfl) rfl rfl ?_
              refine xA.iload_n (i := 3) rfl rfl rfl rfl ?_
              refine xA.iload rfl rfl rfl ?_
              refine xA.if_le (tgt := 74) rfl rfl rfl (fun h67 => ?_) (fun h67 => ?_)
              · have e67 : byN w i = 0 := by have := (nI_leI (b := 0) (by omega) (by omega)).mp h67; omega
                refine xA.iconst (v := 0) rfl (by decide) rfl ?_
                refine xA.iadd rfl rfl ?_
                refine xA.topi ((show _ = nI (mm + (if byN w i = 0 then 0 else 1)) from by first | (rw [if_pos e67]; exact nI_add mm 0) | (rw [if_neg e67]; exact nI_1 mm))) ?_
                refine xA.istore_n (i := 3) (L' := [_, _, _, _, _, _, _, _, _]) rfl rfl (Nat.le_of_ble_eq_true rfl) rfl rfl ?_
                refine xA.iinc (L' := [_, _, _, _, _, _, _, _, _]) rfl rfl (nI_1 i) rfl rfl ?_
                refine xA.goto (q := 11) rfl rfl ?_
                exact ih (mm + (if byN w i = 0 then 0 else 1)) _ (by split <;> omega) (fun q hq => by obtain ⟨q2, h2, h3⟩ := lt_next hq; rw [h3, hqm q2 h2])
              · have e67 : ¬ byN w i = 0 := fun z => h67 (by rw [z]; decide)
                refine xA.iconst (v := 1) rfl (by decide) rfl ?_
                refine xA.goto (q := 75) rfl rfl ?_
                refine xA.iadd rfl rfl ?_
                refine xA.topi ((show _ = nI (mm + (if byN w i = 0 then 0 else 1)) from by first | (rw [if_pos e67]; exact nI_add mm 0) | (rw [if_neg e67]; exact nI_1 mm))) ?_
                refine xA.istore_n (i := 3) (L' := [_, _, _, _, _, _, _, _, _]) rfl rfl (Nat.le_of_ble_eq_true rfl) rfl rfl ?_
                refine xA.iinc (L' := [_, _, _, _, _, _, _, _, _]) rfl rfl (nI_1 i) rfl rfl ?_
                refine xA.goto (q := 11) rfl rfl ?_
                exact ih (mm + (if byN w i = 0 then 0 else 1)) _ (by split <;> omega) (fun q hq => by obtain ⟨q2, h2, h3⟩ := lt_next hq; rw [h3, hqm q2 h2])
            · have e48 : ¬ byN w i = 0 := fun z => h48 (by rw [z]; rfl)
              refine xA.iload_n (i := 3) rfl rfl rfl rfl ?_
              refine xA.iload rfl rfl rfl ?_
              refine xA.icmp_ne (tgt := 61) rfl rfl rfl (fun h54 => ?_) (fun h54 => ?_)
              · have e54 : ¬ mm = i := fun z => h54 (by rw [z])
                refine xA.iconst (v := 0) rfl (by decide) rfl ?_
                refine xA.topi (((xb_f (by first | exact lt_no0 h36 | exact lt_no1 hq0 (Or.inl e43) | exact lt_no1 hq0 (Or.inr ⟨e48, fun z => e54 ((hqm _ hq0).symm.trans z)⟩))).symm : (0 : Int32) = xb ((ltS (byN w) (i + 1)).isSome = true))) ?_
                refine xA.istore (L' := [_, _, _, _, _, _, _, _, _]) rfl (Nat.le_of_ble_eq_true rfl) rfl rfl ?_
                refine xA.iload_n (i := 3) rfl rfl rfl rfl ?_
                refine xA.iload rfl rfl rfl ?_
                refine xA.if_le (tgt := 74) rfl rfl rfl (fun h67 => ?_) (fun h67 => ?_)
                · have e67 : byN w i = 0 := by have := (nI_leI (b := 0) (by omega) (by omega)).mp h67; omega
                  refine xA.iconst (v := 0) rfl (by decide) rfl ?_
                  refine xA.iadd rfl rfl ?_
                  refine xA.topi ((show _ = nI (mm + (if byN w i = 0 then 0 else 1)) from by first | (rw [if_pos e67]; exact nI_add mm 0) | (rw [if_neg e67]; exact nI_1 mm))) ?_
                  refine xA.istore_n (i := 3) (L' := [_, _, _, _, _, _, _, _, _]) rfl rfl (Nat.le_of_ble_eq_true rfl) rfl rfl ?_
                  refine xA.iinc (L' := [_, _, _, _, _, _, _, _, _]) rfl rfl (nI_1 i) rfl rfl ?_
                  refine xA.goto (q := 11) rfl rfl ?_
                  exact ih (mm + (if byN w i = 0 then 0 else 1)) _ (by split <;> omega) (fun q hq => by obtain ⟨q2, h2, h3⟩ := lt_next hq; rw [h3, hqm q2 h2])
                · have e67 : ¬ byN w i = 0 := fun z => h67 (by rw [z]; decide)
                  refine xA.iconst (v := 1) rfl (by decide) rfl ?_
                  refine xA.goto (q := 75) rfl rfl ?_
                  refine xA.iadd rfl rfl ?_
                  refine xA.topi ((show _ = nI (mm + (if byN w i = 0 then 0 else 1)) from by first | (rw [if_pos e67]; exact nI_add mm 0) | (rw [if_neg e67]; exact nI_1 mm))) ?_
                  refine xA.istore_n (i := 3) (L' := [_, _, _, _, _, _, _, _, _]) rfl rfl (Nat.le_of_ble_eq_true rfl) rfl rfl ?_
                  refine xA.iinc (L' := [_, _, _, _, _, _, _, _, _]) rfl rfl (nI_1 i) rfl rfl ?_
                  refine xA.goto (q := 11) rfl rfl ?_
                  exact ih (mm + (if byN w i = 0 then 0 else 1)) _ (by split <;> omega) (fun q hq => by obtain ⟨q2, h2, h3⟩ := lt_next hq; rw [h3, hqm q2 h2])
              · have e54 : mm = i := (nI_eq (by omega) (by omega)).mp h54
                refine xA.iconst (v := 1) rfl (by decide) rfl ?_
                refine xA.topi (((xb_t (by first | exact lt_ok hq0 e43 (Or.inl e48) | exact lt_ok hq0 e43 (Or.inr (e54 ▸ hqm _ hq0)))).symm : (1 : Int32) = xb ((ltS (byN w) (i + 1)).isSome = true))) ?_
                refine xA.goto (q := 62) rfl rfl ?_
                refine xA.istore (L' := [_, _, _, _, _, _, _, _, _]) rfl (Nat.le_of_ble_eq_true rfl) rfl rfl ?_
                refine xA.iload_n (i := 3) rfl rfl rfl rfl ?_
                refine xA.iload rfl rfl rfl ?_
                refine xA.if_le (tgt := 74) rfl rfl rfl (fun h67 => ?_) (fun h67 => ?_)
                · have e67 : byN w i = 0 := by have := (nI_leI (b := 0) (by omega) (by omega)).mp h67; omega
                  refine xA.iconst (v := 0) rfl (by decide) rfl ?_
                  refine xA.iadd rfl rfl ?_
                  refine xA.topi ((show _ = nI (mm + (if byN w i = 0 then 0 else 1)) from by first | (rw [if_pos e67]; exact nI_add mm 0) | (rw [if_neg e67]; exact nI_1 mm))) ?_
                  refine xA.istore_n (i := 3) (L' := [_, _, _, _, _, _, _, _, _]) rfl rfl (Nat.le_of_ble_eq_true rfl) rfl rfl ?_
                  refine xA.iinc (L' := [_, _, _, _, _, _, _, _, _]) rfl rfl (nI_1 i) rfl rfl ?_
                  refine xA.goto (q := 11) rfl rfl ?_
                  exact ih (mm + (if byN w i = 0 then 0 else 1)) _ (by split <;> omega) (fun q hq => by obtain ⟨q2, h2, h3⟩ := lt_next hq; rw [h3, hqm q2 h2])
                · have e67 : ¬ byN w i = 0 := fun z => h67 (by rw [z]; decide)
                  refine xA.iconst (v := 1) rfl (by decide) rfl ?_
                  refine xA.goto (q := 75) rfl rfl ?_
                  refine xA.iadd rfl rfl ?_
                  refine xA.topi ((show _ = nI (mm + (if byN w i = 0 then 0 else 1)) from by first | (rw [if_pos e67]; exact nI_add mm 0) | (rw [if_neg e67]; exact nI_1 mm))) ?_
                  refine xA.istore_n (i := 3) (L' := [_, _, _, _, _, _, _, _, _]) rfl rfl (Nat.le_of_ble_eq_true rfl) rfl rfl ?_
                  refine xA.iinc (L' := [_, _, _, _, _, _, _, _, _]) rfl rfl (nI_1 i) rfl rfl ?_
                  refine xA.goto (q := 11) rfl rfl ?_
                  exact ih (mm + (if byN w i = 0 then 0 else 1)) _ (by split <;> omega) (fun q hq => by obtain ⟨q2, h2, h3⟩ := lt_next hq; rw [h3, hqm q2 h2])
    · intro mm x8 hmi hqm
      refine xA.iload rfl rfl rfl ?_
      refine xA.bipush (v := 8) rfl (by decide) rfl ?_
      refine xA.icmp_ge (tgt := 83) rfl rfl rfl (fun h15 => ?_) (fun h15 => ?_)
      · refine xA.iload rfl rfl rfl ?_
        refine xA.if_ne (tgt := 91) rfl rfl rfl (fun h85 => ?_) (fun h85 => ?_)
        · rw [xb_ne0] at h85
          obtain ⟨q0, hq0⟩ := Option.isSome_iff_exists.mp h85
          have hw : wN w = some mm := by rw [wN, hq0, ← hqm q0 hq0]; rfl
          refine xA.aload_n (i := 0) rfl rfl rfl rfl ?_
          refine xA.getI rfl f10_91 rfl rfl rfl ?_
          refine xA.topi (hpg.1) ?_
          refine xA.iload_n (i := 3) rfl rfl rfl rfl ?_
          refine xA.iadd rfl rfl ?_
          refine xA.topi (nI_add _ _) ?_
          refine xA.bipush (v := 45) rfl (by decide) rfl ?_
          refine xA.icmp_le (tgt := 105) rfl rfl rfl (fun h99 => ?_) (fun h99 => ?_)
          · have e99 : sN s + mm ≤ 45 := (nI_leI (b := 45) (by omega) (by omega)).mp h99
            refine xA.iconst (v := 0) rfl (by decide) rfl ?_
            refine xA.istore (L' := [_, _, _, _, _, _, _, _, _]) rfl (Nat.le_of_ble_eq_true rfl) rfl rfl ?_
            refine xA.store (mpS_0 (b := (byN w)) hpg.1) ?_
            exact lp2 mm (by omega) (by omega) hw 0 (Nat.zero_le _) _ _ _
          · have e99 : ¬ sN s + mm ≤ 45 := mt (nI_leI (b := 45) (by omega) (by omega)).mpr h99
            refine xA.bipush (v := (-104)) rfl (by decide) rfl ?_
            exact xA.iret rfl rfl rfl ⟨S, G, rfl, by rw [aLetters, hw]; show _ = some (Value.int (if 45 < sN s + mm then -104 else nI (sN s + mm))); rw [if_pos (by omega)], by rw [tLetters, hw]; show MS S (if 45 < sN s + mm then s else _); rw [if_pos (by omega)]; exact hc0, fun _ _ => rfl⟩
        · rw [xb_eq0] at h85
          have hw : wN w = none := by
            rw [wN]
            cases hz : ltS (byN w) 8 with
            | none => rfl
            | some q => rw [hz] at h85; exact absurd rfl h85
          refine xA.bipush (v := (-102)) rfl (by decide) rfl ?_
          exact xA.iret rfl rfl rfl ⟨S, G, rfl, by rw [aLetters, hw], by rw [tLetters, hw]; exact hc0, fun _ _ => rfl⟩
      · exact absurd (nI_le (a := 8) (b := 8) (Nat.le_refl _) (by omega)) h15
  refine xA.iconst (v := 0) rfl (by decide) rfl ?_
  refine xA.istore_n (i := 3) (L' := [_, _, _, _, _, _, _, _, _]) rfl rfl (Nat.le_of_ble_eq_true rfl) rfl rfl ?_
  refine xA.iconst (v := 1) rfl (by decide) rfl ?_
  refine xA.istore (L' := [_, _, _, _, _, _, _, _, _]) rfl (Nat.le_of_ble_eq_true rfl) rfl rfl ?_
  refine xA.lload_n (i := 1) rfl rfl rfl rfl ?_
  refine xA.lstore (L' := [_, _, _, _, _, _, _, _, _]) rfl (Nat.le_of_ble_eq_true rfl) rfl rfl ?_
  refine xA.iconst (v := 0) rfl (by decide) rfl ?_
  refine xA.istore (L' := [_, _, _, _, _, _, _, _, _]) rfl (Nat.le_of_ble_eq_true rfl) rfl rfl ?_
  refine xA.store rfl ?_
  exact lp1 0 (Nat.zero_le _) 0 _ (Nat.zero_le _) (fun q hq => by cases hq; rfl)

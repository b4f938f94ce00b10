/-! ===== the reference asks: meetings ===== -/
/-- the least minute that is so; 60: none -/
def mnP (P : Nat → Prop) (f : Nat) : Prop := f ≤ 60 ∧ (∀ m, m < 60 → P m → f ≤ m) ∧ (f < 60 → P f)
theorem mnP.uniq {P Q : Nat → Prop} {f g : Nat} (h1 : mnP P f) (h2 : mnP Q g) (he : ∀ m, m < 60 → (P m ↔ Q m)) : f = g := by
  rcases Nat.lt_trichotomy f g with z | z | z
  · have := h2.1
    have := h2.2.1 f (by omega) ((he f (by omega)).mp (h1.2.2 (by omega)))
    omega
  · exact z
  · have := h1.1
    have := h1.2.1 g (by omega) ((he g (by omega)).mpr (h2.2.2 (by omega)))
    omega
theorem mnP.lo {P Q : Nat → Prop} {f u : Nat} {c : Prop} (h : mnP P f) (hu : u < 60) (hc : c) (hl : u < f) (he : ∀ m, Q m ↔ (P m ∨ (c ∧ u = m))) : mnP Q u :=
  ⟨by omega, fun m hm hq => ((he m).mp hq).elim (fun z => by have := h.2.1 m hm z; omega) (fun z => by omega), fun _ => (he u).mpr (Or.inr ⟨hc, rfl⟩)⟩
theorem mnP.hi {P Q : Nat → Prop} {f u : Nat} {c : Prop} (h : mnP P f) (hn : ¬ (c ∧ u < f)) (he : ∀ m, Q m ↔ (P m ∨ (c ∧ u = m))) : mnP Q f :=
  ⟨h.1, fun m hm hq => ((he m).mp hq).elim (h.2.1 m hm) (fun z => by have : ¬ u < f := fun w => hn ⟨z.1, w⟩; omega), fun hf => (he f).mpr (Or.inl (h.2.2 hf))⟩
theorem mnP.to {P Q : Nat → Prop} {f : Nat} (h : mnP P f) (he : ∀ m, Q m ↔ P m) : mnP Q f := ⟨h.1, fun m hm hq => h.2.1 m hm ((he m).mp hq), fun hf => (he f).mpr (h.2.2 hf)⟩
theorem ex_succ {Q : Nat → Prop} {n : Nat} : (∃ i, i < n + 1 ∧ Q i) ↔ ((∃ i, i < n ∧ Q i) ∨ Q n) := by
  constructor
  · rintro ⟨i, h1, h2⟩
    rcases Nat.lt_succ_iff_lt_or_eq.mp h1 with z | z
    · exact Or.inl ⟨i, z, h2⟩
    · exact Or.inr (z ▸ h2)
  · rintro (⟨i, h1, h2⟩ | h)
    · exact ⟨i, by omega, h2⟩
    · exact ⟨n, by omega, h⟩
theorem fwS_mn {u : Nat → Nat} {ok : Nat → Bool} {n : Nat} (hu : ∀ i, i < n → u i < 60) : ∃ f, mnP (fun m => ∃ i, i < n ∧ (ok i = true ∧ u i = m)) f ∧ fwS (fun i => nI (u i)) ok n = if f = 60 then -1 else nI f := by
  induction n with
  | zero => exact ⟨60, ⟨Nat.le_refl _, fun m _ h => absurd h.choose_spec.1 (Nat.not_lt_zero _), fun h => absurd h (by decide)⟩, rfl⟩
  | succ n ih =>
    obtain ⟨f, h1, h2⟩ := ih (fun i hi => hu i (by omega))
    have hun := hu n (by omega)
    by_cases hc : ok n = true ∧ u n < f
    · refine ⟨u n, h1.lo hun hc.1 hc.2 (fun m => ex_succ), ?_⟩
      rw [fwS, h2, if_neg (show ¬ u n = 60 by omega)]
      by_cases e : f = 60
      · rw [if_pos e, if_pos ⟨Or.inl rfl, hc.1⟩]
      · have := h1.1
        rw [if_neg e, if_pos ⟨Or.inr ((nI_ltI (by omega) (by omega)).mpr hc.2), hc.1⟩]
    · refine ⟨f, h1.hi hc (fun m => ex_succ), ?_⟩
      rw [fwS, h2]
      have := h1.1
      by_cases e : f = 60
      · rw [if_pos e, if_neg (fun z => hc ⟨z.2, by omega⟩)]
      · rw [if_neg e, if_neg (fun z => hc ⟨z.2, z.1.elim (fun w => absurd w (nI_m1 (by omega))) (fun w => (nI_ltI (by omega) (by omega)).mp w)⟩)]
def pkB (h : hS) (kd x y : Nat) : Bool := decide (x / 6 = y / 6) && (decide (x % 6 = y % 6) || (!decide (kd = 1) && (hSr h (x % 6)).testBit (y % 6)))
def pO (h : hS) (kd : Nat) (l : lS) (i : Nat) (m : Nat) : Prop := ∃ q, q < i ∧ ∃ k, k < q ∧ (pkB h kd (lSp l q) (lSp l k) = true ∧ lSp l q / 6 = m)
def pI (h : hS) (kd : Nat) (l : lS) (i k : Nat) (m : Nat) : Prop := pO h kd l i m ∨ ∃ j, j < k ∧ (pkB h kd (lSp l i) (lSp l j) = true ∧ lSp l i / 6 = m)
theorem pI_succ {h : hS} {kd : Nat} {l : lS} {i k m : Nat} : pI h kd l i (k + 1) m ↔ (pI h kd l i k m ∨ (pkB h kd (lSp l i) (lSp l k) = true ∧ lSp l i / 6 = m)) := by
  unfold pI; rw [ex_succ, or_assoc]
theorem pO_succ {h : hS} {kd : Nat} {l : lS} {i m : Nat} : pO h kd l (i + 1) m ↔ pI h kd l i i m := by
  unfold pO pI pO; rw [ex_succ]
theorem see_sym {h : hS} (ho : hOk h) (kd : Nat) {a b : Nat} (ha : a < 6) (hb : b < 6) : seeB h kd a b = seeB h kd b a := by
  unfold seeB
  rw [ho.2.2.2.2.2.2.2.2.2.1 a b ha hb, show decide (a = b) = decide (b = a) from decide_eq_decide.mpr eq_comm]
theorem pk_see {h : hS} {kd x y : Nat} (hk : kd ≤ 2) : pkB h kd x y = true ↔ x / 6 = y / 6 ∧ seeB h kd (x % 6) (y % 6) = true := by
  unfold pkB seeB
  rw [if_neg (by omega), Bool.and_eq_true, decide_eq_true_eq]
  by_cases e : kd = 1
  · simp [e]
  · simp [e]
theorem pO_met {h : hS} (ho : hOk h) {kd : Nat} (hk : kd ≤ 2) {l : lS} {m : Nat} : pO h kd l (lN' l) m ↔ ∃ i, i < lN' l ∧ (metB h kd l i = true ∧ lSp l i / 6 = m) := by
  have hmod : ∀ x, x % 6 < 6 := fun x => Nat.mod_lt _ (by decide)
  unfold pO
  constructor
  · rintro ⟨q, hq, k, hkq, h1, h2⟩
    rw [pk_see hk] at h1
    refine ⟨q, hq, ?_, h2⟩
    rw [metB, decide_eq_true_eq, cn_pos]
    exact ⟨k, by omega, by rw [Bool.and_eq_true, Bool.and_eq_true, decide_eq_true_eq, decide_eq_true_eq]; exact ⟨by omega, h1.1.symm, h1.2⟩⟩
  · rintro ⟨q, hq, h1, h2⟩
    rw [metB, decide_eq_true_eq, cn_pos] at h1
    obtain ⟨k, hk2, h3⟩ := h1
    rw [Bool.and_eq_true, Bool.and_eq_true, decide_eq_true_eq, decide_eq_true_eq] at h3
    obtain ⟨h4, h5, h6⟩ := h3
    rcases Nat.lt_or_ge k q with z | z
    · exact ⟨q, hq, k, z, (pk_see hk).mpr ⟨h5.symm, h6⟩, h2⟩
    · exact ⟨k, hk2, q, by omega, (pk_see hk).mpr ⟨h5, by rw [see_sym ho kd (hmod _) (hmod _)]; exact h6⟩, by omega⟩
theorem metN_of {h : hS} (ho : hOk h) {kd : Nat} (hk5 : kd < 5) {l : lS} (hl : ∀ i, i < lN' l → lSp l i < 360) {f : Nat} (hf : mnP (pO h kd l (lN' l)) f) : metN h kd l = if f = 60 ∨ 2 < kd then -1 else nI f := by
  obtain ⟨g, h1, h2⟩ := fwS_mn (u := fun j => lSp l j / 6) (ok := metB h kd l) (n := lN' l) (fun i hi => by have := hl i hi; omega)
  rw [metN, h2]
  by_cases hk : kd ≤ 2
  · rw [h1.uniq hf (fun m _ => (pO_met ho hk).symm)]
    by_cases e : f = 60
    · rw [if_pos e, if_pos (Or.inl e)]
    · rw [if_neg e, if_neg (by omega)]
  · rw [if_pos (Or.inr (by omega))]
    by_cases e : g = 60
    · rw [if_pos e]
    · exfalso
      obtain ⟨i, hi, h3, h4⟩ := h1.2.2 (by have := h1.1; omega)
      rw [metB, decide_eq_true_eq, cn_pos] at h3
      obtain ⟨k, _, h5⟩ := h3
      rw [Bool.and_eq_true, Bool.and_eq_true] at h5
      have h6 := h5.2.2
      unfold seeB at h6
      by_cases e34 : kd = 3 ∨ kd = 4
      · rw [if_pos e34] at h6; cases h6
      · exact absurd (show kd = 3 ∨ kd = 4 by omega) e34

set_option maxRecDepth 100000 in
set_option maxHeartbeats 1000000 in
theorem c_X10_metOf (d : Nat) (S : Nat → Nat → Int32) (G : Nat → Nat → Int64) (h : hS) (ho : hOk h) (hsi : ∀ a, a < 6 → S 61 a = nI (hSr h a)) (kd : Nat) (hk : kd < 5) (l : lS) (hl : ∀ i, i < lN' l → lSp l i < 360) (h17 : lN' l ≤ 17) (am ar k0 N : Nat) (hA : σF[am]? = some (.inr (.inl N))) (hR : σF[ar]? = some (.inr (.inl N))) (hN : k0 + lN' l ≤ N) (hN2 : N ≤ 100) (hrw : rwC S am ar k0 l) : xR d mX10_metOf [.ref 54, .int (nI kd), .ref am, .ref ar, .int (nI k0), .int (nI (lN' l))] S G (some (.int (metN h kd l))) S G := by
  refine xC.of okX10_metOf (Nat.le_of_ble_eq_true rfl) (L := [_, _, _, _, _, _, _, _, _, _]) rfl ?_
  have loop : ∀ i, i ≤ lN' l → ∀ (f : Nat) (x8 x9 : Option Value), mnP (pO h kd l i) f → xA none d mX10_metOf 0 0 0 0 8 [some (.ref 54), some (.int (nI kd)), some (.ref am), some (.ref ar), some (.int (nI k0)), some (.int (nI (lN' l))), some (.int (nI f)), some (.int (nI (k0 + i))), x8, x9] [] (σF, S, G) (fun r' h' => r' = (some (.int (metN h kd l))) ∧ h' = (σF, S, G)) := by
    refine xloop (lN' l) (fun i hi ih => ?_) ?_
    · intro f x8 x9 hf
      refine xA.iload rfl rfl rfl ?_
      refine xA.iload rfl rfl rfl ?_
      refine xA.iload rfl rfl rfl ?_
      refine xA.iadd rfl rfl ?_
      refine xA.topi (nI_add _ _) ?_
      refine xA.icmp_ge (tgt := 120) rfl rfl rfl (fun h15 => ?_) (fun h15 => ?_)
      · exact absurd h15 (nI_ge (by omega) (by omega))
      · refine xA.iload rfl rfl rfl ?_
        refine xA.istore (L' := [_, _, _, _, _, _, _, _, _, _]) rfl (Nat.le_of_ble_eq_true rfl) rfl rfl ?_
        have loop2 : ∀ k, k ≤ i → ∀ (f : Nat) (x9 : Option Value), mnP (pI h kd l i k) f → xA none d mX10_metOf 0 0 0 0 22 [some (.ref 54), some (.int (nI kd)), some (.ref am), some (.ref ar), some (.int (nI k0)), some (.int (nI (lN' l))), some (.int (nI f)), some (.int (nI (k0 + i))), some (.int (nI (k0 + k))), x9] [] (σF, S, G) (fun r' h' => r' = (some (.int (metN h kd l))) ∧ h' = (σF, S, G)) := by
          refine xloop i (fun k hk2 ih2 => ?_) ?_
          · intro f x9 hf
            have q1 := hl i hi
            have q2 := hl k (by omega)
            have q3 := hf.1
            refine xA.iload rfl rfl rfl ?_
            refine xA.iload rfl rfl rfl ?_
            refine xA.icmp_ge (tgt := 114) rfl rfl rfl (fun h26 => ?_) (fun h26 => ?_)
            · exact absurd h26 (nI_ge (by omega) (by omega))
            · refine xA.aload_n (i := 3) rfl rfl rfl rfl ?_
              refine xA.iload rfl rfl rfl ?_
              refine xA.iald rfl hR (vp_in_nI (by omega) (by omega)) rfl ?_
              refine xA.topi ((show S ar (nI (k0 + i)).toNatClampNeg = nI (lSp l i % 6) from by rw [nI_clamp (by omega)]; exact (hrw _ (by omega)).2)) ?_
              refine xA.aload_n (i := 3) rfl rfl rfl rfl ?_
              refine xA.iload rfl rfl rfl ?_
              refine xA.iald rfl hR (vp_in_nI (by omega) (by omega)) rfl ?_
              refine xA.topi ((show S ar (nI (k0 + k)).toNatClampNeg = nI (lSp l k % 6) from by rw [nI_clamp (by omega)]; exact (hrw _ (by omega)).2)) ?_
              refine xA.icmp_eq (tgt := 65) rfl rfl rfl (fun h37 => ?_) (fun h37 => ?_)
              · have e37 := (nI_eq (by omega) (by omega)).mp h37
                have hsee : (decide (lSp l i % 6 = lSp l k % 6) || (!decide (kd = 1) && (hSr h (lSp l i % 6)).testBit (lSp l k % 6))) = true := by first | (simp [e37]; done) | (simp [e42, e62]; done)
                refine xA.iconst (v := 1) rfl (by decide) rfl ?_
                refine xA.goto (q := 70) rfl rfl ?_
                refine xA.istore (L' := [_, _, _, _, _, _, _, _, _, _]) rfl (Nat.le_of_ble_eq_true rfl) rfl rfl ?_
                refine xA.aload_n (i := 2) rfl rfl rfl rfl ?_
                refine xA.iload rfl rfl rfl ?_
                refine xA.iald rfl hA (vp_in_nI (by omega) (by omega)) rfl ?_
                refine xA.topi ((show S am (nI (k0 + i)).toNatClampNeg = nI (lSp l i / 6) from by rw [nI_clamp (by omega)]; exact (hrw _ (by omega)).1)) ?_
                refine xA.aload_n (i := 2) rfl rfl rfl rfl ?_
                refine xA.iload rfl rfl rfl ?_
                refine xA.iald rfl hA (vp_in_nI (by omega) (by omega)) rfl ?_
                refine xA.topi ((show S am (nI (k0 + k)).toNatClampNeg = nI (lSp l k / 6) from by rw [nI_clamp (by omega)]; exact (hrw _ (by omega)).1)) ?_
                refine xA.icmp_ne (tgt := 104) rfl rfl rfl (fun h80 => ?_) (fun h80 => ?_)
                · have hh := hf.hi (c := pkB h kd (lSp l i) (lSp l k) = true) (u := lSp l i / 6) (fun z => by have q := z.1; unfold pkB at q; rw [Bool.and_eq_true, decide_eq_true_eq] at q; exact h80 (by rw [q.1])) (fun m => pI_succ)
                  refine xA.iload rfl rfl rfl ?_
                  refine xA.istore (L' := [_, _, _, _, _, _, _, _, _, _]) rfl (Nat.le_of_ble_eq_true rfl) rfl rfl ?_
                  refine xA.iinc (L' := [_, _, _, _, _, _, _, _, _, _]) rfl rfl (nI_1 _) rfl rfl ?_
                  refine xA.goto (q := 22) rfl rfl ?_
                  exact ih2 _ _ hh
                · have e80 := (nI_eq (by omega) (by omega)).mp h80
                  refine xA.iload rfl rfl rfl ?_
                  refine xA.if_eq (tgt := 104) rfl rfl rfl (fun h85 => ?_) (fun h85 => ?_)
                  · exact absurd h85 (by decide)
                  · refine xA.aload_n (i := 2) rfl rfl rfl rfl ?_
                    refine xA.iload rfl rfl rfl ?_
                    refine xA.iald rfl hA (vp_in_nI (by omega) (by omega)) rfl ?_
                    refine xA.topi ((show S am (nI (k0 + i)).toNatClampNeg = nI (lSp l i / 6) from by rw [nI_clamp (by omega)]; exact (hrw _ (by omega)).1)) ?_
                    refine xA.iload rfl rfl rfl ?_
                    refine xA.icmp_ge (tgt := 104) rfl rfl rfl (fun h94 => ?_) (fun h94 => ?_)
                    · have hh := hf.hi (c := pkB h kd (lSp l i) (lSp l k) = true) (u := lSp l i / 6) (fun z => by exact absurd ((nI_leI (by omega) (by omega)).mp h94) (by omega)) (fun m => pI_succ)
                      refine xA.iload rfl rfl rfl ?_
                      refine xA.istore (L' := [_, _, _, _, _, _, _, _, _, _]) rfl (Nat.le_of_ble_eq_true rfl) rfl rfl ?_
                      refine xA.iinc (L' := [_, _, _, _, _, _, _, _, _, _]) rfl rfl (nI_1 _) rfl rfl ?_
                      refine xA.goto (q := 22) rfl rfl ?_
                      exact ih2 _ _ hh
                    · have hlt : lSp l i / 6 < f := by
                        rcases Nat.lt_or_ge (lSp l i / 6) f with w | w
                        · exact w
                        · exact absurd (nI_le w (by omega)) h94
                      have hh := hf.lo (c := pkB h kd (lSp l i) (lSp l k) = true) (u := lSp l i / 6) (by omega) (by unfold pkB; rw [hsee, Bool.and_true]; exact decide_eq_true e80) hlt (fun m => pI_succ)
                      refine xA.aload_n (i := 2) rfl rfl rfl rfl ?_
                      refine xA.iload rfl rfl rfl ?_
                      refine xA.iald rfl hA (vp_in_nI (by omega) (by omega)) rfl ?_
                      refine xA.topi ((show S am (nI (k0 + i)).toNatClampNeg = nI (lSp l i / 6) from by rw [nI_clamp (by omega)]; exact (hrw _ (by omega)).1)) ?_
                      refine xA.goto (q := 106) rfl rfl ?_
                      refine xA.istore (L' := [_, _, _, _, _, _, _, _, _, _]) rfl (Nat.le_of_ble_eq_true rfl) rfl rfl ?_
                      refine xA.iinc (L' := [_, _, _, _, _, _, _, _, _, _]) rfl rfl (nI_1 _) rfl rfl ?_
                      refine xA.goto (q := 22) rfl rfl ?_
                      exact ih2 _ _ hh
              · have e37 : ¬ lSp l i % 6 = lSp l k % 6 := fun z => h37 (by rw [z])
                refine xA.iload_n (i := 1) rfl rfl rfl rfl ?_
                refine xA.iconst (v := 1) rfl (by decide) rfl ?_
                refine xA.icmp_eq (tgt := 69) rfl rfl rfl (fun h42 => ?_) (fun h42 => ?_)
                · have e42 : kd = 1 := (nI_eq (b := 1) (by omega) (by omega)).mp h42
                  have hsee : (decide (lSp l i % 6 = lSp l k % 6) || (!decide (kd = 1) && (hSr h (lSp l i % 6)).testBit (lSp l k % 6))) = false := by first | (simp [e37, e42]; done) | (simp [e37, e62]; done)
                  refine xA.iconst (v := 0) rfl (by decide) rfl ?_
                  refine xA.istore (L' := [_, _, _, _, _, _, _, _, _, _]) rfl (Nat.le_of_ble_eq_true rfl) rfl rfl ?_
                  refine xA.aload_n (i := 2) rfl rfl rfl rfl ?_
                  refine xA.iload rfl rfl rfl ?_
                  refine xA.iald rfl hA (vp_in_nI (by omega) (by omega)) rfl ?_
                  refine xA.topi ((show S am (nI (k0 + i)).toNatClampNeg = nI (lSp l i / 6) from by rw [nI_clamp (by omega)]; exact (hrw _ (by omega)).1)) ?_
                  refine xA.aload_n (i := 2) rfl rfl rfl rfl ?_
                  refine xA.iload rfl rfl rfl ?_
                  refine xA.iald rfl hA (vp_in_nI (by omega) (by omega)) rfl ?_
                  refine xA.topi ((show S am (nI (k0 + k)).toNatClampNeg = nI (lSp l k / 6) from by rw [nI_clamp (by omega)]; exact (hrw _ (by omega)).1)) ?_
                  refine xA.icmp_ne (tgt := 104) rfl rfl rfl (fun h80 => ?_) (fun h80 => ?_)
                  · have hh := hf.hi (c := pkB h kd (lSp l i) (lSp l k) = true) (u := lSp l i / 6) (fun z => by have q := z.1; unfold pkB at q; rw [Bool.and_eq_true, decide_eq_true_eq] at q; exact h80 (by rw [q.1])) (fun m => pI_succ)
                    refine xA.iload rfl rfl rfl ?_
                    refine xA.istore (L' := [_, _, _, _, _, _, _, _, _, _]) rfl (Nat.le_of_ble_eq_true rfl) rfl rfl ?_
                    refine xA.iinc (L' := [_, _, _, _, _, _, _, _, _, _]) rfl rfl (nI_1 _) rfl rfl ?_
                    refine xA.goto (q := 22) rfl rfl ?_
                    exact ih2 _ _ hh
                  · have e80 := (nI_eq (by omega) (by omega)).mp h80
                    refine xA.iload rfl rfl rfl ?_
                    refine xA.if_eq (tgt := 104) rfl rfl rfl (fun h85 => ?_) (fun h85 => ?_)
                    · have hh := hf.hi (c := pkB h kd (lSp l i) (lSp l k) = true) (u := lSp l i / 6) (fun z => by have q := z.1; unfold pkB at q; rw [hsee, Bool.and_false] at q; cases q) (fun m => pI_succ)
                      refine xA.iload rfl rfl rfl ?_
                      refine xA.istore (L' := [_, _, _, _, _, _, _, _, _, _]) rfl (Nat.le_of_ble_eq_true rfl) rfl rfl ?_
                      refine xA.iinc (L' := [_, _, _, _, _, _, _, _, _, _]) rfl rfl (nI_1 _) rfl rfl ?_
                      refine xA.goto (q := 22) rfl rfl ?_
                      exact ih2 _ _ hh
                    · skip
                      exact absurd rfl h85
                · have e42 : ¬ kd = 1 := fun z => h42 ((nI_eq (b := 1) (by omega) (by omega)).mpr z)
                  refine xA.aload_n (i := 0) rfl rfl rfl rfl ?_
                  refine xA.getR rfl f10_28 rfl rfl rfl rfl ?_
                  refine xA.aload_n (i := 3) rfl rfl rfl rfl ?_
                  refine xA.iload rfl rfl rfl ?_
                  refine xA.iald rfl hR (vp_in_nI (by omega) (by omega)) rfl ?_
                  refine xA.topi ((show S ar (nI (k0 + i)).toNatClampNeg = nI (lSp l i % 6) from by rw [nI_clamp (by omega)]; exact (hrw _ (by omega)).2)) ?_
                  refine xA.iald rfl rfl (vp_in_nI (Nat.mod_lt _ (by decide)) (by decide)) rfl ?_
                  refine xA.topi ((show S 61 (nI (lSp l i % 6)).toNatClampNeg = nI (hSr h (lSp l i % 6)) from by rw [nI_clamp (by omega)]; exact hsi _ (Nat.mod_lt _ (by decide)))) ?_
                  refine xA.aload_n (i := 3) rfl rfl rfl rfl ?_
                  refine xA.iload rfl rfl rfl ?_
                  refine xA.iald rfl hR (vp_in_nI (by omega) (by omega)) rfl ?_
                  refine xA.topi ((show S ar (nI (k0 + k)).toNatClampNeg = nI (lSp l k % 6) from by rw [nI_clamp (by omega)]; exact (hrw _ (by omega)).2)) ?_
                  refine xA.ishr rfl rfl ?_
                  refine xA.iconst (v := 1) rfl (by decide) rfl ?_
                  refine xA.iand rfl rfl ?_
                  refine xA.topi (bit1 _ (ho.2.2.2.2.2.2.2.2.1 _) _ (Nat.mod_lt _ (by decide))) ?_
                  refine xA.iconst (v := 1) rfl (by decide) rfl ?_
                  refine xA.icmp_ne (tgt := 69) rfl rfl rfl (fun h62 => ?_) (fun h62 => ?_)
                  · have e62 : (hSr h (lSp l i % 6)).testBit (lSp l k % 6) = false := Bool.eq_false_iff.mpr (fun z => h62 (by rw [if_pos z]))
                    have hsee : (decide (lSp l i % 6 = lSp l k % 6) || (!decide (kd = 1) && (hSr h (lSp l i % 6)).testBit (lSp l k % 6))) = false := by first | (simp [e37, e42]; done) | (simp [e37, e62]; done)
                    refine xA.iconst (v := 0) rfl (by decide) rfl ?_
                    refine xA.istore (L' := [_, _, _, _, _, _, _, _, _, _]) rfl (Nat.le_of_ble_eq_true rfl) rfl rfl ?_
                    refine xA.aload_n (i := 2) rfl rfl rfl rfl ?_
                    refine xA.iload rfl rfl rfl ?_
                    refine xA.iald rfl hA (vp_in_nI (by omega) (by omega)) rfl ?_
                    refine xA.topi ((show S am (nI (k0 + i)).toNatClampNeg = nI (lSp l i / 6) from by rw [nI_clamp (by omega)]; exact (hrw _ (by omega)).1)) ?_
                    refine xA.aload_n (i := 2) rfl rfl rfl rfl ?_
                    refine xA.iload rfl rfl rfl ?_
                    refine xA.iald rfl hA (vp_in_nI (by omega) (by omega)) rfl ?_
                    refine xA.topi ((show S am (nI (k0 + k)).toNatClampNeg = nI (lSp l k / 6) from by rw [nI_clamp (by omega)]; exact (hrw _ (by omega)).1)) ?_
                    refine xA.icmp_ne (tgt := 104) rfl rfl rfl (fun h80 => ?_) (fun h80 => ?_)
                    · have hh := hf.hi (c := pkB h kd (lSp l i) (lSp l k) = true) (u := lSp l i / 6) (fun z => by have q := z.1; unfold pkB at q; rw [Bool.and_eq_true, decide_eq_true_eq] at q; exact h80 (by rw [q.1])) (fun m => pI_succ)
                      refine xA.iload rfl rfl rfl ?_
                      refine xA.istore (L' := [_, _, _, _, _, _, _, _, _, _]) rfl (Nat.le_of_ble_eq_true rfl) rfl rfl ?_
                      refine xA.iinc (L' := [_, _, _, _, _, _, _, _, _, _]) rfl rfl (nI_1 _) rfl rfl ?_
                      refine xA.goto (q := 22) rfl rfl ?_
                      exact ih2 _ _ hh
                    · have e80 := (nI_eq (by omega) (by omega)).mp h80
                      refine xA.iload rfl rfl rfl ?_
                      refine xA.if_eq (tgt := 104) rfl rfl rfl (fun h85 => ?_) (fun h85 => ?_)
                      · have hh := hf.hi (c := pkB h kd (lSp l i) (lSp l k) = true) (u := lSp l i / 6) (fun z => by have q := z.1; unfold pkB at q; rw [hsee, Bool.and_false] at q; cases q) (fun m => pI_succ)
                        refine xA.iload rfl rfl rfl ?_
                        refine xA.istore (L' := [_, _, _, _, _, _, _, _, _, _]) rfl (Nat.le_of_ble_eq_true rfl) rfl rfl ?_
                        refine xA.iinc (L' := [_, _, _, _, _, _, _, _, _, _]) rfl rfl (nI_1 _) rfl rfl ?_
                        refine xA.goto (q := 22) rfl rfl ?_
                        exact ih2 _ _ hh
                      · skip
                        exact absurd rfl h85
                  · have e62 : (hSr h (lSp l i % 6)).testBit (lSp l k % 6) = true := by
                      by_cases z : (hSr h (lSp l i % 6)).testBit (lSp l k % 6) = true
                      · exact z
                      · rw [if_neg z] at h62; exact absurd h62 (by decide)
                    have hsee : (decide (lSp l i % 6 = lSp l k % 6) || (!decide (kd = 1) && (hSr h (lSp l i % 6)).testBit (lSp l k % 6))) = true := by first | (simp [e37]; done) | (simp [e42, e62]; done)
                    refine xA.iconst (v := 1) rfl (by decide) rfl ?_
                    refine xA.goto (q := 70) rfl rfl ?_
                    refine xA.istore (L' := [_, _, _, _, _, _, _, _, _, _]) rfl (Nat.le_of_ble_eq_true rfl) rfl rfl ?_
                    refine xA.aload_n (i := 2) rfl rfl rfl rfl ?_
                    refine xA.iload rfl rfl rfl ?_
                    refine xA.iald rfl hA (vp_in_nI (by omega) (by omega)) rfl ?_
                    refine xA.topi ((show S am (nI (k0 + i)).toNatClampNeg = nI (lSp l i / 6) from by rw [nI_clamp (by omega)]; exact (hrw _ (by omega)).1)) ?_
                    refine xA.aload_n (i := 2) rfl rfl rfl rfl ?_
                    refine xA.iload rfl rfl rfl ?_
                    refine xA.iald rfl hA (vp_in_nI (by omega) (by omega)) rfl ?_
                    refine xA.topi ((show S am (nI (k0 + k)).toNatClampNeg = nI (lSp l k / 6) from by rw [nI_clamp (by omega)]; exact (hrw _ (by omega)).1)) ?_
                    refine xA.icmp_ne (tgt := 104) rfl rfl rfl (fun h80 => ?_) (fun h80 => ?_)
                    · have hh := hf.hi (c := pkB h kd (lSp l i) (lSp l k) = true) (u := lSp l i / 6) (fun z => by have q := z.1; unfold pkB at q; rw [Bool.and_eq_true, decide_eq_true_eq] at q; exact h80 (by rw [q.1])) (fun m => pI_succ)
                      refine xA.iload rfl rfl rfl ?_
                      refine xA.istore (L' := [_, _, _, _, _, _, _, _, _, _]) rfl (Nat.le_of_ble_eq_true rfl) rfl rfl ?_
                      refine xA.iinc (L' := [_, _, _, _, _, _, _, _, _, _]) rfl rfl (nI_1 _) rfl rfl ?_
                      refine xA.goto (q := 22) rfl rfl ?_
                      exact ih2 _ _ hh
                    · have e80 := (nI_eq (by omega) (by omega)).mp h80
                      refine xA.iload rfl rfl rfl ?_
                      refine xA.if_eq (tgt := 104) rfl rfl rfl (fun h85 => ?_) (fun h85 => ?_)
                      · exact absurd h85 (by decide)
                      · refine xA.aload_n (i := 2) rfl rfl rfl rfl ?_
                        refine xA.iload rfl rfl rfl ?_
                        refine xA.iald rfl hA (vp_in_nI (by omega) (by omega)) rfl ?_
                        refine xA.topi ((show S am (nI (k0 + i)).toNatClampNeg = nI (lSp l i / 6) from by rw [nI_clamp (by omega)]; exact (hrw _ (by omega)).1)) ?_
                        refine xA.iload rfl rfl rfl ?_
                        refine xA.icmp_ge (tgt := 104) rfl rfl rfl (fun h94 => ?_) (fun h94 => ?_)
                        · have hh := hf.hi (c := pkB h kd (lSp l i) (lSp l k) = true) (u := lSp l i / 6) (fun z => by exact absurd ((nI_leI (by omega) (by omega)).mp h94) (by omega)) (fun m => pI_succ)
                          refine xA.iload rfl rfl rfl ?_
                          refine xA.istore (L' := [_, _, _, _, _, _, _, _, _, _]) rfl (Nat.le_of_ble_eq_true rfl) rfl rfl ?_
                          refine xA.iinc (L' := [_, _, _, _, _, _, _, _, _, _]) rfl rfl (nI_1 _) rfl rfl ?_
                          refine xA.goto (q := 22) rfl rfl ?_
                          exact ih2 _ _ hh
                        · have hlt : lSp l i / 6 < f := by
                            rcases Nat.lt_or_ge (lSp l i / 6) f with w | w
                            · exact w
                            · exact absurd (nI_le w (by omega)) h94
                          have hh := hf.lo (c := pkB h kd (lSp l i) (lSp l k) = true) (u := lSp l i / 6) (by omega) (by unfold pkB; rw [hsee, Bool.and_true]; exact decide_eq_true e80) hlt (fun m => pI_succ)
                          refine xA.aload_n (i := 2) rfl rfl rfl rfl ?_
                          refine xA.iload rfl rfl rfl ?_
                          refine xA.iald rfl hA (vp_in_nI (by omega) (by omega)) rfl ?_
                          refine xA.topi ((show S am (nI (k0 + i)).toNatClampNeg = nI (lSp l i / 6) from by rw [nI_clamp (by omega)]; exact (hrw _ (by omega)).1)) ?_
                          refine xA.goto (q := 106) rfl rfl ?_
                          refine xA.istore (L' := [_, _, _, _, _, _, _, _, _, _]) rfl (Nat.le_of_ble_eq_true rfl) rfl rfl ?_
                          refine xA.iinc (L' := [_, _, _, _, _, _, _, _, _, _]) rfl rfl (nI_1 _) rfl rfl ?_
                          refine xA.goto (q := 22) rfl rfl ?_
                          exact ih2 _ _ hh
          · intro f x9 hf
            refine xA.iload rfl rfl rfl ?_
            refine xA.iload rfl rfl rfl ?_
            refine xA.icmp_ge (tgt := 114) rfl rfl rfl (fun h26 => ?_) (fun h26 => ?_)
            · refine xA.iinc (L' := [_, _, _, _, _, _, _, _, _, _]) rfl rfl (nI_1 _) rfl rfl ?_
              refine xA.goto (q := 8) rfl rfl ?_
              exact ih _ _ _ (hf.to (fun m => pO_succ))
            · exact absurd (nI_le (Nat.le_refl _) (by omega)) h26
        exact loop2 0 (Nat.zero_le _) f x9 (hf.to (fun m => ⟨fun z => z.elim id (fun w => absurd w.choose_spec.1 (Nat.not_lt_zero _)), Or.inl⟩))
    · intro f x8 x9 hf
      have q3 := hf.1
      refine xA.iload rfl rfl rfl ?_
      refine xA.iload rfl rfl rfl ?_
      refine xA.iload rfl rfl rfl ?_
      refine xA.iadd rfl rfl ?_
      refine xA.topi (nI_add _ _) ?_
      refine xA.icmp_ge (tgt := 120) rfl rfl rfl (fun h15 => ?_) (fun h15 => ?_)
      · refine xA.iload rfl rfl rfl ?_
        refine xA.bipush (v := 60) rfl (by decide) rfl ?_
        refine xA.icmp_eq (tgt := 132) rfl rfl rfl (fun h124 => ?_) (fun h124 => ?_)
        · have e124 : f = 60 := (nI_eq (b := 60) (by have := hf.1; omega) (by omega)).mp h124
          refine xA.iconst (v := (-1)) rfl (by decide) rfl ?_
          refine xA.goto (q := 138) rfl rfl ?_
          exact xA.iret rfl rfl rfl ⟨by rw [metN_of ho hk hl hf]; first | (rw [if_pos (Or.inl e124)]; done) | (rw [if_neg (fun z => z.elim e124 (fun w => absurd ((nI_leI (b := 2) (by omega) (by omega)).mp h129) (by omega)))]; done) | (rw [if_pos (Or.inr (Nat.lt_of_not_le (fun w => h129 ((nI_leI (b := 2) (by omega) (by omega)).mpr w))))]; done), rfl⟩
        · have e124 : ¬ f = 60 := fun z => h124 (by rw [z]; rfl)
          refine xA.iload_n (i := 1) rfl rfl rfl rfl ?_
          refine xA.iconst (v := 2) rfl (by decide) rfl ?_
          refine xA.icmp_le (tgt := 136) rfl rfl rfl (fun h129 => ?_) (fun h129 => ?_)
          · refine xA.iload rfl rfl rfl ?_
            exact xA.iret rfl rfl rfl ⟨by rw [metN_of ho hk hl hf]; first | (rw [if_pos (Or.inl e124)]; done) | (rw [if_neg (fun z => z.elim e124 (fun w => absurd ((nI_leI (b := 2) (by omega) (by omega)).mp h129) (by omega)))]; done) | (rw [if_pos (Or.inr (Nat.lt_of_not_le (fun w => h129 ((nI_leI (b := 2) (by omega) (by omega)).mpr w))))]; done), rfl⟩
          · refine xA.iconst (v := (-1)) rfl (by decide) rfl ?_
            refine xA.goto (q := 138) rfl rfl ?_
            exact xA.iret rfl rfl rfl ⟨by rw [metN_of ho hk hl hf]; first | (rw [if_pos (Or.inl e124)]; done) | (rw [if_neg (fun z => z.elim e124 (fun w => absurd ((nI_leI (b := 2) (by omega) (by omega)).mp h129) (by omega)))]; done) | (rw [if_pos (Or.inr (Nat.lt_of_not_le (fun w => h129 ((nI_leI (b := 2) (by omega) (by omega)).mpr w))))]; done), rfl⟩
      · exact absurd (nI_le (Nat.le_refl _) (by omega)) h15
  refine xA.bipush (v := 60) rfl (by decide) rfl ?_
  refine xA.istore (L' := [_, _, _, _, _, _, _, _, _, _]) rfl (Nat.le_of_ble_eq_true rfl) rfl rfl ?_
  refine xA.iload rfl rfl rfl ?_
  refine xA.istore (L' := [_, _, _, _, _, _, _, _, _, _]) rfl (Nat.le_of_ble_eq_true rfl) rfl rfl ?_
  exact loop 0 (Nat.zero_le _) 60 _ _ ⟨Nat.le_refl _, fun m _ z => absurd z.choose_spec.1 (Nat.not_lt_zero _), fun z => absurd z (by decide)⟩

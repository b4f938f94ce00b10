/-! ===== the reference asks: most, meet ===== -/
set_option maxRecDepth 100000 in
set_option maxHeartbeats 400000 in
theorem c_X10_metNow (d : Nat) (S : Nat → Nat → Int32) (G : Nat → Nat → Int64) (s : sS) (hc : MS S s) (p : Nat) (hp : p < sP s) : xR (d + 1) mX10_metNow [.ref 54, .int (nI p)] S G (some (.int (metN (sH s) (sKd s p) (sL s p)))) S G := by
  obtain ⟨hpg, hho, hpp, htk, hgl, hsd, him, hno⟩ := hc
  have hp4 := hpp.2.1
  obtain ⟨hkd, hkd5, hse, hlo, hrw, hg⟩ := hpp.2.2 p hp
  have hn17 := hg.1
  have hrg : rg (nI p) (sP s) := rg_of hp (by omega)
  have hcp : (nI p).toNatClampNeg = p := nI_clamp (by omega)
  have hhr : 0 < sHr s := by
    rcases Nat.eq_zero_or_pos (sHr s) with z | z
    · have := (hno z).1; omega
    · exact z
  obtain ⟨hok, _, _, _, _, _, hdo, hsi, hon⟩ := hho.2.2.2 hhr
  refine xC.of okX10_metNow (Nat.le_of_ble_eq_true rfl) (L := [_, _]) rfl ?_
  refine xA.aload_n (i := 0) rfl rfl rfl rfl ?_
  refine xA.aload_n (i := 0) rfl rfl rfl rfl ?_
  refine xA.getR rfl f10_37 rfl rfl rfl rfl ?_
  refine xA.iload_n (i := 1) rfl rfl rfl rfl ?_
  refine xA.iald rfl rfl (vp_in_nI (by omega) (by omega)) rfl ?_
  refine xA.topi ((show S 64 (nI p).toNatClampNeg = nI (sKd s p) from by rw [hcp]; exact hkd)) ?_
  refine xA.aload_n (i := 0) rfl rfl rfl rfl ?_
  refine xA.getR rfl f10_46 rfl rfl rfl rfl ?_
  refine xA.aload_n (i := 0) rfl rfl rfl rfl ?_
  refine xA.getR rfl f10_49 rfl rfl rfl rfl ?_
  refine xA.bipush (v := 17) rfl (by decide) rfl ?_
  refine xA.iload_n (i := 1) rfl rfl rfl rfl ?_
  refine xA.imul rfl rfl ?_
  refine xA.topi (n17 p) ?_
  refine xA.aload_n (i := 0) rfl rfl rfl rfl ?_
  refine xA.getR rfl f10_40 rfl rfl rfl rfl ?_
  refine xA.iload_n (i := 1) rfl rfl rfl rfl ?_
  refine xA.iald rfl rfl (vp_in_nI (by omega) (by omega)) rfl ?_
  refine xA.topi ((show S 65 (nI p).toNatClampNeg = nI (lN' (sL s p)) from by rw [hcp]; exact hse)) ?_
  refine xA.callVi (As := [_, _, _, _, _]) rfl k10_210 okX10_metOf rfl rfl rfl rfl (Nat.le_of_ble_eq_true rfl) (c_X10_metOf d _ G (sH s) hok.1 hsi (sKd s p) hkd5 (sL s p) hg.2.1 hn17 67 68 (17 * p) 68 rfl rfl (by omega) (by omega) hrw) rfl rfl ?_
  exact xA.iret rfl rfl rfl ⟨rfl, rfl⟩
set_option maxRecDepth 100000 in
set_option maxHeartbeats 400000 in
theorem m_met (d : Nat) (S : Nat → Nat → Int32) (G : Nat → Nat → Int64) (s : sS) (hc : MS S s) (x : Int32) : xR (d + 2) mX10_met [.ref 54, .int x] S G (some (.int (aMet s x))) S G := by
  have hc0 := hc
  obtain ⟨hpg, hho, hpp, htk, hgl, hsd, him, hno⟩ := hc
  refine xC.of okX10_met (Nat.le_of_ble_eq_true rfl) (L := [_, _]) rfl ?_
  refine xA.aload_n (i := 0) rfl rfl rfl rfl ?_
  refine xA.iload_n (i := 1) rfl rfl rfl rfl ?_
  refine xA.callVi (As := [_]) rfl k10_193 okX10_isPerson rfl rfl rfl rfl (Nat.le_of_ble_eq_true rfl) (c_X10_isPerson d _ G x (sP s) hpp.1 hpp.2.1) rfl rfl ?_
  refine xA.if_eq (tgt := 16) rfl rfl rfl (fun h5 => ?_) (fun h5 => ?_)
  · rw [xb_eq0] at h5
    refine xA.bipush (v := (-101)) rfl (by decide) rfl ?_
    exact xA.iret rfl rfl rfl ⟨by first | (rw [aMet, if_neg h5]; done) | (rw [aMet, if_pos h5, hcp]; done), rfl⟩
  · rw [xb_ne0] at h5
    obtain ⟨p, hp, rfl⟩ := rg_nI h5 (by have := hpp.2.1; omega)
    have hcp : (nI p).toNatClampNeg = p := nI_clamp (by have := hpp.2.1; omega)
    refine xA.aload_n (i := 0) rfl rfl rfl rfl ?_
    refine xA.iload_n (i := 1) rfl rfl rfl rfl ?_
    refine xA.callVi (As := [_]) rfl k10_214 okX10_metNow rfl rfl rfl rfl (Nat.le_of_ble_eq_true rfl) (c_X10_metNow d _ G s hc0 p hp) rfl rfl ?_
    refine xA.goto (q := 18) rfl rfl ?_
    exact xA.iret rfl rfl rfl ⟨by first | (rw [aMet, if_neg h5]; done) | (rw [aMet, if_pos h5, hcp]; done), rfl⟩
/-- the first of those that hold most -/
def mxP (u : Nat → Nat) (n : Nat) (w : Int32) (k : Nat) : Prop := (∀ m, m < n → u m ≤ k) ∧ ((k = 0 ∧ w = -1) ∨ (0 < k ∧ ∃ m, m < n ∧ w = nI m ∧ u m = k ∧ ∀ j, j < m → u j < k))
theorem mxP.uniq {u : Nat → Nat} {n k k2 : Nat} {w w2 : Int32} (h1 : mxP u n w k) (h2 : mxP u n w2 k2) : w = w2 ∧ k = k2 := by
  obtain ⟨a1, ⟨a2, a3⟩ | ⟨a2, m, a3, a4, a5, a6⟩⟩ := h1
  · obtain ⟨b1, ⟨b2, b3⟩ | ⟨b2, q, b3, b4, b5, b6⟩⟩ := h2
    · exact ⟨a3.trans b3.symm, a2.trans b2.symm⟩
    · have := a1 q b3; omega
  · obtain ⟨b1, ⟨b2, b3⟩ | ⟨b2, q, b3, b4, b5, b6⟩⟩ := h2
    · have := b1 m a3; omega
    · have h3 := a1 q b3
      have h4 := b1 m a3
      have e : m = q := by
        rcases Nat.lt_trichotomy m q with z | z | z
        · have := b6 m z; omega
        · exact z
        · have := a6 q z; omega
      exact ⟨by rw [a4, b4, e], by omega⟩
theorem lkS_mx (u : Nat → Nat) (n : Nat) : mxP u n (lkS u n).1 (lkS u n).2 := by
  induction n with
  | zero => exact ⟨fun m hm => absurd hm (Nat.not_lt_zero _), Or.inl ⟨rfl, rfl⟩⟩
  | succ n ih =>
    obtain ⟨a1, a2⟩ := ih
    rw [lkS]
    by_cases h : (lkS u n).2 < u n
    · rw [if_pos h]
      refine ⟨fun m hm => ?_, Or.inr ⟨by show 0 < u n; omega, n, by omega, rfl, rfl, fun j hj => ?_⟩⟩
      · show u m ≤ u n
        by_cases e : m = n
        · subst e; exact Nat.le_refl _
        · have := a1 m (by omega); omega
      · show u j < u n
        have := a1 j hj; omega
    · rw [if_neg h]
      refine ⟨fun m hm => ?_, a2.imp id (fun ⟨q1, m, q2, q3⟩ => ⟨q1, m, by omega, q3⟩)⟩
      by_cases e : m = n
      · subst e; omega
      · exact a1 m (by omega)
theorem fmN_mx {l : lS} (hl : ∀ i, i < lN' l → lSp l i < 360) (h17 : lN' l ≤ 17) : mxP (fun m => inN l (nI m)) 60 (fmN l) (inN l (fmN l)) := by
  have hin : ∀ m, m < 60 → (0 < inN l (nI m) ↔ ∃ j, j < lN' l ∧ lSp l j / 6 = m) := by
    intro m hm
    rw [inN, cn_pos]
    constructor
    · rintro ⟨j, hj, h⟩
      rw [decide_eq_true_eq] at h
      have := hl j hj
      exact ⟨j, hj, (nI_eq (by omega) (by omega)).mp h⟩
    · rintro ⟨j, hj, h⟩
      exact ⟨j, hj, decide_eq_true (by rw [h])⟩
  have key : ∀ i, i ≤ lN' l → 0 < i → ∃ j, j < i ∧ (fmS (fun j => nI (lSp l j / 6)) (inN l) i).1 = nI (lSp l j / 6) ∧ (fmS (fun j => nI (lSp l j / 6)) (inN l) i).2 = inN l (nI (lSp l j / 6)) ∧ ∀ q, q < i → inN l (nI (lSp l q / 6)) < inN l (nI (lSp l j / 6)) ∨ (inN l (nI (lSp l q / 6)) = inN l (nI (lSp l j / 6)) ∧ lSp l j / 6 ≤ lSp l q / 6) := by
    intro i
    induction i with
    | zero => intro _ h; exact absurd h (Nat.lt_irrefl _)
    | succ i ih =>
      intro hi _
      have hgi := hl i (by omega)
      have hpi : 0 < inN l (nI (lSp l i / 6)) := (hin _ (by omega)).mpr ⟨i, by omega, rfl⟩
      rcases Nat.eq_zero_or_pos i with z | z
      · subst z
        rw [fmS, fmS]
        rw [if_pos (Or.inl hpi)]
        exact ⟨0, by omega, rfl, rfl, fun q hq => by have : q = 0 := by omega
                                                     subst this; exact Or.inr ⟨rfl, Nat.le_refl _⟩⟩
      · obtain ⟨j, hj, a1, a2, a3⟩ := ih (by omega) z
        have hgj := hl j (by omega)
        rw [fmS, a1, a2]
        by_cases hc : inN l (nI (lSp l j / 6)) < inN l (nI (lSp l i / 6)) ∨ (inN l (nI (lSp l i / 6)) = inN l (nI (lSp l j / 6)) ∧ nI (lSp l i / 6) < nI (lSp l j / 6))
        · rw [if_pos hc]
          rw [nI_ltI (by omega) (by omega)] at hc
          refine ⟨i, by omega, rfl, rfl, fun q hq => ?_⟩
          by_cases e : q = i
          · subst e; exact Or.inr ⟨rfl, Nat.le_refl _⟩
          · have := a3 q (by omega); omega
        · rw [if_neg hc]
          rw [nI_ltI (by omega) (by omega)] at hc
          refine ⟨j, by omega, a1, a2, fun q hq => ?_⟩
          by_cases e : q = i
          · subst e; omega
          · exact a3 q (by omega)
  have e1 : fmN l = (fmS (fun j => nI (lSp l j / 6)) (inN l) (lN' l)).1 := rfl
  rcases Nat.eq_zero_or_pos (lN' l) with z | z
  · have h0 : ∀ x, inN l x = 0 := fun x => by rw [inN, z]; rfl
    refine ⟨fun m _ => by show inN l (nI m) ≤ _; rw [h0, h0]; exact Nat.le_refl _, Or.inl ⟨h0 _, by rw [e1, z]; rfl⟩⟩
  · obtain ⟨j, hj, a1, a2, a3⟩ := key _ (Nat.le_refl _) z
    have hgj := hl j hj
    rw [e1, a1]
    have hp : 0 < inN l (nI (lSp l j / 6)) := (hin _ (by omega)).mpr ⟨j, hj, rfl⟩
    refine ⟨fun m hm => ?_, Or.inr ⟨hp, lSp l j / 6, by omega, rfl, rfl, fun q hq => ?_⟩⟩
    · show inN l (nI m) ≤ _
      rcases Nat.eq_zero_or_pos (inN l (nI m)) with w | w
      · omega
      · obtain ⟨q, hq, e⟩ := (hin m hm).mp w
        have := a3 q hq
        rw [e] at this; omega
    · show inN l (nI q) < _
      rcases Nat.eq_zero_or_pos (inN l (nI q)) with w | w
      · omega
      · obtain ⟨q2, hq2, e⟩ := (hin q (by omega)).mp w
        have := a3 q2 hq2
        rw [e] at this; omega

set_option maxRecDepth 100000 in
set_option maxHeartbeats 1000000 in
theorem c_X10_mostOf (d : Nat) (S : Nat → Nat → Int32) (G : Nat → Nat → Int64) (s : sS) (hc : MS S s) (p : Nat) (hp : p < sP s) (w : Int32) : xR d mX10_mostOf [.ref 54, .int (nI p), .int w] S G (some (.int (if w = 0 then nI (inN (sL s p) (fmN (sL s p))) else fmN (sL s p)))) S G := by
  obtain ⟨hpg, hho, hpp, htk, hgl, hsd, him, hno⟩ := hc
  have hp4 := hpp.2.1
  obtain ⟨hkd, hkd5, hse, hlo, hrw, hg⟩ := hpp.2.2 p hp
  have hn17 := hg.1
  have hrg : rg (nI p) (sP s) := rg_of hp (by omega)
  have hcp : (nI p).toNatClampNeg = p := nI_clamp (by omega)
  refine xC.of okX10_mostOf (Nat.le_of_ble_eq_true rfl) (L := [_, _, _, _, _, _, _, _]) rfl ?_
  have hmx := (lkS_mx (fun m => inN (sL s p) (nI m)) 60).uniq (fmN_mx hg.2.1 hn17)
  have loop : ∀ i, i ≤ 60 → ∀ (x6 x7 : Option Value), xA none d mX10_mostOf 0 0 0 0 8 [some (.ref 54), some (.int (nI p)), some (.int w), some (.int (nI (lkS (fun m => inN (sL s p) (nI m)) i).2)), some (.int (lkS (fun m => inN (sL s p) (nI m)) i).1), some (.int (nI i)), x6, x7] [] (σF, S, G) (fun r' h' => r' = (some (.int (if w = 0 then nI (inN (sL s p) (fmN (sL s p))) else fmN (sL s p)))) ∧ h' = (σF, S, G)) := by
    refine xloop 60 (fun i hi ih => ?_) ?_
    · intro x6 x7
      refine xA.iload rfl rfl rfl ?_
      refine xA.bipush (v := 60) rfl (by decide) rfl ?_
      refine xA.icmp_ge (tgt := 99) rfl rfl rfl (fun h12 => ?_) (fun h12 => ?_)
      · exact absurd h12 (nI_ge (b := 60) hi (by omega))
      · refine xA.iconst (v := 0) rfl (by decide) rfl ?_
        refine xA.istore (L' := [_, _, _, _, _, _, _, _]) rfl (Nat.le_of_ble_eq_true rfl) rfl rfl ?_
        refine xA.iconst (v := 0) rfl (by decide) rfl ?_
        refine xA.istore (L' := [_, _, _, _, _, _, _, _]) rfl (Nat.le_of_ble_eq_true rfl) rfl rfl ?_
        have loop2 : ∀ k, k ≤ lN' (sL s p) → xA none d mX10_mostOf 0 0 0 0 21 [some (.ref 54), some (.int (nI p)), some (.int w), some (.int (nI (lkS (fun m => inN (sL s p) (nI m)) i).2)), some (.int (lkS (fun m => inN (sL s p) (nI m)) i).1), some (.int (nI i)), some (.int (nI (cn (fun j => decide (nI (lSp (sL s p) j / 6) = nI i)) k))), some (.int (nI k))] [] (σF, S, G) (fun r' h' => r' = (some (.int (if w = 0 then nI (inN (sL s p) (fmN (sL s p))) else fmN (sL s p)))) ∧ h' = (σF, S, G)) := by
          refine xloop (lN' (sL s p)) (fun k hk2 ih2 => ?_) ?_
          · skip
            refine xA.iload rfl rfl rfl ?_
            refine xA.aload_n (i := 0) rfl rfl rfl rfl ?_
            refine xA.getR rfl f10_40 rfl rfl rfl rfl ?_
            refine xA.iload_n (i := 1) rfl rfl rfl rfl ?_
            refine xA.iald rfl rfl (vp_in_nI (by omega) (by omega)) rfl ?_
            refine xA.topi ((show S 65 (nI p).toNatClampNeg = nI (lN' (sL s p)) from by rw [hcp]; exact hse)) ?_
            refine xA.icmp_ge (tgt := 65) rfl rfl rfl (fun h29 => ?_) (fun h29 => ?_)
            · exact absurd h29 (nI_ge hk2 (by omega))
            · refine xA.iload rfl rfl rfl ?_
              refine xA.aload_n (i := 0) rfl rfl rfl rfl ?_
              refine xA.getR rfl f10_46 rfl rfl rfl rfl ?_
              refine xA.bipush (v := 17) rfl (by decide) rfl ?_
              refine xA.iload_n (i := 1) rfl rfl rfl rfl ?_
              refine xA.imul rfl rfl ?_
              refine xA.topi (n17 p) ?_
              refine xA.iload rfl rfl rfl ?_
              refine xA.iadd rfl rfl ?_
              refine xA.topi (nI_add _ _) ?_
              refine xA.iald rfl rfl (vp_in_nI (by omega) (by omega)) rfl ?_
              refine xA.topi ((show S 67 (nI (17 * p + k)).toNatClampNeg = nI (lSp (sL s p) k / 6) from by rw [nI_clamp (by omega)]; exact (hrw _ hk2).1)) ?_
              refine xA.iload rfl rfl rfl ?_
              refine xA.icmp_ne (tgt := 55) rfl rfl rfl (fun h48 => ?_) (fun h48 => ?_)
              · refine xA.iconst (v := 0) rfl (by decide) rfl ?_
                refine xA.iadd rfl rfl ?_
                refine xA.topi ((show _ = nI (cn (fun j => decide (nI (lSp (sL s p) j / 6) = nI i)) (k + 1)) from by first | exact cn_t (decide_eq_true h48) | exact cn_f (decide_eq_false h48))) ?_
                refine xA.istore (L' := [_, _, _, _, _, _, _, _]) rfl (Nat.le_of_ble_eq_true rfl) rfl rfl ?_
                refine xA.iinc (L' := [_, _, _, _, _, _, _, _]) rfl rfl (nI_1 k) rfl rfl ?_
                refine xA.goto (q := 21) rfl rfl ?_
                exact ih2
              · refine xA.iconst (v := 1) rfl (by decide) rfl ?_
                refine xA.goto (q := 56) rfl rfl ?_
                refine xA.iadd rfl rfl ?_
                refine xA.topi ((show _ = nI (cn (fun j => decide (nI (lSp (sL s p) j / 6) = nI i)) (k + 1)) from by first | exact cn_t (decide_eq_true h48) | exact cn_f (decide_eq_false h48))) ?_
                refine xA.istore (L' := [_, _, _, _, _, _, _, _]) rfl (Nat.le_of_ble_eq_true rfl) rfl rfl ?_
                refine xA.iinc (L' := [_, _, _, _, _, _, _, _]) rfl rfl (nI_1 k) rfl rfl ?_
                refine xA.goto (q := 21) rfl rfl ?_
                exact ih2
          · have q1 : inN (sL s p) (nI i) ≤ 17 := Nat.le_trans (cn_le _ _) hn17
            have q2 : (lkS (fun m => inN (sL s p) (nI m)) i).2 ≤ 17 := lkS_le (fun m => inN (sL s p) (nI m)) 17 (fun j => Nat.le_trans (cn_le _ _) hn17) i
            refine xA.iload rfl rfl rfl ?_
            refine xA.aload_n (i := 0) rfl rfl rfl rfl ?_
            refine xA.getR rfl f10_40 rfl rfl rfl rfl ?_
            refine xA.iload_n (i := 1) rfl rfl rfl rfl ?_
            refine xA.iald rfl rfl (vp_in_nI (by omega) (by omega)) rfl ?_
            refine xA.topi ((show S 65 (nI p).toNatClampNeg = nI (lN' (sL s p)) from by rw [hcp]; exact hse)) ?_
            refine xA.icmp_ge (tgt := 65) rfl rfl rfl (fun h29 => ?_) (fun h29 => ?_)
            · refine xA.iload rfl rfl rfl ?_
              refine xA.iload_n (i := 3) rfl rfl rfl rfl ?_
              refine xA.icmp_le (tgt := 76) rfl rfl rfl (fun h68 => ?_) (fun h68 => ?_)
              · have e68 : inN (sL s p) (nI i) ≤ (lkS (fun m => inN (sL s p) (nI m)) i).2 := (nI_leI (by omega) (by omega)).mp h68
                refine xA.iload rfl rfl rfl ?_
                refine xA.istore (L' := [_, _, _, _, _, _, _, _]) rfl (Nat.le_of_ble_eq_true rfl) rfl rfl ?_
                refine xA.iload rfl rfl rfl ?_
                refine xA.iload_n (i := 3) rfl rfl rfl rfl ?_
                refine xA.icmp_le (tgt := 91) rfl rfl rfl (fun h83 => ?_) (fun h83 => ?_)
                · have e83 : inN (sL s p) (nI i) ≤ (lkS (fun m => inN (sL s p) (nI m)) i).2 := (nI_leI (by omega) (by omega)).mp h83
                  refine xA.iload_n (i := 3) rfl rfl rfl rfl ?_
                  refine xA.istore_n (i := 3) (L' := [_, _, _, _, _, _, _, _]) rfl rfl (Nat.le_of_ble_eq_true rfl) rfl rfl ?_
                  refine xA.iinc (L' := [_, _, _, _, _, _, _, _]) rfl rfl (nI_1 i) rfl rfl ?_
                  refine xA.goto (q := 8) rfl rfl ?_
                  first
                    | exact absurd e68 e83
                    | exact absurd e83 e68
                    | (have ih := ih (some (.int (nI (inN (sL s p) (nI i))))) (some (.int (nI (lN' (sL s p)))))
                       rw [lkS] at ih
                       first
                         | (rw [if_neg (by omega)] at ih; exact ih)
                         | (rw [if_pos (by omega)] at ih; exact ih))
                · have e83 : ¬ inN (sL s p) (nI i) ≤ (lkS (fun m => inN (sL s p) (nI m)) i).2 := mt (nI_leI (by omega) (by omega)).mpr h83
                  refine xA.iload rfl rfl rfl ?_
                  refine xA.goto (q := 92) rfl rfl ?_
                  refine xA.istore_n (i := 3) (L' := [_, _, _, _, _, _, _, _]) rfl rfl (Nat.le_of_ble_eq_true rfl) rfl rfl ?_
                  refine xA.iinc (L' := [_, _, _, _, _, _, _, _]) rfl rfl (nI_1 i) rfl rfl ?_
                  refine xA.goto (q := 8) rfl rfl ?_
                  first
                    | exact absurd e68 e83
                    | exact absurd e83 e68
                    | (have ih := ih (some (.int (nI (inN (sL s p) (nI i))))) (some (.int (nI (lN' (sL s p)))))
                       rw [lkS] at ih
                       first
                         | (rw [if_neg (by omega)] at ih; exact ih)
                         | (rw [if_pos (by omega)] at ih; exact ih))
              · have e68 : ¬ inN (sL s p) (nI i) ≤ (lkS (fun m => inN (sL s p) (nI m)) i).2 := mt (nI_leI (by omega) (by omega)).mpr h68
                refine xA.iload rfl rfl rfl ?_
                refine xA.goto (q := 78) rfl rfl ?_
                refine xA.istore (L' := [_, _, _, _, _, _, _, _]) rfl (Nat.le_of_ble_eq_true rfl) rfl rfl ?_
                refine xA.iload rfl rfl rfl ?_
                refine xA.iload_n (i := 3) rfl rfl rfl rfl ?_
                refine xA.icmp_le (tgt := 91) rfl rfl rfl (fun h83 => ?_) (fun h83 => ?_)
                · have e83 : inN (sL s p) (nI i) ≤ (lkS (fun m => inN (sL s p) (nI m)) i).2 := (nI_leI (by omega) (by omega)).mp h83
                  refine xA.iload_n (i := 3) rfl rfl rfl rfl ?_
                  refine xA.istore_n (i := 3) (L' := [_, _, _, _, _, _, _, _]) rfl rfl (Nat.le_of_ble_eq_true rfl) rfl rfl ?_
                  refine xA.iinc (L' := [_, _, _, _, _, _, _, _]) rfl rfl (nI_1 i) rfl rfl ?_
                  refine xA.goto (q := 8) rfl rfl ?_
                  first
                    | exact absurd e68 e83
                    | exact absurd e83 e68
                    | (have ih := ih (some (.int (nI (inN (sL s p) (nI i))))) (some (.int (nI (lN' (sL s p)))))
                       rw [lkS] at ih
                       first
                         | (rw [if_neg (by omega)] at ih; exact ih)
                         | (rw [if_pos (by omega)] at ih; exact ih))
                · have e83 : ¬ inN (sL s p) (nI i) ≤ (lkS (fun m => inN (sL s p) (nI m)) i).2 := mt (nI_leI (by omega) (by omega)).mpr h83
                  refine xA.iload rfl rfl rfl ?_
                  refine xA.goto (q := 92) rfl rfl ?_
                  refine xA.istore_n (i := 3) (L' := [_, _, _, _, _, _, _, _]) rfl rfl (Nat.le_of_ble_eq_true rfl) rfl rfl ?_
                  refine xA.iinc (L' := [_, _, _, _, _, _, _, _]) rfl rfl (nI_1 i) rfl rfl ?_
                  refine xA.goto (q := 8) rfl rfl ?_
                  first
                    | exact absurd e68 e83
                    | exact absurd e83 e68
                    | (have ih := ih (some (.int (nI (inN (sL s p) (nI i))))) (some (.int (nI (lN' (sL s p)))))
                       rw [lkS] at ih
                       first
                         | (rw [if_neg (by omega)] at ih; exact ih)
                         | (rw [if_pos (by omega)] at ih; exact ih))
            · exact absurd (nI_le (Nat.le_refl _) (by omega)) h29
        exact loop2 0 (Nat.zero_le _)
    · intro x6 x7
      refine xA.iload rfl rfl rfl ?_
      refine xA.bipush (v := 60) rfl (by decide) rfl ?_
      refine xA.icmp_ge (tgt := 99) rfl rfl rfl (fun h12 => ?_) (fun h12 => ?_)
      · refine xA.iload_n (i := 2) rfl rfl rfl rfl ?_
        refine xA.if_ne (tgt := 107) rfl rfl rfl (fun h100 => ?_) (fun h100 => ?_)
        · refine xA.iload rfl rfl rfl ?_
          exact xA.iret rfl rfl rfl ⟨by first | (rw [if_pos h100, ← hmx.2]; done) | (rw [if_neg h100, ← hmx.1]; done), rfl⟩
        · refine xA.iload_n (i := 3) rfl rfl rfl rfl ?_
          refine xA.goto (q := 109) rfl rfl ?_
          exact xA.iret rfl rfl rfl ⟨by first | (rw [if_pos h100, ← hmx.2]; done) | (rw [if_neg h100, ← hmx.1]; done), rfl⟩
      · exact absurd (nI_le (a := 60) (b := 60) (Nat.le_refl _) (by omega)) h12
  refine xA.iconst (v := 0) rfl (by decide) rfl ?_
  refine xA.istore_n (i := 3) (L' := [_, _, _, _, _, _, _, _]) rfl rfl (Nat.le_of_ble_eq_true rfl) rfl rfl ?_
  refine xA.iconst (v := (-1)) rfl (by decide) rfl ?_
  refine xA.istore (L' := [_, _, _, _, _, _, _, _]) rfl (Nat.le_of_ble_eq_true rfl) rfl rfl ?_
  refine xA.iconst (v := 0) rfl (by decide) rfl ?_
  refine xA.istore (L' := [_, _, _, _, _, _, _, _]) rfl (Nat.le_of_ble_eq_true rfl) rfl rfl ?_
  exact loop 0 (Nat.zero_le _) _ _
theorem rg01 {w : Int32} : rg w (1 + 1) ↔ (w = 0 ∨ w = 1) := by
  constructor
  · intro h
    obtain ⟨j, hj, rfl⟩ := rg_nI h (by omega)
    have : j = 0 ∨ j = 1 := by omega
    rcases this with q | q <;> subst q
    · exact Or.inl rfl
    · exact Or.inr rfl
  · rintro (q | q) <;> subst q <;> exact ⟨by decide, by decide⟩

set_option maxRecDepth 100000 in
set_option maxHeartbeats 400000 in
theorem m_most (d : Nat) (S : Nat → Nat → Int32) (G : Nat → Nat → Int64) (s : sS) (hc : MS S s) (x w : Int32) : xR (d + 2) mX10_most [.ref 54, .int x, .int w] S G (some (.int (aMost s x w))) S G := by
  have hc0 := hc
  obtain ⟨hpg, hho, hpp, htk, hgl, hsd, him, hno⟩ := hc
  refine xC.of okX10_most (Nat.le_of_ble_eq_true rfl) (L := [_, _, _]) rfl ?_
  refine xA.aload_n (i := 0) rfl rfl rfl rfl ?_
  refine xA.iload_n (i := 1) rfl rfl rfl rfl ?_
  refine xA.callVi (As := [_]) rfl k10_193 okX10_isPerson rfl rfl rfl rfl (Nat.le_of_ble_eq_true rfl) (c_X10_isPerson d _ G x (sP s) hpp.1 hpp.2.1) rfl rfl ?_
  refine xA.if_ne (tgt := 11) rfl rfl rfl (fun h5 => ?_) (fun h5 => ?_)
  · rw [xb_ne0] at h5
    obtain ⟨p, hp, rfl⟩ := rg_nI h5 (by have := hpp.2.1; omega)
    have hcp : (nI p).toNatClampNeg = p := nI_clamp (by have := hpp.2.1; omega)
    refine xA.iload_n (i := 2) rfl rfl rfl rfl ?_
    refine xA.i2l rfl rfl ?_
    refine xA.lconst (v := 0) rfl (by decide) rfl ?_
    refine xA.lconst (v := 1) rfl (by decide) rfl ?_
    refine xA.callSi (As := [_, _, _]) rfl k10_96 okX10_in rfl rfl (Nat.le_of_ble_eq_true rfl) (c_X10_in (d + 1) _ G w 0 1) rfl rfl ?_
    refine xA.topi (xb_iff (in_rg (n := 1) (by omega))) ?_
    refine xA.if_eq (tgt := 30) rfl rfl rfl (fun h18 => ?_) (fun h18 => ?_)
    · rw [xb_eq0, rg01] at h18
      refine xA.bipush (v := (-102)) rfl (by decide) rfl ?_
      exact xA.iret rfl rfl rfl ⟨by first | (rw [aMost, if_pos h5, if_neg h18]; done) | (rw [aMost, if_pos h5, if_pos h18, hcp]; exact congrArg (fun z => some (Value.int z)) (by rcases h18 with q | q <;> subst q <;> rfl)), rfl⟩
    · rw [xb_ne0, rg01] at h18
      refine xA.aload_n (i := 0) rfl rfl rfl rfl ?_
      refine xA.iload_n (i := 1) rfl rfl rfl rfl ?_
      refine xA.iload_n (i := 2) rfl rfl rfl rfl ?_
      refine xA.callVi (As := [_, _]) rfl k10_217 okX10_mostOf rfl rfl rfl rfl (Nat.le_of_ble_eq_true rfl) (c_X10_mostOf (d + 1) _ G s hc0 p hp w) rfl rfl ?_
      refine xA.goto (q := 32) rfl rfl ?_
      exact xA.iret rfl rfl rfl ⟨by first | (rw [aMost, if_pos h5, if_neg h18]; done) | (rw [aMost, if_pos h5, if_pos h18, hcp]; exact congrArg (fun z => some (Value.int z)) (by rcases h18 with q | q <;> subst q <;> rfl)), rfl⟩
  · rw [xb_eq0] at h5
    refine xA.bipush (v := (-101)) rfl (by decide) rfl ?_
    exact xA.iret rfl rfl rfl ⟨by rw [aMost, if_neg h5], rfl⟩
set_option maxRecDepth 100000 in
set_option maxHeartbeats 400000 in
theorem c_X10_arePair (d : Nat) (S : Nat → Nat → Int32) (G : Nat → Nat → Int64) (s : sS) (hc : MS S s) (a b : Int32) : xR (d + 2) mX10_arePair [.ref 54, .int a, .int b] S G (some (.int (xb (rg a (sP s) ∧ rg b (sP s) ∧ ¬ a = b)))) S G := by
  obtain ⟨hpg, hho, hpp, htk, hgl, hsd, him, hno⟩ := hc
  refine xC.of okX10_arePair (Nat.le_of_ble_eq_true rfl) (L := [_, _, _]) rfl ?_
  refine xA.aload_n (i := 0) rfl rfl rfl rfl ?_
  refine xA.iload_n (i := 1) rfl rfl rfl rfl ?_
  refine xA.callVi (As := [_]) rfl k10_193 okX10_isPerson rfl rfl rfl rfl (Nat.le_of_ble_eq_true rfl) (c_X10_isPerson d _ G a (sP s) hpp.1 hpp.2.1) rfl rfl ?_
  refine xA.if_eq (tgt := 25) rfl rfl rfl (fun h5 => ?_) (fun h5 => ?_)
  · rw [xb_eq0] at h5
    refine xA.iconst (v := 0) rfl (by decide) rfl ?_
    exact xA.iret rfl rfl rfl ⟨by first | (rw [xb_f (fun q => h5 q.1)]; done) | (rw [xb_f (fun q => h13 q.2.1)]; done) | (rw [xb_f (fun q => q.2.2 h18)]; done) | (rw [xb_t ⟨h5, h13, h18⟩]; done), rfl⟩
  · rw [xb_ne0] at h5
    refine xA.aload_n (i := 0) rfl rfl rfl rfl ?_
    refine xA.iload_n (i := 2) rfl rfl rfl rfl ?_
    refine xA.callVi (As := [_]) rfl k10_193 okX10_isPerson rfl rfl rfl rfl (Nat.le_of_ble_eq_true rfl) (c_X10_isPerson d _ G b (sP s) hpp.1 hpp.2.1) rfl rfl ?_
    refine xA.if_eq (tgt := 25) rfl rfl rfl (fun h13 => ?_) (fun h13 => ?_)
    · rw [xb_eq0] at h13
      refine xA.iconst (v := 0) rfl (by decide) rfl ?_
      exact xA.iret rfl rfl rfl ⟨by first | (rw [xb_f (fun q => h5 q.1)]; done) | (rw [xb_f (fun q => h13 q.2.1)]; done) | (rw [xb_f (fun q => q.2.2 h18)]; done) | (rw [xb_t ⟨h5, h13, h18⟩]; done), rfl⟩
    · rw [xb_ne0] at h13
      refine xA.iload_n (i := 1) rfl rfl rfl rfl ?_
      refine xA.iload_n (i := 2) rfl rfl rfl rfl ?_
      refine xA.icmp_eq (tgt := 25) rfl rfl rfl (fun h18 => ?_) (fun h18 => ?_)
      · refine xA.iconst (v := 0) rfl (by decide) rfl ?_
        exact xA.iret rfl rfl rfl ⟨by first | (rw [xb_f (fun q => h5 q.1)]; done) | (rw [xb_f (fun q => h13 q.2.1)]; done) | (rw [xb_f (fun q => q.2.2 h18)]; done) | (rw [xb_t ⟨h5, h13, h18⟩]; done), rfl⟩
      · refine xA.iconst (v := 1) rfl (by decide) rfl ?_
        refine xA.goto (q := 26) rfl rfl ?_
        exact xA.iret rfl rfl rfl ⟨by first | (rw [xb_f (fun q => h5 q.1)]; done) | (rw [xb_f (fun q => h13 q.2.1)]; done) | (rw [xb_f (fun q => q.2.2 h18)]; done) | (rw [xb_t ⟨h5, h13, h18⟩]; done), rfl⟩
set_option maxRecDepth 100000 in
set_option maxHeartbeats 1000000 in
theorem c_X10_meetOf (d : Nat) (S : Nat → Nat → Int32) (G : Nat → Nat → Int64) (s : sS) (hc : MS S s) (p b : Nat) (hp : p < sP s) (hb : b < sP s) : xR (d + 1) mX10_meetOf [.ref 54, .int (nI p), .int (nI b)] S G (some (.int (meetN (sL s p) (sL s b)))) S G := by
  have hc0 := hc
  obtain ⟨hpg, hho, hpp, htk, hgl, hsd, him, hno⟩ := hc
  have hp4 := hpp.2.1
  obtain ⟨hkd, hkd5, hse, hlo, hrw, hg⟩ := hpp.2.2 p hp
  have hn17 := hg.1
  have hrg : rg (nI p) (sP s) := rg_of hp (by omega)
  have hcp : (nI p).toNatClampNeg = p := nI_clamp (by omega)
  refine xC.of okX10_meetOf (Nat.le_of_ble_eq_true rfl) (L := [_, _, _, _, _, _]) rfl ?_
  obtain ⟨g, hfw1, hfw2⟩ := fwS_mn (u := fun j => lSp (sL s p) j / 6) (ok := fun j => decide (0 < atN (sL s b) (nI (lSp (sL s p) j)))) (n := lN' (sL s p)) (fun i hi => by have := hg.2.1 i hi; omega)
  have hb17 := (hpp.2.2 b hb).2.2.2.2.2.1
  have loop : ∀ i, i ≤ lN' (sL s p) → ∀ (f : Nat) (x5 : Option Value), mnP (fun m => ∃ q, q < i ∧ (decide (0 < atN (sL s b) (nI (lSp (sL s p) q))) = true ∧ lSp (sL s p) q / 6 = m)) f → xA none (d + 1) mX10_meetOf 0 0 0 0 6 [some (.ref 54), some (.int (nI p)), some (.int (nI b)), some (.int (nI f)), some (.int (nI i)), x5] [] (σF, S, G) (fun r' h' => r' = (some (.int (meetN (sL s p) (sL s b)))) ∧ h' = (σF, S, G)) := by
    refine xloop (lN' (sL s p)) (fun i hi ih => ?_) ?_
    · intro f x5 hf
      have q1 := hg.2.1 i hi
      have q3 := hf.1
      have hat : atN (sL s b) (nI (lSp (sL s p) i)) ≤ 17 := Nat.le_trans (cn_le _ _) hb17
      refine xA.iload rfl rfl rfl ?_
      refine xA.aload_n (i := 0) rfl rfl rfl rfl ?_
      refine xA.getR rfl f10_40 rfl rfl rfl rfl ?_
      refine xA.iload_n (i := 1) rfl rfl rfl rfl ?_
      refine xA.iald rfl rfl (vp_in_nI (by omega) (by omega)) rfl ?_
      refine xA.topi ((show S 65 (nI p).toNatClampNeg = nI (lN' (sL s p)) from by rw [hcp]; exact hse)) ?_
      refine xA.icmp_ge (tgt := 72) rfl rfl rfl (fun h14 => ?_) (fun h14 => ?_)
      · exact absurd h14 (nI_ge hi (by omega))
      · refine xA.aload_n (i := 0) rfl rfl rfl rfl ?_
        refine xA.getR rfl f10_46 rfl rfl rfl rfl ?_
        refine xA.bipush (v := 17) rfl (by decide) rfl ?_
        refine xA.iload_n (i := 1) rfl rfl rfl rfl ?_
        refine xA.imul rfl rfl ?_
        refine xA.topi (n17 p) ?_
        refine xA.iload rfl rfl rfl ?_
        refine xA.iadd rfl rfl ?_
        refine xA.topi (nI_add _ _) ?_
        refine xA.iald rfl rfl (vp_in_nI (by omega) (by omega)) rfl ?_
        refine xA.topi ((show S 67 (nI (17 * p + i)).toNatClampNeg = nI (lSp (sL s p) i / 6) from by rw [nI_clamp (by omega)]; exact (hrw _ hi).1)) ?_
        refine xA.istore (L' := [_, _, _, _, _, _]) rfl (Nat.le_of_ble_eq_true rfl) rfl rfl ?_
        refine xA.iload rfl rfl rfl ?_
        refine xA.iload_n (i := 3) rfl rfl rfl rfl ?_
        refine xA.icmp_ge (tgt := 64) rfl rfl rfl (fun h34 => ?_) (fun h34 => ?_)
        · have hh := hf.hi (c := decide (0 < atN (sL s b) (nI (lSp (sL s p) i))) = true) (u := lSp (sL s p) i / 6) (fun z => absurd ((nI_leI (by omega) (by omega)).mp h34) (by omega)) (fun m => ex_succ)
          refine xA.iload_n (i := 3) rfl rfl rfl rfl ?_
          refine xA.istore_n (i := 3) (L' := [_, _, _, _, _, _]) rfl rfl (Nat.le_of_ble_eq_true rfl) rfl rfl ?_
          refine xA.iinc (L' := [_, _, _, _, _, _]) rfl rfl (nI_1 i) rfl rfl ?_
          refine xA.goto (q := 6) rfl rfl ?_
          exact ih _ _ hh
        · have hlt : lSp (sL s p) i / 6 < f := by
            rcases Nat.lt_or_ge (lSp (sL s p) i / 6) f with w | w
            · exact w
            · exact absurd (nI_le w (by omega)) h34
          refine xA.aload_n (i := 0) rfl rfl rfl rfl ?_
          refine xA.iload_n (i := 2) rfl rfl rfl rfl ?_
          refine xA.iload rfl rfl rfl ?_
          refine xA.aload_n (i := 0) rfl rfl rfl rfl ?_
          refine xA.getR rfl f10_49 rfl rfl rfl rfl ?_
          refine xA.bipush (v := 17) rfl (by decide) rfl ?_
          refine xA.iload_n (i := 1) rfl rfl rfl rfl ?_
          refine xA.imul rfl rfl ?_
          refine xA.topi (n17 p) ?_
          refine xA.iload rfl rfl rfl ?_
          refine xA.iadd rfl rfl ?_
          refine xA.topi (nI_add _ _) ?_
          refine xA.iald rfl rfl (vp_in_nI (by omega) (by omega)) rfl ?_
          refine xA.topi ((show S 68 (nI (17 * p + i)).toNatClampNeg = nI (lSp (sL s p) i % 6) from by rw [nI_clamp (by omega)]; exact (hrw _ hi).2)) ?_
          refine xA.callVi (As := [_, _, _]) rfl k10_206 okX10_thereOf rfl rfl rfl rfl (Nat.le_of_ble_eq_true rfl) (c_X10_thereOf d _ G s hc0 b hb (lSp (sL s p) i / 6) (lSp (sL s p) i % 6) (by omega) (Nat.mod_lt _ (by decide))) rfl rfl ?_
          refine xA.topi (show _ = nI (atN (sL s b) (nI (lSp (sL s p) i))) from by rw [show lSp (sL s p) i / 6 * 6 + lSp (sL s p) i % 6 = lSp (sL s p) i by omega]) ?_
          refine xA.if_le (tgt := 64) rfl rfl rfl (fun h56 => ?_) (fun h56 => ?_)
          · have hh := hf.hi (c := decide (0 < atN (sL s b) (nI (lSp (sL s p) i))) = true) (u := lSp (sL s p) i / 6) (fun z => absurd ((nI_leI (b := 0) (by omega) (by omega)).mp h56) (by have := of_decide_eq_true z.1; omega)) (fun m => ex_succ)
            refine xA.iload_n (i := 3) rfl rfl rfl rfl ?_
            refine xA.istore_n (i := 3) (L' := [_, _, _, _, _, _]) rfl rfl (Nat.le_of_ble_eq_true rfl) rfl rfl ?_
            refine xA.iinc (L' := [_, _, _, _, _, _]) rfl rfl (nI_1 i) rfl rfl ?_
            refine xA.goto (q := 6) rfl rfl ?_
            exact ih _ _ hh
          · have hh := hf.lo (c := decide (0 < atN (sL s b) (nI (lSp (sL s p) i))) = true) (u := lSp (sL s p) i / 6) (by omega) (decide_eq_true (nI_posi h56)) hlt (fun m => ex_succ)
            refine xA.iload rfl rfl rfl ?_
            refine xA.goto (q := 65) rfl rfl ?_
            refine xA.istore_n (i := 3) (L' := [_, _, _, _, _, _]) rfl rfl (Nat.le_of_ble_eq_true rfl) rfl rfl ?_
            refine xA.iinc (L' := [_, _, _, _, _, _]) rfl rfl (nI_1 i) rfl rfl ?_
            refine xA.goto (q := 6) rfl rfl ?_
            exact ih _ _ hh
    · intro f x5 hf
      have q3 := hf.1
      refine xA.iload rfl rfl rfl ?_
      refine xA.aload_n (i := 0) rfl rfl rfl rfl ?_
      refine xA.getR rfl f10_40 rfl rfl rfl rfl ?_
      refine xA.iload_n (i := 1) rfl rfl rfl rfl ?_
      refine xA.iald rfl rfl (vp_in_nI (by omega) (by omega)) rfl ?_
      refine xA.topi ((show S 65 (nI p).toNatClampNeg = nI (lN' (sL s p)) from by rw [hcp]; exact hse)) ?_
      refine xA.icmp_ge (tgt := 72) rfl rfl rfl (fun h14 => ?_) (fun h14 => ?_)
      · refine xA.iload_n (i := 3) rfl rfl rfl rfl ?_
        refine xA.bipush (v := 60) rfl (by decide) rfl ?_
        refine xA.icmp_ne (tgt := 82) rfl rfl rfl (fun h75 => ?_) (fun h75 => ?_)
        · have e75 : ¬ f = 60 := fun z => h75 (by rw [z]; rfl)
          refine xA.iload_n (i := 3) rfl rfl rfl rfl ?_
          exact xA.iret rfl rfl rfl ⟨by rw [meetN, hfw2, hfw1.uniq hf (fun _ _ => Iff.rfl)]; first | (rw [if_pos e75]; done) | (rw [if_neg e75]; done), rfl⟩
        · have e75 : f = 60 := (nI_eq (b := 60) (by omega) (by omega)).mp h75
          refine xA.iconst (v := (-1)) rfl (by decide) rfl ?_
          refine xA.goto (q := 83) rfl rfl ?_
          exact xA.iret rfl rfl rfl ⟨by rw [meetN, hfw2, hfw1.uniq hf (fun _ _ => Iff.rfl)]; first | (rw [if_pos e75]; done) | (rw [if_neg e75]; done), rfl⟩
      · exact absurd (nI_le (Nat.le_refl _) (by omega)) h14
  refine xA.bipush (v := 60) rfl (by decide) rfl ?_
  refine xA.istore_n (i := 3) (L' := [_, _, _, _, _, _]) rfl rfl (Nat.le_of_ble_eq_true rfl) rfl rfl ?_
  refine xA.iconst (v := 0) rfl (by decide) rfl ?_
  refine xA.istore (L' := [_, _, _, _, _, _]) rfl (Nat.le_of_ble_eq_true rfl) rfl rfl ?_
  exact loop 0 (Nat.zero_le _) 60 _ ⟨Nat.le_refl _, fun m _ z => absurd z.choose_spec.1 (Nat.not_lt_zero _), fun z => absurd z (by decide)⟩
set_option maxRecDepth 100000 in
set_option maxHeartbeats 400000 in
theorem m_meet (d : Nat) (S : Nat → Nat → Int32) (G : Nat → Nat → Int64) (s : sS) (hc : MS S s) (x y : Int32) : xR (d + 3) mX10_meet [.ref 54, .int x, .int y] S G (some (.int (aMeet s x y))) S G := by
  have hc0 := hc
  obtain ⟨hpg, hho, hpp, htk, hgl, hsd, him, hno⟩ := hc
  refine xC.of okX10_meet (Nat.le_of_ble_eq_true rfl) (L := [_, _, _]) rfl ?_
  refine xA.aload_n (i := 0) rfl rfl rfl rfl ?_
  refine xA.iload_n (i := 1) rfl rfl rfl rfl ?_
  refine xA.iload_n (i := 2) rfl rfl rfl rfl ?_
  refine xA.callVi (As := [_, _]) rfl k10_220 okX10_arePair rfl rfl rfl rfl (Nat.le_of_ble_eq_true rfl) (c_X10_arePair d _ G s hc0 x y) rfl rfl ?_
  refine xA.if_eq (tgt := 18) rfl rfl rfl (fun h6 => ?_) (fun h6 => ?_)
  · rw [xb_eq0] at h6
    refine xA.bipush (v := (-101)) rfl (by decide) rfl ?_
    exact xA.iret rfl rfl rfl ⟨by first | (rw [aMeet, if_neg h6]; done) | (rw [aMeet, if_pos h6, hcp, hcb]; done), rfl⟩
  · rw [xb_ne0] at h6
    obtain ⟨p, hp, rfl⟩ := rg_nI h6.1 (by have := hpp.2.1; omega)
    obtain ⟨b, hb, rfl⟩ := rg_nI h6.2.1 (by have := hpp.2.1; omega)
    have hcp : (nI p).toNatClampNeg = p := nI_clamp (by have := hpp.2.1; omega)
    have hcb : (nI b).toNatClampNeg = b := nI_clamp (by have := hpp.2.1; omega)
    refine xA.aload_n (i := 0) rfl rfl rfl rfl ?_
    refine xA.iload_n (i := 1) rfl rfl rfl rfl ?_
    refine xA.iload_n (i := 2) rfl rfl rfl rfl ?_
    refine xA.callVi (As := [_, _]) rfl k10_223 okX10_meetOf rfl rfl rfl rfl (Nat.le_of_ble_eq_true rfl) (c_X10_meetOf (d + 1) _ G s hc0 p b hp hb) rfl rfl ?_
    refine xA.goto (q := 20) rfl rfl ?_
    exact xA.iret rfl rfl rfl ⟨by first | (rw [aMeet, if_neg h6]; done) | (rw [aMeet, if_pos h6, hcp, hcb]; done), rfl⟩

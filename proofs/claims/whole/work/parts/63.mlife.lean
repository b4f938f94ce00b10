/-! ===== the reference: a life read ===== -/
/-- k spots of the life that is tried, copied -/
def mcp (S : Nat → Nat → Int32) (p k : Nat) : Nat → Nat → Int32 := fun j q => if (j = 67 ∨ j = 68) ∧ 17 * p ≤ q ∧ q < 17 * p + k then S (j + 2) (q - 17 * p) else S j q
theorem mcp_off {S : Nat → Nat → Int32} {p k j : Nat} (h1 : ¬ j = 67) (h2 : ¬ j = 68) : mcp S p k j = S j := by funext q; unfold mcp; rw [if_neg (fun z => z.1.elim h1 h2)]
theorem mcp_0 {S : Nat → Nat → Int32} {p : Nat} : mcp S p 0 = S := by funext j q; unfold mcp; rw [if_neg (fun z => by omega)]
theorem mcp_in {S : Nat → Nat → Int32} {p k j q : Nat} (hj : j = 67 ∨ j = 68) (h : q < k) : mcp S p k j (17 * p + q) = S (j + 2) q := by unfold mcp; rw [if_pos ⟨hj, by omega, by omega⟩, show 17 * p + q - 17 * p = q by omega]
theorem mcp_out {S : Nat → Nat → Int32} {p k j q : Nat} (h : ¬ (17 * p ≤ q ∧ q < 17 * p + k)) : mcp S p k j q = S j q := by unfold mcp; rw [if_neg (fun z => h z.2)]
theorem mcp_s {S : Nat → Nat → Int32} {p i : Nat} : xu (xu (mcp S p i) 67 (17 * p + i) (S 69 i)) 68 (17 * p + i) (S 70 i) = mcp S p (i + 1) := by
  funext j q
  by_cases e7 : j = 67 ∨ j = 68
  · by_cases eq : q = 17 * p + i
    · subst eq
      rcases e7 with e | e
      · subst e
        rw [xu_ne1 (by omega), xu_same, mcp_in (Or.inl rfl) (by omega)]
      · subst e
        rw [xu_same, mcp_in (Or.inr rfl) (by omega)]
    · rw [xu_ne2 eq, xu_ne2 eq]
      unfold mcp
      by_cases e3 : 17 * p ≤ q ∧ q < 17 * p + i
      · rw [if_pos ⟨e7, e3⟩, if_pos ⟨e7, by omega⟩]
      · rw [if_neg (fun z => e3 z.2), if_neg (fun z => by have := z.2; omega)]
  · rw [xu_ne1 (by omega), xu_ne1 (by omega), mcp_off (by omega) (by omega), mcp_off (by omega) (by omega)]
theorem hOk.D10 {h : hS} (ho : hOk h) : ∀ a, a < 36 → hD h a ≤ 10 := by
  intro a ha
  have h1 := (ho.2.2.2.2.2.2.2.2.2.2.1 (a / 6) (a % 6) (by omega) (by omega)).2
  rw [show a / 6 * 6 + a % 6 = a by omega] at h1
  have := ho.2.1
  omega
theorem lread_let {pg : Nat → Nat} {n : Nat} (hn3 : ¬ n < 3) (hf : ¬ fpl (fun j => lfo j (pg j)) n < n) : (48 ≤ pg 0 ∧ pg 0 ≤ 53) ∧ (48 ≤ pg 1 ∧ pg 1 ≤ 57) ∧ (48 ≤ pg 2 ∧ pg 2 ≤ 53) := by
  have hpre : pre (fun j => lfo j (pg j)) n = true := by
    by_cases z : pre (fun j => lfo j (pg j)) n = true
    · exact z
    · exact absurd (fpl_lt.mpr (by simpa using z)) hf
  exact ⟨(lfo_02 (i := 0) (Or.inl rfl)).mp (pre_get hpre 0 (by omega)), lfo_1.mp (pre_get hpre 1 (by omega)), (lfo_02 (i := 2) (Or.inr rfl)).mp (pre_get hpre 2 (by omega))⟩
theorem stp_dig {c a : Nat} (h : stp c = some a) (h1 : ¬ c = 46) (h2 : ¬ c = 116) : nI c - 48 = nI a := by
  rw [stp, if_neg h1, if_neg h2] at h
  obtain ⟨q1, q2, q3⟩ := hdg_some h
  rw [show (48 : Int32) = nI 48 from rfl, nI_sub (by omega)]
  congr 1
  omega
theorem lo_if {t a : Nat} : nI t + (if a = 7 then (1 : Int32) else 0) = nI (t + (if a = 7 then 1 else 0)) := by
  split
  · exact nI_1 t
  · simp

set_option maxRecDepth 100000 in
set_option maxHeartbeats 2000000 in
theorem lf_copy (d : Nat) (S : Nat → Nat → Int32) (G : Nat → Nat → Int64) (s : sS) (hc : MS S s) (hr0 : ¬ sHr s = 0) (p : Nat) (hp : p < sP s) (h5 : rg (nI p) (sP s)) (hcp : (nI p).toNatClampNeg = p) (l : lS) (hlr : lread (hD (sH s)) (hLo (sH s)) (lpN (sH s) (sKd s p)) (sPg s) (sN s) = some l) (hlG : lG (sH s) l) (S1 : Nat → Nat → Int32) (hl : ltC S1 (lN' l) (lSp l) (nI (lTh l))) (hf : frL S S1) (x2 : Int32) : ∀ i, i ≤ lN' l → xA none (d + 3) mX10_life 0 0 0 0 151 [some (.ref 54), some (.int (nI p)), some (.int x2), some (.int (nI i))] [] (σF, mcp S1 p i, G) (fun r h' => ∃ S' G', h' = (σF, S', G') ∧ r = some (.int (aLife s (nI p))) ∧ MS S' (tLife s (nI p)) ∧ ∀ j, j < 54 → S' j = S j) := by
  have hc0 := hc
  obtain ⟨hpg, hho, hpp, htk, hgl, hsd, him, hno⟩ := hc
  have hp4 := hpp.2.1
  have hn17 := hl.2.2.1
  refine xloop (lN' l) (fun i hi ih => ?_) ?_
  · skip
    refine xA.iload_n (i := 3) rfl rfl rfl rfl ?_
    refine xA.aload_n (i := 0) rfl rfl rfl rfl ?_
    refine xA.getI rfl f10_181 rfl rfl rfl ?_
    refine xA.topi ((show mcp S1 p i 54 29 = nI (lN' l) from by rw [mcp_off (by omega) (by omega)]; exact hl.1)) ?_
    refine xA.icmp_ge (tgt := 199) rfl rfl rfl (fun h156 => ?_) (fun h156 => ?_)
    · exact absurd h156 (nI_ge hi (by omega))
    · refine xA.aload_n (i := 0) rfl rfl rfl rfl ?_
      refine xA.getR rfl f10_46 rfl rfl rfl rfl ?_
      refine xA.bipush (v := 17) rfl (by decide) rfl ?_
      refine xA.iload_n (i := 1) rfl rfl rfl rfl ?_
      refine xA.imul rfl rfl ?_
      refine xA.topi (n17 p) ?_
      refine xA.iload_n (i := 3) rfl rfl rfl rfl ?_
      refine xA.iadd rfl rfl ?_
      refine xA.topi (nI_add _ _) ?_
      refine xA.aload_n (i := 0) rfl rfl rfl rfl ?_
      refine xA.getR rfl f10_52 rfl rfl rfl rfl ?_
      refine xA.iload_n (i := 3) rfl rfl rfl rfl ?_
      refine xA.iald rfl rfl (vp_in_nI (by omega) (by omega)) rfl ?_
      refine xA.topi ((show mcp S1 p i 69 (nI i).toNatClampNeg = S1 69 i from by rw [nI_clamp (by omega), mcp_off (by omega) (by omega)])) ?_
      refine xA.iast rfl rfl (vp_in_nI (by omega) (by omega)) rfl ?_
      rw [nI_clamp (by omega)]
      refine xA.aload_n (i := 0) rfl rfl rfl rfl ?_
      refine xA.getR rfl f10_49 rfl rfl rfl rfl ?_
      refine xA.bipush (v := 17) rfl (by decide) rfl ?_
      refine xA.iload_n (i := 1) rfl rfl rfl rfl ?_
      refine xA.imul rfl rfl ?_
      refine xA.topi (n17 p) ?_
      refine xA.iload_n (i := 3) rfl rfl rfl rfl ?_
      refine xA.iadd rfl rfl ?_
      refine xA.topi (nI_add _ _) ?_
      refine xA.aload_n (i := 0) rfl rfl rfl rfl ?_
      refine xA.getR rfl f10_55 rfl rfl rfl rfl ?_
      refine xA.iload_n (i := 3) rfl rfl rfl rfl ?_
      refine xA.iald rfl rfl (vp_in_nI (by omega) (by omega)) rfl ?_
      refine xA.topi ((show xu (mcp S1 p i) 67 (17 * p + i) (S1 69 i) 70 (nI i).toNatClampNeg = S1 70 i from by rw [nI_clamp (by omega), xu_c (by omega), mcp_off (by omega) (by omega)])) ?_
      refine xA.iast rfl rfl (vp_in_nI (by omega) (by omega)) rfl ?_
      rw [nI_clamp (by omega)]
      refine xA.iinc (L' := [_, _, _, _]) rfl rfl (nI_1 i) rfl rfl ?_
      refine xA.goto (q := 151) rfl rfl ?_
      refine xA.store mcp_s ?_
      exact ih
  · skip
    refine xA.iload_n (i := 3) rfl rfl rfl rfl ?_
    refine xA.aload_n (i := 0) rfl rfl rfl rfl ?_
    refine xA.getI rfl f10_181 rfl rfl rfl ?_
    refine xA.topi ((show mcp S1 p (lN' l) 54 29 = nI (lN' l) from by rw [mcp_off (by omega) (by omega)]; exact hl.1)) ?_
    refine xA.icmp_ge (tgt := 199) rfl rfl rfl (fun h156 => ?_) (fun h156 => ?_)
    · refine xA.aload_n (i := 0) rfl rfl rfl rfl ?_
      refine xA.getR rfl f10_40 rfl rfl rfl rfl ?_
      refine xA.iload_n (i := 1) rfl rfl rfl rfl ?_
      refine xA.aload_n (i := 0) rfl rfl rfl rfl ?_
      refine xA.getI rfl f10_181 rfl rfl rfl ?_
      refine xA.topi ((show mcp S1 p (lN' l) 54 29 = nI (lN' l) from by rw [mcp_off (by omega) (by omega)]; exact hl.1)) ?_
      refine xA.iast rfl rfl (vp_in_nI (by omega) (by omega)) rfl ?_
      rw [hcp]
      refine xA.aload_n (i := 0) rfl rfl rfl rfl ?_
      refine xA.getR rfl f10_43 rfl rfl rfl rfl ?_
      refine xA.iload_n (i := 1) rfl rfl rfl rfl ?_
      refine xA.aload_n (i := 0) rfl rfl rfl rfl ?_
      refine xA.getI rfl f10_184 rfl rfl rfl ?_
      refine xA.topi ((show xu (mcp S1 p (lN' l)) 65 p (nI (lN' l)) 54 30 = nI (lTh l) from by rw [xu_ne1 (by omega), mcp_off (by omega) (by omega)]; exact hl.2.2.2.2)) ?_
      refine xA.iast rfl rfl (vp_in_nI (by omega) (by omega)) rfl ?_
      rw [hcp]
      refine xA.aload_n (i := 0) rfl rfl rfl rfl ?_
      refine xA.iconst (v := 0) rfl (by decide) rfl ?_
      refine xA.putI rfl p10_91 rfl rfl rfl ?_
      refine xA.aload_n (i := 0) rfl rfl rfl rfl ?_
      refine xA.getI rfl f10_181 rfl rfl rfl ?_
      refine xA.topi ((show (xu (xu (xu (mcp S1 p (lN' l)) 65 p (nI (lN' l))) 66 p (nI (lTh l))) 54 1 0) 54 29 = nI (lN' l) from by rw [xu_ne2 (by omega), xu_ne1 (by omega), xu_ne1 (by omega), mcp_off (by omega) (by omega)]; exact hl.1)) ?_
      have off : ∀ j, ¬ j = 54 → ¬ (65 ≤ j ∧ j < 71) → (xu (xu (xu (mcp S1 p (lN' l)) 65 p (nI (lN' l))) 66 p (nI (lTh l))) 54 1 0) j = S j := fun j h1 h2 => by rw [xu_c h1, xu_c (by omega), xu_c (by omega), mcp_off (by omega) (by omega)]; exact hf.1 j h1 (by omega) (by omega)
      have offF : ∀ f, ¬ f = 1 → ¬ f = 29 → ¬ f = 30 → (xu (xu (xu (mcp S1 p (lN' l)) 65 p (nI (lN' l))) 66 p (nI (lTh l))) 54 1 0) 54 f = S 54 f := fun f h1 h2 h3 => by rw [xu_ne2 h1, xu_ne1 (by omega), xu_ne1 (by omega), mcp_off (by omega) (by omega)]; exact hf.2 f h2 h3
      exact xA.iret rfl rfl rfl ⟨(xu (xu (xu (mcp S1 p (lN' l)) 65 p (nI (lN' l))) 66 p (nI (lTh l))) 54 1 0), G, rfl, by simp only [aLife]; rw [if_pos h5, hcp]; simp only [hlr], by
        simp only [tLife]
        rw [if_pos h5, hcp]
        simp only [hlr]
        refine ⟨⟨xu_same, by show 0 ≤ 45; omega, fun i hi => absurd hi (Nat.not_lt_zero _), fun i hi => absurd hi (Nat.not_lt_zero _)⟩, hho.to (fun f a b => offF f (by omega) (by omega) (by omega)) (fun j a b => off j (by omega) (by omega)), ⟨(offF 21 (by omega) (by omega) (by omega)).trans hpp.1, hpp.2.1, fun y hy => ?_⟩, ⟨(offF 31 (by omega) (by omega) (by omega)).trans htk.1, htk.2.to (off 71 (by omega) (by omega))⟩, ⟨(offF 34 (by omega) (by omega) (by omega)).trans hgl.1, hgl.2.to (off 72 (by omega) (by omega))⟩, ⟨(offF 33 (by omega) (by omega) (by omega)).trans hsd.1, hsd.2⟩, him.to (fun f a b => offF f (by omega) (by omega) (by omega)) (fun j a b => off j (by omega) (by omega)), fun z => absurd z hr0⟩
        obtain ⟨a1, a2, a3, a4, a5, a6⟩ := hpp.2.2 y hy
        have g17 := a6.1
        by_cases e : y = p
        · subst e
          have e2 : lu (sL s) y l y = l := if_pos rfl
          show (xu (xu (xu (mcp S1 y (lN' l)) 65 y (nI (lN' l))) 66 y (nI (lTh l))) 54 1 0) 64 y = nI (sKd s y) ∧ sKd s y < 5 ∧ (xu (xu (xu (mcp S1 y (lN' l)) 65 y (nI (lN' l))) 66 y (nI (lTh l))) 54 1 0) 65 y = nI (lN' (lu (sL s) y l y)) ∧ (xu (xu (xu (mcp S1 y (lN' l)) 65 y (nI (lN' l))) 66 y (nI (lTh l))) 54 1 0) 66 y = nI (lTh (lu (sL s) y l y)) ∧ rwC (xu (xu (xu (mcp S1 y (lN' l)) 65 y (nI (lN' l))) 66 y (nI (lTh l))) 54 1 0) 67 68 (17 * y) (lu (sL s) y l y) ∧ lG (sH s) (lu (sL s) y l y)
          rw [e2]
          refine ⟨(congrFun (off 64 (by omega) (by omega)) y).trans a1, a2, ?_, ?_, fun i hi => ?_, hlG⟩
          · rw [xu_c (by omega), xu_c (by omega), xu_same]
          · rw [xu_c (by omega), xu_same]
          · rw [xu_c (by omega), xu_c (by omega), xu_c (by omega), xu_c (by omega), xu_c (by omega), xu_c (by omega), mcp_in (Or.inl rfl) hi, mcp_in (Or.inr rfl) hi]
            exact ⟨(hl.2.2.2.1 i hi).1, (hl.2.2.2.1 i hi).2.1⟩
        · have e2 : lu (sL s) p l y = sL s y := if_neg e
          show (xu (xu (xu (mcp S1 p (lN' l)) 65 p (nI (lN' l))) 66 p (nI (lTh l))) 54 1 0) 64 y = nI (sKd s y) ∧ sKd s y < 5 ∧ (xu (xu (xu (mcp S1 p (lN' l)) 65 p (nI (lN' l))) 66 p (nI (lTh l))) 54 1 0) 65 y = nI (lN' (lu (sL s) p l y)) ∧ (xu (xu (xu (mcp S1 p (lN' l)) 65 p (nI (lN' l))) 66 p (nI (lTh l))) 54 1 0) 66 y = nI (lTh (lu (sL s) p l y)) ∧ rwC (xu (xu (xu (mcp S1 p (lN' l)) 65 p (nI (lN' l))) 66 p (nI (lTh l))) 54 1 0) 67 68 (17 * y) (lu (sL s) p l y) ∧ lG (sH s) (lu (sL s) p l y)
          rw [e2]
          refine ⟨(congrFun (off 64 (by omega) (by omega)) y).trans a1, a2, ?_, ?_, fun i hi => ?_, a6⟩
          · rw [xu_c (by omega), xu_c (by omega), xu_ne2 e, mcp_off (by omega) (by omega), hf.1 65 (by omega) (by omega) (by omega)]; exact a3
          · rw [xu_c (by omega), xu_ne2 e, xu_c (by omega), mcp_off (by omega) (by omega), hf.1 66 (by omega) (by omega) (by omega)]; exact a4
          · rw [xu_c (by omega), xu_c (by omega), xu_c (by omega), xu_c (by omega), xu_c (by omega), xu_c (by omega), mcp_out (by omega), mcp_out (by omega), hf.1 67 (by omega) (by omega) (by omega), hf.1 68 (by omega) (by omega) (by omega)]
            exact a5 i hi, fun j hj => off j (by omega) (by omega)⟩
    · exact absurd (nI_le (Nat.le_refl _) (by omega)) h156
set_option maxRecDepth 100000 in
set_option maxHeartbeats 2000000 in
theorem lf_loop (d : Nat) (S : Nat → Nat → Int32) (G : Nat → Nat → Int64) (s : sS) (hc : MS S s) (hr0 : ¬ sHr s = 0) (p : Nat) (hp : p < sP s) (h5 : rg (nI p) (sP s)) (hcp : (nI p).toNatClampNeg = p) (e19 : ¬ fpl (fun j => lfo j (sPg s j)) (sN s) < sN s) (e27 : ¬ sN s < 3) : ∀ i, i ≤ sN s - 3 → ∀ S1 l, lrun (hD (sH s)) (hLo (sH s)) (lpN (sH s) (sKd s p)) (sPg s) i = some l → ltC S1 (lN' l) (lSp l) (nI (lTh l)) → frL S S1 → xA none (d + 3) mX10_life 0 0 0 0 72 [some (.ref 54), some (.int (nI p)), some (.int 1), some (.int (nI (3 + i)))] [] (σF, S1, G) (fun r h' => ∃ S' G', h' = (σF, S', G') ∧ r = some (.int (aLife s (nI p))) ∧ MS S' (tLife s (nI p)) ∧ ∀ j, j < 54 → S' j = S j) := by
  have hc0 := hc
  obtain ⟨hpg, hho, hpp, htk, hgl, hsd, him, hno⟩ := hc
  have hp4 := hpp.2.1
  have hn45 := hpg.2.1
  have hok := (hho.2.2.2 (by omega)).1.1
  obtain ⟨hkd, hkd5, hse, hlo, hrw, hg⟩ := hpp.2.2 p hp
  obtain ⟨a1, a2, a3⟩ := lread_pre (pg := sPg s) (n := sN s) e27 e19
  refine xloop (sN s - 3) (fun i hi ih => ?_) ?_
  · intro S1 l hlri hl hf
    obtain ⟨b1, b2⟩ := lrun_ok a1 hok.D10 a2 a3 i (by omega) l hlri
    have hc126 := hpg.2.2.2 (3 + i) (by omega)
    obtain ⟨a, ha⟩ := Option.isSome_iff_exists.mp (a3 i hi)
    refine xA.iload_n (i := 3) rfl rfl rfl rfl ?_
    refine xA.aload_n (i := 0) rfl rfl rfl rfl ?_
    refine xA.getI rfl f10_91 rfl rfl rfl ?_
    refine xA.topi (((hf.2 1 (by omega) (by omega)).trans hpg.1)) ?_
    refine xA.icmp_ge (tgt := 142) rfl rfl rfl (fun h77 => ?_) (fun h77 => ?_)
    · exact absurd h77 (nI_ge (show 3 + i < sN s by omega) (by omega))
    · refine xA.iload_n (i := 2) rfl rfl rfl rfl ?_
      refine xA.if_eq (tgt := 142) rfl rfl rfl (fun h81 => ?_) (fun h81 => ?_)
      · exact absurd h81 (by decide)
      · refine xA.aload_n (i := 0) rfl rfl rfl rfl ?_
        refine xA.aload_n (i := 0) rfl rfl rfl rfl ?_
        refine xA.getR rfl f10_37 rfl rfl rfl rfl ?_
        refine xA.iload_n (i := 1) rfl rfl rfl rfl ?_
        refine xA.iald rfl rfl (vp_in_nI (by omega) (by omega)) rfl ?_
        refine xA.topi ((show S1 64 (nI p).toNatClampNeg = nI (sKd s p) from by rw [hcp, hf.1 64 (by omega) (by omega) (by omega)]; exact hkd)) ?_
        refine xA.aload_n (i := 0) rfl rfl rfl rfl ?_
        refine xA.getR rfl f10_7 rfl rfl rfl rfl ?_
        refine xA.iload_n (i := 3) rfl rfl rfl rfl ?_
        refine xA.iald rfl rfl (vp_in_nI (by omega) (by omega)) rfl ?_
        refine xA.topi ((show S1 55 (nI (3 + i)).toNatClampNeg = nI (sPg s (3 + i)) from by rw [nI_clamp (by omega), hf.1 55 (by omega) (by omega) (by omega)]; exact hpg.2.2.1 _ (by omega))) ?_
        refine xA.bipush (v := 46) rfl (by decide) rfl ?_
        refine xA.icmp_ne (tgt := 107) rfl rfl rfl (fun h99 => ?_) (fun h99 => ?_)
        · have e99 : ¬ sPg s (3 + i) = 46 := fun z => h99 (by rw [z]; rfl)
          refine xA.aload_n (i := 0) rfl rfl rfl rfl ?_
          refine xA.getR rfl f10_7 rfl rfl rfl rfl ?_
          refine xA.iload_n (i := 3) rfl rfl rfl rfl ?_
          refine xA.iald rfl rfl (vp_in_nI (by omega) (by omega)) rfl ?_
          refine xA.topi ((show S1 55 (nI (3 + i)).toNatClampNeg = nI (sPg s (3 + i)) from by rw [nI_clamp (by omega), hf.1 55 (by omega) (by omega) (by omega)]; exact hpg.2.2.1 _ (by omega))) ?_
          refine xA.bipush (v := 116) rfl (by decide) rfl ?_
          refine xA.icmp_ne (tgt := 123) rfl rfl rfl (fun h115 => ?_) (fun h115 => ?_)
          · have e115 : ¬ sPg s (3 + i) = 116 := fun z => h115 (by rw [z]; rfl)
            refine xA.aload_n (i := 0) rfl rfl rfl rfl ?_
            refine xA.getR rfl f10_7 rfl rfl rfl rfl ?_
            refine xA.iload_n (i := 3) rfl rfl rfl rfl ?_
            refine xA.iald rfl rfl (vp_in_nI (by omega) (by omega)) rfl ?_
            refine xA.topi ((show S1 55 (nI (3 + i)).toNatClampNeg = nI (sPg s (3 + i)) from by rw [nI_clamp (by omega), hf.1 55 (by omega) (by omega) (by omega)]; exact hpg.2.2.1 _ (by omega))) ?_
            refine xA.bipush (v := 48) rfl (by decide) rfl ?_
            refine xA.isub rfl rfl ?_
            refine xA.topi (stp_dig ha e99 e115) ?_
            refine xA.callV (As := [_, _]) (h := (σF, _, _)) rfl k10_200 okX10_step rfl rfl rfl rfl (Nat.le_of_ble_eq_true rfl) (c_X10_step (d + 1) _ G s (frL.ms hc0 hf) hr0 (sH s) rfl (sKd s p) hkd5 a (stp_lt ha) (lN' l) (lSp l) (nI (lTh l)) hl (by omega)) (Nat.le_refl _) (Nat.le_refl _) rfl rfl ?_
            rintro r9 h9 ⟨S3, rfl, ⟨hnx, rfl, rfl⟩ | ⟨q, hnx, rfl, hl3, hf3⟩⟩
            · have hlr : lread (hD (sH s)) (hLo (sH s)) (lpN (sH s) (sKd s p)) (sPg s) (sN s) = none := by
                    rw [lread, if_neg (by omega)]
                    refine lrun_dead (i := i) ?_ hi
                    show (lrun _ _ _ _ i).bind _ = _
                    rw [hlri]
                    show lstep _ _ _ _ ((stp (sPg s (3 + i))).getD 0) = _
                    rw [ha]
                    exact Option.map_eq_none_iff.mpr hnx
              refine xA.istore_n (i := 2) (L' := [_, _, _, _]) rfl rfl (Nat.le_of_ble_eq_true rfl) rfl rfl ?_
              refine xA.iinc (L' := [_, _, _, _]) rfl rfl ((show nI (3 + i) + 1 = nI (3 + (i + 1)) from nI_1 _)) rfl rfl ?_
              refine xA.goto (q := 72) rfl rfl ?_
              refine xA.iload_n (i := 3) rfl rfl rfl rfl ?_
              refine xA.aload_n (i := 0) rfl rfl rfl rfl ?_
              refine xA.getI rfl f10_91 rfl rfl rfl ?_
              refine xA.topi (((hf.2 1 (by omega) (by omega)).trans hpg.1)) ?_
              refine xA.icmp_ge (tgt := 142) rfl rfl rfl (fun h77 => ?_) (fun h77 => ?_)
              · refine xA.iload_n (i := 2) rfl rfl rfl rfl ?_
                refine xA.if_ne (tgt := 149) rfl rfl rfl (fun h143 => ?_) (fun h143 => ?_)
                · exact absurd rfl h143
                · refine xA.bipush (v := (-103)) rfl (by decide) rfl ?_
                  exact xA.iret rfl rfl rfl ⟨S3, G, rfl, by simp only [aLife]; rw [if_pos h5, hcp]; simp only [hlr], by simp only [tLife]; rw [if_pos h5, hcp]; simp only [hlr]; exact frL.ms hc0 hf, fun j hj => hf.1 j (by omega) (by omega) (by omega)⟩
              · refine xA.iload_n (i := 2) rfl rfl rfl rfl ?_
                refine xA.if_eq (tgt := 142) rfl rfl rfl (fun h81 => ?_) (fun h81 => ?_)
                · refine xA.iload_n (i := 2) rfl rfl rfl rfl ?_
                  refine xA.if_ne (tgt := 149) rfl rfl rfl (fun h143 => ?_) (fun h143 => ?_)
                  · exact absurd rfl h143
                  · refine xA.bipush (v := (-103)) rfl (by decide) rfl ?_
                    exact xA.iret rfl rfl rfl ⟨S3, G, rfl, by simp only [aLife]; rw [if_pos h5, hcp]; simp only [hlr], by simp only [tLife]; rw [if_pos h5, hcp]; simp only [hlr]; exact frL.ms hc0 hf, fun j hj => hf.1 j (by omega) (by omega) (by omega)⟩
                · exact absurd rfl h81
            · have hst : lstep (hD (sH s)) (hLo (sH s)) (lpN (sH s) (sKd s p)) l a = some (lN' l + 1, nu (lSp l) (lN' l) q, lTh l + (if a = 7 then 1 else 0), if a < 6 then lDb l ||| 2 ^ (hD (sH s) (lSp l (lN' l - 1) % 6 * 6 + a) - 1) else lDb l) := by
                    unfold lstep
                    rw [show nxH (hD (sH s)) (hLo (sH s)) (lSp l (lN' l - 1) / 6) (lSp l (lN' l - 1) % 6) a (lpN (sH s) (sKd s p)) = some q from hnx]
                    rfl
              refine xA.istore_n (i := 2) (L' := [_, _, _, _]) rfl rfl (Nat.le_of_ble_eq_true rfl) rfl rfl ?_
              refine xA.iinc (L' := [_, _, _, _]) rfl rfl ((show nI (3 + i) + 1 = nI (3 + (i + 1)) from nI_1 _)) rfl rfl ?_
              refine xA.goto (q := 72) rfl rfl ?_
              exact ih S3 _ (by show (lrun _ _ _ _ i).bind _ = _; rw [hlri]; show lstep _ _ _ _ ((stp (sPg s (3 + i))).getD 0) = _; rw [ha]; exact hst) (show ltC S3 (lN' l + 1) (nu (lSp l) (lN' l) q) (nI (lTh l + (if a = 7 then 1 else 0))) from lo_if ▸ hl3) (hf.trans hf3)
          · have e115 : sPg s (3 + i) = 116 := (nI_eq (b := 116) (by omega) (by omega)).mp h115
            refine xA.bipush (v := 7) rfl (by decide) rfl ?_
            refine xA.topi ((show (7 : Int32) = nI a from by rw [stp, if_neg e99, if_pos e115] at ha; cases ha; rfl)) ?_
            refine xA.goto (q := 132) rfl rfl ?_
            refine xA.callV (As := [_, _]) (h := (σF, _, _)) rfl k10_200 okX10_step rfl rfl rfl rfl (Nat.le_of_ble_eq_true rfl) (c_X10_step (d + 1) _ G s (frL.ms hc0 hf) hr0 (sH s) rfl (sKd s p) hkd5 a (stp_lt ha) (lN' l) (lSp l) (nI (lTh l)) hl (by omega)) (Nat.le_refl _) (Nat.le_refl _) rfl rfl ?_
            rintro r9 h9 ⟨S3, rfl, ⟨hnx, rfl, rfl⟩ | ⟨q, hnx, rfl, hl3, hf3⟩⟩
            · have hlr : lread (hD (sH s)) (hLo (sH s)) (lpN (sH s) (sKd s p)) (sPg s) (sN s) = none := by
                    rw [lread, if_neg (by omega)]
                    refine lrun_dead (i := i) ?_ hi
                    show (lrun _ _ _ _ i).bind _ = _
                    rw [hlri]
                    show lstep _ _ _ _ ((stp (sPg s (3 + i))).getD 0) = _
                    rw [ha]
                    exact Option.map_eq_none_iff.mpr hnx
              refine xA.istore_n (i := 2) (L' := [_, _, _, _]) rfl rfl (Nat.le_of_ble_eq_true rfl) rfl rfl ?_
              refine xA.iinc (L' := [_, _, _, _]) rfl rfl ((show nI (3 + i) + 1 = nI (3 + (i + 1)) from nI_1 _)) rfl rfl ?_
              refine xA.goto (q := 72) rfl rfl ?_
              refine xA.iload_n (i := 3) rfl rfl rfl rfl ?_
              refine xA.aload_n (i := 0) rfl rfl rfl rfl ?_
              refine xA.getI rfl f10_91 rfl rfl rfl ?_
              refine xA.topi (((hf.2 1 (by omega) (by omega)).trans hpg.1)) ?_
              refine xA.icmp_ge (tgt := 142) rfl rfl rfl (fun h77 => ?_) (fun h77 => ?_)
              · refine xA.iload_n (i := 2) rfl rfl rfl rfl ?_
                refine xA.if_ne (tgt := 149) rfl rfl rfl (fun h143 => ?_) (fun h143 => ?_)
                · exact absurd rfl h143
                · refine xA.bipush (v := (-103)) rfl (by decide) rfl ?_
                  exact xA.iret rfl rfl rfl ⟨S3, G, rfl, by simp only [aLife]; rw [if_pos h5, hcp]; simp only [hlr], by simp only [tLife]; rw [if_pos h5, hcp]; simp only [hlr]; exact frL.ms hc0 hf, fun j hj => hf.1 j (by omega) (by omega) (by omega)⟩
              · refine xA.iload_n (i := 2) rfl rfl rfl rfl ?_
                refine xA.if_eq (tgt := 142) rfl rfl rfl (fun h81 => ?_) (fun h81 => ?_)
                · refine xA.iload_n (i := 2) rfl rfl rfl rfl ?_
                  refine xA.if_ne (tgt := 149) rfl rfl rfl (fun h143 => ?_) (fun h143 => ?_)
                  · exact absurd rfl h143
                  · refine xA.bipush (v := (-103)) rfl (by decide) rfl ?_
                    exact xA.iret rfl rfl rfl ⟨S3, G, rfl, by simp only [aLife]; rw [if_pos h5, hcp]; simp only [hlr], by simp only [tLife]; rw [if_pos h5, hcp]; simp only [hlr]; exact frL.ms hc0 hf, fun j hj => hf.1 j (by omega) (by omega) (by omega)⟩
                · exact absurd rfl h81
            · have hst : lstep (hD (sH s)) (hLo (sH s)) (lpN (sH s) (sKd s p)) l a = some (lN' l + 1, nu (lSp l) (lN' l) q, lTh l + (if a = 7 then 1 else 0), if a < 6 then lDb l ||| 2 ^ (hD (sH s) (lSp l (lN' l - 1) % 6 * 6 + a) - 1) else lDb l) := by
                    unfold lstep
                    rw [show nxH (hD (sH s)) (hLo (sH s)) (lSp l (lN' l - 1) / 6) (lSp l (lN' l - 1) % 6) a (lpN (sH s) (sKd s p)) = some q from hnx]
                    rfl
              refine xA.istore_n (i := 2) (L' := [_, _, _, _]) rfl rfl (Nat.le_of_ble_eq_true rfl) rfl rfl ?_
              refine xA.iinc (L' := [_, _, _, _]) rfl rfl ((show nI (3 + i) + 1 = nI (3 + (i + 1)) from nI_1 _)) rfl rfl ?_
              refine xA.goto (q := 72) rfl rfl ?_
              exact ih S3 _ (by show (lrun _ _ _ _ i).bind _ = _; rw [hlri]; show lstep _ _ _ _ ((stp (sPg s (3 + i))).getD 0) = _; rw [ha]; exact hst) (show ltC S3 (lN' l + 1) (nu (lSp l) (lN' l) q) (nI (lTh l + (if a = 7 then 1 else 0))) from lo_if ▸ hl3) (hf.trans hf3)
        · have e99 : sPg s (3 + i) = 46 := (nI_eq (b := 46) (by omega) (by omega)).mp h99
          refine xA.bipush (v := 6) rfl (by decide) rfl ?_
          refine xA.topi ((show (6 : Int32) = nI a from by rw [stp, if_pos e99] at ha; cases ha; rfl)) ?_
          refine xA.goto (q := 132) rfl rfl ?_
          refine xA.callV (As := [_, _]) (h := (σF, _, _)) rfl k10_200 okX10_step rfl rfl rfl rfl (Nat.le_of_ble_eq_true rfl) (c_X10_step (d + 1) _ G s (frL.ms hc0 hf) hr0 (sH s) rfl (sKd s p) hkd5 a (stp_lt ha) (lN' l) (lSp l) (nI (lTh l)) hl (by omega)) (Nat.le_refl _) (Nat.le_refl _) rfl rfl ?_
          rintro r9 h9 ⟨S3, rfl, ⟨hnx, rfl, rfl⟩ | ⟨q, hnx, rfl, hl3, hf3⟩⟩
          · have hlr : lread (hD (sH s)) (hLo (sH s)) (lpN (sH s) (sKd s p)) (sPg s) (sN s) = none := by
                  rw [lread, if_neg (by omega)]
                  refine lrun_dead (i := i) ?_ hi
                  show (lrun _ _ _ _ i).bind _ = _
                  rw [hlri]
                  show lstep _ _ _ _ ((stp (sPg s (3 + i))).getD 0) = _
                  rw [ha]
                  exact Option.map_eq_none_iff.mpr hnx
            refine xA.istore_n (i := 2) (L' := [_, _, _, _]) rfl rfl (Nat.le_of_ble_eq_true rfl) rfl rfl ?_
            refine xA.iinc (L' := [_, _, _, _]) rfl rfl ((show nI (3 + i) + 1 = nI (3 + (i + 1)) from nI_1 _)) rfl rfl ?_
            refine xA.goto (q := 72) rfl rfl ?_
            refine xA.iload_n (i := 3) rfl rfl rfl rfl ?_
            refine xA.aload_n (i := 0) rfl rfl rfl rfl ?_
            refine xA.getI rfl f10_91 rfl rfl rfl ?_
            refine xA.topi (((hf.2 1 (by omega) (by omega)).trans hpg.1)) ?_
            refine xA.icmp_ge (tgt := 142) rfl rfl rfl (fun h77 => ?_) (fun h77 => ?_)
            · refine xA.iload_n (i := 2) rfl rfl rfl rfl ?_
              refine xA.if_ne (tgt := 149) rfl rfl rfl (fun h143 => ?_) (fun h143 => ?_)
              · exact absurd rfl h143
              · refine xA.bipush (v := (-103)) rfl (by decide) rfl ?_
                exact xA.iret rfl rfl rfl ⟨S3, G, rfl, by simp only [aLife]; rw [if_pos h5, hcp]; simp only [hlr], by simp only [tLife]; rw [if_pos h5, hcp]; simp only [hlr]; exact frL.ms hc0 hf, fun j hj => hf.1 j (by omega) (by omega) (by omega)⟩
            · refine xA.iload_n (i := 2) rfl rfl rfl rfl ?_
              refine xA.if_eq (tgt := 142) rfl rfl rfl (fun h81 => ?_) (fun h81 => ?_)
              · refine xA.iload_n (i := 2) rfl rfl rfl rfl ?_
                refine xA.if_ne (tgt := 149) rfl rfl rfl (fun h143 => ?_) (fun h143 => ?_)
                · exact absurd rfl h143
                · refine xA.bipush (v := (-103)) rfl (by decide) rfl ?_
                  exact xA.iret rfl rfl rfl ⟨S3, G, rfl, by simp only [aLife]; rw [if_pos h5, hcp]; simp only [hlr], by simp only [tLife]; rw [if_pos h5, hcp]; simp only [hlr]; exact frL.ms hc0 hf, fun j hj => hf.1 j (by omega) (by omega) (by omega)⟩
              · exact absurd rfl h81
          · have hst : lstep (hD (sH s)) (hLo (sH s)) (lpN (sH s) (sKd s p)) l a = some (lN' l + 1, nu (lSp l) (lN' l) q, lTh l + (if a = 7 then 1 else 0), if a < 6 then lDb l ||| 2 ^ (hD (sH s) (lSp l (lN' l - 1) % 6 * 6 + a) - 1) else lDb l) := by
                  unfold lstep
                  rw [show nxH (hD (sH s)) (hLo (sH s)) (lSp l (lN' l - 1) / 6) (lSp l (lN' l - 1) % 6) a (lpN (sH s) (sKd s p)) = some q from hnx]
                  rfl
            refine xA.istore_n (i := 2) (L' := [_, _, _, _]) rfl rfl (Nat.le_of_ble_eq_true rfl) rfl rfl ?_
            refine xA.iinc (L' := [_, _, _, _]) rfl rfl ((show nI (3 + i) + 1 = nI (3 + (i + 1)) from nI_1 _)) rfl rfl ?_
            refine xA.goto (q := 72) rfl rfl ?_
            exact ih S3 _ (by show (lrun _ _ _ _ i).bind _ = _; rw [hlri]; show lstep _ _ _ _ ((stp (sPg s (3 + i))).getD 0) = _; rw [ha]; exact hst) (show ltC S3 (lN' l + 1) (nu (lSp l) (lN' l) q) (nI (lTh l + (if a = 7 then 1 else 0))) from lo_if ▸ hl3) (hf.trans hf3)
  · intro S1 l hlri hl hf
    refine xA.iload_n (i := 3) rfl rfl rfl rfl ?_
    refine xA.aload_n (i := 0) rfl rfl rfl rfl ?_
    refine xA.getI rfl f10_91 rfl rfl rfl ?_
    refine xA.topi (((hf.2 1 (by omega) (by omega)).trans hpg.1)) ?_
    refine xA.icmp_ge (tgt := 142) rfl rfl rfl (fun h77 => ?_) (fun h77 => ?_)
    · refine xA.iload_n (i := 2) rfl rfl rfl rfl ?_
      refine xA.if_ne (tgt := 149) rfl rfl rfl (fun h143 => ?_) (fun h143 => ?_)
      · refine xA.iconst (v := 0) rfl (by decide) rfl ?_
        refine xA.istore_n (i := 3) (L' := [_, _, _, _]) rfl rfl (Nat.le_of_ble_eq_true rfl) rfl rfl ?_
        have hlr : lread (hD (sH s)) (hLo (sH s)) (lpN (sH s) (sKd s p)) (sPg s) (sN s) = some l := by rw [lread, if_neg (by omega)]; exact hlri
        refine xA.store (S' := mcp S1 p 0) mcp_0.symm ?_
        exact lf_copy d S G s hc0 hr0 p hp h5 hcp l hlr (lread_lG hok hok.D10 hlr).1 S1 hl hf _ 0 (Nat.zero_le _)
      · exact absurd h143 (by decide)
    · exact absurd (nI_le (show sN s ≤ 3 + (sN s - 3) by omega) (by omega)) h77
set_option maxRecDepth 100000 in
set_option maxHeartbeats 1000000 in
theorem m_life (d : Nat) (s : sS) (x : Int32) : opM (d + 3) mX10_life [.ref 54, .int x] s (.int (aLife s x)) (tLife s x) := by
  intro S G hc
  have hc0 := hc
  obtain ⟨hpg, hho, hpp, htk, hgl, hsd, him, hno⟩ := hc
  refine xC.of okX10_life (Nat.le_of_ble_eq_true rfl) (L := [_, _, _, _]) rfl ?_
  refine xA.aload_n (i := 0) rfl rfl rfl rfl ?_
  refine xA.iload_n (i := 1) rfl rfl rfl rfl ?_
  refine xA.callVi (As := [_]) rfl k10_193 okX10_isPerson rfl rfl rfl rfl (Nat.le_of_ble_eq_true rfl) (c_X10_isPerson (d + 1) _ G x (sP s) hpp.1 hpp.2.1) rfl rfl ?_
  refine xA.if_ne (tgt := 11) rfl rfl rfl (fun h5 => ?_) (fun h5 => ?_)
  · rw [xb_ne0] at h5
    obtain ⟨p, hp, rfl⟩ := rg_nI h5 (by have := hpp.2.1; omega)
    have hcp : (nI p).toNatClampNeg = p := nI_clamp (by have := hpp.2.1; omega)
    have hr0 : ¬ sHr s = 0 := fun z => by have := (hno z).1; omega
    have hn45 := hpg.2.1
    have hfl := fpl_le (fun j => lfo j (sPg s j)) (sN s)
    refine xA.aload_n (i := 0) rfl rfl rfl rfl ?_
    refine xA.callVi (As := []) rfl k10_144 okX10_lifeFault rfl rfl rfl rfl (Nat.le_of_ble_eq_true rfl) (c_X10_lifeFault d _ G (sPg s) (sN s) hpg) rfl rfl ?_
    refine xA.aload_n (i := 0) rfl rfl rfl rfl ?_
    refine xA.getI rfl f10_91 rfl rfl rfl ?_
    refine xA.topi (hpg.1) ?_
    refine xA.icmp_lt (tgt := 30) rfl rfl rfl (fun h19 => ?_) (fun h19 => ?_)
    · refine xA.bipush (v := (-103)) rfl (by decide) rfl ?_
      have hlr : lread (hD (sH s)) (hLo (sH s)) (lpN (sH s) (sKd s p)) (sPg s) (sN s) = none := by
        rw [lread, if_pos (by first | (have := (nI_ltI (by omega) (by omega)).mp h19; omega) | (have := mt (nI_leI (a := 3) (by omega) (by omega)).mpr h27; omega))]
      exact xA.iret rfl rfl rfl ⟨S, G, rfl, by simp only [aLife]; rw [if_pos h5, hcp]; simp only [hlr], by simp only [tLife]; rw [if_pos h5, hcp]; simp only [hlr]; exact hc0, fun _ _ => rfl⟩
    · refine xA.aload_n (i := 0) rfl rfl rfl rfl ?_
      refine xA.getI rfl f10_91 rfl rfl rfl ?_
      refine xA.topi (hpg.1) ?_
      refine xA.iconst (v := 3) rfl (by decide) rfl ?_
      refine xA.icmp_ge (tgt := 33) rfl rfl rfl (fun h27 => ?_) (fun h27 => ?_)
      · have e27 : ¬ sN s < 3 := by have := (nI_leI (a := 3) (by omega) (by omega)).mp h27; omega
        have e19 : ¬ fpl (fun j => lfo j (sPg s j)) (sN s) < sN s := fun z => h19 ((nI_ltI (by omega) (by omega)).mpr z)
        obtain ⟨⟨g1, g2⟩, ⟨g3, g4⟩, g5, g6⟩ := lread_let e27 e19
        refine xA.aload_n (i := 0) rfl rfl rfl rfl ?_
        refine xA.bipush (v := 10) rfl (by decide) rfl ?_
        refine xA.aload_n (i := 0) rfl rfl rfl rfl ?_
        refine xA.getR rfl f10_7 rfl rfl rfl rfl ?_
        refine xA.iconst (v := 0) rfl (by decide) rfl ?_
        refine xA.iald rfl rfl (vp_in_nI (n := 0) (by omega) (by omega)) rfl ?_
        refine xA.topi ((show S 55 0 = nI (sPg s 0) from hpg.2.2.1 0 (by omega))) ?_
        refine xA.bipush (v := 48) rfl (by decide) rfl ?_
        refine xA.isub rfl rfl ?_
        refine xA.topi ((show nI (sPg s 0) - 48 = nI (sPg s 0 - 48) from nI_sub (b := 48) (by omega))) ?_
        refine xA.imul rfl rfl ?_
        refine xA.topi ((show 10 * nI (sPg s 0 - 48) = nI (10 * (sPg s 0 - 48)) from nI_mul 10 _)) ?_
        refine xA.aload_n (i := 0) rfl rfl rfl rfl ?_
        refine xA.getR rfl f10_7 rfl rfl rfl rfl ?_
        refine xA.iconst (v := 1) rfl (by decide) rfl ?_
        refine xA.iald rfl rfl (vp_in_nI (n := 1) (by omega) (by omega)) rfl ?_
        refine xA.topi ((show S 55 1 = nI (sPg s 1) from hpg.2.2.1 1 (by omega))) ?_
        refine xA.iadd rfl rfl ?_
        refine xA.topi (nI_add _ _) ?_
        refine xA.bipush (v := 48) rfl (by decide) rfl ?_
        refine xA.isub rfl rfl ?_
        refine xA.topi ((show nI (10 * (sPg s 0 - 48) + sPg s 1) - 48 = nI (10 * (sPg s 0 - 48) + (sPg s 1 - 48)) from by rw [show (48 : Int32) = nI 48 from rfl, nI_sub (by omega)]; congr 1; omega)) ?_
        refine xA.aload_n (i := 0) rfl rfl rfl rfl ?_
        refine xA.getR rfl f10_7 rfl rfl rfl rfl ?_
        refine xA.iconst (v := 2) rfl (by decide) rfl ?_
        refine xA.iald rfl rfl (vp_in_nI (n := 2) (by omega) (by omega)) rfl ?_
        refine xA.topi ((show S 55 2 = nI (sPg s 2) from hpg.2.2.1 2 (by omega))) ?_
        refine xA.bipush (v := 48) rfl (by decide) rfl ?_
        refine xA.isub rfl rfl ?_
        refine xA.topi ((show nI (sPg s 2) - 48 = nI (sPg s 2 - 48) from nI_sub (b := 48) (by omega))) ?_
        refine xA.callVv (As := [_, _]) rfl k10_196 okX10_beginLife rfl rfl rfl rfl (Nat.le_of_ble_eq_true rfl) (c_X10_beginLife (d + 2) _ G _ _) rfl rfl ?_
        refine xA.iconst (v := 1) rfl (by decide) rfl ?_
        refine xA.istore_n (i := 2) (L' := [_, _, _, _]) rfl rfl (Nat.le_of_ble_eq_true rfl) rfl rfl ?_
        refine xA.iconst (v := 3) rfl (by decide) rfl ?_
        refine xA.istore_n (i := 3) (L' := [_, _, _, _]) rfl rfl (Nat.le_of_ble_eq_true rfl) rfl rfl ?_
        exact lf_loop d S G s hc0 hr0 p hp h5 hcp e19 e27 0 (Nat.zero_le _) (xu (xu (xu (xu S 69 0 (nI (10 * (sPg s 0 - 48) + (sPg s 1 - 48)))) 70 0 (nI (sPg s 2 - 48))) 54 29 1) 54 30 0) (l0 (sPg s)) rfl (ltC_begin (by omega) (by omega)) ⟨fun j h1 h2 h3 => by rw [xu_c h1, xu_c h1, xu_c h3, xu_c h2], fun f h1 h2 => by rw [xu_ne2 h2, xu_ne2 h1, xu_ne1 (by omega), xu_ne1 (by omega)]⟩
      · refine xA.bipush (v := (-103)) rfl (by decide) rfl ?_
        have hlr : lread (hD (sH s)) (hLo (sH s)) (lpN (sH s) (sKd s p)) (sPg s) (sN s) = none := by
          rw [lread, if_pos (by first | (have := (nI_ltI (by omega) (by omega)).mp h19; omega) | (have := mt (nI_leI (a := 3) (by omega) (by omega)).mpr h27; omega))]
        exact xA.iret rfl rfl rfl ⟨S, G, rfl, by simp only [aLife]; rw [if_pos h5, hcp]; simp only [hlr], by simp only [tLife]; rw [if_pos h5, hcp]; simp only [hlr]; exact hc0, fun _ _ => rfl⟩
  · rw [xb_eq0] at h5
    refine xA.bipush (v := (-101)) rfl (by decide) rfl ?_
    exact xA.iret rfl rfl rfl ⟨S, G, rfl, by simp only [aLife]; rw [if_neg h5], by simp only [tLife]; rw [if_neg h5]; exact hc0, fun _ _ => rfl⟩

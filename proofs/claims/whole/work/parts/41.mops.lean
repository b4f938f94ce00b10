/-! ===== the reference's operations that change something ===== -/
theorem mgP.to {S S' : Nat → Nat → Int32} {pg : Nat → Nat} {n : Nat} (h : mgP S pg n) (h1 : S' 54 1 = S 54 1) (h2 : S' 55 = S 55) : mgP S' pg n := by
  unfold mgP; rw [h1, h2]; exact h
theorem mhC.to {S S' : Nat → Nat → Int32} {hr : Nat} {h : hS} (hm : mhC S hr h) (hf : ∀ f, 12 ≤ f → f < 17 → S' 54 f = S 54 f) (hj : ∀ j, 60 ≤ j → j < 64 → S' j = S j) : mhC S' hr h := by
  unfold mhC
  rw [hf 16 (by omega) (by omega), hf 12 (by omega) (by omega), hf 13 (by omega) (by omega), hf 14 (by omega) (by omega), hf 15 (by omega) (by omega), hj 60 (by omega) (by omega), hj 61 (by omega) (by omega), hj 62 (by omega) (by omega), hj 63 (by omega) (by omega)]
  exact hm
theorem mpC.to {S S' : Nat → Nat → Int32} {h : hS} {P : Nat} {kd : Nat → Nat} {L : Nat → lS} (hm : mpC S h P kd L) (h1 : S' 54 21 = S 54 21) (hj : ∀ j, 64 ≤ j → j < 69 → S' j = S j) : mpC S' h P kd L := by
  unfold mpC rwC
  rw [h1, hj 64 (by omega) (by omega), hj 65 (by omega) (by omega), hj 66 (by omega) (by omega), hj 67 (by omega) (by omega), hj 68 (by omega) (by omega)]
  exact hm
theorem mtR.to {S S' : Nat → Nat → Int32} {k : Nat} {t : tS} (h : mtR S k t) (h1 : S' k = S k) : mtR S' k t := by unfold mtR; rw [h1]; exact h
theorem mgR.to {S S' : Nat → Nat → Int32} {k : Nat} {g : gS} (h : mgR S k g) (h1 : S' k = S k) : mgR S' k g := by unfold mgR; rw [h1]; exact h
theorem miC.to {S S' : Nat → Nat → Int32} {h : hS} {hr : Nat} {im : iS} (hm : miC S h hr im) (hf : ∀ f, 37 ≤ f → f < 41 → S' 54 f = S 54 f) (hj : ∀ j, 73 ≤ j → j < 79 → S' j = S j) : miC S' h hr im := by
  unfold miC rwC mtR mgR
  rw [hf 37 (by omega) (by omega), hf 38 (by omega) (by omega), hf 39 (by omega) (by omega), hf 40 (by omega) (by omega), hj 73 (by omega) (by omega), hj 74 (by omega) (by omega), hj 75 (by omega) (by omega), hj 76 (by omega) (by omega), hj 77 (by omega) (by omega), hj 78 (by omega) (by omega)]
  exact hm
theorem xu_f {S : Nat → Nat → Int32} {a k j f : Nat} {v : Int32} (h : ¬ (j = a ∧ f = k)) : xu S a k v j f = S j f := by
  by_cases e : j = a
  · exact xu_ne2 (fun z => h ⟨e, z⟩)
  · exact xu_ne1 e
/-- k cells copied -/
def cpS (S : Nat → Nat → Int32) (b a i : Nat) : Nat → Nat → Int32 := fun j q => if j = b ∧ q < i then S a q else S j q
theorem cpS_off {S : Nat → Nat → Int32} {b a i j : Nat} (h : ¬ j = b) : cpS S b a i j = S j := by funext q; unfold cpS; rw [if_neg (fun z => h z.1)]
theorem cpS_in {S : Nat → Nat → Int32} {b a i q : Nat} (h : q < i) : cpS S b a i b q = S a q := by unfold cpS; rw [if_pos ⟨rfl, h⟩]
theorem cpS_0 {S : Nat → Nat → Int32} {b a : Nat} : S = cpS S b a 0 := by funext j q; unfold cpS; rw [if_neg (fun z => absurd z.2 (Nat.not_lt_zero _))]
theorem cpS_s {S : Nat → Nat → Int32} {b a i : Nat} (h : ¬ a = b) : xu (cpS S b a i) b i (S a i) = cpS S b a (i + 1) := by
  funext j q
  by_cases e : j = b
  · subst e
    by_cases e2 : q = i
    · subst e2; rw [xu_same, cpS_in (by omega)]
    · rw [xu_ne2 e2]
      unfold cpS
      by_cases e3 : q < i
      · rw [if_pos ⟨rfl, e3⟩, if_pos ⟨rfl, by omega⟩]
      · rw [if_neg (fun z => e3 z.2), if_neg (fun z => by have := z.2; omega)]
  · rw [xu_ne1 e, congrFun (cpS_off e) q, congrFun (cpS_off e) q]

set_option maxRecDepth 100000 in
set_option maxHeartbeats 400000 in
theorem c_X10_copy (d : Nat) (S : Nat → Nat → Int32) (G : Nat → Nat → Int64) (a b N : Nat) (hA : σF[a]? = some (.inr (.inl N))) (hB : σF[b]? = some (.inr (.inl N))) (hab : ¬ a = b) (hN : N ≤ 100) : xR d mX10_copy [.ref a, .ref b] S G none (cpS S b a N) G := by
  refine xC.of okX10_copy (Nat.le_of_ble_eq_true rfl) (L := [_, _, _]) rfl ?_
  have loop : ∀ i, i ≤ N → xA none d mX10_copy 0 0 0 0 2 [some (.ref a), some (.ref b), some (.int (nI i))] [] (σF, (cpS S b a i), G) (fun r' h' => r' = none ∧ h' = (σF, (cpS S b a N), G)) := by
    refine xloop N (fun i hi ih => ?_) ?_
    · skip
      refine xA.iload_n (i := 2) rfl rfl rfl rfl ?_
      refine xA.aload_n (i := 0) rfl rfl rfl rfl ?_
      refine xA.alen rfl hA rfl ?_
      refine xA.icmp_ge (tgt := 20) rfl rfl rfl (fun h5 => ?_) (fun h5 => ?_)
      · exact absurd h5 (nI_ge hi (by omega))
      · refine xA.aload_n (i := 1) rfl rfl rfl rfl ?_
        refine xA.iload_n (i := 2) rfl rfl rfl rfl ?_
        refine xA.aload_n (i := 0) rfl rfl rfl rfl ?_
        refine xA.iload_n (i := 2) rfl rfl rfl rfl ?_
        refine xA.iald rfl hA (vp_in_nI (by omega) (by omega)) rfl ?_
        refine xA.topi ((show cpS S b a i a (nI i).toNatClampNeg = S a i from by rw [nI_clamp (by omega), cpS_off hab])) ?_
        refine xA.iast rfl hB (vp_in_nI (by omega) (by omega)) rfl ?_
        rw [nI_clamp (by omega)]
        refine xA.iinc (L' := [_, _, _]) rfl rfl (nI_1 i) rfl rfl ?_
        refine xA.goto (q := 2) rfl rfl ?_
        refine xA.store (cpS_s hab) ?_
        exact ih
    · skip
      refine xA.iload_n (i := 2) rfl rfl rfl rfl ?_
      refine xA.aload_n (i := 0) rfl rfl rfl rfl ?_
      refine xA.alen rfl hA rfl ?_
      refine xA.icmp_ge (tgt := 20) rfl rfl rfl (fun h5 => ?_) (fun h5 => ?_)
      · exact xA.vret rfl rfl ⟨rfl, rfl⟩
      · exact absurd (nI_le (Nat.le_refl _) (by omega)) h5
  refine xA.iconst (v := 0) rfl (by decide) rfl ?_
  refine xA.istore_n (i := 2) (L' := [_, _, _]) rfl rfl (Nat.le_of_ble_eq_true rfl) rfl rfl ?_
  refine xA.store (S' := cpS S b a 0) cpS_0 ?_
  exact loop 0 (Nat.zero_le _)
set_option maxRecDepth 100000 in
set_option maxHeartbeats 1000000 in
theorem m_blank (d : Nat) (s : sS)  : opM d mX10_blank [.ref 54] s (.int (nI (sN s))) (tBlank s) := by
  intro S G hc
  have hc0 := hc
  obtain ⟨hpg, hho, hpp, htk, hgl, hsd, him, hno⟩ := hc
  refine xC.of okX10_blank (Nat.le_of_ble_eq_true rfl) (L := [_, _]) rfl ?_
  refine xA.aload_n (i := 0) rfl rfl rfl rfl ?_
  refine xA.getI rfl f10_91 rfl rfl rfl ?_
  refine xA.topi (hpg.1) ?_
  refine xA.istore_n (i := 1) (L' := [_, _]) rfl rfl (Nat.le_of_ble_eq_true rfl) rfl rfl ?_
  refine xA.aload_n (i := 0) rfl rfl rfl rfl ?_
  refine xA.iconst (v := 0) rfl (by decide) rfl ?_
  refine xA.putI rfl p10_91 rfl rfl rfl ?_
  refine xA.iload_n (i := 1) rfl rfl rfl rfl ?_
  exact xA.iret rfl rfl rfl ⟨_, G, rfl, rfl, ⟨⟨xu_same, by show 0 ≤ 45; omega, fun i hi => absurd hi (Nat.not_lt_zero _), fun i hi => absurd hi (Nat.not_lt_zero _)⟩, hho.to (fun f a b => xu_f (by omega)) (fun j a b => xu_c (by omega)), hpp.to (xu_f (by omega)) (fun j a b => xu_c (by omega)), ⟨(xu_f (by omega)).trans htk.1, htk.2.to (xu_c (by omega))⟩, ⟨(xu_f (by omega)).trans hgl.1, hgl.2.to (xu_c (by omega))⟩, ⟨(xu_f (by omega)).trans hsd.1, hsd.2⟩, him.to (fun f a b => xu_f (by omega)) (fun j a b => xu_c (by omega)), hno⟩, fun j hj => xu_c (by omega)⟩
set_option maxRecDepth 100000 in
set_option maxHeartbeats 1000000 in
theorem m_forget (d : Nat) (s : sS)  : opM d mX10_forget [.ref 54] s (.int (nI (sGl s).1)) (tForget s) := by
  intro S G hc
  have hc0 := hc
  obtain ⟨hpg, hho, hpp, htk, hgl, hsd, him, hno⟩ := hc
  refine xC.of okX10_forget (Nat.le_of_ble_eq_true rfl) (L := [_, _]) rfl ?_
  refine xA.aload_n (i := 0) rfl rfl rfl rfl ?_
  refine xA.getI rfl f10_162 rfl rfl rfl ?_
  refine xA.topi (hgl.1) ?_
  refine xA.istore_n (i := 1) (L' := [_, _]) rfl rfl (Nat.le_of_ble_eq_true rfl) rfl rfl ?_
  refine xA.aload_n (i := 0) rfl rfl rfl rfl ?_
  refine xA.iconst (v := 0) rfl (by decide) rfl ?_
  refine xA.putI rfl p10_162 rfl rfl rfl ?_
  refine xA.iload_n (i := 1) rfl rfl rfl rfl ?_
  exact xA.iret rfl rfl rfl ⟨_, G, rfl, rfl, ⟨hpg.to (xu_f (by omega)) (xu_c (by omega)), hho.to (fun f a b => xu_f (by omega)) (fun j a b => xu_c (by omega)), hpp.to (xu_f (by omega)) (fun j a b => xu_c (by omega)), ⟨(xu_f (by omega)).trans htk.1, htk.2.to (xu_c (by omega))⟩, ⟨xu_same, by show 0 ≤ 8; omega, fun i hi => absurd hi (Nat.not_lt_zero _)⟩, ⟨(xu_f (by omega)).trans hsd.1, hsd.2⟩, him.to (fun f a b => xu_f (by omega)) (fun j a b => xu_c (by omega)), fun z => ⟨(hno z).1, (hno z).2.1, rfl, (hno z).2.2.2⟩⟩, fun j hj => xu_c (by omega)⟩
set_option maxRecDepth 100000 in
set_option maxHeartbeats 1000000 in
theorem m_person (d : Nat) (s : sS) (k : Int32) : opM (d + 1) mX10_person [.ref 54, .int k] s (.int (aPerson s k)) (tPerson s k) := by
  intro S G hc
  have hc0 := hc
  obtain ⟨hpg, hho, hpp, htk, hgl, hsd, him, hno⟩ := hc
  refine xC.of okX10_person (Nat.le_of_ble_eq_true rfl) (L := [_, _]) rfl ?_
  refine xA.iload_n (i := 1) rfl rfl rfl rfl ?_
  refine xA.i2l rfl rfl ?_
  refine xA.lconst (v := 0) rfl (by decide) rfl ?_
  refine xA.ldc2 (v := 4) rfl w1043 rfl ?_
  refine xA.callSi (As := [_, _, _]) rfl k10_96 okX10_in rfl rfl (Nat.le_of_ble_eq_true rfl) (c_X10_in d _ G k 0 4) rfl rfl ?_
  refine xA.topi (xb_iff (in_rg (n := 4) (by omega))) ?_
  refine xA.if_ne (tgt := 15) rfl rfl rfl (fun h9 => ?_) (fun h9 => ?_)
  · rw [xb_ne0] at h9
    refine xA.aload_n (i := 0) rfl rfl rfl rfl ?_
    refine xA.callVi (As := []) rfl k10_171 okX10_lacks rfl rfl rfl rfl (Nat.le_of_ble_eq_true rfl) (c_X10_lacks d _ G) rfl rfl ?_
    refine xA.if_eq (tgt := 25) rfl rfl rfl (fun h19 => ?_) (fun h19 => ?_)
    · rw [xb_eq0, mlk hho] at h19
      refine xA.aload_n (i := 0) rfl rfl rfl rfl ?_
      refine xA.getI rfl f10_156 rfl rfl rfl ?_
      refine xA.topi (hpp.1) ?_
      refine xA.iconst (v := 4) rfl (by decide) rfl ?_
      refine xA.icmp_ne (tgt := 36) rfl rfl rfl (fun h30 => ?_) (fun h30 => ?_)
      · have hp4 : sP s < 4 := by
          have := hpp.2.1
          have : ¬ sP s = 4 := fun z => h30 (by rw [z]; rfl)
          omega
        obtain ⟨k1, hk1, rfl⟩ := rg_nI h9 (by omega)
        have hck : (nI k1).toNatClampNeg = k1 := nI_clamp (by omega)
        refine xA.aload_n (i := 0) rfl rfl rfl rfl ?_
        refine xA.getR rfl f10_37 rfl rfl rfl rfl ?_
        refine xA.aload_n (i := 0) rfl rfl rfl rfl ?_
        refine xA.getI rfl f10_156 rfl rfl rfl ?_
        refine xA.topi (hpp.1) ?_
        refine xA.iload_n (i := 1) rfl rfl rfl rfl ?_
        refine xA.iast rfl rfl (vp_in_nI (by omega) (by omega)) rfl ?_
        rw [nI_clamp (by omega)]
        refine xA.aload_n (i := 0) rfl rfl rfl rfl ?_
        refine xA.getR rfl f10_40 rfl rfl rfl rfl ?_
        refine xA.aload_n (i := 0) rfl rfl rfl rfl ?_
        refine xA.getI rfl f10_156 rfl rfl rfl ?_
        refine xA.topi (((xu_ne1 (by omega)).trans hpp.1)) ?_
        refine xA.iconst (v := 0) rfl (by decide) rfl ?_
        refine xA.iast rfl rfl (vp_in_nI (by omega) (by omega)) rfl ?_
        rw [nI_clamp (by omega)]
        refine xA.aload_n (i := 0) rfl rfl rfl rfl ?_
        refine xA.getR rfl f10_43 rfl rfl rfl rfl ?_
        refine xA.aload_n (i := 0) rfl rfl rfl rfl ?_
        refine xA.getI rfl f10_156 rfl rfl rfl ?_
        refine xA.topi (((xu_ne1 (by omega)).trans ((xu_ne1 (by omega)).trans hpp.1))) ?_
        refine xA.iconst (v := 0) rfl (by decide) rfl ?_
        refine xA.iast rfl rfl (vp_in_nI (by omega) (by omega)) rfl ?_
        rw [nI_clamp (by omega)]
        refine xA.aload_n (i := 0) rfl rfl rfl rfl ?_
        refine xA.dup rfl rfl rfl ?_
        refine xA.getI rfl f10_156 rfl rfl rfl ?_
        refine xA.topi (((xu_ne1 (by omega)).trans ((xu_ne1 (by omega)).trans ((xu_ne1 (by omega)).trans hpp.1)))) ?_
        refine xA.iconst (v := 1) rfl (by decide) rfl ?_
        refine xA.iadd rfl rfl ?_
        refine xA.topi (nI_1 _) ?_
        refine xA.putI rfl p10_156 rfl rfl rfl ?_
        refine xA.aload_n (i := 0) rfl rfl rfl rfl ?_
        refine xA.getI rfl f10_156 rfl rfl rfl ?_
        refine xA.topi (xu_same) ?_
        refine xA.iconst (v := 1) rfl (by decide) rfl ?_
        refine xA.isub rfl rfl ?_
        refine xA.topi ((show nI (sP s + 1) - 1 = nI (sP s) from nI_sub (a := sP s + 1) (b := 1) (by omega))) ?_
        have off : ∀ j, ¬ j = 54 → ¬ (64 ≤ j ∧ j < 67) → (xu (xu (xu (xu S 64 (sP s) (nI k1)) 65 (sP s) 0) 66 (sP s) 0) 54 21 (nI (sP s + 1))) j = S j := fun j h1 h2 => by rw [xu_c (by omega), xu_c (by omega), xu_c (by omega), xu_c (by omega)]
        have offF : ∀ f, ¬ f = 21 → (xu (xu (xu (xu S 64 (sP s) (nI k1)) 65 (sP s) 0) 66 (sP s) 0) 54 21 (nI (sP s + 1))) 54 f = S 54 f := fun f h1 => by rw [xu_ne2 h1, xu_ne1 (by omega), xu_ne1 (by omega), xu_ne1 (by omega)]
        exact xA.iret rfl rfl rfl ⟨(xu (xu (xu (xu S 64 (sP s) (nI k1)) 65 (sP s) 0) 66 (sP s) 0) 54 21 (nI (sP s + 1))), G, rfl, by rw [aPerson, if_pos h9, if_neg h19, if_neg (by omega)], by
          rw [tPerson, if_pos ⟨h9, h19, by omega⟩, hck]
          refine ⟨hpg.to (offF 1 (by omega)) (off 55 (by omega) (by omega)), hho.to (fun f a b => offF f (by omega)) (fun j a b => off j (by omega) (by omega)), ⟨xu_same, (show sP s + 1 ≤ 4 by omega), fun p hp => ?_⟩, ⟨(offF 31 (by omega)).trans htk.1, htk.2.to (off 71 (by omega) (by omega))⟩, ⟨(offF 34 (by omega)).trans hgl.1, hgl.2.to (off 72 (by omega) (by omega))⟩, ⟨(offF 33 (by omega)).trans hsd.1, hsd.2⟩, him.to (fun f a b => offF f (by omega)) (fun j a b => off j (by omega) (by omega)), fun z => absurd z h19⟩
          by_cases e : p = sP s
          · subst e
            have e1 : nu (sKd s) (sP s) k1 (sP s) = k1 := if_pos rfl
            have e2 : lu (sL s) (sP s) lE (sP s) = lE := if_pos rfl
            exact ⟨show (xu (xu (xu (xu S 64 (sP s) (nI k1)) 65 (sP s) 0) 66 (sP s) 0) 54 21 (nI (sP s + 1))) 64 (sP s) = nI (nu (sKd s) (sP s) k1 (sP s)) from by rw [e1]; simp [xu], show nu (sKd s) (sP s) k1 (sP s) < 5 from by rw [e1]; exact hk1, show (xu (xu (xu (xu S 64 (sP s) (nI k1)) 65 (sP s) 0) 66 (sP s) 0) 54 21 (nI (sP s + 1))) 65 (sP s) = nI (lN' (lu (sL s) (sP s) lE (sP s))) from by rw [e2]; simp [xu]; rfl, show (xu (xu (xu (xu S 64 (sP s) (nI k1)) 65 (sP s) 0) 66 (sP s) 0) 54 21 (nI (sP s + 1))) 66 (sP s) = nI (lTh (lu (sL s) (sP s) lE (sP s))) from by rw [e2]; simp [xu]; rfl, show rwC (xu (xu (xu (xu S 64 (sP s) (nI k1)) 65 (sP s) 0) 66 (sP s) 0) 54 21 (nI (sP s + 1))) 67 68 (17 * sP s) (lu (sL s) (sP s) lE (sP s)) from by rw [e2]; exact fun i hi => absurd hi (Nat.not_lt_zero _), show lG (sH s) (lu (sL s) (sP s) lE (sP s)) from by rw [e2]; exact lG_E⟩
          · obtain ⟨a1, a2, a3, a4, a5, a6⟩ := hpp.2.2 p (by have : p < sP s + 1 := hp; omega)
            have e1 : nu (sKd s) (sP s) k1 p = sKd s p := if_neg e
            have e2 : lu (sL s) (sP s) lE p = sL s p := if_neg e
            show (xu (xu (xu (xu S 64 (sP s) (nI k1)) 65 (sP s) 0) 66 (sP s) 0) 54 21 (nI (sP s + 1))) 64 p = nI (nu (sKd s) (sP s) k1 p) ∧ nu (sKd s) (sP s) k1 p < 5 ∧ (xu (xu (xu (xu S 64 (sP s) (nI k1)) 65 (sP s) 0) 66 (sP s) 0) 54 21 (nI (sP s + 1))) 65 p = nI (lN' (lu (sL s) (sP s) lE p)) ∧ (xu (xu (xu (xu S 64 (sP s) (nI k1)) 65 (sP s) 0) 66 (sP s) 0) 54 21 (nI (sP s + 1))) 66 p = nI (lTh (lu (sL s) (sP s) lE p)) ∧ rwC (xu (xu (xu (xu S 64 (sP s) (nI k1)) 65 (sP s) 0) 66 (sP s) 0) 54 21 (nI (sP s + 1))) 67 68 (17 * p) (lu (sL s) (sP s) lE p) ∧ lG (sH s) (lu (sL s) (sP s) lE p)
            rw [e1, e2]
            exact ⟨by rw [xu_ne1 (by omega), xu_ne1 (by omega), xu_ne1 (by omega), xu_ne2 e]; exact a1, a2, by rw [xu_ne1 (by omega), xu_ne1 (by omega), xu_ne2 e, xu_ne1 (by omega)]; exact a3, by rw [xu_ne1 (by omega), xu_ne2 e, xu_ne1 (by omega), xu_ne1 (by omega)]; exact a4, a5.to (off _ (by omega) (by omega)) (off _ (by omega) (by omega)), a6⟩, fun j hj => off j (by omega) (by omega)⟩
      · refine xA.bipush (v := (-104)) rfl (by decide) rfl ?_
        have e30 : sP s = 4 := (nI_eq (b := 4) (by have := hpp.2.1; omega) (by omega)).mp h30
        exact xA.iret rfl rfl rfl ⟨S, G, rfl, by rw [aPerson, if_pos h9, if_neg h19, if_pos e30], by rw [tPerson, if_neg (fun q => q.2.2 e30)]; exact hc0, fun _ _ => rfl⟩
    · rw [xb_ne0, mlk hho] at h19
      refine xA.bipush (v := (-103)) rfl (by decide) rfl ?_
      exact xA.iret rfl rfl rfl ⟨S, G, rfl, by rw [aPerson, if_pos h9, if_pos h19], by rw [tPerson, if_neg (fun q => q.2.1 h19)]; exact hc0, fun _ _ => rfl⟩
  · rw [xb_eq0] at h9
    refine xA.bipush (v := (-102)) rfl (by decide) rfl ?_
    exact xA.iret rfl rfl rfl ⟨S, G, rfl, by rw [aPerson, if_neg h9], by rw [tPerson, if_neg (fun q => h9 q.1)]; exact hc0, fun _ _ => rfl⟩
theorem rgT {f t : Int32} (hf : rg f (59 + 1)) (h1 : f ≤ t) (h2 : t ≤ 59) : rg t 60 := by
  rw [Int32.le_iff_toInt_le] at h1 h2
  have e : (59 : Int32).toInt = 59 := by decide
  exact ⟨by have := hf.1; omega, by omega⟩

set_option maxRecDepth 100000 in
set_option maxHeartbeats 1000000 in
theorem m_task (d : Nat) (s : sS) (r f t : Int32) : opM (d + 2) mX10_task [.ref 54, .int r, .int f, .int t] s (.int (aTask s r f t)) (tTask s r f t) := by
  intro S G hc
  have hc0 := hc
  obtain ⟨hpg, hho, hpp, htk, hgl, hsd, him, hno⟩ := hc
  refine xC.of okX10_task (Nat.le_of_ble_eq_true rfl) (L := [_, _, _, _]) rfl ?_
  refine xA.iload_n (i := 1) rfl rfl rfl rfl ?_
  refine xA.callSi (As := [_]) rfl k10_168 okX10_isRoom rfl rfl (Nat.le_of_ble_eq_true rfl) (c_X10_isRoom d _ G r) rfl rfl ?_
  refine xA.if_ne (tgt := 10) rfl rfl rfl (fun h4 => ?_) (fun h4 => ?_)
  · rw [xb_ne0] at h4
    refine xA.iload_n (i := 2) rfl rfl rfl rfl ?_
    refine xA.i2l rfl rfl ?_
    refine xA.lconst (v := 0) rfl (by decide) rfl ?_
    refine xA.ldc2 (v := 59) rfl w1064 rfl ?_
    refine xA.callSi (As := [_, _, _]) rfl k10_96 okX10_in rfl rfl (Nat.le_of_ble_eq_true rfl) (c_X10_in (d + 1) _ G f 0 59) rfl rfl ?_
    refine xA.topi (xb_iff (in_rg (n := 59) (by omega))) ?_
    refine xA.if_eq (tgt := 35) rfl rfl rfl (fun h19 => ?_) (fun h19 => ?_)
    · rw [xb_eq0] at h19
      refine xA.bipush (v := (-102)) rfl (by decide) rfl ?_
      first
        | exact xA.iret rfl rfl rfl ⟨S, G, rfl, by rw [aTask, if_pos h4, if_neg (fun q => h19 q.1)], by rw [tTask, if_neg (fun q => h19 q.2.1.1)]; exact hc0, fun _ _ => rfl⟩
        | exact xA.iret rfl rfl rfl ⟨S, G, rfl, by rw [aTask, if_pos h4, if_neg (fun q => e32 q.2)], by rw [tTask, if_neg (fun q => e32 q.2.1.2)]; exact hc0, fun _ _ => rfl⟩
    · rw [xb_ne0] at h19
      refine xA.iload_n (i := 3) rfl rfl rfl rfl ?_
      refine xA.i2l rfl rfl ?_
      refine xA.iload_n (i := 2) rfl rfl rfl rfl ?_
      refine xA.i2l rfl rfl ?_
      refine xA.ldc2 (v := 59) rfl w1064 rfl ?_
      refine xA.callSi (As := [_, _, _]) rfl k10_96 okX10_in rfl rfl (Nat.le_of_ble_eq_true rfl) (c_X10_in (d + 1) _ G t f 59) rfl rfl ?_
      refine xA.if_ne (tgt := 38) rfl rfl rfl (fun h32 => ?_) (fun h32 => ?_)
      · rw [xb_ne0] at h32
        have e32 : rg t 60 ∧ ¬ t < f := ⟨rgT h19 h32.1 h32.2, Int32.not_lt.mpr h32.1⟩
        refine xA.aload_n (i := 0) rfl rfl rfl rfl ?_
        refine xA.callVi (As := []) rfl k10_171 okX10_lacks rfl rfl rfl rfl (Nat.le_of_ble_eq_true rfl) (c_X10_lacks (d + 1) _ G) rfl rfl ?_
        refine xA.if_eq (tgt := 48) rfl rfl rfl (fun h42 => ?_) (fun h42 => ?_)
        · rw [xb_eq0, mlk hho] at h42
          refine xA.aload_n (i := 0) rfl rfl rfl rfl ?_
          refine xA.getI rfl f10_159 rfl rfl rfl ?_
          refine xA.topi (htk.1) ?_
          refine xA.iconst (v := 5) rfl (by decide) rfl ?_
          refine xA.icmp_ne (tgt := 59) rfl rfl rfl (fun h53 => ?_) (fun h53 => ?_)
          · have e53 : ¬ (sTk s).1 = 5 := fun z => h53 (by rw [z]; rfl)
            have ht5 : (sTk s).1 < 5 := by have := htk.2.1; omega
            refine xA.aload_n (i := 0) rfl rfl rfl rfl ?_
            refine xA.getR rfl f10_58 rfl rfl rfl rfl ?_
            refine xA.iconst (v := 3) rfl (by decide) rfl ?_
            refine xA.aload_n (i := 0) rfl rfl rfl rfl ?_
            refine xA.getI rfl f10_159 rfl rfl rfl ?_
            refine xA.topi (htk.1) ?_
            refine xA.imul rfl rfl ?_
            refine xA.topi (n3 _) ?_
            refine xA.iload_n (i := 1) rfl rfl rfl rfl ?_
            refine xA.iast rfl rfl (vp_in_nI (by omega) (by omega)) rfl ?_
            rw [nI_clamp (by omega)]
            refine xA.aload_n (i := 0) rfl rfl rfl rfl ?_
            refine xA.getR rfl f10_58 rfl rfl rfl rfl ?_
            refine xA.iconst (v := 3) rfl (by decide) rfl ?_
            refine xA.aload_n (i := 0) rfl rfl rfl rfl ?_
            refine xA.getI rfl f10_159 rfl rfl rfl ?_
            refine xA.topi (((xu_ne1 (by omega)).trans htk.1)) ?_
            refine xA.imul rfl rfl ?_
            refine xA.topi (n3 _) ?_
            refine xA.iconst (v := 1) rfl (by decide) rfl ?_
            refine xA.iadd rfl rfl ?_
            refine xA.topi (nI_1 _) ?_
            refine xA.iload_n (i := 2) rfl rfl rfl rfl ?_
            refine xA.iast rfl rfl (vp_in_nI (by omega) (by omega)) rfl ?_
            rw [nI_clamp (by omega)]
            refine xA.aload_n (i := 0) rfl rfl rfl rfl ?_
            refine xA.getR rfl f10_58 rfl rfl rfl rfl ?_
            refine xA.iconst (v := 3) rfl (by decide) rfl ?_
            refine xA.aload_n (i := 0) rfl rfl rfl rfl ?_
            refine xA.getI rfl f10_159 rfl rfl rfl ?_
            refine xA.topi (((xu_ne1 (by omega)).trans ((xu_ne1 (by omega)).trans htk.1))) ?_
            refine xA.imul rfl rfl ?_
            refine xA.topi (n3 _) ?_
            refine xA.iconst (v := 2) rfl (by decide) rfl ?_
            refine xA.iadd rfl rfl ?_
            refine xA.topi (nI_add (3 * (sTk s).1) 2) ?_
            refine xA.iload_n (i := 3) rfl rfl rfl rfl ?_
            refine xA.iast rfl rfl (vp_in_nI (by omega) (by omega)) rfl ?_
            rw [nI_clamp (by omega)]
            refine xA.aload_n (i := 0) rfl rfl rfl rfl ?_
            refine xA.dup rfl rfl rfl ?_
            refine xA.getI rfl f10_159 rfl rfl rfl ?_
            refine xA.topi (((xu_ne1 (by omega)).trans ((xu_ne1 (by omega)).trans ((xu_ne1 (by omega)).trans htk.1)))) ?_
            refine xA.iconst (v := 1) rfl (by decide) rfl ?_
            refine xA.iadd rfl rfl ?_
            refine xA.topi (nI_1 _) ?_
            refine xA.putI rfl p10_159 rfl rfl rfl ?_
            refine xA.aload_n (i := 0) rfl rfl rfl rfl ?_
            refine xA.getI rfl f10_159 rfl rfl rfl ?_
            refine xA.topi (xu_same) ?_
            refine xA.iconst (v := 1) rfl (by decide) rfl ?_
            refine xA.isub rfl rfl ?_
            refine xA.topi ((show nI ((sTk s).1 + 1) - 1 = nI (sTk s).1 from nI_sub (a := (sTk s).1 + 1) (b := 1) (by omega))) ?_
            have off : ∀ j, ¬ j = 54 → ¬ j = 71 → (xu (xu (xu (xu S 71 (3 * (sTk s).1) r) 71 (3 * (sTk s).1 + 1) f) 71 (3 * (sTk s).1 + 2) t) 54 31 (nI ((sTk s).1 + 1))) j = S j := fun j h1 h2 => by rw [xu_c h1, xu_c h2, xu_c h2, xu_c h2]
            have offF : ∀ f2, ¬ f2 = 31 → (xu (xu (xu (xu S 71 (3 * (sTk s).1) r) 71 (3 * (sTk s).1 + 1) f) 71 (3 * (sTk s).1 + 2) t) 54 31 (nI ((sTk s).1 + 1))) 54 f2 = S 54 f2 := fun f2 h1 => by rw [xu_ne2 h1, xu_ne1 (by omega), xu_ne1 (by omega), xu_ne1 (by omega)]
            exact xA.iret rfl rfl rfl ⟨(xu (xu (xu (xu S 71 (3 * (sTk s).1) r) 71 (3 * (sTk s).1 + 1) f) 71 (3 * (sTk s).1 + 2) t) 54 31 (nI ((sTk s).1 + 1))), G, rfl, by rw [aTask, if_pos h4, if_pos ⟨h19, e32⟩, if_neg h42, if_neg e53], by
              rw [tTask, if_pos ⟨h4, ⟨h19, e32⟩, h42, e53⟩]
              refine ⟨hpg.to (offF 1 (by omega)) (off 55 (by omega) (by omega)), hho.to (fun f2 a b => offF f2 (by omega)) (fun j a b => off j (by omega) (by omega)), hpp.to (offF 21 (by omega)) (fun j a b => off j (by omega) (by omega)), ⟨xu_same, (show (sTk s).1 + 1 ≤ 5 by omega), fun i hi => ?_⟩, ⟨(offF 34 (by omega)).trans hgl.1, hgl.2.to (off 72 (by omega) (by omega))⟩, ⟨(offF 33 (by omega)).trans hsd.1, hsd.2⟩, him.to (fun f2 a b => offF f2 (by omega)) (fun j a b => off j (by omega) (by omega)), fun z => absurd z h42⟩
              have hi6 : i < (sTk s).1 + 1 := hi
              show (xu (xu (xu (xu S 71 (3 * (sTk s).1) r) 71 (3 * (sTk s).1 + 1) f) 71 (3 * (sTk s).1 + 2) t) 54 31 (nI ((sTk s).1 + 1))) 71 (3 * i) = iu (sTk s).2.1 (sTk s).1 r i ∧ (xu (xu (xu (xu S 71 (3 * (sTk s).1) r) 71 (3 * (sTk s).1 + 1) f) 71 (3 * (sTk s).1 + 2) t) 54 31 (nI ((sTk s).1 + 1))) 71 (3 * i + 1) = iu (sTk s).2.2.1 (sTk s).1 f i ∧ (xu (xu (xu (xu S 71 (3 * (sTk s).1) r) 71 (3 * (sTk s).1 + 1) f) 71 (3 * (sTk s).1 + 2) t) 54 31 (nI ((sTk s).1 + 1))) 71 (3 * i + 2) = iu (sTk s).2.2.2 (sTk s).1 t i
              by_cases e : i = (sTk s).1
              · subst e
                simp only [iu, if_true]
                refine ⟨?_, ?_, ?_⟩
                · rw [xu_ne1 (by omega), xu_ne2 (by omega), xu_ne2 (by omega), xu_same]
                · rw [xu_ne1 (by omega), xu_ne2 (by omega), xu_same]
                · rw [xu_ne1 (by omega), xu_same]
              · have := htk.2.2 i (by omega)
                simp only [iu, if_neg e]
                exact ⟨by rw [xu_ne1 (by omega), xu_ne2 (by omega), xu_ne2 (by omega), xu_ne2 (by omega)]; exact this.1, by rw [xu_ne1 (by omega), xu_ne2 (by omega), xu_ne2 (by omega), xu_ne2 (by omega)]; exact this.2.1, by rw [xu_ne1 (by omega), xu_ne2 (by omega), xu_ne2 (by omega), xu_ne2 (by omega)]; exact this.2.2⟩, fun j hj => off j (by omega) (by omega)⟩
          · have e53 : (sTk s).1 = 5 := (nI_eq (b := 5) (by have := htk.2.1; omega) (by omega)).mp h53
            refine xA.bipush (v := (-104)) rfl (by decide) rfl ?_
            exact xA.iret rfl rfl rfl ⟨S, G, rfl, by rw [aTask, if_pos h4, if_pos ⟨h19, e32⟩, if_neg h42, if_pos e53], by rw [tTask, if_neg (fun q => q.2.2.2 e53)]; exact hc0, fun _ _ => rfl⟩
        · rw [xb_ne0, mlk hho] at h42
          refine xA.bipush (v := (-103)) rfl (by decide) rfl ?_
          exact xA.iret rfl rfl rfl ⟨S, G, rfl, by rw [aTask, if_pos h4, if_pos ⟨h19, e32⟩, if_pos h42], by rw [tTask, if_neg (fun q => q.2.2.1 h42)]; exact hc0, fun _ _ => rfl⟩
      · rw [xb_eq0] at h32
        have e32 : ¬ (rg t 60 ∧ ¬ t < f) := fun z => h32 ⟨Int32.not_lt.mp z.2, (in_rg (n := 59) (by omega)).mpr z.1 |>.2⟩
        refine xA.bipush (v := (-102)) rfl (by decide) rfl ?_
        first
          | exact xA.iret rfl rfl rfl ⟨S, G, rfl, by rw [aTask, if_pos h4, if_neg (fun q => h19 q.1)], by rw [tTask, if_neg (fun q => h19 q.2.1.1)]; exact hc0, fun _ _ => rfl⟩
          | exact xA.iret rfl rfl rfl ⟨S, G, rfl, by rw [aTask, if_pos h4, if_neg (fun q => e32 q.2)], by rw [tTask, if_neg (fun q => e32 q.2.1.2)]; exact hc0, fun _ _ => rfl⟩
  · rw [xb_eq0] at h4
    refine xA.bipush (v := (-101)) rfl (by decide) rfl ?_
    exact xA.iret rfl rfl rfl ⟨S, G, rfl, by rw [aTask, if_neg h4], by rw [tTask, if_neg (fun q => h4 q.1)]; exact hc0, fun _ _ => rfl⟩
set_option maxRecDepth 100000 in
set_option maxHeartbeats 1000000 in
theorem m_glimpse (d : Nat) (s : sS) (m r : Int32) : opM (d + 2) mX10_glimpse [.ref 54, .int m, .int r] s (.int (aGlimpse s m r)) (tGlimpse s m r) := by
  intro S G hc
  have hc0 := hc
  obtain ⟨hpg, hho, hpp, htk, hgl, hsd, him, hno⟩ := hc
  refine xC.of okX10_glimpse (Nat.le_of_ble_eq_true rfl) (L := [_, _, _]) rfl ?_
  refine xA.iload_n (i := 1) rfl rfl rfl rfl ?_
  refine xA.i2l rfl rfl ?_
  refine xA.lconst (v := 0) rfl (by decide) rfl ?_
  refine xA.ldc2 (v := 59) rfl w1064 rfl ?_
  refine xA.callSi (As := [_, _, _]) rfl k10_96 okX10_in rfl rfl (Nat.le_of_ble_eq_true rfl) (c_X10_in (d + 1) _ G m 0 59) rfl rfl ?_
  refine xA.topi (xb_iff (in_rg (n := 59) (by omega))) ?_
  refine xA.if_ne (tgt := 15) rfl rfl rfl (fun h9 => ?_) (fun h9 => ?_)
  · rw [xb_ne0] at h9
    refine xA.iload_n (i := 2) rfl rfl rfl rfl ?_
    refine xA.callSi (As := [_]) rfl k10_168 okX10_isRoom rfl rfl (Nat.le_of_ble_eq_true rfl) (c_X10_isRoom d _ G r) rfl rfl ?_
    refine xA.if_ne (tgt := 25) rfl rfl rfl (fun h19 => ?_) (fun h19 => ?_)
    · rw [xb_ne0] at h19
      refine xA.aload_n (i := 0) rfl rfl rfl rfl ?_
      refine xA.callVi (As := []) rfl k10_171 okX10_lacks rfl rfl rfl rfl (Nat.le_of_ble_eq_true rfl) (c_X10_lacks (d + 1) _ G) rfl rfl ?_
      refine xA.if_eq (tgt := 35) rfl rfl rfl (fun h29 => ?_) (fun h29 => ?_)
      · rw [xb_eq0, mlk hho] at h29
        refine xA.aload_n (i := 0) rfl rfl rfl rfl ?_
        refine xA.getI rfl f10_162 rfl rfl rfl ?_
        refine xA.topi (hgl.1) ?_
        refine xA.bipush (v := 8) rfl (by decide) rfl ?_
        refine xA.icmp_ne (tgt := 47) rfl rfl rfl (fun h41 => ?_) (fun h41 => ?_)
        · have e41 : ¬ (sGl s).1 = 8 := fun z => h41 (by rw [z]; rfl)
          have hg8 : (sGl s).1 < 8 := by have := hgl.2.1; omega
          obtain ⟨mm, hmm, rfl⟩ := rg_nI h9 (by omega)
          obtain ⟨rr, hrr, rfl⟩ := rg_nI h19 (by omega)
          have hcm : (nI mm).toNatClampNeg = mm := nI_clamp (by omega)
          have hcr : (nI rr).toNatClampNeg = rr := nI_clamp (by omega)
          refine xA.aload_n (i := 0) rfl rfl rfl rfl ?_
          refine xA.getR rfl f10_61 rfl rfl rfl rfl ?_
          refine xA.iconst (v := 2) rfl (by decide) rfl ?_
          refine xA.aload_n (i := 0) rfl rfl rfl rfl ?_
          refine xA.getI rfl f10_162 rfl rfl rfl ?_
          refine xA.topi (hgl.1) ?_
          refine xA.imul rfl rfl ?_
          refine xA.topi (n2 _) ?_
          refine xA.iload_n (i := 1) rfl rfl rfl rfl ?_
          refine xA.iast rfl rfl (vp_in_nI (by omega) (by omega)) rfl ?_
          rw [nI_clamp (by omega)]
          refine xA.aload_n (i := 0) rfl rfl rfl rfl ?_
          refine xA.getR rfl f10_61 rfl rfl rfl rfl ?_
          refine xA.iconst (v := 2) rfl (by decide) rfl ?_
          refine xA.aload_n (i := 0) rfl rfl rfl rfl ?_
          refine xA.getI rfl f10_162 rfl rfl rfl ?_
          refine xA.topi (((xu_ne1 (by omega)).trans hgl.1)) ?_
          refine xA.imul rfl rfl ?_
          refine xA.topi (n2 _) ?_
          refine xA.iconst (v := 1) rfl (by decide) rfl ?_
          refine xA.iadd rfl rfl ?_
          refine xA.topi (nI_1 _) ?_
          refine xA.iload_n (i := 2) rfl rfl rfl rfl ?_
          refine xA.iast rfl rfl (vp_in_nI (by omega) (by omega)) rfl ?_
          rw [nI_clamp (by omega)]
          refine xA.aload_n (i := 0) rfl rfl rfl rfl ?_
          refine xA.dup rfl rfl rfl ?_
          refine xA.getI rfl f10_162 rfl rfl rfl ?_
          refine xA.topi (((xu_ne1 (by omega)).trans ((xu_ne1 (by omega)).trans hgl.1))) ?_
          refine xA.iconst (v := 1) rfl (by decide) rfl ?_
          refine xA.iadd rfl rfl ?_
          refine xA.topi (nI_1 _) ?_
          refine xA.putI rfl p10_162 rfl rfl rfl ?_
          refine xA.aload_n (i := 0) rfl rfl rfl rfl ?_
          refine xA.getI rfl f10_162 rfl rfl rfl ?_
          refine xA.topi (xu_same) ?_
          have off : ∀ j, ¬ j = 54 → ¬ j = 72 → (xu (xu (xu S 72 (2 * (sGl s).1) (nI mm)) 72 (2 * (sGl s).1 + 1) (nI rr)) 54 34 (nI ((sGl s).1 + 1))) j = S j := fun j h1 h2 => by rw [xu_c h1, xu_c h2, xu_c h2]
          have offF : ∀ f2, ¬ f2 = 34 → (xu (xu (xu S 72 (2 * (sGl s).1) (nI mm)) 72 (2 * (sGl s).1 + 1) (nI rr)) 54 34 (nI ((sGl s).1 + 1))) 54 f2 = S 54 f2 := fun f2 h1 => by rw [xu_ne2 h1, xu_ne1 (by omega), xu_ne1 (by omega)]
          exact xA.iret rfl rfl rfl ⟨(xu (xu (xu S 72 (2 * (sGl s).1) (nI mm)) 72 (2 * (sGl s).1 + 1) (nI rr)) 54 34 (nI ((sGl s).1 + 1))), G, rfl, by rw [aGlimpse, if_pos h9, if_pos h19, if_neg h29, if_neg e41], by
            rw [tGlimpse, if_pos ⟨h9, h19, h29, e41⟩, hcm, hcr]
            refine ⟨hpg.to (offF 1 (by omega)) (off 55 (by omega) (by omega)), hho.to (fun f2 a b => offF f2 (by omega)) (fun j a b => off j (by omega) (by omega)), hpp.to (offF 21 (by omega)) (fun j a b => off j (by omega) (by omega)), ⟨(offF 31 (by omega)).trans htk.1, htk.2.to (off 71 (by omega) (by omega))⟩, ⟨xu_same, (show (sGl s).1 + 1 ≤ 8 by omega), fun i hi => ?_⟩, ⟨(offF 33 (by omega)).trans hsd.1, hsd.2⟩, him.to (fun f2 a b => offF f2 (by omega)) (fun j a b => off j (by omega) (by omega)), fun z => absurd z h29⟩
            have hi6 : i < (sGl s).1 + 1 := hi
            show (xu (xu (xu S 72 (2 * (sGl s).1) (nI mm)) 72 (2 * (sGl s).1 + 1) (nI rr)) 54 34 (nI ((sGl s).1 + 1))) 72 (2 * i) = nI (nu (sGl s).2 (sGl s).1 (mm * 6 + rr) i / 6) ∧ (xu (xu (xu S 72 (2 * (sGl s).1) (nI mm)) 72 (2 * (sGl s).1 + 1) (nI rr)) 54 34 (nI ((sGl s).1 + 1))) 72 (2 * i + 1) = nI (nu (sGl s).2 (sGl s).1 (mm * 6 + rr) i % 6) ∧ nu (sGl s).2 (sGl s).1 (mm * 6 + rr) i < 360
            by_cases e : i = (sGl s).1
            · subst e
              simp only [nu, if_true]
              refine ⟨?_, ?_, by omega⟩
              · rw [xu_ne1 (by omega), xu_ne2 (by omega), xu_same]; congr 1; omega
              · rw [xu_ne1 (by omega), xu_same]; congr 1; omega
            · have := hgl.2.2 i (by omega)
              simp only [nu, if_neg e]
              exact ⟨by rw [xu_ne1 (by omega), xu_ne2 (by omega), xu_ne2 (by omega)]; exact this.1, by rw [xu_ne1 (by omega), xu_ne2 (by omega), xu_ne2 (by omega)]; exact this.2.1, this.2.2⟩, fun j hj => off j (by omega) (by omega)⟩
        · have e41 : (sGl s).1 = 8 := (nI_eq (b := 8) (by have := hgl.2.1; omega) (by omega)).mp h41
          refine xA.bipush (v := (-104)) rfl (by decide) rfl ?_
          exact xA.iret rfl rfl rfl ⟨S, G, rfl, by rw [aGlimpse, if_pos h9, if_pos h19, if_neg h29, if_pos e41], by rw [tGlimpse, if_neg (fun q => q.2.2.2 e41)]; exact hc0, fun _ _ => rfl⟩
      · rw [xb_ne0, mlk hho] at h29
        refine xA.bipush (v := (-103)) rfl (by decide) rfl ?_
        exact xA.iret rfl rfl rfl ⟨S, G, rfl, by rw [aGlimpse, if_pos h9, if_pos h19, if_pos h29], by rw [tGlimpse, if_neg (fun q => q.2.2.1 h29)]; exact hc0, fun _ _ => rfl⟩
    · rw [xb_eq0] at h19
      refine xA.bipush (v := (-101)) rfl (by decide) rfl ?_
      exact xA.iret rfl rfl rfl ⟨S, G, rfl, by rw [aGlimpse, if_pos h9, if_neg h19], by rw [tGlimpse, if_neg (fun q => h19 q.2.1)]; exact hc0, fun _ _ => rfl⟩
  · rw [xb_eq0] at h9
    refine xA.bipush (v := (-102)) rfl (by decide) rfl ?_
    exact xA.iret rfl rfl rfl ⟨S, G, rfl, by rw [aGlimpse, if_neg h9], by rw [tGlimpse, if_neg (fun q => h9 q.1)]; exact hc0, fun _ _ => rfl⟩

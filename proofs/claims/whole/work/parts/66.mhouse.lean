/-! ===== the reference: fault, house ===== -/
/-- two rows cleared so far -/
def zd (S : Nat → Nat → Int32) (i : Nat) : Nat → Nat → Int32 := fun j q => if (j = 56 ∨ j = 57) ∧ q < i then 0 else S j q
theorem zd_off {S : Nat → Nat → Int32} {i j : Nat} (h : ¬ (j = 56 ∨ j = 57)) : zd S i j = S j := by funext q; unfold zd; rw [if_neg (fun z => h z.1)]
theorem zd_in {S : Nat → Nat → Int32} {i j q : Nat} (h : j = 56 ∨ j = 57) (hq : q < i) : zd S i j q = 0 := by unfold zd; rw [if_pos ⟨h, hq⟩]
theorem zd_0 {S : Nat → Nat → Int32} : zd S 0 = S := by funext j q; unfold zd; rw [if_neg (fun z => absurd z.2 (Nat.not_lt_zero _))]
theorem zd_s {S : Nat → Nat → Int32} {i : Nat} : xu (xu (zd S i) 56 i 0) 57 i 0 = zd S (i + 1) := by
  funext j q
  by_cases e7 : j = 56 ∨ j = 57
  · by_cases eq : q = i
    · subst eq
      rw [zd_in e7 (by omega)]
      rcases e7 with e | e
      · subst e; rw [xu_ne1 (by omega), xu_same]
      · subst e; rw [xu_same]
    · rw [xu_ne2 eq, xu_ne2 eq]
      unfold zd
      by_cases e3 : q < i
      · rw [if_pos ⟨e7, e3⟩, if_pos ⟨e7, by omega⟩]
      · rw [if_neg (fun z => e3 z.2), if_neg (fun z => by have := z.2; omega)]
  · rw [xu_ne1 (by omega), xu_ne1 (by omega), zd_off e7, zd_off e7]
theorem zd_fr {S : Nat → Nat → Int32} {i : Nat} : frH S (zd S i) := ⟨fun j a b => zd_off (by omega), fun f a => congrFun (zd_off (by omega)) f⟩
theorem MH0 {S : Nat → Nat → Int32} : MH (xu (xu (xu (zd S 6) 54 6 0) 54 7 0) 54 11 0) h0 := by
  refine ⟨xu_same, ?_, ?_, fun z => absurd z (by show ¬ 4 ≤ 0; omega), fun z => absurd z (by show ¬ 5 ≤ 0; omega), fun z => absurd z (by show ¬ (0 = 1 ∨ 0 = 7); omega), fun a ha => ⟨0, by omega, ?_, fun b hb => ?_⟩, fun a ha => ?_, fun j hj => absurd hj (Nat.not_lt_zero _)⟩
  · rw [xu_ne2 (by omega), xu_ne2 (by omega), xu_same]; rfl
  · rw [xu_ne2 (by omega), xu_same]; rfl
  · rw [xu_c (by omega), xu_c (by omega), xu_c (by omega), zd_in (Or.inl rfl) ha]; rfl
  · rw [Nat.zero_testBit]; exact ⟨fun z => absurd z (by decide), fun z => absurd rfl z⟩
  · rw [xu_c (by omega), xu_c (by omega), xu_c (by omega), zd_in (Or.inr rfl) ha]; rfl

set_option maxRecDepth 100000 in
set_option maxHeartbeats 1000000 in
theorem c_X10_houseFault (d : Nat) (S : Nat → Nat → Int32) (G : Nat → Nat → Int64) (pg : Nat → Nat) (n : Nat) (hp : mgP S pg n) : xC (d + 3) mX10_houseFault [.ref 54] (σF, S, G) 0 0 (fun r h' => ∃ S', h' = (σF, S', G) ∧ frH S S' ∧ r = some (.int (nI (fpl (hgo pg) n))) ∧ ∀ h, hrun pg n = some h → MH S' h) := by
  have hn45 := hp.2.1
  refine xC.of okX10_houseFault (Nat.le_of_ble_eq_true rfl) (L := [_, _]) rfl ?_
  have loop : ∀ i, i ≤ n → ∀ (S1 : Nat → Nat → Int32) (h : hS), frH S S1 → hrun pg i = some h → MH S1 h → pre (hgo pg) i = true → xA none (d + 3) mX10_houseFault 0 0 0 0 45 [some (.ref 54), some (.int (nI i))] [] (σF, S1, G) (fun r h' => ∃ S', h' = (σF, S', G) ∧ frH S S' ∧ r = some (.int (nI (fpl (hgo pg) n))) ∧ ∀ h, hrun pg n = some h → MH S' h) := by
    refine xloop n (fun i hi ih => ?_) ?_
    · intro S1 h hf hr hm hpr
      refine xA.iload_n (i := 1) rfl rfl rfl rfl ?_
      refine xA.aload_n (i := 0) rfl rfl rfl rfl ?_
      refine xA.getI rfl f10_91 rfl rfl rfl ?_
      refine xA.topi (((hf.2 1 (by omega)).trans hp.1)) ?_
      refine xA.icmp_ge (tgt := 72) rfl rfl rfl (fun h50 => ?_) (fun h50 => ?_)
      · exact absurd h50 (nI_ge hi (by omega))
      · refine xA.aload_n (i := 0) rfl rfl rfl rfl ?_
        refine xA.aload_n (i := 0) rfl rfl rfl rfl ?_
        refine xA.getR rfl f10_7 rfl rfl rfl rfl ?_
        refine xA.iload_n (i := 1) rfl rfl rfl rfl ?_
        refine xA.iald rfl rfl (vp_in_nI (by omega) (by omega)) rfl ?_
        refine xA.topi ((show S1 55 (nI i).toNatClampNeg = nI (pg i) from by rw [nI_clamp (by omega), hf.1 55 (by omega) (by omega)]; exact hp.2.2.1 i hi)) ?_
        refine xA.callV (As := [_]) (h := (σF, _, _)) rfl k10_127 okX10_goHouse rfl rfl rfl rfl (Nat.le_of_ble_eq_true rfl) (c_X10_goHouse d _ G h (hrok pg i h hr) hm (pg i) (hp.2.2.2 i hi)) (Nat.le_refl _) (Nat.le_refl _) rfl rfl ?_
        rintro r9 h9 ⟨S2, rfl, hf2, ⟨hno, rfl⟩ | ⟨h2, hsm, rfl, hm2⟩⟩
        · skip
          refine xA.if_eq (tgt := 72) rfl rfl rfl (fun h63 => ?_) (fun h63 => ?_)
          · refine xA.iload_n (i := 1) rfl rfl rfl rfl ?_
            have e := fpl_at hi hpr (hgo_f hr hno)
            exact xA.iret rfl rfl rfl ⟨S2, rfl, hf.trans hf2, by rw [e], fun z hz => absurd (hrun_dead (hgo_f hr hno) hi) (by rw [hz]; simp)⟩
          · exact absurd rfl h63
        · skip
          refine xA.if_eq (tgt := 72) rfl rfl rfl (fun h63 => ?_) (fun h63 => ?_)
          · exact absurd h63 (by decide)
          · refine xA.iinc (L' := [_, _]) rfl rfl (nI_1 i) rfl rfl ?_
            refine xA.goto (q := 45) rfl rfl ?_
            exact ih S2 h2 (hf.trans hf2) (hgo_t hr hsm).2 hm2 (pre_succ hpr (hgo_t hr hsm).1)
    · intro S1 h hf hr hm hpr
      refine xA.iload_n (i := 1) rfl rfl rfl rfl ?_
      refine xA.aload_n (i := 0) rfl rfl rfl rfl ?_
      refine xA.getI rfl f10_91 rfl rfl rfl ?_
      refine xA.topi (((hf.2 1 (by omega)).trans hp.1)) ?_
      refine xA.icmp_ge (tgt := 72) rfl rfl rfl (fun h50 => ?_) (fun h50 => ?_)
      · refine xA.iload_n (i := 1) rfl rfl rfl rfl ?_
        exact xA.iret rfl rfl rfl ⟨S1, rfl, hf, by rw [fpl_all hpr], fun z hz => by rw [hr] at hz; cases hz; exact hm⟩
      · exact absurd (nI_le (Nat.le_refl _) (by omega)) h50
  have clr : ∀ i, i ≤ 6 → xA none (d + 3) mX10_houseFault 0 0 0 0 2 [some (.ref 54), some (.int (nI i))] [] (σF, zd S i, G) (fun r h' => ∃ S', h' = (σF, S', G) ∧ frH S S' ∧ r = some (.int (nI (fpl (hgo pg) n))) ∧ ∀ h, hrun pg n = some h → MH S' h) := by
    refine xloop 6 (fun i hi ih => ?_) ?_
    · skip
      refine xA.iload_n (i := 1) rfl rfl rfl rfl ?_
      refine xA.bipush (v := 6) rfl (by decide) rfl ?_
      refine xA.icmp_ge (tgt := 28) rfl rfl rfl (fun h5 => ?_) (fun h5 => ?_)
      · exact absurd h5 (nI_ge (b := 6) hi (by omega))
      · refine xA.aload_n (i := 0) rfl rfl rfl rfl ?_
        refine xA.getR rfl f10_13 rfl rfl rfl rfl ?_
        refine xA.iload_n (i := 1) rfl rfl rfl rfl ?_
        refine xA.iconst (v := 0) rfl (by decide) rfl ?_
        refine xA.iast rfl rfl (vp_in_nI (by omega) (by omega)) rfl ?_
        rw [nI_clamp (by omega)]
        refine xA.aload_n (i := 0) rfl rfl rfl rfl ?_
        refine xA.getR rfl f10_16 rfl rfl rfl rfl ?_
        refine xA.iload_n (i := 1) rfl rfl rfl rfl ?_
        refine xA.iconst (v := 0) rfl (by decide) rfl ?_
        refine xA.iast rfl rfl (vp_in_nI (by omega) (by omega)) rfl ?_
        rw [nI_clamp (by omega)]
        refine xA.iinc (L' := [_, _]) rfl rfl (nI_1 i) rfl rfl ?_
        refine xA.goto (q := 2) rfl rfl ?_
        refine xA.store zd_s ?_
        exact ih
    · skip
      refine xA.iload_n (i := 1) rfl rfl rfl rfl ?_
      refine xA.bipush (v := 6) rfl (by decide) rfl ?_
      refine xA.icmp_ge (tgt := 28) rfl rfl rfl (fun h5 => ?_) (fun h5 => ?_)
      · refine xA.aload_n (i := 0) rfl rfl rfl rfl ?_
        refine xA.iconst (v := 0) rfl (by decide) rfl ?_
        refine xA.putI rfl p10_103 rfl rfl rfl ?_
        refine xA.aload_n (i := 0) rfl rfl rfl rfl ?_
        refine xA.iconst (v := 0) rfl (by decide) rfl ?_
        refine xA.putI rfl p10_106 rfl rfl rfl ?_
        refine xA.aload_n (i := 0) rfl rfl rfl rfl ?_
        refine xA.iconst (v := 0) rfl (by decide) rfl ?_
        refine xA.putI rfl p10_109 rfl rfl rfl ?_
        refine xA.iconst (v := 0) rfl (by decide) rfl ?_
        refine xA.istore_n (i := 1) (L' := [_, _]) rfl rfl (Nat.le_of_ble_eq_true rfl) rfl rfl ?_
        exact loop 0 (Nat.zero_le _) _ h0 (((zd_fr.f (by omega)).f (by omega)).f (by omega)) rfl MH0 rfl
      · exact absurd (nI_le (a := 6) (b := 6) (Nat.le_refl _) (by omega)) h5
  refine xA.iconst (v := 0) rfl (by decide) rfl ?_
  refine xA.istore_n (i := 1) (L' := [_, _]) rfl rfl (Nat.le_of_ble_eq_true rfl) rfl rfl ?_
  refine xA.store (S' := zd S 0) zd_0.symm ?_
  exact clr 0 (Nat.zero_le _)
set_option maxRecDepth 100000 in
set_option maxHeartbeats 1000000 in
theorem m_fault (d : Nat) (s : sS) (x : Int32) : opM (d + 4) mX10_fault [.ref 54, .int x] s (.int (aFault s x)) (s) := by
  intro S G hc
  have hc0 := hc
  obtain ⟨hpg, hho, hpp, htk, hgl, hsd, him, hno⟩ := hc
  refine xC.of okX10_fault (Nat.le_of_ble_eq_true rfl) (L := [_, _]) rfl ?_
  refine xA.iload_n (i := 1) rfl rfl rfl rfl ?_
  refine xA.if_ne (tgt := 11) rfl rfl rfl (fun h1 => ?_) (fun h1 => ?_)
  · refine xA.iload_n (i := 1) rfl rfl rfl rfl ?_
    refine xA.iconst (v := 1) rfl (by decide) rfl ?_
    refine xA.icmp_ne (tgt := 23) rfl rfl rfl (fun h13 => ?_) (fun h13 => ?_)
    · refine xA.bipush (v := (-102)) rfl (by decide) rfl ?_
      first
        | exact xA.iret rfl rfl rfl ⟨S2, G, rfl, by rw [aFault, if_pos h1], frH.ms hc0 hf2, fun j hj => hf2.1 j (by omega) (by omega)⟩
        | exact xA.iret rfl rfl rfl ⟨S, G, rfl, by rw [aFault, if_neg h1, if_pos h13], hc0, fun _ _ => rfl⟩
        | exact xA.iret rfl rfl rfl ⟨S, G, rfl, by rw [aFault, if_neg h1, if_neg h13], hc0, fun _ _ => rfl⟩
    · refine xA.aload_n (i := 0) rfl rfl rfl rfl ?_
      refine xA.callVi (As := []) rfl k10_144 okX10_lifeFault rfl rfl rfl rfl (Nat.le_of_ble_eq_true rfl) (c_X10_lifeFault (d + 1) _ G (sPg s) (sN s) hpg) rfl rfl ?_
      refine xA.goto (q := 25) rfl rfl ?_
      first
        | exact xA.iret rfl rfl rfl ⟨S2, G, rfl, by rw [aFault, if_pos h1], frH.ms hc0 hf2, fun j hj => hf2.1 j (by omega) (by omega)⟩
        | exact xA.iret rfl rfl rfl ⟨S, G, rfl, by rw [aFault, if_neg h1, if_pos h13], hc0, fun _ _ => rfl⟩
        | exact xA.iret rfl rfl rfl ⟨S, G, rfl, by rw [aFault, if_neg h1, if_neg h13], hc0, fun _ _ => rfl⟩
  · refine xA.aload_n (i := 0) rfl rfl rfl rfl ?_
    refine xA.callV (As := []) (h := (σF, _, _)) rfl k10_140 okX10_houseFault rfl rfl rfl rfl (Nat.le_of_ble_eq_true rfl) (c_X10_houseFault d _ G (sPg s) (sN s) hpg) (Nat.le_refl _) (Nat.le_refl _) rfl rfl ?_
    rintro r9 h9 ⟨S2, rfl, hf2, rfl, hm2⟩
    refine xA.goto (q := 25) rfl rfl ?_
    first
      | exact xA.iret rfl rfl rfl ⟨S2, G, rfl, by rw [aFault, if_pos h1], frH.ms hc0 hf2, fun j hj => hf2.1 j (by omega) (by omega)⟩
      | exact xA.iret rfl rfl rfl ⟨S, G, rfl, by rw [aFault, if_neg h1, if_pos h13], hc0, fun _ _ => rfl⟩
      | exact xA.iret rfl rfl rfl ⟨S, G, rfl, by rw [aFault, if_neg h1, if_neg h13], hc0, fun _ _ => rfl⟩
/-- two rows copied so far, four cells on -/
def cp2 (S : Nat → Nat → Int32) (b i : Nat) : Nat → Nat → Int32 := fun j q => if (j = b ∨ j = b + 1) ∧ q < i then S (j - 4) q else S j q
theorem cp2_off {S : Nat → Nat → Int32} {b i j : Nat} (h : ¬ (j = b ∨ j = b + 1)) : cp2 S b i j = S j := by funext q; unfold cp2; rw [if_neg (fun z => h z.1)]
theorem cp2_in {S : Nat → Nat → Int32} {b i j q : Nat} (h : j = b ∨ j = b + 1) (hq : q < i) : cp2 S b i j q = S (j - 4) q := by unfold cp2; rw [if_pos ⟨h, hq⟩]
theorem cp2_0 {S : Nat → Nat → Int32} {b : Nat} : cp2 S b 0 = S := by funext j q; unfold cp2; rw [if_neg (fun z => absurd z.2 (Nat.not_lt_zero _))]
theorem cp2_s {S : Nat → Nat → Int32} {a b c e i : Nat} (hb : a = b - 4) (hc : c = b + 1) (he : e = c - 4) : xu (xu (cp2 S b i) b i (S a i)) c i (S e i) = cp2 S b (i + 1) := by
  subst hb; subst hc; subst he
  funext j q
  by_cases e7 : j = b ∨ j = b + 1
  · by_cases eq : q = i
    · subst eq
      rw [cp2_in e7 (by omega)]
      rcases e7 with e | e
      · subst e; rw [xu_ne1 (by omega), xu_same]
      · subst e; rw [xu_same]
    · rw [xu_ne2 eq, xu_ne2 eq]
      unfold cp2
      by_cases e3 : q < i
      · rw [if_pos ⟨e7, e3⟩, if_pos ⟨e7, by omega⟩]
      · rw [if_neg (fun z => e3 z.2), if_neg (fun z => by have := z.2; omega)]
  · rw [xu_ne1 (by omega), xu_ne1 (by omega), cp2_off e7, cp2_off e7]

set_option maxRecDepth 100000 in
set_option maxHeartbeats 2000000 in
theorem ho_copy (d : Nat) (S S2 : Nat → Nat → Int32) (G : Nat → Nat → Int64) (s : sS) (hc : MS S s) (h6 : sHr s < 600) (hf2 : frH S S2) (h : hS) (ho : hOk h) (hm2 : MH S2 h) (hst : hSt h = 5 ∨ hSt h = 8) (hrdE : hrd (sPg s) (sN s) = some h) : xA none (d + 4) mX10_house 0 0 0 0 33 [some (.ref 54), some (.int 0)] [] (σF, S2, G) (fun r h' => ∃ S' G', h' = (σF, S', G') ∧ r = some (.int (aHouse s)) ∧ MS S' (tHouse s) ∧ ∀ j, j < 54 → S' j = S j) := by
  have hc0 := hc
  obtain ⟨hpg, hho, hpp, htk, hgl, hsd, him, hno⟩ := hc
  have lp2 : ∀ i, i ≤ 10 → xA none (d + 4) mX10_house 0 0 0 0 71 [some (.ref 54), some (.int (nI i))] [] (σF, (cp2 (cp2 S2 60 6) 62 i), G) (fun r h' => ∃ S' G', h' = (σF, S', G') ∧ r = some (.int (aHouse s)) ∧ MS S' (tHouse s) ∧ ∀ j, j < 54 → S' j = S j) := by
    refine xloop 10 (fun i hi ih => ?_) ?_
    · skip
      refine xA.iload_n (i := 1) rfl rfl rfl rfl ?_
      refine xA.bipush (v := 10) rfl (by decide) rfl ?_
      refine xA.icmp_ge (tgt := 107) rfl rfl rfl (fun h74 => ?_) (fun h74 => ?_)
      · exact absurd h74 (nI_ge (b := 10) hi (by omega))
      · refine xA.aload_n (i := 0) rfl rfl rfl rfl ?_
        refine xA.getR rfl f10_31 rfl rfl rfl rfl ?_
        refine xA.iload_n (i := 1) rfl rfl rfl rfl ?_
        refine xA.aload_n (i := 0) rfl rfl rfl rfl ?_
        refine xA.getR rfl f10_19 rfl rfl rfl rfl ?_
        refine xA.iload_n (i := 1) rfl rfl rfl rfl ?_
        refine xA.iald rfl rfl (vp_in_nI (by omega) (by omega)) rfl ?_
        refine xA.topi ((show (cp2 (cp2 S2 60 6) 62 i) 58 (nI i).toNatClampNeg = (cp2 S2 60 6) 58 i from by rw [nI_clamp (by omega), cp2_off (by omega)])) ?_
        refine xA.iast rfl rfl (vp_in_nI (by omega) (by omega)) rfl ?_
        rw [nI_clamp (by omega)]
        refine xA.aload_n (i := 0) rfl rfl rfl rfl ?_
        refine xA.getR rfl f10_34 rfl rfl rfl rfl ?_
        refine xA.iload_n (i := 1) rfl rfl rfl rfl ?_
        refine xA.aload_n (i := 0) rfl rfl rfl rfl ?_
        refine xA.getR rfl f10_22 rfl rfl rfl rfl ?_
        refine xA.iload_n (i := 1) rfl rfl rfl rfl ?_
        refine xA.iald rfl rfl (vp_in_nI (by omega) (by omega)) rfl ?_
        refine xA.topi ((show xu (cp2 (cp2 S2 60 6) 62 i) 62 i ((cp2 S2 60 6) 58 i) 59 (nI i).toNatClampNeg = (cp2 S2 60 6) 59 i from by rw [nI_clamp (by omega), xu_c (by omega), cp2_off (by omega)])) ?_
        refine xA.iast rfl rfl (vp_in_nI (by omega) (by omega)) rfl ?_
        rw [nI_clamp (by omega)]
        refine xA.iinc (L' := [_, _]) rfl rfl (nI_1 i) rfl rfl ?_
        refine xA.goto (q := 71) rfl rfl ?_
        refine xA.store (cp2_s rfl rfl rfl) ?_
        exact ih
    · skip
      refine xA.iload_n (i := 1) rfl rfl rfl rfl ?_
      refine xA.bipush (v := 10) rfl (by decide) rfl ?_
      refine xA.icmp_ge (tgt := 107) rfl rfl rfl (fun h74 => ?_) (fun h74 => ?_)
      · refine xA.aload_n (i := 0) rfl rfl rfl rfl ?_
        refine xA.aload_n (i := 0) rfl rfl rfl rfl ?_
        refine xA.getI rfl f10_103 rfl rfl rfl ?_
        refine xA.topi ((show (cp2 (cp2 S2 60 6) 62 10) 54 6 = nI (hNd h) from by rw [cp2_off (by omega), cp2_off (by omega)]; exact hm2.2.1)) ?_
        refine xA.putI rfl p10_147 rfl rfl rfl ?_
        refine xA.aload_n (i := 0) rfl rfl rfl rfl ?_
        refine xA.aload_n (i := 0) rfl rfl rfl rfl ?_
        refine xA.getI rfl f10_106 rfl rfl rfl ?_
        refine xA.topi (((xu_ne2 (by omega)).trans (show (cp2 (cp2 S2 60 6) 62 10) 54 7 = nI (hNs h) from by rw [cp2_off (by omega), cp2_off (by omega)]; exact hm2.2.2.1))) ?_
        refine xA.putI rfl p10_150 rfl rfl rfl ?_
        refine xA.aload_n (i := 0) rfl rfl rfl rfl ?_
        refine xA.aload_n (i := 0) rfl rfl rfl rfl ?_
        refine xA.getI rfl f10_116 rfl rfl rfl ?_
        refine xA.topi (((xu_ne2 (by omega)).trans ((xu_ne2 (by omega)).trans (show (cp2 (cp2 S2 60 6) 62 10) 54 8 = nI (hLo h) from by rw [cp2_off (by omega), cp2_off (by omega)]; exact hm2.2.2.2.1 (by omega))))) ?_
        refine xA.putI rfl p10_86 rfl rfl rfl ?_
        refine xA.aload_n (i := 0) rfl rfl rfl rfl ?_
        refine xA.aload_n (i := 0) rfl rfl rfl rfl ?_
        refine xA.getI rfl f10_119 rfl rfl rfl ?_
        refine xA.topi (((xu_ne2 (by omega)).trans ((xu_ne2 (by omega)).trans ((xu_ne2 (by omega)).trans (show (cp2 (cp2 S2 60 6) 62 10) 54 9 = nI (hBa h) from by rw [cp2_off (by omega), cp2_off (by omega)]; exact hm2.2.2.2.2.1 (by omega)))))) ?_
        refine xA.putI rfl p10_153 rfl rfl rfl ?_
        refine xA.aload_n (i := 0) rfl rfl rfl rfl ?_
        refine xA.iconst (v := 0) rfl (by decide) rfl ?_
        refine xA.putI rfl p10_156 rfl rfl rfl ?_
        refine xA.aload_n (i := 0) rfl rfl rfl rfl ?_
        refine xA.iconst (v := 0) rfl (by decide) rfl ?_
        refine xA.putI rfl p10_159 rfl rfl rfl ?_
        refine xA.aload_n (i := 0) rfl rfl rfl rfl ?_
        refine xA.iconst (v := 0) rfl (by decide) rfl ?_
        refine xA.putI rfl p10_162 rfl rfl rfl ?_
        refine xA.aload_n (i := 0) rfl rfl rfl rfl ?_
        refine xA.dup rfl rfl rfl ?_
        refine xA.getI rfl f10_165 rfl rfl rfl ?_
        refine xA.topi (((xu_ne2 (by omega)).trans ((xu_ne2 (by omega)).trans ((xu_ne2 (by omega)).trans ((xu_ne2 (by omega)).trans ((xu_ne2 (by omega)).trans ((xu_ne2 (by omega)).trans ((xu_ne2 (by omega)).trans (show (cp2 (cp2 S2 60 6) 62 10) 54 16 = nI (sHr s) from by rw [cp2_off (by omega), cp2_off (by omega)]; exact (hf2.2 16 (by omega)).trans hho.1))))))))) ?_
        refine xA.iconst (v := 1) rfl (by decide) rfl ?_
        refine xA.iadd rfl rfl ?_
        refine xA.topi (nI_1 _) ?_
        refine xA.putI rfl p10_165 rfl rfl rfl ?_
        refine xA.aload_n (i := 0) rfl rfl rfl rfl ?_
        refine xA.iconst (v := 0) rfl (by decide) rfl ?_
        refine xA.putI rfl p10_91 rfl rfl rfl ?_
        refine xA.aload_n (i := 0) rfl rfl rfl rfl ?_
        refine xA.getI rfl f10_147 rfl rfl rfl ?_
        refine xA.topi (((xu_ne2 (by omega)).trans ((xu_ne2 (by omega)).trans ((xu_ne2 (by omega)).trans ((xu_ne2 (by omega)).trans ((xu_ne2 (by omega)).trans ((xu_ne2 (by omega)).trans ((xu_ne2 (by omega)).trans ((xu_ne2 (by omega)).trans xu_same))))))))) ?_
        have cC : ∀ j, ¬ j = 54 → (xu (xu (xu (xu (xu (xu (xu (xu (xu (cp2 (cp2 S2 60 6) 62 10) 54 12 (nI (hNd h))) 54 13 (nI (hNs h))) 54 14 (nI (hLo h))) 54 15 (nI (hBa h))) 54 21 0) 54 31 0) 54 34 0) 54 16 (nI (sHr s + 1))) 54 1 0) j = (cp2 (cp2 S2 60 6) 62 10) j := fun j h1 => by rw [xu_c h1, xu_c h1, xu_c h1, xu_c h1, xu_c h1, xu_c h1, xu_c h1, xu_c h1, xu_c h1]
        have off : ∀ j, ¬ j = 54 → ¬ (56 ≤ j ∧ j < 64) → (xu (xu (xu (xu (xu (xu (xu (xu (xu (cp2 (cp2 S2 60 6) 62 10) 54 12 (nI (hNd h))) 54 13 (nI (hNs h))) 54 14 (nI (hLo h))) 54 15 (nI (hBa h))) 54 21 0) 54 31 0) 54 34 0) 54 16 (nI (sHr s + 1))) 54 1 0) j = S j := fun j h1 h2 => by rw [cC j h1, cp2_off (by omega), cp2_off (by omega)]; exact hf2.1 j h1 (by omega)
        have offF : ∀ f, ¬ f = 1 → ¬ (6 ≤ f ∧ f < 17) → ¬ f = 21 → ¬ f = 31 → ¬ f = 34 → (xu (xu (xu (xu (xu (xu (xu (xu (xu (cp2 (cp2 S2 60 6) 62 10) 54 12 (nI (hNd h))) 54 13 (nI (hNs h))) 54 14 (nI (hLo h))) 54 15 (nI (hBa h))) 54 21 0) 54 31 0) 54 34 0) 54 16 (nI (sHr s + 1))) 54 1 0) 54 f = S 54 f := fun f h1 h2 h3 h4 h5 => by rw [xu_ne2 h1, xu_ne2 (by omega), xu_ne2 h5, xu_ne2 h4, xu_ne2 h3, xu_ne2 (by omega), xu_ne2 (by omega), xu_ne2 (by omega), xu_ne2 (by omega), cp2_off (by omega), cp2_off (by omega)]; exact hf2.2 f (by omega)
        have e60 : ∀ a, a < 6 → (xu (xu (xu (xu (xu (xu (xu (xu (xu (cp2 (cp2 S2 60 6) 62 10) 54 12 (nI (hNd h))) 54 13 (nI (hNs h))) 54 14 (nI (hLo h))) 54 15 (nI (hBa h))) 54 21 0) 54 31 0) 54 34 0) 54 16 (nI (sHr s + 1))) 54 1 0) 60 a = S2 56 a := fun a ha => by rw [cC 60 (by omega), cp2_off (by omega), cp2_in (Or.inl rfl) ha]
        have e61 : ∀ a, a < 6 → (xu (xu (xu (xu (xu (xu (xu (xu (xu (cp2 (cp2 S2 60 6) 62 10) 54 12 (nI (hNd h))) 54 13 (nI (hNs h))) 54 14 (nI (hLo h))) 54 15 (nI (hBa h))) 54 21 0) 54 31 0) 54 34 0) 54 16 (nI (sHr s + 1))) 54 1 0) 61 a = S2 57 a := fun a ha => by rw [cC 61 (by omega), cp2_off (by omega), cp2_in (Or.inr rfl) ha]
        have e62 : ∀ a, a < 10 → (xu (xu (xu (xu (xu (xu (xu (xu (xu (cp2 (cp2 S2 60 6) 62 10) 54 12 (nI (hNd h))) 54 13 (nI (hNs h))) 54 14 (nI (hLo h))) 54 15 (nI (hBa h))) 54 21 0) 54 31 0) 54 34 0) 54 16 (nI (sHr s + 1))) 54 1 0) 62 a = S2 58 a := fun a ha => by rw [cC 62 (by omega), cp2_in (Or.inl rfl) ha]; exact congrFun (cp2_off (by omega)) a
        have e63 : ∀ a, a < 10 → (xu (xu (xu (xu (xu (xu (xu (xu (xu (cp2 (cp2 S2 60 6) 62 10) 54 12 (nI (hNd h))) 54 13 (nI (hNs h))) 54 14 (nI (hLo h))) 54 15 (nI (hBa h))) 54 21 0) 54 31 0) 54 34 0) 54 16 (nI (sHr s + 1))) 54 1 0) 63 a = S2 59 a := fun a ha => by rw [cC 63 (by omega), cp2_in (Or.inr rfl) ha]; exact congrFun (cp2_off (by omega)) a
        have hn10 := ho.2.1
        exact xA.iret rfl rfl rfl ⟨(xu (xu (xu (xu (xu (xu (xu (xu (xu (cp2 (cp2 S2 60 6) 62 10) 54 12 (nI (hNd h))) 54 13 (nI (hNs h))) 54 14 (nI (hLo h))) 54 15 (nI (hBa h))) 54 21 0) 54 31 0) 54 34 0) 54 16 (nI (sHr s + 1))) 54 1 0), G, rfl, by simp only [aHouse, hrdE], by
          simp only [tHouse, hrdE]
          refine ⟨⟨xu_same, by show 0 ≤ 45; omega, fun i hi => absurd hi (Nat.not_lt_zero _), fun i hi => absurd hi (Nat.not_lt_zero _)⟩, ⟨((xu_ne2 (by omega)).trans xu_same), (show sHr s + 1 ≤ 600 by omega), fun z => absurd z (by show ¬ sHr s + 1 = 0; omega), fun _ => ⟨⟨ho, by show 5 ≤ hSt h; omega⟩, hst, ((xu_ne2 (by omega)).trans ((xu_ne2 (by omega)).trans ((xu_ne2 (by omega)).trans ((xu_ne2 (by omega)).trans ((xu_ne2 (by omega)).trans ((xu_ne2 (by omega)).trans ((xu_ne2 (by omega)).trans ((xu_ne2 (by omega)).trans xu_same)))))))), ((xu_ne2 (by omega)).trans ((xu_ne2 (by omega)).trans ((xu_ne2 (by omega)).trans ((xu_ne2 (by omega)).trans ((xu_ne2 (by omega)).trans ((xu_ne2 (by omega)).trans ((xu_ne2 (by omega)).trans xu_same))))))), ((xu_ne2 (by omega)).trans ((xu_ne2 (by omega)).trans ((xu_ne2 (by omega)).trans ((xu_ne2 (by omega)).trans ((xu_ne2 (by omega)).trans ((xu_ne2 (by omega)).trans xu_same)))))), ((xu_ne2 (by omega)).trans ((xu_ne2 (by omega)).trans ((xu_ne2 (by omega)).trans ((xu_ne2 (by omega)).trans ((xu_ne2 (by omega)).trans xu_same))))), fun a ha => ?_, fun a ha => ?_, fun j hj => ?_⟩⟩, ⟨((xu_ne2 (by omega)).trans ((xu_ne2 (by omega)).trans ((xu_ne2 (by omega)).trans ((xu_ne2 (by omega)).trans xu_same)))), by show 0 ≤ 4; omega, fun p hp => absurd hp (Nat.not_lt_zero _)⟩, ⟨((xu_ne2 (by omega)).trans ((xu_ne2 (by omega)).trans ((xu_ne2 (by omega)).trans xu_same))), by show 0 ≤ 5; omega, fun i hi => absurd hi (Nat.not_lt_zero _)⟩, ⟨((xu_ne2 (by omega)).trans ((xu_ne2 (by omega)).trans xu_same)), by show 0 ≤ 8; omega, fun i hi => absurd hi (Nat.not_lt_zero _)⟩, ⟨(offF 33 (by omega) (by omega) (by omega) (by omega) (by omega)).trans hsd.1, hsd.2⟩, ⟨?_, by show 0 ≤ 1; omega, fun _ => ?_, fun z => absurd z (by show ¬ 0 = 1; omega)⟩, fun z => absurd z (by show ¬ sHr s + 1 = 0; omega)⟩
          · obtain ⟨x, hx, ex, ebx⟩ := hm2.2.2.2.2.2.2.1 a ha
            exact ⟨x, hx, (e60 a ha).trans ex, ebx⟩
          · exact (e61 a ha).trans (hm2.2.2.2.2.2.2.2.1 a ha)
          · have hj10 : j < 10 := Nat.lt_of_lt_of_le hj hn10
            exact ⟨(e62 j hj10).trans (hm2.2.2.2.2.2.2.2.2 j hj).1, (e63 j hj10).trans (hm2.2.2.2.2.2.2.2.2 j hj).2⟩
          · rw [offF 37 (by omega) (by omega) (by omega) (by omega) (by omega)]
            rcases him.1 with z | ⟨kh, h1, h2⟩
            · exact Or.inl z
            · exact Or.inr ⟨kh, by show kh ≤ sHr s + 1; omega, h2⟩
          · rw [offF 37 (by omega) (by omega) (by omega) (by omega) (by omega)]
            show ¬ S 54 37 = nI (sHr s + 1)
            rcases him.1 with z | ⟨kh, h1, h2⟩
            · rw [z]; exact fun w => nI_m1 (by omega) w.symm
            · rw [h2]; exact fun w => absurd ((nI_eq (by omega) (by omega)).mp w) (by omega), fun j hj => off j (by omega) (by omega)⟩
      · exact absurd (nI_le (a := 10) (b := 10) (Nat.le_refl _) (by omega)) h74
  have lp1 : ∀ i, i ≤ 6 → xA none (d + 4) mX10_house 0 0 0 0 33 [some (.ref 54), some (.int (nI i))] [] (σF, (cp2 S2 60 i), G) (fun r h' => ∃ S' G', h' = (σF, S', G') ∧ r = some (.int (aHouse s)) ∧ MS S' (tHouse s) ∧ ∀ j, j < 54 → S' j = S j) := by
    refine xloop 6 (fun i hi ih => ?_) ?_
    · skip
      refine xA.iload_n (i := 1) rfl rfl rfl rfl ?_
      refine xA.bipush (v := 6) rfl (by decide) rfl ?_
      refine xA.icmp_ge (tgt := 69) rfl rfl rfl (fun h36 => ?_) (fun h36 => ?_)
      · exact absurd h36 (nI_ge (b := 6) hi (by omega))
      · refine xA.aload_n (i := 0) rfl rfl rfl rfl ?_
        refine xA.getR rfl f10_25 rfl rfl rfl rfl ?_
        refine xA.iload_n (i := 1) rfl rfl rfl rfl ?_
        refine xA.aload_n (i := 0) rfl rfl rfl rfl ?_
        refine xA.getR rfl f10_13 rfl rfl rfl rfl ?_
        refine xA.iload_n (i := 1) rfl rfl rfl rfl ?_
        refine xA.iald rfl rfl (vp_in_nI (by omega) (by omega)) rfl ?_
        refine xA.topi ((show (cp2 S2 60 i) 56 (nI i).toNatClampNeg = S2 56 i from by rw [nI_clamp (by omega), cp2_off (by omega)])) ?_
        refine xA.iast rfl rfl (vp_in_nI (by omega) (by omega)) rfl ?_
        rw [nI_clamp (by omega)]
        refine xA.aload_n (i := 0) rfl rfl rfl rfl ?_
        refine xA.getR rfl f10_28 rfl rfl rfl rfl ?_
        refine xA.iload_n (i := 1) rfl rfl rfl rfl ?_
        refine xA.aload_n (i := 0) rfl rfl rfl rfl ?_
        refine xA.getR rfl f10_16 rfl rfl rfl rfl ?_
        refine xA.iload_n (i := 1) rfl rfl rfl rfl ?_
        refine xA.iald rfl rfl (vp_in_nI (by omega) (by omega)) rfl ?_
        refine xA.topi ((show xu (cp2 S2 60 i) 60 i (S2 56 i) 57 (nI i).toNatClampNeg = S2 57 i from by rw [nI_clamp (by omega), xu_c (by omega), cp2_off (by omega)])) ?_
        refine xA.iast rfl rfl (vp_in_nI (by omega) (by omega)) rfl ?_
        rw [nI_clamp (by omega)]
        refine xA.iinc (L' := [_, _]) rfl rfl (nI_1 i) rfl rfl ?_
        refine xA.goto (q := 33) rfl rfl ?_
        refine xA.store (cp2_s rfl rfl rfl) ?_
        exact ih
    · skip
      refine xA.iload_n (i := 1) rfl rfl rfl rfl ?_
      refine xA.bipush (v := 6) rfl (by decide) rfl ?_
      refine xA.icmp_ge (tgt := 69) rfl rfl rfl (fun h36 => ?_) (fun h36 => ?_)
      · refine xA.iconst (v := 0) rfl (by decide) rfl ?_
        refine xA.istore_n (i := 1) (L' := [_, _]) rfl rfl (Nat.le_of_ble_eq_true rfl) rfl rfl ?_
        refine xA.store (S' := (cp2 (cp2 S2 60 6) 62 0)) cp2_0.symm ?_
        exact lp2 0 (Nat.zero_le _)
      · exact absurd (nI_le (a := 6) (b := 6) (Nat.le_refl _) (by omega)) h36
  refine xA.store (S' := (cp2 S2 60 0)) cp2_0.symm ?_
  exact lp1 0 (Nat.zero_le _)
set_option maxRecDepth 100000 in
set_option maxHeartbeats 1000000 in
theorem m_house (d : Nat) (s : sS) (h6 : sHr s < 600) : opM (d + 4) mX10_house [.ref 54] s (.int (aHouse s)) (tHouse s) := by
  intro S G hc
  have hc0 := hc
  obtain ⟨hpg, hho, hpp, htk, hgl, hsd, him, hno⟩ := hc
  refine xC.of okX10_house (Nat.le_of_ble_eq_true rfl) (L := [_, _]) rfl ?_
  refine xA.aload_n (i := 0) rfl rfl rfl rfl ?_
  refine xA.callV (As := []) (h := (σF, _, _)) rfl k10_140 okX10_houseFault rfl rfl rfl rfl (Nat.le_of_ble_eq_true rfl) (c_X10_houseFault d _ G (sPg s) (sN s) hpg) (Nat.le_refl _) (Nat.le_refl _) rfl rfl ?_
  rintro r9 h9 ⟨S2, rfl, hf2, rfl, hm2⟩
  have hfl := fpl_le (hgo (sPg s)) (sN s)
  have hn45 := hpg.2.1
  refine xA.aload_n (i := 0) rfl rfl rfl rfl ?_
  refine xA.getI rfl f10_91 rfl rfl rfl ?_
  refine xA.topi (((hf2.2 1 (by omega)).trans hpg.1)) ?_
  refine xA.icmp_lt (tgt := 28) rfl rfl rfl (fun h8 => ?_) (fun h8 => ?_)
  · have hru : hrun (sPg s) (sN s) = none := hfpl.mp ((nI_ltI (by omega) (by omega)).mp h8)
    have hrdE : hrd (sPg s) (sN s) = none := by rw [hrd, hru]; rfl
    refine xA.bipush (v := (-103)) rfl (by decide) rfl ?_
    exact xA.iret rfl rfl rfl ⟨S2, G, rfl, by simp only [aHouse, hrdE], by simp only [tHouse, hrdE]; exact frH.ms hc0 hf2, fun j hj => hf2.1 j (by omega) (by omega)⟩
  · have e8 : ¬ fpl (hgo (sPg s)) (sN s) < sN s := fun z => h8 ((nI_ltI (by omega) (by omega)).mpr z)
    obtain ⟨h, hru⟩ : ∃ h, hrun (sPg s) (sN s) = some h := by
      cases e : hrun (sPg s) (sN s) with
      | none => exact absurd (hfpl.mpr e) e8
      | some z => exact ⟨z, rfl⟩
    have hmh := hm2 h hru
    have h08 := (hrok _ _ _ hru).1
    refine xA.aload_n (i := 0) rfl rfl rfl rfl ?_
    refine xA.getI rfl f10_109 rfl rfl rfl ?_
    refine xA.topi ((hmh.1)) ?_
    refine xA.iconst (v := 5) rfl (by decide) rfl ?_
    refine xA.icmp_eq (tgt := 31) rfl rfl rfl (fun h16 => ?_) (fun h16 => ?_)
    · have hs5 : hSt h = 5 := (nI_eq (b := 5) (by omega) (by omega)).mp h16
      refine xA.iconst (v := 0) rfl (by decide) rfl ?_
      refine xA.istore_n (i := 1) (L' := [_, _]) rfl rfl (Nat.le_of_ble_eq_true rfl) rfl rfl ?_
      exact ho_copy d S S2 G s hc0 h6 hf2 h (hrok _ _ _ hru) hmh (by omega) (by rw [hrd, hru]; exact if_pos (by omega))
    · have hs5 : ¬ hSt h = 5 := fun z => h16 (by rw [z]; rfl)
      refine xA.aload_n (i := 0) rfl rfl rfl rfl ?_
      refine xA.getI rfl f10_109 rfl rfl rfl ?_
      refine xA.topi ((hmh.1)) ?_
      refine xA.bipush (v := 8) rfl (by decide) rfl ?_
      refine xA.icmp_eq (tgt := 31) rfl rfl rfl (fun h25 => ?_) (fun h25 => ?_)
      · have hs8 : hSt h = 8 := (nI_eq (b := 8) (by omega) (by omega)).mp h25
        refine xA.iconst (v := 0) rfl (by decide) rfl ?_
        refine xA.istore_n (i := 1) (L' := [_, _]) rfl rfl (Nat.le_of_ble_eq_true rfl) rfl rfl ?_
        exact ho_copy d S S2 G s hc0 h6 hf2 h (hrok _ _ _ hru) hmh (by omega) (by rw [hrd, hru]; exact if_pos (by omega))
      · have hs8 : ¬ hSt h = 8 := fun z => h25 (by rw [z]; rfl)
        refine xA.bipush (v := (-103)) rfl (by decide) rfl ?_
        have hrdE : hrd (sPg s) (sN s) = none := by rw [hrd, hru]; exact if_neg (by omega)
        exact xA.iret rfl rfl rfl ⟨S2, G, rfl, by simp only [aHouse, hrdE], by simp only [tHouse, hrdE]; exact frH.ms hc0 hf2, fun j hj => hf2.1 j (by omega) (by omega)⟩

/-! ===== the reference: image, restore, digest ===== -/
def cI (S : Nat → Nat → Int32) : Nat → Nat → Int32 := (cpS (cpS (cpS (cpS (cpS (cpS S 73 65 4) 74 66 4) 75 67 68) 76 68 68) 77 71 15) 78 72 16)
theorem cI_off {S : Nat → Nat → Int32} {j : Nat} : ¬ j = 73 → ¬ j = 74 → ¬ j = 75 → ¬ j = 76 → ¬ j = 77 → ¬ j = 78 → cI S j = S j := fun h1 h2 h3 h4 h5 h6 => by unfold cI; rw [cpS_off h6, cpS_off h5, cpS_off h4, cpS_off h3, cpS_off h2, cpS_off h1]
theorem cI_73 {S : Nat → Nat → Int32} {q : Nat} (h : q < 4) : cI S 73 q = S 65 q := by unfold cI; rw [cpS_off (by decide), cpS_off (by decide), cpS_off (by decide), cpS_off (by decide), cpS_off (by decide), cpS_in h]
theorem cI_74 {S : Nat → Nat → Int32} {q : Nat} (h : q < 4) : cI S 74 q = S 66 q := by unfold cI; rw [cpS_off (by decide), cpS_off (by decide), cpS_off (by decide), cpS_off (by decide), cpS_in h, cpS_off (by decide)]
theorem cI_75 {S : Nat → Nat → Int32} {q : Nat} (h : q < 68) : cI S 75 q = S 67 q := by unfold cI; rw [cpS_off (by decide), cpS_off (by decide), cpS_off (by decide), cpS_in h, cpS_off (by decide), cpS_off (by decide)]
theorem cI_76 {S : Nat → Nat → Int32} {q : Nat} (h : q < 68) : cI S 76 q = S 68 q := by unfold cI; rw [cpS_off (by decide), cpS_off (by decide), cpS_in h, cpS_off (by decide), cpS_off (by decide), cpS_off (by decide)]
theorem cI_77 {S : Nat → Nat → Int32} {q : Nat} (h : q < 15) : cI S 77 q = S 71 q := by unfold cI; rw [cpS_off (by decide), cpS_in h, cpS_off (by decide), cpS_off (by decide), cpS_off (by decide), cpS_off (by decide)]
theorem cI_78 {S : Nat → Nat → Int32} {q : Nat} (h : q < 16) : cI S 78 q = S 72 q := by unfold cI; rw [cpS_in h, cpS_off (by decide), cpS_off (by decide), cpS_off (by decide), cpS_off (by decide), cpS_off (by decide)]
def cR (S : Nat → Nat → Int32) : Nat → Nat → Int32 := (cpS (cpS (cpS (cpS (cpS (cpS S 65 73 4) 66 74 4) 67 75 68) 68 76 68) 71 77 15) 72 78 16)
theorem cR_off {S : Nat → Nat → Int32} {j : Nat} : ¬ j = 65 → ¬ j = 66 → ¬ j = 67 → ¬ j = 68 → ¬ j = 71 → ¬ j = 72 → cR S j = S j := fun h1 h2 h3 h4 h5 h6 => by unfold cR; rw [cpS_off h6, cpS_off h5, cpS_off h4, cpS_off h3, cpS_off h2, cpS_off h1]
theorem cR_65 {S : Nat → Nat → Int32} {q : Nat} (h : q < 4) : cR S 65 q = S 73 q := by unfold cR; rw [cpS_off (by decide), cpS_off (by decide), cpS_off (by decide), cpS_off (by decide), cpS_off (by decide), cpS_in h]
theorem cR_66 {S : Nat → Nat → Int32} {q : Nat} (h : q < 4) : cR S 66 q = S 74 q := by unfold cR; rw [cpS_off (by decide), cpS_off (by decide), cpS_off (by decide), cpS_off (by decide), cpS_in h, cpS_off (by decide)]
theorem cR_67 {S : Nat → Nat → Int32} {q : Nat} (h : q < 68) : cR S 67 q = S 75 q := by unfold cR; rw [cpS_off (by decide), cpS_off (by decide), cpS_off (by decide), cpS_in h, cpS_off (by decide), cpS_off (by decide)]
theorem cR_68 {S : Nat → Nat → Int32} {q : Nat} (h : q < 68) : cR S 68 q = S 76 q := by unfold cR; rw [cpS_off (by decide), cpS_off (by decide), cpS_in h, cpS_off (by decide), cpS_off (by decide), cpS_off (by decide)]
theorem cR_71 {S : Nat → Nat → Int32} {q : Nat} (h : q < 15) : cR S 71 q = S 77 q := by unfold cR; rw [cpS_off (by decide), cpS_in h, cpS_off (by decide), cpS_off (by decide), cpS_off (by decide), cpS_off (by decide)]
theorem cR_72 {S : Nat → Nat → Int32} {q : Nat} (h : q < 16) : cR S 72 q = S 78 q := by unfold cR; rw [cpS_in h, cpS_off (by decide), cpS_off (by decide), cpS_off (by decide), cpS_off (by decide), cpS_off (by decide)]
set_option maxRecDepth 100000 in
set_option maxHeartbeats 1000000 in
theorem m_image (d : Nat) (s : sS)  : opM (d + 1) mX10_image [.ref 54] s (.int (aImage s)) (tImage s) := by
  intro S G hc
  have hc0 := hc
  obtain ⟨hpg, hho, hpp, htk, hgl, hsd, him, hno⟩ := hc
  refine xC.of okX10_image (Nat.le_of_ble_eq_true rfl) (L := [_]) rfl ?_
  refine xA.aload_n (i := 0) rfl rfl rfl rfl ?_
  refine xA.callVi (As := []) rfl k10_171 okX10_lacks rfl rfl rfl rfl (Nat.le_of_ble_eq_true rfl) (c_X10_lacks d _ G) rfl rfl ?_
  refine xA.if_eq (tgt := 10) rfl rfl rfl (fun h4 => ?_) (fun h4 => ?_)
  · rw [xb_eq0, mlk hho] at h4
    refine xA.aload_n (i := 0) rfl rfl rfl rfl ?_
    refine xA.getR rfl f10_40 rfl rfl rfl rfl ?_
    refine xA.aload_n (i := 0) rfl rfl rfl rfl ?_
    refine xA.getR rfl f10_64 rfl rfl rfl rfl ?_
    refine xA.callSv (As := [_, _]) rfl k10_275 okX10_copy rfl rfl (Nat.le_of_ble_eq_true rfl) (c_X10_copy d _ G 65 73 4 rfl rfl (by decide) (by omega)) rfl rfl ?_
    refine xA.aload_n (i := 0) rfl rfl rfl rfl ?_
    refine xA.getR rfl f10_43 rfl rfl rfl rfl ?_
    refine xA.aload_n (i := 0) rfl rfl rfl rfl ?_
    refine xA.getR rfl f10_67 rfl rfl rfl rfl ?_
    refine xA.callSv (As := [_, _]) rfl k10_275 okX10_copy rfl rfl (Nat.le_of_ble_eq_true rfl) (c_X10_copy d _ G 66 74 4 rfl rfl (by decide) (by omega)) rfl rfl ?_
    refine xA.aload_n (i := 0) rfl rfl rfl rfl ?_
    refine xA.getR rfl f10_46 rfl rfl rfl rfl ?_
    refine xA.aload_n (i := 0) rfl rfl rfl rfl ?_
    refine xA.getR rfl f10_70 rfl rfl rfl rfl ?_
    refine xA.callSv (As := [_, _]) rfl k10_275 okX10_copy rfl rfl (Nat.le_of_ble_eq_true rfl) (c_X10_copy d _ G 67 75 68 rfl rfl (by decide) (by omega)) rfl rfl ?_
    refine xA.aload_n (i := 0) rfl rfl rfl rfl ?_
    refine xA.getR rfl f10_49 rfl rfl rfl rfl ?_
    refine xA.aload_n (i := 0) rfl rfl rfl rfl ?_
    refine xA.getR rfl f10_73 rfl rfl rfl rfl ?_
    refine xA.callSv (As := [_, _]) rfl k10_275 okX10_copy rfl rfl (Nat.le_of_ble_eq_true rfl) (c_X10_copy d _ G 68 76 68 rfl rfl (by decide) (by omega)) rfl rfl ?_
    refine xA.aload_n (i := 0) rfl rfl rfl rfl ?_
    refine xA.getR rfl f10_58 rfl rfl rfl rfl ?_
    refine xA.aload_n (i := 0) rfl rfl rfl rfl ?_
    refine xA.getR rfl f10_76 rfl rfl rfl rfl ?_
    refine xA.callSv (As := [_, _]) rfl k10_275 okX10_copy rfl rfl (Nat.le_of_ble_eq_true rfl) (c_X10_copy d _ G 71 77 15 rfl rfl (by decide) (by omega)) rfl rfl ?_
    refine xA.aload_n (i := 0) rfl rfl rfl rfl ?_
    refine xA.getR rfl f10_61 rfl rfl rfl rfl ?_
    refine xA.aload_n (i := 0) rfl rfl rfl rfl ?_
    refine xA.getR rfl f10_79 rfl rfl rfl rfl ?_
    refine xA.callSv (As := [_, _]) rfl k10_275 okX10_copy rfl rfl (Nat.le_of_ble_eq_true rfl) (c_X10_copy d _ G 72 78 16 rfl rfl (by decide) (by omega)) rfl rfl ?_
    refine xA.store (S' := cI S) rfl ?_
    refine xA.aload_n (i := 0) rfl rfl rfl rfl ?_
    refine xA.aload_n (i := 0) rfl rfl rfl rfl ?_
    refine xA.getI rfl f10_156 rfl rfl rfl ?_
    refine xA.topi (((congrFun (cI_off (by decide) (by decide) (by decide) (by decide) (by decide) (by decide)) _).trans hpp.1)) ?_
    refine xA.putI rfl p10_279 rfl rfl rfl ?_
    refine xA.aload_n (i := 0) rfl rfl rfl rfl ?_
    refine xA.aload_n (i := 0) rfl rfl rfl rfl ?_
    refine xA.getI rfl f10_159 rfl rfl rfl ?_
    refine xA.topi (((xu_f (by decide)).trans ((congrFun (cI_off (by decide) (by decide) (by decide) (by decide) (by decide) (by decide)) _).trans htk.1))) ?_
    refine xA.putI rfl p10_282 rfl rfl rfl ?_
    refine xA.aload_n (i := 0) rfl rfl rfl rfl ?_
    refine xA.aload_n (i := 0) rfl rfl rfl rfl ?_
    refine xA.getI rfl f10_162 rfl rfl rfl ?_
    refine xA.topi (((xu_f (by decide)).trans ((xu_f (by decide)).trans ((congrFun (cI_off (by decide) (by decide) (by decide) (by decide) (by decide) (by decide)) _).trans hgl.1)))) ?_
    refine xA.putI rfl p10_285 rfl rfl rfl ?_
    refine xA.aload_n (i := 0) rfl rfl rfl rfl ?_
    refine xA.aload_n (i := 0) rfl rfl rfl rfl ?_
    refine xA.getI rfl f10_165 rfl rfl rfl ?_
    refine xA.topi (((xu_f (by decide)).trans ((xu_f (by decide)).trans ((xu_f (by decide)).trans ((congrFun (cI_off (by decide) (by decide) (by decide) (by decide) (by decide) (by decide)) _).trans hho.1))))) ?_
    refine xA.putI rfl p10_82 rfl rfl rfl ?_
    refine xA.aload_n (i := 0) rfl rfl rfl rfl ?_
    refine xA.getI rfl f10_156 rfl rfl rfl ?_
    refine xA.topi (((xu_f (by decide)).trans ((xu_f (by decide)).trans ((xu_f (by decide)).trans ((xu_f (by decide)).trans ((congrFun (cI_off (by decide) (by decide) (by decide) (by decide) (by decide) (by decide)) _).trans hpp.1)))))) ?_
    have off : ∀ j, ¬ j = 54 → ¬ (73 ≤ j ∧ j < 79) → (xu (xu (xu (xu (cI S) 54 38 (nI (sP s))) 54 39 (nI (sTk s).1)) 54 40 (nI (sGl s).1)) 54 37 (nI (sHr s))) j = S j := fun j h1 h2 => by rw [xu_c h1, xu_c h1, xu_c h1, xu_c h1, cI_off (by omega) (by omega) (by omega) (by omega) (by omega) (by omega)]
    have offF : ∀ f, ¬ (37 ≤ f ∧ f < 41) → (xu (xu (xu (xu (cI S) 54 38 (nI (sP s))) 54 39 (nI (sTk s).1)) 54 40 (nI (sGl s).1)) 54 37 (nI (sHr s))) 54 f = S 54 f := fun f h1 => by rw [xu_ne2 (by omega), xu_ne2 (by omega), xu_ne2 (by omega), xu_ne2 (by omega), cI_off (by omega) (by omega) (by omega) (by omega) (by omega) (by omega)]
    have ck : ∀ j, ¬ j = 54 → (xu (xu (xu (xu (cI S) 54 38 (nI (sP s))) 54 39 (nI (sTk s).1)) 54 40 (nI (sGl s).1)) 54 37 (nI (sHr s))) j = cI S j := fun j h1 => by rw [xu_c h1, xu_c h1, xu_c h1, xu_c h1]
    have hp4 := hpp.2.1
    exact xA.iret rfl rfl rfl ⟨(xu (xu (xu (xu (cI S) 54 38 (nI (sP s))) 54 39 (nI (sTk s).1)) 54 40 (nI (sGl s).1)) 54 37 (nI (sHr s))), G, rfl, by simp only [aImage]; rw [if_neg h4], by
      simp only [tImage]; rw [if_neg h4]
      refine ⟨hpg.to (offF 1 (by omega)) (off 55 (by omega) (by omega)), hho.to (fun f a b => offF f (by omega)) (fun j a b => off j (by omega) (by omega)), hpp.to (offF 21 (by omega)) (fun j a b => off j (by omega) (by omega)), ⟨(offF 31 (by omega)).trans htk.1, htk.2.to (off 71 (by omega) (by omega))⟩, ⟨(offF 34 (by omega)).trans hgl.1, hgl.2.to (off 72 (by omega) (by omega))⟩, ⟨(offF 33 (by omega)).trans hsd.1, hsd.2⟩, ⟨Or.inr ⟨sHr s, Nat.le_refl _, xu_same⟩, (show 1 ≤ 1 by omega), fun z => absurd (show (1 : Nat) = 0 from z) (by decide), fun _ => ⟨xu_same, ?_, hp4, ?_, ?_, ⟨htk.2.1, ?_⟩, ?_, ⟨hgl.2.1, ?_⟩⟩⟩, fun z => absurd z h4⟩
      · rw [xu_ne2 (by omega), xu_ne2 (by omega), xu_ne2 (by omega), xu_same]
      · intro p hp
        have hp2 : p < sP s := hp
        obtain ⟨a1, a2, a3, a4, a5, a6⟩ := hpp.2.2 p hp2
        have hn17 := a6.1
        rw [ck 73 (by omega), ck 74 (by omega), cI_73 (by omega), cI_74 (by omega)]
        refine ⟨a3, a4, fun i hi => ?_, a6⟩
        have hi17 : i < lN' (sL s p) := hi
        rw [ck 75 (by omega), ck 76 (by omega), cI_75 (by omega), cI_76 (by omega)]
        exact a5 i hi17
      · rw [xu_ne2 (by omega), xu_ne2 (by omega), xu_same]
      · intro i hi
        have hi5 : i < (sTk s).1 := hi
        have ht5 := htk.2.1
        rw [ck 77 (by omega), cI_77 (by omega), cI_77 (by omega), cI_77 (by omega)]
        exact htk.2.2 i hi5
      · rw [xu_ne2 (by omega), xu_same]
      · intro i hi
        have hi8 : i < (sGl s).1 := hi
        have hg8 := hgl.2.1
        rw [ck 78 (by omega), cI_78 (by omega), cI_78 (by omega)]
        exact hgl.2.2 i hi8, fun j hj => off j (by omega) (by omega)⟩
  · rw [xb_ne0, mlk hho] at h4
    refine xA.bipush (v := (-103)) rfl (by decide) rfl ?_
    exact xA.iret rfl rfl rfl ⟨S, G, rfl, by simp only [aImage]; rw [if_pos h4], by simp only [tImage]; rw [if_pos h4]; exact hc0, fun _ _ => rfl⟩
set_option maxRecDepth 100000 in
set_option maxHeartbeats 1000000 in
theorem m_restore (d : Nat) (s : sS)  : opM (d + 1) mX10_restore [.ref 54] s (.int (aRestore s)) (tRestore s) := by
  intro S G hc
  have hc0 := hc
  obtain ⟨hpg, hho, hpp, htk, hgl, hsd, him, hno⟩ := hc
  refine xC.of okX10_restore (Nat.le_of_ble_eq_true rfl) (L := [_]) rfl ?_
  refine xA.aload_n (i := 0) rfl rfl rfl rfl ?_
  refine xA.getI rfl f10_82 rfl rfl rfl ?_
  refine xA.aload_n (i := 0) rfl rfl rfl rfl ?_
  refine xA.getI rfl f10_165 rfl rfl rfl ?_
  refine xA.topi (hho.1) ?_
  refine xA.icmp_ne (tgt := 22) rfl rfl rfl (fun h8 => ?_) (fun h8 => ?_)
  · have hnx : ¬ ((sIm s).1 = 1 ∧ (sIm s).2.1 = sP s) := fun z => h8 (him.2.2.2 z.1).1
    refine xA.bipush (v := (-103)) rfl (by decide) rfl ?_
    exact xA.iret rfl rfl rfl ⟨S, G, rfl, by simp only [aRestore]; rw [if_neg hnx], by simp only [tRestore]; rw [if_neg hnx]; exact hc0, fun _ _ => rfl⟩
  · have e8 : (sIm s).1 = 1 := by
      have q1 := him.2.1
      have q2 : ¬ (sIm s).1 = 0 := fun z => him.2.2.1 z h8
      omega
    refine xA.aload_n (i := 0) rfl rfl rfl rfl ?_
    refine xA.getI rfl f10_279 rfl rfl rfl ?_
    refine xA.aload_n (i := 0) rfl rfl rfl rfl ?_
    refine xA.getI rfl f10_156 rfl rfl rfl ?_
    refine xA.topi (hpp.1) ?_
    refine xA.icmp_eq (tgt := 25) rfl rfl rfl (fun h19 => ?_) (fun h19 => ?_)
    · skip
      obtain ⟨k1, k2, k3, k7, k4, k5, k6, k8⟩ := him.2.2.2 e8
      have e19 : (sIm s).2.1 = sP s := by rw [k2] at h19; exact (nI_eq (by omega) (by have := hpp.2.1; omega)).mp h19
      refine xA.aload_n (i := 0) rfl rfl rfl rfl ?_
      refine xA.getR rfl f10_64 rfl rfl rfl rfl ?_
      refine xA.aload_n (i := 0) rfl rfl rfl rfl ?_
      refine xA.getR rfl f10_40 rfl rfl rfl rfl ?_
      refine xA.callSv (As := [_, _]) rfl k10_275 okX10_copy rfl rfl (Nat.le_of_ble_eq_true rfl) (c_X10_copy d _ G 73 65 4 rfl rfl (by decide) (by omega)) rfl rfl ?_
      refine xA.aload_n (i := 0) rfl rfl rfl rfl ?_
      refine xA.getR rfl f10_67 rfl rfl rfl rfl ?_
      refine xA.aload_n (i := 0) rfl rfl rfl rfl ?_
      refine xA.getR rfl f10_43 rfl rfl rfl rfl ?_
      refine xA.callSv (As := [_, _]) rfl k10_275 okX10_copy rfl rfl (Nat.le_of_ble_eq_true rfl) (c_X10_copy d _ G 74 66 4 rfl rfl (by decide) (by omega)) rfl rfl ?_
      refine xA.aload_n (i := 0) rfl rfl rfl rfl ?_
      refine xA.getR rfl f10_70 rfl rfl rfl rfl ?_
      refine xA.aload_n (i := 0) rfl rfl rfl rfl ?_
      refine xA.getR rfl f10_46 rfl rfl rfl rfl ?_
      refine xA.callSv (As := [_, _]) rfl k10_275 okX10_copy rfl rfl (Nat.le_of_ble_eq_true rfl) (c_X10_copy d _ G 75 67 68 rfl rfl (by decide) (by omega)) rfl rfl ?_
      refine xA.aload_n (i := 0) rfl rfl rfl rfl ?_
      refine xA.getR rfl f10_73 rfl rfl rfl rfl ?_
      refine xA.aload_n (i := 0) rfl rfl rfl rfl ?_
      refine xA.getR rfl f10_49 rfl rfl rfl rfl ?_
      refine xA.callSv (As := [_, _]) rfl k10_275 okX10_copy rfl rfl (Nat.le_of_ble_eq_true rfl) (c_X10_copy d _ G 76 68 68 rfl rfl (by decide) (by omega)) rfl rfl ?_
      refine xA.aload_n (i := 0) rfl rfl rfl rfl ?_
      refine xA.getR rfl f10_76 rfl rfl rfl rfl ?_
      refine xA.aload_n (i := 0) rfl rfl rfl rfl ?_
      refine xA.getR rfl f10_58 rfl rfl rfl rfl ?_
      refine xA.callSv (As := [_, _]) rfl k10_275 okX10_copy rfl rfl (Nat.le_of_ble_eq_true rfl) (c_X10_copy d _ G 77 71 15 rfl rfl (by decide) (by omega)) rfl rfl ?_
      refine xA.aload_n (i := 0) rfl rfl rfl rfl ?_
      refine xA.getR rfl f10_79 rfl rfl rfl rfl ?_
      refine xA.aload_n (i := 0) rfl rfl rfl rfl ?_
      refine xA.getR rfl f10_61 rfl rfl rfl rfl ?_
      refine xA.callSv (As := [_, _]) rfl k10_275 okX10_copy rfl rfl (Nat.le_of_ble_eq_true rfl) (c_X10_copy d _ G 78 72 16 rfl rfl (by decide) (by omega)) rfl rfl ?_
      refine xA.store (S' := cR S) rfl ?_
      refine xA.aload_n (i := 0) rfl rfl rfl rfl ?_
      refine xA.aload_n (i := 0) rfl rfl rfl rfl ?_
      refine xA.getI rfl f10_282 rfl rfl rfl ?_
      refine xA.topi (((congrFun (cR_off (by decide) (by decide) (by decide) (by decide) (by decide) (by decide)) _).trans k4)) ?_
      refine xA.putI rfl p10_159 rfl rfl rfl ?_
      refine xA.aload_n (i := 0) rfl rfl rfl rfl ?_
      refine xA.aload_n (i := 0) rfl rfl rfl rfl ?_
      refine xA.getI rfl f10_285 rfl rfl rfl ?_
      refine xA.topi (((xu_f (by decide)).trans ((congrFun (cR_off (by decide) (by decide) (by decide) (by decide) (by decide) (by decide)) _).trans k6))) ?_
      refine xA.putI rfl p10_162 rfl rfl rfl ?_
      refine xA.aload_n (i := 0) rfl rfl rfl rfl ?_
      refine xA.getI rfl f10_156 rfl rfl rfl ?_
      refine xA.topi (((xu_f (by decide)).trans ((xu_f (by decide)).trans ((congrFun (cR_off (by decide) (by decide) (by decide) (by decide) (by decide) (by decide)) _).trans hpp.1)))) ?_
      have off : ∀ j, ¬ j = 54 → ¬ (65 ≤ j ∧ j < 69) → ¬ (71 ≤ j ∧ j < 73) → (xu (xu (cR S) 54 31 (nI (sIm s).2.2.2.1.1)) 54 34 (nI (sIm s).2.2.2.2.1)) j = S j := fun j h1 h2 h3 => by rw [xu_c h1, xu_c h1, cR_off (by omega) (by omega) (by omega) (by omega) (by omega) (by omega)]
      have offF : ∀ f, ¬ f = 31 → ¬ f = 34 → (xu (xu (cR S) 54 31 (nI (sIm s).2.2.2.1.1)) 54 34 (nI (sIm s).2.2.2.2.1)) 54 f = S 54 f := fun f h1 h2 => by rw [xu_ne2 h2, xu_ne2 h1, cR_off (by omega) (by omega) (by omega) (by omega) (by omega) (by omega)]
      have ck : ∀ j, ¬ j = 54 → (xu (xu (cR S) 54 31 (nI (sIm s).2.2.2.1.1)) 54 34 (nI (sIm s).2.2.2.2.1)) j = cR S j := fun j h1 => by rw [xu_c h1, xu_c h1]
      have hp4 := hpp.2.1
      exact xA.iret rfl rfl rfl ⟨(xu (xu (cR S) 54 31 (nI (sIm s).2.2.2.1.1)) 54 34 (nI (sIm s).2.2.2.2.1)), G, rfl, by simp only [aRestore]; rw [if_pos ⟨e8, e19⟩], by
        simp only [tRestore]; rw [if_pos ⟨e8, e19⟩]
        refine ⟨hpg.to (offF 1 (by omega) (by omega)) (off 55 (by omega) (by omega) (by omega)), hho.to (fun f a b => offF f (by omega) (by omega)) (fun j a b => off j (by omega) (by omega) (by omega)), ⟨(offF 21 (by omega) (by omega)).trans hpp.1, hp4, fun p hp => ?_⟩, ⟨?_, k5.1, fun i hi => ?_⟩, ⟨xu_same, k8.1, fun i hi => ?_⟩, ⟨(offF 33 (by omega) (by omega)).trans hsd.1, hsd.2⟩, him.to (fun f a b => offF f (by omega) (by omega)) (fun j a b => off j (by omega) (by omega) (by omega)), fun z => absurd e8 (by rw [(hno z).2.2.2]; decide)⟩
        · have hp2 : p < sP s := hp
          obtain ⟨a1, a2, a3, a4, a5, a6⟩ := hpp.2.2 p hp2
          obtain ⟨b1, b2, b3, b4⟩ := k7 p (by omega)
          have hn17 := b4.1
          rw [off 64 (by omega) (by omega) (by omega), ck 65 (by omega), ck 66 (by omega), cR_65 (by omega), cR_66 (by omega)]
          refine ⟨a1, a2, b1, b2, fun i hi => ?_, b4⟩
          have hi17 : i < lN' ((sIm s).2.2.1 p) := hi
          rw [ck 67 (by omega), ck 68 (by omega), cR_67 (by omega), cR_68 (by omega)]
          exact b3 i hi17
        · rw [xu_ne2 (by omega), xu_same]
        · have hi5 : i < (sIm s).2.2.2.1.1 := hi
          have ht5 := k5.1
          rw [ck 71 (by omega), cR_71 (by omega), cR_71 (by omega), cR_71 (by omega)]
          exact k5.2 i hi5
        · have hi8 : i < (sIm s).2.2.2.2.1 := hi
          have hg8 := k8.1
          rw [ck 72 (by omega), cR_72 (by omega), cR_72 (by omega)]
          exact k8.2 i hi8, fun j hj => off j (by omega) (by omega) (by omega)⟩
    · have hnx : ¬ ((sIm s).1 = 1 ∧ (sIm s).2.1 = sP s) := fun z => h19 (by rw [(him.2.2.2 z.1).2.1, z.2])
      refine xA.bipush (v := (-103)) rfl (by decide) rfl ?_
      exact xA.iret rfl rfl rfl ⟨S, G, rfl, by simp only [aRestore]; rw [if_neg hnx], by simp only [tRestore]; rw [if_neg hnx]; exact hc0, fun _ _ => rfl⟩

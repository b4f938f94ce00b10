variable {τ : List xSh}
/-! ===== the class's operations that change something ===== -/
abbrev mkS (s : sS) (pg : Nat → Nat) (n hr : Nat) (h : hS) (p : Nat) (kd : Nat → Nat) (L : Nat → lS) (tk : tS) (gl : gS) (sd : Nat) (im : iS) : sS := (pg, n, hr, h, p, kd, L, tk, gl, sd, im)
def iu (f : Nat → Int32) (k : Nat) (v : Int32) : Nat → Int32 := fun j => if j = k then v else f j
def lu (f : Nat → lS) (k : Nat) (v : lS) : Nat → lS := fun j => if j = k then v else f j
def lE : lS := (0, fun _ => 0, 0, 0)
def tBlank (s : sS) : sS := (fun _ => 0, 0, s.2.2)
def tForget (s : sS) : sS := mkS s (sPg s) (sN s) (sHr s) (sH s) (sP s) (sKd s) (sL s) (sTk s) (0, fun _ => 0) (sSd s) (sIm s)
def aTask (s : sS) (r f t : Int32) : Int32 := if rg r 6 then (if rg f 60 ∧ rg t 60 ∧ ¬ t < f then (if sHr s = 0 then -103 else if (sTk s).1 = 5 then -104 else nI (sTk s).1) else -102) else -101
def tTask (s : sS) (r f t : Int32) : sS := if rg r 6 ∧ (rg f 60 ∧ rg t 60 ∧ ¬ t < f) ∧ ¬ sHr s = 0 ∧ ¬ (sTk s).1 = 5 then mkS s (sPg s) (sN s) (sHr s) (sH s) (sP s) (sKd s) (sL s) ((sTk s).1 + 1, iu (sTk s).2.1 (sTk s).1 r, iu (sTk s).2.2.1 (sTk s).1 f, iu (sTk s).2.2.2 (sTk s).1 t) (sGl s) (sSd s) (sIm s) else s
def aGlimpse (s : sS) (m r : Int32) : Int32 := if rg m 60 then (if rg r 6 then (if sHr s = 0 then -103 else if (sGl s).1 = 8 then -104 else nI ((sGl s).1 + 1)) else -101) else -102
def tGlimpse (s : sS) (m r : Int32) : sS := if rg m 60 ∧ rg r 6 ∧ ¬ sHr s = 0 ∧ ¬ (sGl s).1 = 8 then mkS s (sPg s) (sN s) (sHr s) (sH s) (sP s) (sKd s) (sL s) (sTk s) ((sGl s).1 + 1, nu (sGl s).2 (sGl s).1 (m.toNatClampNeg * 6 + r.toNatClampNeg)) (sSd s) (sIm s) else s
def aPerson (s : sS) (k : Int32) : Int32 := if rg k 5 then (if sHr s = 0 then -103 else if sP s = 4 then -104 else nI (sP s)) else -102
def tPerson (s : sS) (k : Int32) : sS := if rg k 5 ∧ ¬ sHr s = 0 ∧ ¬ sP s = 4 then mkS s (sPg s) (sN s) (sHr s) (sH s) (sP s + 1) (nu (sKd s) (sP s) k.toNatClampNeg) (lu (sL s) (sP s) lE) (sTk s) (sGl s) (sSd s) (sIm s) else s
def aFault (s : sS) (w : Int32) : Int32 := if w = 0 then nI (fpl (hgo (sPg s)) (sN s)) else if w = 1 then nI (fpl (fun j => lfo j (sPg s j)) (sN s)) else -102
theorem lG_E {h : hS} : lG h lE := ⟨Nat.zero_le _, fun i hi => absurd hi (Nat.not_lt_zero _), Nat.zero_le _, by show 0 < 1024; decide, fun j _ => by show (0 : Nat).testBit j = decide (0 < 0); simp⟩
theorem o_forget (d : Nat) (s : sS) : opC τ (d + 1) mX9_forget [.ref 0] s (.int (nI (sGl s).1)) (tForget s) := opC.upd fun S G hc => by
  obtain ⟨hpg, hho, hpp, htk, hgl, hsd, him, hno⟩ := hc
  have off : ∀ j, j ≠ 16 → xu S 16 1 0 j = S j := fun j hj => by funext q; exact xu_ne1 hj
  refine ⟨_, hgl.1 ▸ c_X9_forget d S G, ⟨hpg.to (off 1 (by omega)) (off 2 (by omega)), hho.to (by rw [off 0 (by omega)]) (off 3 (by omega)) (off 4 (by omega)) (off 5 (by omega)), hpp.to (by rw [off 0 (by omega)]) (fun j h1 h2 => off j (by omega)), htk.to (off _ (by omega)) (off _ (by omega)) (off _ (by omega)) (off _ (by omega)), ⟨by simp [xu]; rfl, by show 0 ≤ 8; omega, fun i hi => absurd hi (Nat.not_lt_zero _)⟩, ⟨by rw [off 0 (by omega)]; exact hsd.1, hsd.2⟩, him.to (fun j h1 h2 => off j (by omega)), fun z => ⟨(hno z).1, (hno z).2.1, rfl, (hno z).2.2.2⟩⟩, fun j hj => off j (by omega)⟩

theorem tkC_add {S : Nat → Nat → Int32} {k : Nat} {t : tS} (ht : tkC S k t) (h5 : t.1 < 5) (a b c : Int32) : tkC (xu (xu (xu (xu S (k + 1) t.1 a) (k + 2) t.1 b) (k + 3) t.1 c) k 3 (nI (t.1 + 1))) k (t.1 + 1, iu t.2.1 t.1 a, iu t.2.2.1 t.1 b, iu t.2.2.2 t.1 c) := by
  refine ⟨xu_same, h5, fun i hi => ?_⟩
  have hi2 : i < t.1 + 1 := hi
  show xu _ _ _ _ _ _ = iu t.2.1 t.1 a i ∧ xu _ _ _ _ _ _ = iu t.2.2.1 t.1 b i ∧ xu _ _ _ _ _ _ = iu t.2.2.2 t.1 c i
  by_cases e : i = t.1
  · subst e
    simp [xu, iu]
  · have := ht.2.2 i (by omega)
    simp [xu, iu, e, this]
theorem glC_add {S : Nat → Nat → Int32} {k : Nat} {g : gS} (ht : glC S k g) (h8 : g.1 < 8) (x : Nat) (hx : x < 360) : glC (xu (xu S (k + 1) g.1 (nI x)) k 1 (nI (g.1 + 1))) k (g.1 + 1, nu g.2 g.1 x) := by
  refine ⟨xu_same, h8, fun i hi => ?_⟩
  have hi2 : i < g.1 + 1 := hi
  show xu _ _ _ _ _ _ = nI (nu g.2 g.1 x i) ∧ nu g.2 g.1 x i < 360
  by_cases e : i = g.1
  · subst e
    simp [xu, nu, hx]
  · have := ht.2.2 i (by omega)
    simp [xu, nu, e, this]

set_option maxRecDepth 100000 in
set_option maxHeartbeats 1000000 in
theorem o_task (d : Nat) (s : sS) (r f t : Int32) : opC τ (d + 1) mX9_task [.ref 0, .int r, .int f, .int t] s (.int (aTask s r f t)) (tTask s r f t) := by
  intro S G hc
  have hc0 := hc
  obtain ⟨hpg, hho, hpp, htk, hgl, hsd, him, hno⟩ := hc
  refine xC.of okX9_task (Nat.le_of_ble_eq_true rfl) (L := [_, _, _, _]) rfl ?_
  refine xA.iload_n (i := 1) rfl rfl rfl rfl ?_
  refine xA.callSi (As := [_]) rfl k9_116 okX9_isRoom rfl rfl (Nat.le_of_ble_eq_true rfl) (c_X9_isRoom d _ G _) rfl rfl ?_
  refine xA.if_ne (tgt := 10) rfl rfl rfl (fun h4 => ?_) (fun h4 => ?_)
  · rw [xb_ne0] at h4
    refine xA.iload_n (i := 2) rfl rfl rfl rfl ?_
    refine xA.callSi (As := [_]) rfl k9_181 okX9_isMinute rfl rfl (Nat.le_of_ble_eq_true rfl) (c_X9_isMinute d _ G _) rfl rfl ?_
    refine xA.if_eq (tgt := 29) rfl rfl rfl (fun h14 => ?_) (fun h14 => ?_)
    · rw [xb_eq0] at h14
      refine xA.bipush (v := (-102)) rfl (by decide) rfl ?_
      exact xA.iret rfl rfl rfl ⟨S, rfl, by simp only [aTask]; rw [if_pos h4, if_neg (by rintro ⟨q2, q3, q4⟩; first | exact h14 q2 | exact h21 q3 | exact q4 (Int32.not_le.mp h26))], by unfold tTask; rw [if_neg (by rintro ⟨q1, ⟨q2, q3, q4⟩, q5, q6⟩; first | exact h4 q1 | exact h14 q2 | exact h21 q3 | exact q4 (Int32.not_le.mp h26) | exact h36 q5 | exact q6 h5)]; exact hc0, fun _ _ => rfl⟩
    · rw [xb_ne0] at h14
      refine xA.iload_n (i := 3) rfl rfl rfl rfl ?_
      refine xA.callSi (As := [_]) rfl k9_181 okX9_isMinute rfl rfl (Nat.le_of_ble_eq_true rfl) (c_X9_isMinute d _ G _) rfl rfl ?_
      refine xA.if_eq (tgt := 29) rfl rfl rfl (fun h21 => ?_) (fun h21 => ?_)
      · rw [xb_eq0] at h21
        refine xA.bipush (v := (-102)) rfl (by decide) rfl ?_
        exact xA.iret rfl rfl rfl ⟨S, rfl, by simp only [aTask]; rw [if_pos h4, if_neg (by rintro ⟨q2, q3, q4⟩; first | exact h14 q2 | exact h21 q3 | exact q4 (Int32.not_le.mp h26))], by unfold tTask; rw [if_neg (by rintro ⟨q1, ⟨q2, q3, q4⟩, q5, q6⟩; first | exact h4 q1 | exact h14 q2 | exact h21 q3 | exact q4 (Int32.not_le.mp h26) | exact h36 q5 | exact q6 h5)]; exact hc0, fun _ _ => rfl⟩
      · rw [xb_ne0] at h21
        refine xA.iload_n (i := 3) rfl rfl rfl rfl ?_
        refine xA.iload_n (i := 2) rfl rfl rfl rfl ?_
        refine xA.icmp_ge (tgt := 32) rfl rfl rfl (fun h26 => ?_) (fun h26 => ?_)
        · refine xA.aload_n (i := 0) rfl rfl rfl rfl ?_
          refine xA.callVi (As := []) rfl k9_120 okX9_hasHouse rfl rfl rfl rfl (Nat.le_of_ble_eq_true rfl) (c_X9_hasHouse d _ G) rfl rfl ?_
          refine xA.if_ne (tgt := 42) rfl rfl rfl (fun h36 => ?_) (fun h36 => ?_)
          · rw [xb_ne0] at h36
            by_cases h5 : (sTk s).1 = 5
            · rw [hr_pos hho] at h36
              refine xA.aload_n (i := 0) rfl rfl rfl rfl ?_
              refine xA.getR rfl f9_42 rfl rfl rfl rfl ?_
              refine xA.iload_n (i := 1) rfl rfl rfl rfl ?_
              refine xA.iload_n (i := 2) rfl rfl rfl rfl ?_
              refine xA.iload_n (i := 3) rfl rfl rfl rfl ?_
              refine xA.callVi (As := [_, _, _]) rfl k9_207 okX7_add rfl rfl rfl rfl (Nat.le_of_ble_eq_true rfl) (c_X7_addF d _ G 12 iT12 (by rw [htk.1, h5]) _ _ _) rfl rfl ?_
              exact xA.iret rfl rfl rfl ⟨S, rfl, by simp only [aTask]; rw [if_pos h4, if_pos ⟨h14, h21, Int32.not_lt.mpr h26⟩, if_neg h36, if_pos h5], by unfold tTask; rw [if_neg (by rintro ⟨q1, ⟨q2, q3, q4⟩, q5, q6⟩; first | exact h4 q1 | exact h14 q2 | exact h21 q3 | exact q4 (Int32.not_le.mp h26) | exact h36 q5 | exact q6 h5)]; exact hc0, fun _ _ => rfl⟩
            · rw [hr_pos hho] at h36
              have h55 : (sTk s).1 < 5 := by have := htk.2.1; omega
              refine xA.aload_n (i := 0) rfl rfl rfl rfl ?_
              refine xA.getR rfl f9_42 rfl rfl rfl rfl ?_
              refine xA.iload_n (i := 1) rfl rfl rfl rfl ?_
              refine xA.iload_n (i := 2) rfl rfl rfl rfl ?_
              refine xA.iload_n (i := 3) rfl rfl rfl rfl ?_
              refine xA.callVi (As := [_, _, _]) rfl k9_207 okX7_add rfl rfl rfl rfl (Nat.le_of_ble_eq_true rfl) (c_X7_add d _ G 12 iT12 _ htk.1 h55 _ _ _) rfl rfl ?_
              have off : ∀ j, ¬ (12 ≤ j ∧ j < 16) → xu (xu (xu (xu S (12 + 1) (sTk s).1 r) (12 + 2) (sTk s).1 f) (12 + 3) (sTk s).1 t) 12 3 (nI ((sTk s).1 + 1)) j = S j := fun j hj => by funext q; simp only [xu]; rw [if_neg (by omega), if_neg (by omega), if_neg (by omega), if_neg (by omega)]
              exact xA.iret rfl rfl rfl ⟨_, rfl, by simp only [aTask]; rw [if_pos h4, if_pos ⟨h14, h21, Int32.not_lt.mpr h26⟩, if_neg h36, if_neg h5], by
                unfold tTask
                rw [if_pos ⟨h4, ⟨h14, h21, Int32.not_lt.mpr h26⟩, h36, h5⟩]
                exact ⟨hpg.to (off 1 (by omega)) (off 2 (by omega)), hho.to (by rw [off 0 (by omega)]) (off 3 (by omega)) (off 4 (by omega)) (off 5 (by omega)), hpp.to (by rw [off 0 (by omega)]) (fun j h1 h2 => off j (by omega)), tkC_add htk h55 r f t, hgl.to (off _ (by omega)) (off _ (by omega)), ⟨by rw [off 0 (by omega)]; exact hsd.1, hsd.2⟩, him.to (fun j h1 h2 => off j (by omega)), fun z => absurd z h36⟩, fun j hj => off j (by omega)⟩
          · rw [xb_eq0] at h36
            refine xA.bipush (v := (-103)) rfl (by decide) rfl ?_
            rw [hr_pos hho] at h36
            exact xA.iret rfl rfl rfl ⟨S, rfl, by simp only [aTask]; rw [if_pos h4, if_pos ⟨h14, h21, Int32.not_lt.mpr h26⟩, if_pos (by omega)], by unfold tTask; rw [if_neg (by rintro ⟨q1, q2, q5, q6⟩; exact h36 q5)]; exact hc0, fun _ _ => rfl⟩
        · refine xA.bipush (v := (-102)) rfl (by decide) rfl ?_
          exact xA.iret rfl rfl rfl ⟨S, rfl, by simp only [aTask]; rw [if_pos h4, if_neg (by rintro ⟨q2, q3, q4⟩; first | exact h14 q2 | exact h21 q3 | exact q4 (Int32.not_le.mp h26))], by unfold tTask; rw [if_neg (by rintro ⟨q1, ⟨q2, q3, q4⟩, q5, q6⟩; first | exact h4 q1 | exact h14 q2 | exact h21 q3 | exact q4 (Int32.not_le.mp h26) | exact h36 q5 | exact q6 h5)]; exact hc0, fun _ _ => rfl⟩
  · rw [xb_eq0] at h4
    refine xA.bipush (v := (-101)) rfl (by decide) rfl ?_
    exact xA.iret rfl rfl rfl ⟨S, rfl, by simp only [aTask]; rw [if_neg h4], by unfold tTask; rw [if_neg (by rintro ⟨q1, ⟨q2, q3, q4⟩, q5, q6⟩; first | exact h4 q1 | exact h14 q2 | exact h21 q3 | exact q4 (Int32.not_le.mp h26) | exact h36 q5 | exact q6 h5)]; exact hc0, fun _ _ => rfl⟩
set_option maxRecDepth 100000 in
set_option maxHeartbeats 1000000 in
theorem o_glimpse (d : Nat) (s : sS) (m r : Int32) : opC τ (d + 1) mX9_glimpse [.ref 0, .int m, .int r] s (.int (aGlimpse s m r)) (tGlimpse s m r) := by
  intro S G hc
  have hc0 := hc
  obtain ⟨hpg, hho, hpp, htk, hgl, hsd, him, hno⟩ := hc
  refine xC.of okX9_glimpse (Nat.le_of_ble_eq_true rfl) (L := [_, _, _]) rfl ?_
  refine xA.iload_n (i := 1) rfl rfl rfl rfl ?_
  refine xA.callSi (As := [_]) rfl k9_181 okX9_isMinute rfl rfl (Nat.le_of_ble_eq_true rfl) (c_X9_isMinute d _ G _) rfl rfl ?_
  refine xA.if_ne (tgt := 10) rfl rfl rfl (fun h4 => ?_) (fun h4 => ?_)
  · rw [xb_ne0] at h4
    refine xA.iload_n (i := 2) rfl rfl rfl rfl ?_
    refine xA.callSi (As := [_]) rfl k9_116 okX9_isRoom rfl rfl (Nat.le_of_ble_eq_true rfl) (c_X9_isRoom d _ G _) rfl rfl ?_
    refine xA.if_ne (tgt := 20) rfl rfl rfl (fun h14 => ?_) (fun h14 => ?_)
    · rw [xb_ne0] at h14
      refine xA.aload_n (i := 0) rfl rfl rfl rfl ?_
      refine xA.callVi (As := []) rfl k9_120 okX9_hasHouse rfl rfl rfl rfl (Nat.le_of_ble_eq_true rfl) (c_X9_hasHouse d _ G) rfl rfl ?_
      refine xA.if_ne (tgt := 30) rfl rfl rfl (fun h24 => ?_) (fun h24 => ?_)
      · rw [xb_ne0] at h24
        by_cases h8 : (sGl s).1 = 8
        · rw [hr_pos hho] at h24
          obtain ⟨mm, hmm, rfl⟩ := rg_nI h4 (by omega)
          obtain ⟨rr, hrr, rfl⟩ := rg_nI h14 (by omega)
          refine xA.aload_n (i := 0) rfl rfl rfl rfl ?_
          refine xA.getR rfl f9_49 rfl rfl rfl rfl ?_
          refine xA.iload_n (i := 1) rfl rfl rfl rfl ?_
          refine xA.iload_n (i := 2) rfl rfl rfl rfl ?_
          refine xA.callSi (As := [_, _]) rfl k9_184 okX9_spotOf rfl rfl (Nat.le_of_ble_eq_true rfl) (c_X9_spotOf d _ G _ _) rfl rfl ?_
          refine xA.topi (nI_spot mm rr) ?_
          refine xA.callVi (As := [_]) rfl k9_233 okX0_add rfl rfl rfl rfl (Nat.le_of_ble_eq_true rfl) (c_X0_addF d _ G 16 iG16 (by rw [hgl.1, h8]) _) rfl rfl ?_
          exact xA.iret rfl rfl rfl ⟨S, rfl, by simp only [aGlimpse]; rw [if_pos h4, if_pos h14, if_neg h24, if_pos h8], by unfold tGlimpse; rw [if_neg (by rintro ⟨q1, q2, q5, q6⟩; first | exact h4 q1 | exact h14 q2 | exact h24 q5 | exact q6 h8)]; exact hc0, fun _ _ => rfl⟩
        · rw [hr_pos hho] at h24
          obtain ⟨mm, hmm, rfl⟩ := rg_nI h4 (by omega)
          obtain ⟨rr, hrr, rfl⟩ := rg_nI h14 (by omega)
          have h88 : (sGl s).1 < 8 := by have := hgl.2.1; omega
          refine xA.aload_n (i := 0) rfl rfl rfl rfl ?_
          refine xA.getR rfl f9_49 rfl rfl rfl rfl ?_
          refine xA.iload_n (i := 1) rfl rfl rfl rfl ?_
          refine xA.iload_n (i := 2) rfl rfl rfl rfl ?_
          refine xA.callSi (As := [_, _]) rfl k9_184 okX9_spotOf rfl rfl (Nat.le_of_ble_eq_true rfl) (c_X9_spotOf d _ G _ _) rfl rfl ?_
          refine xA.topi (nI_spot mm rr) ?_
          refine xA.callVi (As := [_]) rfl k9_233 okX0_add rfl rfl rfl rfl (Nat.le_of_ble_eq_true rfl) (c_X0_add d _ G 16 iG16 _ hgl.1 h88 _) rfl rfl ?_
          have off : ∀ j, ¬ (16 ≤ j ∧ j < 18) → xu (xu S (16 + 1) (sGl s).1 (nI (mm * 6 + rr))) 16 1 (nI ((sGl s).1 + 1)) j = S j := fun j hj => by funext q; simp only [xu]; rw [if_neg (by omega), if_neg (by omega)]
          exact xA.iret rfl rfl rfl ⟨_, rfl, by simp only [aGlimpse]; rw [if_pos h4, if_pos h14, if_neg h24, if_neg h8], by
            unfold tGlimpse
            rw [if_pos ⟨h4, h14, h24, h8⟩, nI_clamp (by omega), nI_clamp (by omega)]
            exact ⟨hpg.to (off 1 (by omega)) (off 2 (by omega)), hho.to (by rw [off 0 (by omega)]) (off 3 (by omega)) (off 4 (by omega)) (off 5 (by omega)), hpp.to (by rw [off 0 (by omega)]) (fun j h1 h2 => off j (by omega)), htk.to (off _ (by omega)) (off _ (by omega)) (off _ (by omega)) (off _ (by omega)), glC_add hgl h88 _ (by omega), ⟨by rw [off 0 (by omega)]; exact hsd.1, hsd.2⟩, him.to (fun j h1 h2 => off j (by omega)), fun z => absurd z h24⟩, fun j hj => off j (by omega)⟩
      · rw [xb_eq0] at h24
        refine xA.bipush (v := (-103)) rfl (by decide) rfl ?_
        rw [hr_pos hho] at h24
        exact xA.iret rfl rfl rfl ⟨S, rfl, by simp only [aGlimpse]; rw [if_pos h4, if_pos h14, if_pos (by omega)], by unfold tGlimpse; rw [if_neg (by rintro ⟨q1, q2, q5, q6⟩; exact h24 q5)]; exact hc0, fun _ _ => rfl⟩
    · rw [xb_eq0] at h14
      refine xA.bipush (v := (-101)) rfl (by decide) rfl ?_
      exact xA.iret rfl rfl rfl ⟨S, rfl, by simp only [aGlimpse]; rw [if_pos h4, if_neg h14], by unfold tGlimpse; rw [if_neg (by rintro ⟨q1, q2, q5, q6⟩; first | exact h4 q1 | exact h14 q2 | exact h24 q5 | exact q6 h8)]; exact hc0, fun _ _ => rfl⟩
  · rw [xb_eq0] at h4
    refine xA.bipush (v := (-102)) rfl (by decide) rfl ?_
    exact xA.iret rfl rfl rfl ⟨S, rfl, by simp only [aGlimpse]; rw [if_neg h4], by unfold tGlimpse; rw [if_neg (by rintro ⟨q1, q2, q5, q6⟩; first | exact h4 q1 | exact h14 q2 | exact h24 q5 | exact q6 h8)]; exact hc0, fun _ _ => rfl⟩
set_option maxRecDepth 100000 in
set_option maxHeartbeats 1000000 in
theorem o_person (d : Nat) (s : sS) (k : Int32) : opC τ (d + 2) mX9_person [.ref 0, .int k] s (.int (aPerson s k)) (tPerson s k) := by
  intro S G hc
  have hc0 := hc
  obtain ⟨hpg, hho, hpp, htk, hgl, hsd, him, hno⟩ := hc
  refine xC.of okX9_person (Nat.le_of_ble_eq_true rfl) (L := [_, _, _, _]) rfl ?_
  refine xA.iload_n (i := 1) rfl rfl rfl rfl ?_
  refine xA.callSi (As := [_]) rfl k9_131 okX9_isKind rfl rfl (Nat.le_of_ble_eq_true rfl) (c_X9_isKind (d + 1) _ G _) rfl rfl ?_
  refine xA.if_ne (tgt := 10) rfl rfl rfl (fun h4 => ?_) (fun h4 => ?_)
  · rw [xb_ne0] at h4
    refine xA.aload_n (i := 0) rfl rfl rfl rfl ?_
    refine xA.callVi (As := []) rfl k9_120 okX9_hasHouse rfl rfl rfl rfl (Nat.le_of_ble_eq_true rfl) (c_X9_hasHouse (d + 1) _ G) rfl rfl ?_
    refine xA.if_ne (tgt := 20) rfl rfl rfl (fun h14 => ?_) (fun h14 => ?_)
    · rw [xb_ne0] at h14
      by_cases h44 : sP s = 4
      · rw [hr_pos hho] at h14
        refine xA.aload_n (i := 0) rfl rfl rfl rfl ?_
        refine xA.getI rfl f9_105 rfl rfl rfl ?_
        refine xA.topi ((hpp.1.trans (congrArg nI h44) : _ = nI 4)) ?_
        refine xA.istore_n (i := 2) (L' := [_, _, _, _]) rfl rfl (Nat.le_of_ble_eq_true rfl) rfl rfl ?_
        refine xA.iload_n (i := 2) rfl rfl rfl rfl ?_
        refine xA.iconst (v := 4) rfl (by decide) rfl ?_
        refine xA.icmp_lt (tgt := 33) rfl rfl rfl (fun h27 => ?_) (fun h27 => ?_)
        · exact absurd h27 (by decide)
        · refine xA.bipush (v := (-104)) rfl (by decide) rfl ?_
          exact xA.iret rfl rfl rfl ⟨S, rfl, by simp only [aPerson]; rw [if_pos h4, if_neg h14, if_pos h44], by unfold tPerson; rw [if_neg (by rintro ⟨q1, q5, q6⟩; first | exact h4 q1 | exact h14 q5 | exact q6 h44)]; exact hc0, fun _ _ => rfl⟩
      · rw [hr_pos hho] at h14
        have h4p : sP s < 4 := by have := hpp.2.1; omega
        obtain ⟨kk, hkk, rfl⟩ := rg_nI h4 (by omega)
        have off : ∀ j, ¬ (42 ≤ j ∧ j < 54) → j ≠ 0 → xu (xu (xu (xu (xu S 0 10 (nI (sP s + 1))) (42 + 3 * sP s) 1 (nI kk)) (42 + 3 * sP s + 1) 1 0) (42 + 3 * sP s + 1) 2 0) (42 + 3 * sP s + 1) 3 0 j = S j := fun j hj h0 => by funext q; simp only [xu]; rw [if_neg (by omega), if_neg (by omega), if_neg (by omega), if_neg (by omega), if_neg (by omega)]
        refine xA.aload_n (i := 0) rfl rfl rfl rfl ?_
        refine xA.getI rfl f9_105 rfl rfl rfl ?_
        refine xA.topi (hpp.1) ?_
        refine xA.istore_n (i := 2) (L' := [_, _, _, _]) rfl rfl (Nat.le_of_ble_eq_true rfl) rfl rfl ?_
        refine xA.iload_n (i := 2) rfl rfl rfl rfl ?_
        refine xA.iconst (v := 4) rfl (by decide) rfl ?_
        refine xA.icmp_lt (tgt := 33) rfl rfl rfl (fun h27 => ?_) (fun h27 => ?_)
        · refine xA.aload_n (i := 0) rfl rfl rfl rfl ?_
          refine xA.dup rfl rfl rfl ?_
          refine xA.getI rfl f9_105 rfl rfl rfl ?_
          refine xA.topi (hpp.1) ?_
          refine xA.iconst (v := 1) rfl (by decide) rfl ?_
          refine xA.iadd rfl rfl ?_
          refine xA.topi (nI_1 _) ?_
          refine xA.putI rfl p9_105 rfl rfl rfl ?_
          refine xA.aload_n (i := 0) rfl rfl rfl rfl ?_
          refine xA.iload_n (i := 2) rfl rfl rfl rfl ?_
          refine xA.callVr (As := [_]) rfl k9_134 okX9_personAt rfl rfl rfl rfl (Nat.le_of_ble_eq_true rfl) (c_X9_personAt (d + 1) _ G (sP s + 1) xu_same h4p (sP s) (by omega)) rfl rfl ?_
          refine xA.astore_n (i := 3) (L' := [_, _, _, _]) rfl rfl (Nat.le_of_ble_eq_true rfl) rfl rfl ?_
          refine xA.aload_n (i := 3) rfl rfl rfl rfl ?_
          refine xA.ifnull rfl rfl ?_
          refine xA.aload_n (i := 3) rfl rfl rfl rfl ?_
          refine xA.iload_n (i := 1) rfl rfl rfl rfl ?_
          refine xA.callVv (As := [_]) rfl k9_138 okX5_begin (isP (sP s) h4p).1 rfl rfl rfl (Nat.le_of_ble_eq_true rfl) (c_X5_begin d _ G (42 + 3 * sP s) (isP (sP s) h4p) (nI kk)) rfl rfl ?_
          refine xA.iload_n (i := 2) rfl rfl rfl rfl ?_
          exact xA.iret rfl rfl rfl ⟨_, rfl, by simp only [aPerson]; rw [if_pos h4, if_neg h14, if_neg h44], by
            unfold tPerson
            rw [if_pos ⟨h4, h14, h44⟩, nI_clamp (by omega)]
            refine ⟨hpg.to (off 1 (by omega) (by omega)) (off 2 (by omega) (by omega)), hho.to (by simp only [xu]; rw [if_neg (by omega), if_neg (by omega), if_neg (by omega), if_neg (by omega)]; rfl) (off 3 (by omega) (by omega)) (off 4 (by omega) (by omega)) (off 5 (by omega) (by omega)), ⟨by simp only [xu]; rw [if_neg (by omega), if_neg (by omega), if_neg (by omega), if_neg (by omega)]; rfl, by show sP s + 1 ≤ 4; omega, fun p hp => ?_⟩, htk.to (off _ (by omega) (by omega)) (off _ (by omega) (by omega)) (off _ (by omega) (by omega)) (off _ (by omega) (by omega)), hgl.to (off _ (by omega) (by omega)) (off _ (by omega) (by omega)), ⟨by simp only [xu]; rw [if_neg (by omega), if_neg (by omega), if_neg (by omega), if_neg (by omega)]; exact hsd.1, hsd.2⟩, him.to (fun j h1 h2 => off j (by omega) (by omega)), fun z => absurd z h14⟩
            have hp2 : p < sP s + 1 := hp
            show _ = nI (nu (sKd s) (sP s) kk p) ∧ nu (sKd s) (sP s) kk p < 5 ∧ lC _ _ (lu (sL s) (sP s) lE p) ∧ lG _ (lu (sL s) (sP s) lE p)
            by_cases e : p = sP s
            · subst e
              refine ⟨by simp [xu, nu], by simp [nu, hkk], ?_, by simp [lu, lG_E]⟩
              simp only [lu, if_true]
              exact ⟨by simp [xu, lE]; rfl, by simp [xu, lE]; rfl, by simp [xu, lE]; rfl, fun i hi => absurd hi (Nat.not_lt_zero _)⟩
            · obtain ⟨a1, a2, a3, a4⟩ := hpp.2.2 p (by omega)
              simp only [nu, lu, if_neg e]
              have o2 : ∀ j, j ≠ 0 → j ≠ 42 + 3 * sP s → j ≠ 42 + 3 * sP s + 1 → xu (xu (xu (xu (xu S 0 10 (nI (sP s + 1))) (42 + 3 * sP s) 1 (nI kk)) (42 + 3 * sP s + 1) 1 0) (42 + 3 * sP s + 1) 2 0) (42 + 3 * sP s + 1) 3 0 j = S j := fun j h0 h1 h2 => by funext q; simp only [xu]; rw [if_neg h2, if_neg h2, if_neg h2, if_neg h1, if_neg h0]
              exact ⟨by rw [o2 _ (by omega) (by omega) (by omega)]; exact a1, a2, a3.to (o2 _ (by omega) (by omega) (by omega)) (o2 _ (by omega) (by omega) (by omega)), a4⟩, fun j hj => off j (by omega) (by omega)⟩
        · exact absurd (nI_lt (b := 4) h4p (by omega)) h27
    · rw [xb_eq0] at h14
      refine xA.bipush (v := (-103)) rfl (by decide) rfl ?_
      rw [hr_pos hho] at h14
      exact xA.iret rfl rfl rfl ⟨S, rfl, by simp only [aPerson]; rw [if_pos h4, if_pos (by omega)], by unfold tPerson; rw [if_neg (by rintro ⟨q1, q5, q6⟩; exact h14 q5)]; exact hc0, fun _ _ => rfl⟩
  · rw [xb_eq0] at h4
    refine xA.bipush (v := (-102)) rfl (by decide) rfl ?_
    exact xA.iret rfl rfl rfl ⟨S, rfl, by simp only [aPerson]; rw [if_neg h4], by unfold tPerson; rw [if_neg (by rintro ⟨q1, q5, q6⟩; first | exact h4 q1 | exact h14 q5 | exact q6 h44)]; exact hc0, fun _ _ => rfl⟩
set_option maxRecDepth 100000 in
set_option maxHeartbeats 1000000 in
theorem o_fault (d : Nat) (s : sS) (w : Int32) : opC τ (d + 5) mX9_fault [.ref 0, .int w] s (.int (aFault s w)) (s) := by
  intro S G hc
  have hc0 := hc
  obtain ⟨hpg, hho, hpp, htk, hgl, hsd, him, hno⟩ := hc
  refine xC.of okX9_fault (Nat.le_of_ble_eq_true rfl) (L := [_, _]) rfl ?_
  refine xA.iload_n (i := 1) rfl rfl rfl rfl ?_
  refine xA.if_ne (tgt := 16) rfl rfl rfl (fun h1 => ?_) (fun h1 => ?_)
  · refine xA.iload_n (i := 1) rfl rfl rfl rfl ?_
    refine xA.iconst (v := 1) rfl (by decide) rfl ?_
    refine xA.icmp_ne (tgt := 31) rfl rfl rfl (fun h18 => ?_) (fun h18 => ?_)
    · refine xA.bipush (v := (-102)) rfl (by decide) rfl ?_
      exact xA.iret rfl rfl rfl ⟨S, rfl, by simp only [aFault]; first | (rw [if_neg h1, if_pos h18]; done) | (rw [if_neg h1, if_neg h18]; done), hc0, fun _ _ => rfl⟩
    · refine xA.aload_n (i := 0) rfl rfl rfl rfl ?_
      refine xA.getR rfl f9_12 rfl rfl rfl rfl ?_
      refine xA.callSi (As := [_]) rfl k9_94 okX3_faultIn rfl rfl (Nat.le_of_ble_eq_true rfl) (c_X3_faultIn d _ G (sPg s) (sN s) hpg) rfl rfl ?_
      refine xA.goto (q := 33) rfl rfl ?_
      exact xA.iret rfl rfl rfl ⟨S, rfl, by simp only [aFault]; first | (rw [if_neg h1, if_pos h18]; done) | (rw [if_neg h1, if_neg h18]; done), hc0, fun _ _ => rfl⟩
  · refine xA.aload_n (i := 0) rfl rfl rfl rfl ?_
    refine xA.getR rfl f9_23 rfl rfl rfl rfl ?_
    refine xA.aload_n (i := 0) rfl rfl rfl rfl ?_
    refine xA.getR rfl f9_12 rfl rfl rfl rfl ?_
    refine xA.callV (As := [_]) (h := ((σF τ), _, _)) rfl k9_90 okX1_read rfl rfl rfl rfl (Nat.le_of_ble_eq_true rfl) (c_X1_read d _ G 6 iH6 (by omega) (sPg s) (sN s) hpg) (Nat.le_refl _) (Nat.le_refl _) rfl rfl ?_
    rintro r9 h9 ⟨S2, rfl, hf2, rfl, -⟩
    exact xA.iret rfl rfl rfl ⟨S2, rfl, by simp only [aFault]; rw [if_pos h1], hc0.scr (fun j h1 h2 => hf2 j (by omega)), fun j hj => hf2 j (by omega)⟩

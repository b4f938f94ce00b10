/-! ===== image, restore ===== -/
theorem tcS_tk {S : Nat → Nat → Int32} {k k2 : Nat} {t : tS} (ht : tkC S k2 t) : tkC (tcS S k k2 t.1) k t := by
  refine ⟨by simp [tcS], ht.2.1, fun i hi => ?_⟩
  have := ht.2.2 i hi
  refine ⟨?_, ?_, ?_⟩
  · simp only [tcS]; rw [if_neg (by omega), if_pos trivial, if_pos hi]; exact this.1
  · simp only [tcS]; rw [if_neg (by omega), if_neg (by omega), if_pos trivial, if_pos hi]; exact this.2.1
  · simp only [tcS]; rw [if_neg (by omega), if_neg (by omega), if_neg (by omega), if_pos trivial, if_pos hi]; exact this.2.2
theorem tcS_off {S : Nat → Nat → Int32} {k k2 n j : Nat} (h : ¬ (k ≤ j ∧ j < k + 4)) : tcS S k k2 n j = S j := by
  funext i; simp only [tcS]; rw [if_neg (by omega), if_neg (by omega), if_neg (by omega), if_neg (by omega)]
theorem gcS_gl {S : Nat → Nat → Int32} {k k2 : Nat} {g : gS} (ht : glC S k2 g) : glC (gcS S k k2 g.1) k g := by
  refine ⟨by simp [gcS], ht.2.1, fun i hi => ⟨?_, (ht.2.2 i hi).2⟩⟩
  simp only [gcS]; rw [if_neg (by omega), if_pos trivial, if_pos hi]; exact (ht.2.2 i hi).1
theorem gcS_off {S : Nat → Nat → Int32} {k k2 n j : Nat} (h : ¬ (k ≤ j ∧ j < k + 2)) : gcS S k k2 n j = S j := by
  funext i; simp only [gcS]; rw [if_neg (by omega), if_neg (by omega)]

set_option maxRecDepth 100000 in
set_option maxHeartbeats 400000 in
theorem c_X9_copyLife (d : Nat) (S : Nat → Nat → Int32) (G : Nat → Nat → Int64) (f t : Nat) (hf : isPers f) (ht : isPers t) (hx : t + 1 + 2 ≤ f + 1 ∨ f + 1 + 2 ≤ t + 1) (l : lS) (hl : lC S (f + 1) l) (h17 : lN' l ≤ 17) : xR (d + 2) mX9_copyLife [.ref f, .ref t] S G none (lcE S (t + 1) (f + 1) (lN' l)) G := by
  refine xC.of okX9_copyLife (Nat.le_of_ble_eq_true rfl) (L := [_, _]) rfl ?_
  refine xA.aload_n (i := 0) rfl rfl rfl rfl ?_
  refine xA.ifnull rfl rfl ?_
  refine xA.aload_n (i := 1) rfl rfl rfl rfl ?_
  refine xA.ifnull rfl rfl ?_
  refine xA.aload_n (i := 1) rfl rfl rfl rfl ?_
  refine xA.callVr (As := []) rfl k9_152 okX5_lived ht.1 rfl rfl rfl (Nat.le_of_ble_eq_true rfl) (c_X5_lived (d + 1) S G t ht) rfl rfl ?_
  refine xA.aload_n (i := 0) rfl rfl rfl rfl ?_
  refine xA.callVr (As := []) rfl k9_152 okX5_lived hf.1 rfl rfl rfl (Nat.le_of_ble_eq_true rfl) (c_X5_lived (d + 1) S G f hf) rfl rfl ?_
  refine xA.callVv (As := [_]) rfl k9_156 okX3_copyFrom ht.2.1 rfl rfl rfl (Nat.le_of_ble_eq_true rfl) (c_X3_copyFrom d S G (t + 1) ht.2 (f + 1) hf.2 hx (lN' l) hl.1 h17) rfl rfl ?_
  exact xA.vret rfl rfl ⟨rfl, rfl⟩
set_option maxRecDepth 100000 in
set_option maxHeartbeats 400000 in
theorem c_X2_keep (d : Nat) (S : Nat → Nat → Int32) (G : Nat → Nat → Int64) (p : Int32) (tk : tS) (htk : tkC S 12 tk) (gl : gS) (hgl : glC S 16 gl) : xR (d + 2) mX2_keep [.ref 18, .int p, .ref 12, .ref 16] S G none (gcS (tcS (xu (xu S 18 3 1) 18 4 p) 20 12 tk.1) 24 16 gl.1) G := by
  refine xC.of okX2_keep (Nat.le_of_ble_eq_true rfl) (L := [_, _, _, _]) rfl ?_
  refine xA.aload_n (i := 0) rfl rfl rfl rfl ?_
  refine xA.iconst (v := 1) rfl (by decide) rfl ?_
  refine xA.putZ rfl p2_32 rfl rfl (Or.inr rfl) rfl ?_
  refine xA.aload_n (i := 0) rfl rfl rfl rfl ?_
  refine xA.iload_n (i := 1) rfl rfl rfl rfl ?_
  refine xA.putI rfl p2_36 rfl rfl rfl ?_
  refine xA.aload_n (i := 0) rfl rfl rfl rfl ?_
  refine xA.getR rfl f2_20 rfl rfl rfl rfl ?_
  refine xA.aload_n (i := 2) rfl rfl rfl rfl ?_
  refine xA.callVv (As := [_]) rfl k2_40 okX7_copyFrom rfl rfl rfl rfl (Nat.le_of_ble_eq_true rfl) (c_X7_copyFrom d _ G 20 iT20 12 iT12 (by omega) tk.1 (by simp only [xu]; exact htk.1) htk.2.1) rfl rfl ?_
  refine xA.aload_n (i := 0) rfl rfl rfl rfl ?_
  refine xA.getR rfl f2_27 rfl rfl rfl rfl ?_
  refine xA.aload_n (i := 3) rfl rfl rfl rfl ?_
  refine xA.callVv (As := [_]) rfl k2_44 okX0_copyFrom rfl rfl rfl rfl (Nat.le_of_ble_eq_true rfl) (c_X0_copyFrom d _ G 24 iG24 16 iG16 (by omega) gl.1 (by rw [tcS_off (by omega)]; simp only [xu]; exact hgl.1) hgl.2.1) rfl rfl ?_
  exact xA.vret rfl rfl ⟨rfl, rfl⟩
set_option maxRecDepth 100000 in
set_option maxHeartbeats 400000 in
theorem c_X2_giveBack (d : Nat) (S : Nat → Nat → Int32) (G : Nat → Nat → Int64) (tk : tS) (htk : tkC S 20 tk) (gl : gS) (hgl : glC S 24 gl) : xR (d + 2) mX2_giveBack [.ref 18, .ref 12, .ref 16] S G none (gcS (tcS S 12 20 tk.1) 16 24 gl.1) G := by
  refine xC.of okX2_giveBack (Nat.le_of_ble_eq_true rfl) (L := [_, _, _]) rfl ?_
  refine xA.aload_n (i := 1) rfl rfl rfl rfl ?_
  refine xA.aload_n (i := 0) rfl rfl rfl rfl ?_
  refine xA.getR rfl f2_20 rfl rfl rfl rfl ?_
  refine xA.callVv (As := [_]) rfl k2_40 okX7_copyFrom rfl rfl rfl rfl (Nat.le_of_ble_eq_true rfl) (c_X7_copyFrom d _ G 12 iT12 20 iT20 (by omega) tk.1 htk.1 htk.2.1) rfl rfl ?_
  refine xA.aload_n (i := 2) rfl rfl rfl rfl ?_
  refine xA.aload_n (i := 0) rfl rfl rfl rfl ?_
  refine xA.getR rfl f2_27 rfl rfl rfl rfl ?_
  refine xA.callVv (As := [_]) rfl k2_44 okX0_copyFrom rfl rfl rfl rfl (Nat.le_of_ble_eq_true rfl) (c_X0_copyFrom d _ G 16 iG16 24 iG24 (by omega) gl.1 (by rw [tcS_off (by omega)]; exact hgl.1) hgl.2.1) rfl rfl ?_
  exact xA.vret rfl rfl ⟨rfl, rfl⟩
def aImage (s : sS) : Int32 := if sHr s = 0 then -103 else nI (sP s)
def tImage (s : sS) : sS := if sHr s = 0 then s else mkS s (sPg s) (sN s) (sHr s) (sH s) (sP s) (sKd s) (sL s) (sTk s) (sGl s) (sSd s) (1, sP s, sL s, sTk s, sGl s)
def aRestore (s : sS) : Int32 := if (sIm s).1 = 1 ∧ (sIm s).2.1 = sP s then nI (sP s) else -103
def tRestore (s : sS) : sS := if (sIm s).1 = 1 ∧ (sIm s).2.1 = sP s then mkS s (sPg s) (sN s) (sHr s) (sH s) (sP s) (sKd s) (sIm s).2.2.1 (sIm s).2.2.2.1 (sIm s).2.2.2.2 (sSd s) (sIm s) else s
/-- an image half kept -/
def imH (S S1 : Nat → Nat → Int32) (s : sS) (i : Nat) : Prop := S1 18 3 = 1 ∧ S1 18 4 = nI (sP s) ∧ tkC S1 20 (sTk s) ∧ glC S1 24 (sGl s) ∧ (∀ q, q < i → lC S1 (26 + 3 * q + 1) (sL s q)) ∧ ∀ j, ¬ (18 ≤ j ∧ j < 38) → S1 j = S j
/-- half restored -/
def rsH (S S1 : Nat → Nat → Int32) (s : sS) (i : Nat) : Prop := (∀ q, q < i → lC S1 (42 + 3 * q + 1) ((sIm s).2.2.1 q)) ∧ (∀ j, ¬ (42 ≤ j ∧ j < 54) → S1 j = S j) ∧ ∀ q, q < 4 → S1 (42 + 3 * q) = S (42 + 3 * q)

set_option maxRecDepth 100000 in
set_option maxHeartbeats 1000000 in
theorem o_image (d : Nat) (s : sS) : opC (d + 3) mX9_image [.ref 0] s (.int (aImage s)) (tImage s) := by
  intro S G hc
  have hc0 := hc
  obtain ⟨hpg, hho, hpp, htk, hgl, hsd, him, hno⟩ := hc
  refine xC.of okX9_image (Nat.le_of_ble_eq_true rfl) (L := [_, _]) rfl ?_
  refine xA.aload_n (i := 0) rfl rfl rfl rfl ?_
  refine xA.callVi (As := []) rfl k9_120 okX9_hasHouse rfl rfl rfl rfl (Nat.le_of_ble_eq_true rfl) (c_X9_hasHouse (d + 2) _ G) rfl rfl ?_
  refine xA.if_ne (tgt := 10) rfl rfl rfl (fun h4 => ?_) (fun h4 => ?_)
  · rw [xb_ne0, hr_pos hho] at h4
    refine xA.aload_n (i := 0) rfl rfl rfl rfl ?_
    refine xA.getR rfl f9_56 rfl rfl rfl rfl ?_
    refine xA.aload_n (i := 0) rfl rfl rfl rfl ?_
    refine xA.getI rfl f9_105 rfl rfl rfl ?_
    refine xA.topi (hpp.1) ?_
    refine xA.aload_n (i := 0) rfl rfl rfl rfl ?_
    refine xA.getR rfl f9_42 rfl rfl rfl rfl ?_
    refine xA.aload_n (i := 0) rfl rfl rfl rfl ?_
    refine xA.getR rfl f9_49 rfl rfl rfl rfl ?_
    refine xA.callVv (As := [_, _, _]) rfl k9_254 okX2_keep rfl rfl rfl rfl (Nat.le_of_ble_eq_true rfl) (c_X2_keep d _ G (nI (sP s)) (sTk s) htk (sGl s) hgl) rfl rfl ?_
    refine xA.iconst (v := 0) rfl (by decide) rfl ?_
    refine xA.istore_n (i := 1) (L' := [_, _]) rfl rfl (Nat.le_of_ble_eq_true rfl) rfl rfl ?_
    have loop : ∀ i, i ≤ sP s → ∀ S1 : Nat → Nat → Int32, imH S S1 s i → xA none (d + 3) mX9_image 0 0 0 0 31 [some (.ref 0), some (.int (nI i))] [] (σF, S1, G) (fun r h' => ∃ S', h' = (σF, S', G) ∧ r = some (.int (aImage s)) ∧ CS S' (tImage s) ∧ ∀ j, 54 ≤ j → S' j = S j) := by
      have hp4 := hpp.2.1
      refine xloop (sP s) (fun i hi ih => ?_) ?_
      · intro S1 hi6
        refine xA.iload_n (i := 1) rfl rfl rfl rfl ?_
        refine xA.aload_n (i := 0) rfl rfl rfl rfl ?_
        refine xA.getI rfl f9_105 rfl rfl rfl ?_
        refine xA.topi (((by rw [hi6.2.2.2.2.2 0 (by omega)]; exact hpp.1) : _ = nI (sP s))) ?_
        refine xA.icmp_ge (tgt := 61) rfl rfl rfl (fun h36 => ?_) (fun h36 => ?_)
        · exact absurd h36 (nI_ge hi (by omega))
        · have hi4 : i < 4 := by omega
          obtain ⟨a1, a2, a3, a4⟩ := hpp.2.2 i hi
          have a33 : lC S1 (42 + 3 * i + 1) (sL s i) := a3.to (hi6.2.2.2.2.2 _ (by omega)) (hi6.2.2.2.2.2 _ (by omega))
          refine xA.aload_n (i := 0) rfl rfl rfl rfl ?_
          refine xA.iload_n (i := 1) rfl rfl rfl rfl ?_
          refine xA.callVr (As := [_]) rfl k9_134 okX9_personAt rfl rfl rfl rfl (Nat.le_of_ble_eq_true rfl) (c_X9_personAt (d + 2) _ G (sP s) (by rw [hi6.2.2.2.2.2 0 (by omega)]; exact hpp.1) hpp.2.1 i hi) rfl rfl ?_
          refine xA.aload_n (i := 0) rfl rfl rfl rfl ?_
          refine xA.getR rfl f9_56 rfl rfl rfl rfl ?_
          refine xA.iload_n (i := 1) rfl rfl rfl rfl ?_
          refine xA.callVr (As := [_]) rfl k9_258 okX2_personAt rfl rfl rfl rfl (Nat.le_of_ble_eq_true rfl) (c_X2_personAt (d + 2) _ G i hi4) rfl rfl ?_
          refine xA.callSv (As := [_, _]) rfl k9_259 okX9_copyLife rfl rfl (Nat.le_of_ble_eq_true rfl) (c_X9_copyLife d _ G (42 + 3 * i) (26 + 3 * i) (isP i hi4) (isI i hi4) (by omega) (sL s i) a33 a4.1) rfl rfl ?_
          refine xA.iinc (L' := [_, _]) rfl rfl (nI_1 i) rfl rfl ?_
          refine xA.goto (q := 31) rfl rfl ?_
          refine ih _ ⟨?_, ?_, ?_, ?_, fun q hq => ?_, fun j hj => ?_⟩
          · rw [lcE_off (by omega) (by omega)]; exact hi6.1
          · rw [lcE_off (by omega) (by omega)]; exact hi6.2.1
          · exact hi6.2.2.1.to (lcE_off (by omega) (by omega)) (lcE_off (by omega) (by omega)) (lcE_off (by omega) (by omega)) (lcE_off (by omega) (by omega))
          · exact hi6.2.2.2.1.to (lcE_off (by omega) (by omega)) (lcE_off (by omega) (by omega))
          · by_cases e : q = i
            · subst e; exact lcE_lC a33
            · exact (hi6.2.2.2.2.1 q (by omega)).to (lcE_off (by omega) (by omega)) (lcE_off (by omega) (by omega))
          · rw [lcE_off (by omega) (by omega)]; exact hi6.2.2.2.2.2 j hj
      · intro S1 hi6
        refine xA.iload_n (i := 1) rfl rfl rfl rfl ?_
        refine xA.aload_n (i := 0) rfl rfl rfl rfl ?_
        refine xA.getI rfl f9_105 rfl rfl rfl ?_
        refine xA.topi (((by rw [hi6.2.2.2.2.2 0 (by omega)]; exact hpp.1) : _ = nI (sP s))) ?_
        refine xA.icmp_ge (tgt := 61) rfl rfl rfl (fun h36 => ?_) (fun h36 => ?_)
        · refine xA.aload_n (i := 0) rfl rfl rfl rfl ?_
          refine xA.getI rfl f9_105 rfl rfl rfl ?_
          refine xA.topi (((by rw [hi6.2.2.2.2.2 0 (by omega)]; exact hpp.1) : _ = nI (sP s))) ?_
          have off := hi6.2.2.2.2.2
          exact xA.iret rfl rfl rfl ⟨S1, rfl, by simp only [aImage]; rw [if_neg h4], by
            simp only [tImage]; rw [if_neg h4]
            exact ⟨hpg.to (off 1 (by omega)) (off 2 (by omega)), hho.to (by rw [off 0 (by omega)]) (off 3 (by omega)) (off 4 (by omega)) (off 5 (by omega)), hpp.to (by rw [off 0 (by omega)]) (fun j h1 h2 => off j (by omega)), htk.to (off _ (by omega)) (off _ (by omega)) (off _ (by omega)) (off _ (by omega)), hgl.to (off _ (by omega)) (off _ (by omega)), ⟨by rw [off 0 (by omega)]; exact hsd.1, hsd.2⟩, ⟨hi6.1, by show 1 ≤ 1; omega, fun _ => ⟨hi6.2.1, hpp.2.1, fun p hp => ⟨hi6.2.2.2.2.1 p hp, (hpp.2.2 p hp).2.2.2⟩, hi6.2.2.1, hi6.2.2.2.1⟩⟩, fun z => absurd z h4⟩, fun j hj => off j (by omega)⟩
        · exact absurd (nI_le (Nat.le_refl _) (by omega)) h36
    exact loop 0 (Nat.zero_le _) (gcS (tcS (xu (xu S 18 3 1) 18 4 (nI (sP s))) 20 12 (sTk s).1) 24 16 (sGl s).1) ⟨by rw [gcS_off (by omega), tcS_off (by omega)]; simp [xu], by rw [gcS_off (by omega), tcS_off (by omega)]; simp [xu], (tcS_tk (S := xu (xu S 18 3 1) 18 4 (nI (sP s))) (htk.to (by funext q; simp [xu]) (by funext q; simp [xu]) (by funext q; simp [xu]) (by funext q; simp [xu]))).to (gcS_off (by omega)) (gcS_off (by omega)) (gcS_off (by omega)) (gcS_off (by omega)), gcS_gl (hgl.to (by rw [tcS_off (by omega)]; funext q; simp [xu]) (by rw [tcS_off (by omega)]; funext q; simp [xu])), fun q hq => absurd hq (Nat.not_lt_zero _), fun j hj => by rw [gcS_off (by omega), tcS_off (by omega)]; funext q; simp only [xu]; rw [if_neg (by omega), if_neg (by omega)]⟩
  · rw [xb_eq0, hr_pos hho] at h4
    refine xA.bipush (v := (-103)) rfl (by decide) rfl ?_
    exact xA.iret rfl rfl rfl ⟨S, rfl, by simp only [aImage]; rw [if_pos (by omega)], by simp only [tImage]; rw [if_pos (by omega)]; exact hc0, fun _ _ => rfl⟩
set_option maxRecDepth 100000 in
set_option maxHeartbeats 1000000 in
theorem o_restore (d : Nat) (s : sS) : opC (d + 3) mX9_restore [.ref 0] s (.int (aRestore s)) (tRestore s) := by
  intro S G hc
  have hc0 := hc
  obtain ⟨hpg, hho, hpp, htk, hgl, hsd, him, hno⟩ := hc
  refine xC.of okX9_restore (Nat.le_of_ble_eq_true rfl) (L := [_, _]) rfl ?_
  refine xA.aload_n (i := 0) rfl rfl rfl rfl ?_
  refine xA.getR rfl f9_56 rfl rfl rfl rfl ?_
  refine xA.aload_n (i := 0) rfl rfl rfl rfl ?_
  refine xA.getI rfl f9_105 rfl rfl rfl ?_
  refine xA.topi (hpp.1) ?_
  refine xA.callVi (As := [_]) rfl k9_263 okX2_isOf rfl rfl rfl rfl (Nat.le_of_ble_eq_true rfl) (c_X2_isOf (d + 2) _ G (nI (sP s))) rfl rfl ?_
  refine xA.if_ne (tgt := 17) rfl rfl rfl (fun h11 => ?_) (fun h11 => ?_)
  · rw [xb_ne0] at h11
    have hk1 : (sIm s).1 = 1 := by
      have h0 : ¬ (sIm s).1 = 0 := fun z => h11.1 (by rw [him.1, z]; rfl)
      have := him.2.1; omega
    obtain ⟨hi1, hi2, hil, hit, hig⟩ := him.2.2 hk1
    have hcd : (sIm s).1 = 1 ∧ (sIm s).2.1 = sP s := ⟨hk1, by have := h11.2; rw [hi1] at this; exact (nI_eq (by omega) (by have := hpp.2.1; omega)).mp this⟩
    refine xA.iconst (v := 0) rfl (by decide) rfl ?_
    refine xA.istore_n (i := 1) (L' := [_, _]) rfl rfl (Nat.le_of_ble_eq_true rfl) rfl rfl ?_
    have loop : ∀ i, i ≤ sP s → ∀ S1 : Nat → Nat → Int32, rsH S S1 s i → xA none (d + 3) mX9_restore 0 0 0 0 19 [some (.ref 0), some (.int (nI i))] [] (σF, S1, G) (fun r h' => ∃ S', h' = (σF, S', G) ∧ r = some (.int (aRestore s)) ∧ CS S' (tRestore s) ∧ ∀ j, 54 ≤ j → S' j = S j) := by
      have hp4 := hpp.2.1
      refine xloop (sP s) (fun i hi ih => ?_) ?_
      · intro S1 hi6
        refine xA.iload_n (i := 1) rfl rfl rfl rfl ?_
        refine xA.aload_n (i := 0) rfl rfl rfl rfl ?_
        refine xA.getI rfl f9_105 rfl rfl rfl ?_
        refine xA.topi (((by rw [hi6.2.1 0 (by omega)]; exact hpp.1) : _ = nI (sP s))) ?_
        refine xA.icmp_ge (tgt := 49) rfl rfl rfl (fun h24 => ?_) (fun h24 => ?_)
        · exact absurd h24 (nI_ge hi (by omega))
        · have hi4 : i < 4 := by omega
          obtain ⟨a3, a4⟩ := hil i (by omega)
          have a33 : lC S1 (26 + 3 * i + 1) ((sIm s).2.2.1 i) := a3.to (hi6.2.1 _ (by omega)) (hi6.2.1 _ (by omega))
          refine xA.aload_n (i := 0) rfl rfl rfl rfl ?_
          refine xA.getR rfl f9_56 rfl rfl rfl rfl ?_
          refine xA.iload_n (i := 1) rfl rfl rfl rfl ?_
          refine xA.callVr (As := [_]) rfl k9_258 okX2_personAt rfl rfl rfl rfl (Nat.le_of_ble_eq_true rfl) (c_X2_personAt (d + 2) _ G i hi4) rfl rfl ?_
          refine xA.aload_n (i := 0) rfl rfl rfl rfl ?_
          refine xA.iload_n (i := 1) rfl rfl rfl rfl ?_
          refine xA.callVr (As := [_]) rfl k9_134 okX9_personAt rfl rfl rfl rfl (Nat.le_of_ble_eq_true rfl) (c_X9_personAt (d + 2) _ G (sP s) (by rw [hi6.2.1 0 (by omega)]; exact hpp.1) hpp.2.1 i hi) rfl rfl ?_
          refine xA.callSv (As := [_, _]) rfl k9_259 okX9_copyLife rfl rfl (Nat.le_of_ble_eq_true rfl) (c_X9_copyLife d _ G (26 + 3 * i) (42 + 3 * i) (isI i hi4) (isP i hi4) (by omega) ((sIm s).2.2.1 i) a33 a4.1) rfl rfl ?_
          refine xA.iinc (L' := [_, _]) rfl rfl (nI_1 i) rfl rfl ?_
          refine xA.goto (q := 19) rfl rfl ?_
          refine ih _ ⟨fun q hq => ?_, fun j hj => ?_, fun q hq => ?_⟩
          · by_cases e : q = i
            · subst e; exact lcE_lC a33
            · exact (hi6.1 q (by omega)).to (lcE_off (by omega) (by omega)) (lcE_off (by omega) (by omega))
          · rw [lcE_off (by omega) (by omega)]; exact hi6.2.1 j hj
          · rw [lcE_off (by omega) (by omega)]; exact hi6.2.2 q hq
      · intro S1 hi6
        refine xA.iload_n (i := 1) rfl rfl rfl rfl ?_
        refine xA.aload_n (i := 0) rfl rfl rfl rfl ?_
        refine xA.getI rfl f9_105 rfl rfl rfl ?_
        refine xA.topi (((by rw [hi6.2.1 0 (by omega)]; exact hpp.1) : _ = nI (sP s))) ?_
        refine xA.icmp_ge (tgt := 49) rfl rfl rfl (fun h24 => ?_) (fun h24 => ?_)
        · refine xA.aload_n (i := 0) rfl rfl rfl rfl ?_
          refine xA.getR rfl f9_56 rfl rfl rfl rfl ?_
          refine xA.aload_n (i := 0) rfl rfl rfl rfl ?_
          refine xA.getR rfl f9_42 rfl rfl rfl rfl ?_
          refine xA.aload_n (i := 0) rfl rfl rfl rfl ?_
          refine xA.getR rfl f9_49 rfl rfl rfl rfl ?_
          refine xA.callVv (As := [_, _]) rfl k9_266 okX2_giveBack rfl rfl rfl rfl (Nat.le_of_ble_eq_true rfl) (c_X2_giveBack d _ G (sIm s).2.2.2.1 (hit.to (hi6.2.1 _ (by omega)) (hi6.2.1 _ (by omega)) (hi6.2.1 _ (by omega)) (hi6.2.1 _ (by omega))) (sIm s).2.2.2.2 (hig.to (hi6.2.1 _ (by omega)) (hi6.2.1 _ (by omega)))) rfl rfl ?_
          refine xA.aload_n (i := 0) rfl rfl rfl rfl ?_
          refine xA.getI rfl f9_105 rfl rfl rfl ?_
          refine xA.topi (((by rw [gcS_off (by omega), tcS_off (by omega), hi6.2.1 0 (by omega)]; exact hpp.1) : _ = nI (sP s))) ?_
          have off : ∀ j, ¬ (12 ≤ j ∧ j < 18) → (gcS (tcS S1 12 20 (sIm s).2.2.2.1.1) 16 24 (sIm s).2.2.2.2.1) j = S1 j := fun j hj => by rw [gcS_off (by omega), tcS_off (by omega)]
          have off2 : ∀ j, ¬ (12 ≤ j ∧ j < 18) → ¬ (42 ≤ j ∧ j < 54) → (gcS (tcS S1 12 20 (sIm s).2.2.2.1.1) 16 24 (sIm s).2.2.2.2.1) j = S j := fun j h1 h2 => (off j h1).trans (hi6.2.1 j h2)
          exact xA.iret rfl rfl rfl ⟨_, rfl, by simp only [aRestore]; rw [if_pos hcd], by
            simp only [tRestore]; rw [if_pos hcd]
            refine ⟨hpg.to (off2 1 (by omega) (by omega)) (off2 2 (by omega) (by omega)), hho.to (by rw [off2 0 (by omega) (by omega)]) (off2 3 (by omega) (by omega)) (off2 4 (by omega) (by omega)) (off2 5 (by omega) (by omega)), ⟨by rw [off2 0 (by omega) (by omega)]; exact hpp.1, hpp.2.1, fun p hp => ?_⟩, ?_, ?_, ⟨by rw [off2 0 (by omega) (by omega)]; exact hsd.1, hsd.2⟩, him.to (fun j h1 h2 => off2 j (by omega) (by omega)), fun z => ⟨(hno z).1, by have := (hno z).2.2.2; omega, by have := (hno z).2.2.2; omega, (hno z).2.2.2⟩⟩
            · have hp4 : p < 4 := Nat.lt_of_lt_of_le hp hpp.2.1
              obtain ⟨a1, a2, a3, a4⟩ := hpp.2.2 p hp
              exact ⟨by rw [off _ (by omega), hi6.2.2 p (by omega)]; exact a1, a2, (hi6.1 p hp).to (off (42 + 3 * p + 1) (by omega)) (off (42 + 3 * p + 1 + 1) (by omega)), (hil p (Nat.lt_of_lt_of_eq hp hcd.2.symm)).2⟩
            · exact (tcS_tk (hit.to (hi6.2.1 _ (by omega)) (hi6.2.1 _ (by omega)) (hi6.2.1 _ (by omega)) (hi6.2.1 _ (by omega)))).to (gcS_off (by omega)) (gcS_off (by omega)) (gcS_off (by omega)) (gcS_off (by omega))
            · exact gcS_gl ((hig.to (hi6.2.1 _ (by omega)) (hi6.2.1 _ (by omega))).to (tcS_off (by omega)) (tcS_off (by omega))), fun j hj => off2 j (by omega) (by omega)⟩
        · exact absurd (nI_le (Nat.le_refl _) (by omega)) h24
    exact loop 0 (Nat.zero_le _) S ⟨fun q hq => absurd hq (Nat.not_lt_zero _), fun _ _ => rfl, fun _ _ => rfl⟩
  · rw [xb_eq0] at h11
    refine xA.bipush (v := (-103)) rfl (by decide) rfl ?_
    have hcd : ¬ ((sIm s).1 = 1 ∧ (sIm s).2.1 = sP s) := by
      rintro ⟨q1, q2⟩
      exact h11 ⟨by rw [him.1, q1]; decide, by rw [(him.2.2 q1).1, q2]⟩
    exact xA.iret rfl rfl rfl ⟨S, rfl, by simp only [aRestore]; rw [if_neg hcd], by simp only [tRestore]; rw [if_neg hcd]; exact hc0, fun _ _ => rfl⟩

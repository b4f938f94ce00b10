/-! ===== shortest ===== -/
def shV (s : sS) (kd sp : Nat) (set w : Int32) : Int32 := if w = 0 then oI (kSx (sH s) kd (lpN (sH s) kd) (sTk s) set sp) else oI ((kSx (sH s) kd (lpN (sH s) kd) (sTk s) set sp).bind (stx (sH s) kd (lpN (sH s) kd) (sTk s) set sp))
def okSh (s : sS) (set w : Int32) : Prop := ¬ set < 0 ∧ set < nI (2 ^ (sTk s).1) ∧ ¬ w < 0 ∧ w ≤ 1
def aShort (s : sS) (k m r set w : Int32) : Int32 := if ¬ rg k 5 ∨ ¬ rg m 60 then -102 else if ¬ rg r 6 then -101 else if ¬ (¬ set < 0 ∧ set < nI (2 ^ (sTk s).1) ∧ ¬ w < 0 ∧ w ≤ 1) then -102 else if sHr s = 0 ∨ sSd s = 30 then -103 else shV s k.toNatClampNeg (m.toNatClampNeg * 6 + r.toNatClampNeg) set w
def tShort (s : sS) (k m r set w : Int32) : sS := if ¬ rg k 5 ∨ ¬ rg m 60 then s else if ¬ rg r 6 then s else if ¬ (¬ set < 0 ∧ set < nI (2 ^ (sTk s).1) ∧ ¬ w < 0 ∧ w ≤ 1) then s else if sHr s = 0 ∨ sSd s = 30 then s else mkS s (sPg s) (sN s) (sHr s) (sH s) (sP s) (sKd s) (sL s) (sTk s) (sGl s) (sSd s + 1) (sIm s)
theorem CS.sd1 {S : Nat → Nat → Int32} {s : sS} (hc : CS S s) (h30 : sSd s < 30) (h0 : ¬ sHr s = 0) : CS (xu S 0 12 (nI (sSd s + 1))) (mkS s (sPg s) (sN s) (sHr s) (sH s) (sP s) (sKd s) (sL s) (sTk s) (sGl s) (sSd s + 1) (sIm s)) := by
  obtain ⟨hpg, hho, hpp, htk, hgl, hsd, him, hno⟩ := hc
  have off : ∀ j, ¬ j = 0 → xu S 0 12 (nI (sSd s + 1)) j = S j := fun j hj => xu_c hj
  exact ⟨hpg.to (off 1 (by omega)) (off 2 (by omega)), hho.to (xu_ne2 (by decide)) (off 3 (by omega)) (off 4 (by omega)) (off 5 (by omega)), hpp.to (xu_ne2 (by decide)) (fun j h1 h2 => off j (by omega)), htk.to (off _ (by omega)) (off _ (by omega)) (off _ (by omega)) (off _ (by omega)), hgl.to (off _ (by omega)) (off _ (by omega)), ⟨xu_same, (show sSd s + 1 ≤ 30 by omega)⟩, him.to (fun j h1 h2 => off j (by omega)), fun z => absurd z h0⟩

set_option maxRecDepth 100000 in
set_option maxHeartbeats 1000000 in
theorem o_shortest (d : Nat) (s : sS) (k m r set w : Int32) : opC (d + 21) mX9_shortest [.ref 0, .int k, .int m, .int r, .int set, .int w] s (.int (aShort s k m r set w)) (tShort s k m r set w) := by
  intro S G hc
  have hc0 := hc
  obtain ⟨hpg, hho, hpp, htk, hgl, hsd, him, hno⟩ := hc
  refine xC.of okX9_shortest (Nat.le_of_ble_eq_true rfl) (L := [_, _, _, _, _, _]) rfl ?_
  refine xA.iload_n (i := 1) rfl rfl rfl rfl ?_
  refine xA.callSi (As := [_]) rfl k9_131 okX9_isKind rfl rfl (Nat.le_of_ble_eq_true rfl) (c_X9_isKind (d + 20) _ G _) rfl rfl ?_
  refine xA.if_eq (tgt := 14) rfl rfl rfl (fun h4 => ?_) (fun h4 => ?_)
  · rw [xb_eq0] at h4
    refine xA.bipush (v := (-102)) rfl (by decide) rfl ?_
    first
      | exact xA.iret rfl rfl rfl ⟨S, rfl, by simp only [aShort]; rw [if_pos (Or.inl h4)], by simp only [tShort]; rw [if_pos (Or.inl h4)]; exact hc0, fun _ _ => rfl⟩
      | exact xA.iret rfl rfl rfl ⟨S, rfl, by simp only [aShort]; rw [if_pos (Or.inr h11)], by simp only [tShort]; rw [if_pos (Or.inr h11)]; exact hc0, fun _ _ => rfl⟩
  · rw [xb_ne0] at h4
    refine xA.iload_n (i := 2) rfl rfl rfl rfl ?_
    refine xA.callSi (As := [_]) rfl k9_181 okX9_isMinute rfl rfl (Nat.le_of_ble_eq_true rfl) (c_X9_isMinute (d + 20) _ G _) rfl rfl ?_
    refine xA.if_ne (tgt := 17) rfl rfl rfl (fun h11 => ?_) (fun h11 => ?_)
    · rw [xb_ne0] at h11
      refine xA.iload_n (i := 3) rfl rfl rfl rfl ?_
      refine xA.callSi (As := [_]) rfl k9_116 okX9_isRoom rfl rfl (Nat.le_of_ble_eq_true rfl) (c_X9_isRoom (d + 20) _ G _) rfl rfl ?_
      refine xA.if_ne (tgt := 27) rfl rfl rfl (fun h21 => ?_) (fun h21 => ?_)
      · rw [xb_ne0] at h21
        refine xA.iload rfl rfl rfl ?_
        refine xA.if_lt (tgt := 57) rfl rfl rfl (fun h29 => ?_) (fun h29 => ?_)
        · refine xA.bipush (v := (-102)) rfl (by decide) rfl ?_
          exact xA.iret rfl rfl rfl ⟨S, rfl, by simp only [aShort]; rw [if_neg (by rintro (q | q); exact q h4; exact q h11), if_neg (fun q => q h21), if_pos (by rintro ⟨q1, q2, q3, q4⟩; first | exact q1 h29 | exact absurd h43 (Int32.not_le.mpr q2) | exact q3 h48 | exact h54 q4)], by simp only [tShort]; rw [if_neg (by rintro (q | q); exact q h4; exact q h11), if_neg (fun q => q h21), if_pos (by rintro ⟨q1, q2, q3, q4⟩; first | exact q1 h29 | exact absurd h43 (Int32.not_le.mpr q2) | exact q3 h48 | exact h54 q4)]; exact hc0, fun _ _ => rfl⟩
        · refine xA.iload rfl rfl rfl ?_
          refine xA.iconst (v := 1) rfl (by decide) rfl ?_
          refine xA.aload_n (i := 0) rfl rfl rfl rfl ?_
          refine xA.getR rfl f9_42 rfl rfl rfl rfl ?_
          refine xA.callVi (As := []) rfl k9_214 okX7_size rfl rfl rfl rfl (Nat.le_of_ble_eq_true rfl) (c_X7_size (d + 20) _ G 12 iT12) rfl rfl ?_
          refine xA.topi htk.1 ?_
          refine xA.ishl rfl rfl ?_
          refine xA.topi (nI_shl _ (by have := htk.2.1; omega)) ?_
          refine xA.icmp_ge (tgt := 57) rfl rfl rfl (fun h43 => ?_) (fun h43 => ?_)
          · refine xA.bipush (v := (-102)) rfl (by decide) rfl ?_
            exact xA.iret rfl rfl rfl ⟨S, rfl, by simp only [aShort]; rw [if_neg (by rintro (q | q); exact q h4; exact q h11), if_neg (fun q => q h21), if_pos (by rintro ⟨q1, q2, q3, q4⟩; first | exact q1 h29 | exact absurd h43 (Int32.not_le.mpr q2) | exact q3 h48 | exact h54 q4)], by simp only [tShort]; rw [if_neg (by rintro (q | q); exact q h4; exact q h11), if_neg (fun q => q h21), if_pos (by rintro ⟨q1, q2, q3, q4⟩; first | exact q1 h29 | exact absurd h43 (Int32.not_le.mpr q2) | exact q3 h48 | exact h54 q4)]; exact hc0, fun _ _ => rfl⟩
          · refine xA.iload rfl rfl rfl ?_
            refine xA.if_lt (tgt := 57) rfl rfl rfl (fun h48 => ?_) (fun h48 => ?_)
            · refine xA.bipush (v := (-102)) rfl (by decide) rfl ?_
              exact xA.iret rfl rfl rfl ⟨S, rfl, by simp only [aShort]; rw [if_neg (by rintro (q | q); exact q h4; exact q h11), if_neg (fun q => q h21), if_pos (by rintro ⟨q1, q2, q3, q4⟩; first | exact q1 h29 | exact absurd h43 (Int32.not_le.mpr q2) | exact q3 h48 | exact h54 q4)], by simp only [tShort]; rw [if_neg (by rintro (q | q); exact q h4; exact q h11), if_neg (fun q => q h21), if_pos (by rintro ⟨q1, q2, q3, q4⟩; first | exact q1 h29 | exact absurd h43 (Int32.not_le.mpr q2) | exact q3 h48 | exact h54 q4)]; exact hc0, fun _ _ => rfl⟩
            · refine xA.iload rfl rfl rfl ?_
              refine xA.iconst (v := 1) rfl (by decide) rfl ?_
              refine xA.icmp_le (tgt := 60) rfl rfl rfl (fun h54 => ?_) (fun h54 => ?_)
              · refine xA.aload_n (i := 0) rfl rfl rfl rfl ?_
                refine xA.callVi (As := []) rfl k9_120 okX9_hasHouse rfl rfl rfl rfl (Nat.le_of_ble_eq_true rfl) (c_X9_hasHouse (d + 20) _ G) rfl rfl ?_
                refine xA.if_eq (tgt := 76) rfl rfl rfl (fun h64 => ?_) (fun h64 => ?_)
                · rw [xb_eq0, hr_pos hho] at h64
                  refine xA.bipush (v := (-103)) rfl (by decide) rfl ?_
                  first
                    | exact xA.iret rfl rfl rfl ⟨S, rfl, by simp only [aShort]; rw [if_neg (by rintro (q | q); exact q h4; exact q h11), if_neg (fun q => q h21), if_neg (fun q => q ⟨h29, Int32.not_le.mp h43, h48, h54⟩), if_pos (Or.inl (Decidable.not_not.mp h64))], by simp only [tShort]; rw [if_neg (by rintro (q | q); exact q h4; exact q h11), if_neg (fun q => q h21), if_neg (fun q => q ⟨h29, Int32.not_le.mp h43, h48, h54⟩), if_pos (Or.inl (Decidable.not_not.mp h64))]; exact hc0, fun _ _ => rfl⟩
                    | exact xA.iret rfl rfl rfl ⟨S, rfl, by simp only [aShort]; rw [if_neg (by rintro (q | q); exact q h4; exact q h11), if_neg (fun q => q h21), if_neg (fun q => q ⟨h29, Int32.not_le.mp h43, h48, h54⟩), if_pos (Or.inr h30)], by simp only [tShort]; rw [if_neg (by rintro (q | q); exact q h4; exact q h11), if_neg (fun q => q h21), if_neg (fun q => q ⟨h29, Int32.not_le.mp h43, h48, h54⟩), if_pos (Or.inr h30)]; exact hc0, fun _ _ => rfl⟩
                · rw [xb_ne0, hr_pos hho] at h64
                  refine xA.aload_n (i := 0) rfl rfl rfl rfl ?_
                  refine xA.getI rfl f9_217 rfl rfl rfl ?_
                  refine xA.topi (hsd.1) ?_
                  refine xA.bipush (v := 30) rfl (by decide) rfl ?_
                  refine xA.icmp_lt (tgt := 79) rfl rfl rfl (fun h73 => ?_) (fun h73 => ?_)
                  · have h30 : sSd s < 30 := (nI_ltI (b := 30) (by have := hsd.2; omega) (by omega)).mp h73
                    obtain ⟨kk, hkk, rfl⟩ := rg_nI h4 (by omega)
                    obtain ⟨mm, hmm, rfl⟩ := rg_nI h11 (by omega)
                    obtain ⟨rr, hrr, rfl⟩ := rg_nI h21 (by omega)
                    have hsd3 := (hho.2.2.2 (by omega)).1
                    have hba := hsd3.2.1.2.2.2.2.2.2.1 hsd3.2.2
                    have hlp10 : lpN (sH s) kk ≤ 10 := by unfold lpN; split <;> omega
                    have hh2 : hSd (xu S 0 12 (nI (sSd s + 1))) (sH s) := hsd3.to (xu_c (by decide)) (xu_c (by decide)) (xu_c (by decide))
                    have htk2 : tkC (xu S 0 12 (nI (sSd s + 1))) 12 (sTk s) := htk.to (xu_c (by decide)) (xu_c (by decide)) (xu_c (by decide)) (xu_c (by decide))
                    refine xA.aload_n (i := 0) rfl rfl rfl rfl ?_
                    refine xA.dup rfl rfl rfl ?_
                    refine xA.getI rfl f9_217 rfl rfl rfl ?_
                    refine xA.topi (hsd.1) ?_
                    refine xA.iconst (v := 1) rfl (by decide) rfl ?_
                    refine xA.iadd rfl rfl ?_
                    refine xA.topi (nI_1 _) ?_
                    refine xA.putI rfl p9_217 rfl rfl rfl ?_
                    refine xA.aload_n (i := 0) rfl rfl rfl rfl ?_
                    refine xA.getR rfl f9_63 rfl rfl rfl rfl ?_
                    refine xA.iload_n (i := 1) rfl rfl rfl rfl ?_
                    refine xA.aload_n (i := 0) rfl rfl rfl rfl ?_
                    refine xA.getR rfl f9_19 rfl rfl rfl rfl ?_
                    refine xA.iload_n (i := 1) rfl rfl rfl rfl ?_
                    refine xA.callVi (As := [_]) rfl k9_145 okX1_leapOf rfl rfl rfl rfl (Nat.le_of_ble_eq_true rfl) (c_X1_leapOf (d + 19) _ G 3 iH3 (nI kk)) rfl rfl ?_
                    refine xA.topi (show _ = nI (lpN (sH s) kk) from by rw [hh2.1.2.2.2.2.1 hh2.2.2]; unfold lpN; simp only [show (nI kk = 2 ↔ kk = 2) from nI_eq (b := 2) (by omega) (by omega), nI_1]; split <;> rfl) ?_
                    refine xA.aload_n (i := 0) rfl rfl rfl rfl ?_
                    refine xA.getR rfl f9_42 rfl rfl rfl rfl ?_
                    refine xA.iload rfl rfl rfl ?_
                    refine xA.callV (As := [_, _, _, _]) (h := (σF, _, _)) rfl k9_220 okX6_begin rfl rfl rfl rfl (Nat.le_of_ble_eq_true rfl) (c_begin (d + 18) _ G (sH s) hh2 kk (lpN (sH s) kk) (sTk s) htk2 set) (Nat.le_refl _) (Nat.le_refl _) rfl rfl ?_
                    rintro r9 h9 ⟨S2, rfl, rfl, hs2, hm2, h25, h26, hf2⟩
                    refine xA.aload_n (i := 0) rfl rfl rfl rfl ?_
                    refine xA.getR rfl f9_63 rfl rfl rfl rfl ?_
                    refine xA.aload_n (i := 0) rfl rfl rfl rfl ?_
                    refine xA.getR rfl f9_19 rfl rfl rfl rfl ?_
                    refine xA.iload_n (i := 2) rfl rfl rfl rfl ?_
                    refine xA.iload_n (i := 3) rfl rfl rfl rfl ?_
                    refine xA.callSi (As := [_, _]) rfl k9_184 okX9_spotOf rfl rfl (Nat.le_of_ble_eq_true rfl) (c_X9_spotOf (d + 20) _ G _ _) rfl rfl ?_
                    refine xA.topi (nI_spot mm rr) ?_
                    refine xA.callV (As := [_, _]) (h := (σF, _, _)) rfl k9_223 okX6_look rfl rfl rfl rfl (Nat.le_of_ble_eq_true rfl) (c_look d S2 G (sH s) kk (lpN (sH s) kk) (sTk s) set hkk hlp10 htk.2.1 (mm * 6 + rr) (by omega) hs2 hm2 h25 h26) (Nat.le_refl _) (Nat.le_refl _) rfl rfl ?_
                    rintro r9 h9 ⟨S3, rfl, rfl, h35, h36, hf3⟩
                    have hCS : CS S3 (mkS s (sPg s) (sN s) (sHr s) (sH s) (sP s) (sKd s) (sL s) (sTk s) (sGl s) (sSd s + 1) (sIm s)) := (hc0.sd1 h30 h64).scr (fun j _ h2 => (hf3 j (by omega) (by omega) (by omega)).trans (hf2 j (by omega) (by omega) (by omega)))
                    refine xA.iload rfl rfl rfl ?_
                    refine xA.if_ne (tgt := 142) rfl rfl rfl (fun h129 => ?_) (fun h129 => ?_)
                    · refine xA.aload_n (i := 0) rfl rfl rfl rfl ?_
                      refine xA.getR rfl f9_63 rfl rfl rfl rfl ?_
                      refine xA.callVi (As := []) rfl k9_230 okX6_firstStep rfl rfl rfl rfl (Nat.le_of_ble_eq_true rfl) (c_X6_firstStep (d + 20) _ G) rfl rfl ?_
                      have hlow : ¬ (¬ rg (nI kk) 5 ∨ ¬ rg (nI mm) 60) := by rintro (q | q); exact q h4; exact q h11
                      have hnx : ¬ (sHr s = 0 ∨ sSd s = 30) := by omega
                      exact xA.iret rfl rfl rfl ⟨S3, rfl, by
                        simp only [aShort]
                        rw [if_neg hlow, if_neg (fun q => q h21), if_neg (fun q => q ⟨h29, Int32.not_le.mp h43, h48, h54⟩), if_neg hnx, nI_clamp (show kk < 2 ^ 31 by omega), nI_clamp (show mm < 2 ^ 31 by omega), nI_clamp (show rr < 2 ^ 31 by omega), shV]
                        first | (rw [if_pos h129, h35]; done) | (rw [if_neg h129, h36]; done), by
                        simp only [tShort]
                        rw [if_neg hlow, if_neg (fun q => q h21), if_neg (fun q => q ⟨h29, Int32.not_le.mp h43, h48, h54⟩), if_neg hnx]
                        exact hCS, fun j hj => ((hf3 j (by omega) (by omega) (by omega)).trans (hf2 j (by omega) (by omega) (by omega))).trans (xu_c (by omega))⟩
                    · refine xA.aload_n (i := 0) rfl rfl rfl rfl ?_
                      refine xA.getR rfl f9_63 rfl rfl rfl rfl ?_
                      refine xA.callVi (As := []) rfl k9_227 okX6_steps rfl rfl rfl rfl (Nat.le_of_ble_eq_true rfl) (c_X6_steps (d + 20) _ G) rfl rfl ?_
                      refine xA.goto (q := 149) rfl rfl ?_
                      have hlow : ¬ (¬ rg (nI kk) 5 ∨ ¬ rg (nI mm) 60) := by rintro (q | q); exact q h4; exact q h11
                      have hnx : ¬ (sHr s = 0 ∨ sSd s = 30) := by omega
                      exact xA.iret rfl rfl rfl ⟨S3, rfl, by
                        simp only [aShort]
                        rw [if_neg hlow, if_neg (fun q => q h21), if_neg (fun q => q ⟨h29, Int32.not_le.mp h43, h48, h54⟩), if_neg hnx, nI_clamp (show kk < 2 ^ 31 by omega), nI_clamp (show mm < 2 ^ 31 by omega), nI_clamp (show rr < 2 ^ 31 by omega), shV]
                        first | (rw [if_pos h129, h35]; done) | (rw [if_neg h129, h36]; done), by
                        simp only [tShort]
                        rw [if_neg hlow, if_neg (fun q => q h21), if_neg (fun q => q ⟨h29, Int32.not_le.mp h43, h48, h54⟩), if_neg hnx]
                        exact hCS, fun j hj => ((hf3 j (by omega) (by omega) (by omega)).trans (hf2 j (by omega) (by omega) (by omega))).trans (xu_c (by omega))⟩
                  · have h30 : sSd s = 30 := by
                      by_cases z : sSd s < 30
                      · exact absurd ((nI_ltI (b := 30) (by omega) (by omega)).mpr z) h73
                      · have := hsd.2; omega
                    refine xA.bipush (v := (-103)) rfl (by decide) rfl ?_
                    first
                      | exact xA.iret rfl rfl rfl ⟨S, rfl, by simp only [aShort]; rw [if_neg (by rintro (q | q); exact q h4; exact q h11), if_neg (fun q => q h21), if_neg (fun q => q ⟨h29, Int32.not_le.mp h43, h48, h54⟩), if_pos (Or.inl (Decidable.not_not.mp h64))], by simp only [tShort]; rw [if_neg (by rintro (q | q); exact q h4; exact q h11), if_neg (fun q => q h21), if_neg (fun q => q ⟨h29, Int32.not_le.mp h43, h48, h54⟩), if_pos (Or.inl (Decidable.not_not.mp h64))]; exact hc0, fun _ _ => rfl⟩
                      | exact xA.iret rfl rfl rfl ⟨S, rfl, by simp only [aShort]; rw [if_neg (by rintro (q | q); exact q h4; exact q h11), if_neg (fun q => q h21), if_neg (fun q => q ⟨h29, Int32.not_le.mp h43, h48, h54⟩), if_pos (Or.inr h30)], by simp only [tShort]; rw [if_neg (by rintro (q | q); exact q h4; exact q h11), if_neg (fun q => q h21), if_neg (fun q => q ⟨h29, Int32.not_le.mp h43, h48, h54⟩), if_pos (Or.inr h30)]; exact hc0, fun _ _ => rfl⟩
              · refine xA.bipush (v := (-102)) rfl (by decide) rfl ?_
                exact xA.iret rfl rfl rfl ⟨S, rfl, by simp only [aShort]; rw [if_neg (by rintro (q | q); exact q h4; exact q h11), if_neg (fun q => q h21), if_pos (by rintro ⟨q1, q2, q3, q4⟩; first | exact q1 h29 | exact absurd h43 (Int32.not_le.mpr q2) | exact q3 h48 | exact h54 q4)], by simp only [tShort]; rw [if_neg (by rintro (q | q); exact q h4; exact q h11), if_neg (fun q => q h21), if_pos (by rintro ⟨q1, q2, q3, q4⟩; first | exact q1 h29 | exact absurd h43 (Int32.not_le.mpr q2) | exact q3 h48 | exact h54 q4)]; exact hc0, fun _ _ => rfl⟩
      · rw [xb_eq0] at h21
        refine xA.bipush (v := (-101)) rfl (by decide) rfl ?_
        exact xA.iret rfl rfl rfl ⟨S, rfl, by simp only [aShort]; rw [if_neg (by rintro (q | q); exact q h4; exact q h11), if_pos h21], by simp only [tShort]; rw [if_neg (by rintro (q | q); exact q h4; exact q h11), if_pos h21]; exact hc0, fun _ _ => rfl⟩
    · rw [xb_eq0] at h11
      refine xA.bipush (v := (-102)) rfl (by decide) rfl ?_
      first
        | exact xA.iret rfl rfl rfl ⟨S, rfl, by simp only [aShort]; rw [if_pos (Or.inl h4)], by simp only [tShort]; rw [if_pos (Or.inl h4)]; exact hc0, fun _ _ => rfl⟩
        | exact xA.iret rfl rfl rfl ⟨S, rfl, by simp only [aShort]; rw [if_pos (Or.inr h11)], by simp only [tShort]; rw [if_pos (Or.inr h11)]; exact hc0, fun _ _ => rfl⟩

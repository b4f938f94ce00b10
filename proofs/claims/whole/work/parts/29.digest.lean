/-! ===== digest ===== -/
/-- one more told -/
def mx (h : Int64) (v : Int32) : Int64 := 31 * h + v.toInt64
def foldN (f : Nat → Int64 → Int64) (h : Int64) : Nat → Int64
  | 0 => h
  | i + 1 => f i (foldN f h i)
def fBt (s : sS) (i : Nat) (t : Nat) (h : Int64) : Int64 := mx h (aBetween s (nI i) (nI (i + 1 + t)))
def fHo (s : sS) (i : Nat) (h : Int64) : Int64 := foldN (fBt s i) h (5 - i)
def dHouse (s : sS) (h : Int64) : Int64 := mx (foldN (fHo s) h 6) (aLocked s)
def fAb (s : sS) (p : Int32) (i : Nat) (h : Int64) : Int64 := mx h (aAbout s p (nI i))
def dPers (s : sS) (h : Int64) (p : Int32) : Int64 := mx (mx (mx (mx (foldN (fAb s p) h 5) (aMet s p)) (aMost s p 0)) (aMost s p 1)) (aDone s p)
def fMe (s : sS) (i : Nat) (t : Nat) (h : Int64) : Int64 := mx (mx h (aMeet s (nI i) (nI (i + 1 + t)))) (aPair s (nI i) (nI (i + 1 + t)))
def fPa (s : sS) (i : Nat) (h : Int64) : Int64 := foldN (fMe s i) h (sP s - (i + 1))
def dPairs (s : sS) (h : Int64) : Int64 := foldN (fPa s) h (sP s)
def dg1 (s : sS) : Int64 := if sHr s = 0 then 683 else dHouse s 683
def dg2 (s : sS) : Int64 := foldN (fun i h => dPers s h (nI i)) (dg1 s) (sP s)
def dg3 (s : sS) : Int64 := mx (dPairs s (dg2 s)) (whoseN s)
def dg4 (s : sS) : Int64 := foldN (fun i h => mx h (nI (sPg s i))) (dg3 s) (sN s)
def aDigest (s : sS) : Int64 := foldN (fun i h => mx h (aCount s (nI i))) (dg4 s) 10

set_option maxRecDepth 100000 in
set_option maxHeartbeats 400000 in
theorem c_X9_digestOfHouse (d : Nat) (S : Nat → Nat → Int32) (G : Nat → Nat → Int64) (s : sS) (hc : CS S s) (h : Int64) : xR (d + 3) mX9_digestOfHouse [.ref 0, .long h] S G (some (.long (dHouse s h))) S G := by
  refine xC.of okX9_digestOfHouse (Nat.le_of_ble_eq_true rfl) (L := [_, _, _, _, _, _, _]) rfl ?_
  have loop : ∀ i, i ≤ 6 → ∀ x6 : Option Value, xA none (d + 3) mX9_digestOfHouse 0 0 0 0 5 [some (.ref 0), some (.long h), none, some (.long (foldN (fHo s) h i)), none, some (.int (nI i)), x6] [] (σF, S, G) (fun r' h' => r' = (some (.long (dHouse s h))) ∧ h' = (σF, S, G)) := by
    refine xloop 6 (fun i hi ih => ?_) ?_
    · intro x6
      refine xA.iload rfl rfl rfl ?_
      refine xA.bipush (v := 6) rfl (by decide) rfl ?_
      refine xA.icmp_ge (tgt := 51) rfl rfl rfl (fun h9 => ?_) (fun h9 => ?_)
      · exact absurd h9 (nI_ge (b := 6) hi (by omega))
      · refine xA.iload rfl rfl rfl ?_
        refine xA.iconst (v := 1) rfl (by decide) rfl ?_
        refine xA.iadd rfl rfl ?_
        refine xA.topi (nI_1 _) ?_
        refine xA.istore (L' := [_, _, _, _, _, _, _]) rfl (Nat.le_of_ble_eq_true rfl) rfl rfl ?_
        have loop2 : ∀ t, t ≤ 5 - i → xA none (d + 3) mX9_digestOfHouse 0 0 0 0 18 [some (.ref 0), some (.long h), none, some (.long (foldN ((fBt s) i) (foldN (fHo s) h i) t)), none, some (.int (nI i)), some (.int (nI (i + 1 + t)))] [] (σF, S, G) (fun r' h' => r' = (some (.long (dHouse s h))) ∧ h' = (σF, S, G)) := by
          refine xloop (5 - i) (fun t ht ih2 => ?_) ?_
          · skip
            refine xA.iload rfl rfl rfl ?_
            refine xA.bipush (v := 6) rfl (by decide) rfl ?_
            refine xA.icmp_ge (tgt := 45) rfl rfl rfl (fun h22 => ?_) (fun h22 => ?_)
            · exact absurd h22 (nI_ge (b := 6) (by omega) (by omega))
            · refine xA.lload_n (i := 3) rfl rfl rfl rfl ?_
              refine xA.aload_n (i := 0) rfl rfl rfl rfl ?_
              refine xA.iload rfl rfl rfl ?_
              refine xA.iload rfl rfl rfl ?_
              refine xA.callVi (As := [_, _]) rfl k9_305 okX9_between rfl rfl rfl rfl (Nat.le_of_ble_eq_true rfl) (c_X9_between d _ G s hc _ _) rfl rfl ?_
              refine xA.i2l rfl rfl ?_
              refine xA.callSl (As := [_, _]) rfl k9_295 okX9_mixed rfl rfl (Nat.le_of_ble_eq_true rfl) (c_X9_mixed (d + 2) _ G _ _) rfl rfl ?_
              refine xA.lstore_n (i := 3) (L' := [_, _, _, _, _, _, _]) rfl rfl (Nat.le_of_ble_eq_true rfl) rfl rfl ?_
              refine xA.iinc (L' := [_, _, _, _, _, _, _]) rfl rfl (nI_1 _) rfl rfl ?_
              refine xA.goto (q := 18) rfl rfl ?_
              exact ih2
          · skip
            refine xA.iload rfl rfl rfl ?_
            refine xA.bipush (v := 6) rfl (by decide) rfl ?_
            refine xA.icmp_ge (tgt := 45) rfl rfl rfl (fun h22 => ?_) (fun h22 => ?_)
            · refine xA.iinc (L' := [_, _, _, _, _, _, _]) rfl rfl (nI_1 _) rfl rfl ?_
              refine xA.goto (q := 5) rfl rfl ?_
              exact ih _
            · exact absurd (nI_le (a := 6) (by omega) (by omega)) h22
        exact loop2 0 (Nat.zero_le _)
    · intro x6
      refine xA.iload rfl rfl rfl ?_
      refine xA.bipush (v := 6) rfl (by decide) rfl ?_
      refine xA.icmp_ge (tgt := 51) rfl rfl rfl (fun h9 => ?_) (fun h9 => ?_)
      · refine xA.lload_n (i := 3) rfl rfl rfl rfl ?_
        refine xA.aload_n (i := 0) rfl rfl rfl rfl ?_
        refine xA.callVi (As := []) rfl k9_308 okX9_locked rfl rfl rfl rfl (Nat.le_of_ble_eq_true rfl) (c_X9_locked d _ G s hc) rfl rfl ?_
        refine xA.i2l rfl rfl ?_
        refine xA.callSl (As := [_, _]) rfl k9_295 okX9_mixed rfl rfl (Nat.le_of_ble_eq_true rfl) (c_X9_mixed (d + 2) _ G _ _) rfl rfl ?_
        exact xA.lret rfl rfl ⟨rfl, rfl⟩
      · exact absurd (nI_le (a := 6) (b := 6) (Nat.le_refl _) (by omega)) h9
  refine xA.lload_n (i := 1) rfl rfl rfl rfl ?_
  refine xA.lstore_n (i := 3) (L' := [_, _, _, _, _, _, _]) rfl rfl (Nat.le_of_ble_eq_true rfl) rfl rfl ?_
  refine xA.iconst (v := 0) rfl (by decide) rfl ?_
  refine xA.istore (L' := [_, _, _, _, _, _, _]) rfl (Nat.le_of_ble_eq_true rfl) rfl rfl ?_
  exact loop 0 (Nat.zero_le _) _
set_option maxRecDepth 100000 in
set_option maxHeartbeats 400000 in
theorem c_X9_digestOfPerson (d : Nat) (S : Nat → Nat → Int32) (G : Nat → Nat → Int64) (s : sS) (hc : CS S s) (h : Int64) (p : Int32) : xR (d + 5) mX9_digestOfPerson [.ref 0, .long h, .int p] S G (some (.long (dPers s h p))) S G := by
  refine xC.of okX9_digestOfPerson (Nat.le_of_ble_eq_true rfl) (L := [_, _, _, _, _, _, _]) rfl ?_
  have loop : ∀ i, i ≤ 5 → xA none (d + 5) mX9_digestOfPerson 0 0 0 0 6 [some (.ref 0), some (.long h), none, some (.int p), some (.long (foldN (fAb s p) h i)), none, some (.int (nI i))] [] (σF, S, G) (fun r' h' => r' = (some (.long (dPers s h p))) ∧ h' = (σF, S, G)) := by
    refine xloop 5 (fun i hi ih => ?_) ?_
    · skip
      refine xA.iload rfl rfl rfl ?_
      refine xA.iconst (v := 4) rfl (by decide) rfl ?_
      refine xA.icmp_gt (tgt := 33) rfl rfl rfl (fun h9 => ?_) (fun h9 => ?_)
      · exact absurd ((nI_ltI (a := 4) (by omega) (by omega)).mp h9) (by omega)
      · refine xA.lload rfl rfl rfl ?_
        refine xA.aload_n (i := 0) rfl rfl rfl rfl ?_
        refine xA.iload_n (i := 3) rfl rfl rfl rfl ?_
        refine xA.iload rfl rfl rfl ?_
        refine xA.callVi (As := [_, _]) rfl k9_311 okX9_about rfl rfl rfl rfl (Nat.le_of_ble_eq_true rfl) (c_X9_about (d + 2) _ G s hc _ _) rfl rfl ?_
        refine xA.i2l rfl rfl ?_
        refine xA.callSl (As := [_, _]) rfl k9_295 okX9_mixed rfl rfl (Nat.le_of_ble_eq_true rfl) (c_X9_mixed (d + 4) _ G _ _) rfl rfl ?_
        refine xA.lstore (L' := [_, _, _, _, _, _, _]) rfl (Nat.le_of_ble_eq_true rfl) rfl rfl ?_
        refine xA.iinc (L' := [_, _, _, _, _, _, _]) rfl rfl (nI_1 _) rfl rfl ?_
        refine xA.goto (q := 6) rfl rfl ?_
        exact ih
    · skip
      refine xA.iload rfl rfl rfl ?_
      refine xA.iconst (v := 4) rfl (by decide) rfl ?_
      refine xA.icmp_gt (tgt := 33) rfl rfl rfl (fun h9 => ?_) (fun h9 => ?_)
      · refine xA.lload rfl rfl rfl ?_
        refine xA.aload_n (i := 0) rfl rfl rfl rfl ?_
        refine xA.iload_n (i := 3) rfl rfl rfl rfl ?_
        refine xA.callVi (As := [_]) rfl k9_314 okX9_met rfl rfl rfl rfl (Nat.le_of_ble_eq_true rfl) (c_X9_met d _ G s hc _) rfl rfl ?_
        refine xA.i2l rfl rfl ?_
        refine xA.callSl (As := [_, _]) rfl k9_295 okX9_mixed rfl rfl (Nat.le_of_ble_eq_true rfl) (c_X9_mixed (d + 4) _ G _ _) rfl rfl ?_
        refine xA.lstore (L' := [_, _, _, _, _, _, _]) rfl (Nat.le_of_ble_eq_true rfl) rfl rfl ?_
        refine xA.lload rfl rfl rfl ?_
        refine xA.aload_n (i := 0) rfl rfl rfl rfl ?_
        refine xA.iload_n (i := 3) rfl rfl rfl rfl ?_
        refine xA.iconst (v := 0) rfl (by decide) rfl ?_
        refine xA.callVi (As := [_, _]) rfl k9_317 okX9_most rfl rfl rfl rfl (Nat.le_of_ble_eq_true rfl) (c_X9_most (d + 1) _ G s hc _ _) rfl rfl ?_
        refine xA.i2l rfl rfl ?_
        refine xA.callSl (As := [_, _]) rfl k9_295 okX9_mixed rfl rfl (Nat.le_of_ble_eq_true rfl) (c_X9_mixed (d + 4) _ G _ _) rfl rfl ?_
        refine xA.lstore (L' := [_, _, _, _, _, _, _]) rfl (Nat.le_of_ble_eq_true rfl) rfl rfl ?_
        refine xA.lload rfl rfl rfl ?_
        refine xA.aload_n (i := 0) rfl rfl rfl rfl ?_
        refine xA.iload_n (i := 3) rfl rfl rfl rfl ?_
        refine xA.iconst (v := 1) rfl (by decide) rfl ?_
        refine xA.callVi (As := [_, _]) rfl k9_317 okX9_most rfl rfl rfl rfl (Nat.le_of_ble_eq_true rfl) (c_X9_most (d + 1) _ G s hc _ _) rfl rfl ?_
        refine xA.i2l rfl rfl ?_
        refine xA.callSl (As := [_, _]) rfl k9_295 okX9_mixed rfl rfl (Nat.le_of_ble_eq_true rfl) (c_X9_mixed (d + 4) _ G _ _) rfl rfl ?_
        refine xA.lstore (L' := [_, _, _, _, _, _, _]) rfl (Nat.le_of_ble_eq_true rfl) rfl rfl ?_
        refine xA.lload rfl rfl rfl ?_
        refine xA.aload_n (i := 0) rfl rfl rfl rfl ?_
        refine xA.iload_n (i := 3) rfl rfl rfl rfl ?_
        refine xA.callVi (As := [_]) rfl k9_320 okX9_done rfl rfl rfl rfl (Nat.le_of_ble_eq_true rfl) (c_X9_done (d + 1) _ G s hc _) rfl rfl ?_
        refine xA.i2l rfl rfl ?_
        refine xA.callSl (As := [_, _]) rfl k9_295 okX9_mixed rfl rfl (Nat.le_of_ble_eq_true rfl) (c_X9_mixed (d + 4) _ G _ _) rfl rfl ?_
        exact xA.lret rfl rfl ⟨rfl, rfl⟩
      · exact absurd ((nI_ltI (a := 4) (b := 5) (by omega) (by omega)).mpr (by omega)) h9
  refine xA.lload_n (i := 1) rfl rfl rfl rfl ?_
  refine xA.lstore (L' := [_, _, _, _, _, _, _]) rfl (Nat.le_of_ble_eq_true rfl) rfl rfl ?_
  refine xA.iconst (v := 0) rfl (by decide) rfl ?_
  refine xA.istore (L' := [_, _, _, _, _, _, _]) rfl (Nat.le_of_ble_eq_true rfl) rfl rfl ?_
  exact loop 0 (Nat.zero_le _)
set_option maxRecDepth 100000 in
set_option maxHeartbeats 400000 in
theorem c_X9_digestOfPairs (d : Nat) (S : Nat → Nat → Int32) (G : Nat → Nat → Int64) (s : sS) (hc : CS S s) (h : Int64) : xR (d + 4) mX9_digestOfPairs [.ref 0, .long h] S G (some (.long (dPairs s h))) S G := by
  have hc0 := hc
  obtain ⟨hpg, hho, hpp, htk, hgl, hsd, him, hno⟩ := hc0
  have hp4 := hpp.2.1
  refine xC.of okX9_digestOfPairs (Nat.le_of_ble_eq_true rfl) (L := [_, _, _, _, _, _, _]) rfl ?_
  have loop : ∀ i, i ≤ sP s → ∀ x6 : Option Value, xA none (d + 4) mX9_digestOfPairs 0 0 0 0 5 [some (.ref 0), some (.long h), none, some (.long (foldN (fPa s) h i)), none, some (.int (nI i)), x6] [] (σF, S, G) (fun r' h' => r' = (some (.long (dPairs s h))) ∧ h' = (σF, S, G)) := by
    refine xloop (sP s) (fun i hi ih => ?_) ?_
    · intro x6
      refine xA.iload rfl rfl rfl ?_
      refine xA.aload_n (i := 0) rfl rfl rfl rfl ?_
      refine xA.getI rfl f9_105 rfl rfl rfl ?_
      refine xA.topi (hpp.1) ?_
      refine xA.icmp_ge (tgt := 69) rfl rfl rfl (fun h11 => ?_) (fun h11 => ?_)
      · exact absurd h11 (nI_ge hi (by omega))
      · refine xA.iload rfl rfl rfl ?_
        refine xA.iconst (v := 1) rfl (by decide) rfl ?_
        refine xA.iadd rfl rfl ?_
        refine xA.topi (nI_1 _) ?_
        refine xA.istore (L' := [_, _, _, _, _, _, _]) rfl (Nat.le_of_ble_eq_true rfl) rfl rfl ?_
        have loop2 : ∀ t, t ≤ sP s - (i + 1) → xA none (d + 4) mX9_digestOfPairs 0 0 0 0 20 [some (.ref 0), some (.long h), none, some (.long (foldN ((fMe s) i) (foldN (fPa s) h i) t)), none, some (.int (nI i)), some (.int (nI (i + 1 + t)))] [] (σF, S, G) (fun r' h' => r' = (some (.long (dPairs s h))) ∧ h' = (σF, S, G)) := by
          refine xloop (sP s - (i + 1)) (fun t ht ih2 => ?_) ?_
          · skip
            refine xA.iload rfl rfl rfl ?_
            refine xA.aload_n (i := 0) rfl rfl rfl rfl ?_
            refine xA.getI rfl f9_105 rfl rfl rfl ?_
            refine xA.topi (hpp.1) ?_
            refine xA.icmp_ge (tgt := 63) rfl rfl rfl (fun h26 => ?_) (fun h26 => ?_)
            · exact absurd h26 (nI_ge (by omega) (by omega))
            · refine xA.lload_n (i := 3) rfl rfl rfl rfl ?_
              refine xA.aload_n (i := 0) rfl rfl rfl rfl ?_
              refine xA.iload rfl rfl rfl ?_
              refine xA.iload rfl rfl rfl ?_
              refine xA.callVi (As := [_, _]) rfl k9_323 okX9_meet rfl rfl rfl rfl (Nat.le_of_ble_eq_true rfl) (c_X9_meet d _ G s hc _ _) rfl rfl ?_
              refine xA.i2l rfl rfl ?_
              refine xA.callSl (As := [_, _]) rfl k9_295 okX9_mixed rfl rfl (Nat.le_of_ble_eq_true rfl) (c_X9_mixed (d + 3) _ G _ _) rfl rfl ?_
              refine xA.lstore_n (i := 3) (L' := [_, _, _, _, _, _, _]) rfl rfl (Nat.le_of_ble_eq_true rfl) rfl rfl ?_
              refine xA.lload_n (i := 3) rfl rfl rfl rfl ?_
              refine xA.aload_n (i := 0) rfl rfl rfl rfl ?_
              refine xA.iload rfl rfl rfl ?_
              refine xA.iload rfl rfl rfl ?_
              refine xA.callVi (As := [_, _]) rfl k9_326 okX9_pair rfl rfl rfl rfl (Nat.le_of_ble_eq_true rfl) (c_X9_pair d _ G s hc _ _) rfl rfl ?_
              refine xA.i2l rfl rfl ?_
              refine xA.callSl (As := [_, _]) rfl k9_295 okX9_mixed rfl rfl (Nat.le_of_ble_eq_true rfl) (c_X9_mixed (d + 3) _ G _ _) rfl rfl ?_
              refine xA.lstore_n (i := 3) (L' := [_, _, _, _, _, _, _]) rfl rfl (Nat.le_of_ble_eq_true rfl) rfl rfl ?_
              refine xA.iinc (L' := [_, _, _, _, _, _, _]) rfl rfl (nI_1 _) rfl rfl ?_
              refine xA.goto (q := 20) rfl rfl ?_
              exact ih2
          · skip
            refine xA.iload rfl rfl rfl ?_
            refine xA.aload_n (i := 0) rfl rfl rfl rfl ?_
            refine xA.getI rfl f9_105 rfl rfl rfl ?_
            refine xA.topi (hpp.1) ?_
            refine xA.icmp_ge (tgt := 63) rfl rfl rfl (fun h26 => ?_) (fun h26 => ?_)
            · refine xA.iinc (L' := [_, _, _, _, _, _, _]) rfl rfl (nI_1 _) rfl rfl ?_
              refine xA.goto (q := 5) rfl rfl ?_
              exact ih _
            · exact absurd (nI_le (by omega) (by omega)) h26
        exact loop2 0 (Nat.zero_le _)
    · intro x6
      refine xA.iload rfl rfl rfl ?_
      refine xA.aload_n (i := 0) rfl rfl rfl rfl ?_
      refine xA.getI rfl f9_105 rfl rfl rfl ?_
      refine xA.topi (hpp.1) ?_
      refine xA.icmp_ge (tgt := 69) rfl rfl rfl (fun h11 => ?_) (fun h11 => ?_)
      · refine xA.lload_n (i := 3) rfl rfl rfl rfl ?_
        exact xA.lret rfl rfl ⟨rfl, rfl⟩
      · exact absurd (nI_le (Nat.le_refl _) (by omega)) h11
  refine xA.lload_n (i := 1) rfl rfl rfl rfl ?_
  refine xA.lstore_n (i := 3) (L' := [_, _, _, _, _, _, _]) rfl rfl (Nat.le_of_ble_eq_true rfl) rfl rfl ?_
  refine xA.iconst (v := 0) rfl (by decide) rfl ?_
  refine xA.istore (L' := [_, _, _, _, _, _, _]) rfl (Nat.le_of_ble_eq_true rfl) rfl rfl ?_
  exact loop 0 (Nat.zero_le _) _
set_option maxRecDepth 100000 in
set_option maxHeartbeats 400000 in
theorem c_X9_digest (d : Nat) (S : Nat → Nat → Int32) (G : Nat → Nat → Int64) (s : sS) (hc : CS S s) : xR (d + 6) mX9_digest [.ref 0] S G (some (.long (aDigest s))) S G := by
  have hc0 := hc
  obtain ⟨hpg, hho, hpp, htk, hgl, hsd, him, hno⟩ := hc0
  have hp4 := hpp.2.1
  refine xC.of okX9_digest (Nat.le_of_ble_eq_true rfl) (L := [_, _, _, _]) rfl ?_
  have lpC : ∀ i, i ≤ 10 → xA none (d + 6) mX9_digest 0 0 0 0 89 [some (.ref 0), some (.long (foldN (fun i h => mx h (aCount s (nI i))) (dg4 s) i)), none, some (.int (nI i))] [] (σF, S, G) (fun r' h' => r' = (some (.long (aDigest s))) ∧ h' = (σF, S, G)) := by
    refine xloop 10 (fun i hi ih => ?_) ?_
    · skip
      refine xA.iload_n (i := 3) rfl rfl rfl rfl ?_
      refine xA.bipush (v := 10) rfl (by decide) rfl ?_
      refine xA.icmp_ge (tgt := 112) rfl rfl rfl (fun h92 => ?_) (fun h92 => ?_)
      · exact absurd h92 (nI_ge (b := 10) hi (by omega))
      · refine xA.lload_n (i := 1) rfl rfl rfl rfl ?_
        refine xA.aload_n (i := 0) rfl rfl rfl rfl ?_
        refine xA.iload_n (i := 3) rfl rfl rfl rfl ?_
        refine xA.callVi (As := [_]) rfl k9_302 okX9_count rfl rfl rfl rfl (Nat.le_of_ble_eq_true rfl) (c_X9_count (d + 4) _ G s hc _) rfl rfl ?_
        refine xA.i2l rfl rfl ?_
        refine xA.callSl (As := [_, _]) rfl k9_295 okX9_mixed rfl rfl (Nat.le_of_ble_eq_true rfl) (c_X9_mixed (d + 5) _ G _ _) rfl rfl ?_
        refine xA.lstore_n (i := 1) (L' := [_, _, _, _]) rfl rfl (Nat.le_of_ble_eq_true rfl) rfl rfl ?_
        refine xA.iinc (L' := [_, _, _, _]) rfl rfl (nI_1 _) rfl rfl ?_
        refine xA.goto (q := 89) rfl rfl ?_
        exact ih
    · skip
      refine xA.iload_n (i := 3) rfl rfl rfl rfl ?_
      refine xA.bipush (v := 10) rfl (by decide) rfl ?_
      refine xA.icmp_ge (tgt := 112) rfl rfl rfl (fun h92 => ?_) (fun h92 => ?_)
      · refine xA.lload_n (i := 1) rfl rfl rfl rfl ?_
        exact xA.lret rfl rfl ⟨rfl, rfl⟩
      · exact absurd (nI_le (a := 10) (b := 10) (Nat.le_refl _) (by omega)) h92
  have lpL : ∀ i, i ≤ sN s → xA none (d + 6) mX9_digest 0 0 0 0 56 [some (.ref 0), some (.long (foldN (fun i h => mx h (nI (sPg s i))) (dg3 s) i)), none, some (.int (nI i))] [] (σF, S, G) (fun r' h' => r' = (some (.long (aDigest s))) ∧ h' = (σF, S, G)) := by
    have hn45 := hpg.2.1
    refine xloop (sN s) (fun i hi ih => ?_) ?_
    · skip
      refine xA.iload_n (i := 3) rfl rfl rfl rfl ?_
      refine xA.aload_n (i := 0) rfl rfl rfl rfl ?_
      refine xA.getR rfl f9_12 rfl rfl rfl rfl ?_
      refine xA.callVi (As := []) rfl k9_79 okX4_length rfl rfl rfl rfl (Nat.le_of_ble_eq_true rfl) (c_X4_length (d + 5) _ G) rfl rfl ?_
      refine xA.topi hpg.1 ?_
      refine xA.icmp_ge (tgt := 87) rfl rfl rfl (fun h64 => ?_) (fun h64 => ?_)
      · exact absurd h64 (nI_ge hi (by omega))
      · refine xA.lload_n (i := 1) rfl rfl rfl rfl ?_
        refine xA.aload_n (i := 0) rfl rfl rfl rfl ?_
        refine xA.getR rfl f9_12 rfl rfl rfl rfl ?_
        refine xA.iload_n (i := 3) rfl rfl rfl rfl ?_
        refine xA.callVi (As := [_]) rfl k9_299 okX4_at rfl rfl rfl rfl (Nat.le_of_ble_eq_true rfl) (c_X4_at (d + 5) _ G (sPg s) (sN s) hpg i hi) rfl rfl ?_
        refine xA.i2l rfl rfl ?_
        refine xA.callSl (As := [_, _]) rfl k9_295 okX9_mixed rfl rfl (Nat.le_of_ble_eq_true rfl) (c_X9_mixed (d + 5) _ G _ _) rfl rfl ?_
        refine xA.lstore_n (i := 1) (L' := [_, _, _, _]) rfl rfl (Nat.le_of_ble_eq_true rfl) rfl rfl ?_
        refine xA.iinc (L' := [_, _, _, _]) rfl rfl (nI_1 _) rfl rfl ?_
        refine xA.goto (q := 56) rfl rfl ?_
        exact ih
    · skip
      refine xA.iload_n (i := 3) rfl rfl rfl rfl ?_
      refine xA.aload_n (i := 0) rfl rfl rfl rfl ?_
      refine xA.getR rfl f9_12 rfl rfl rfl rfl ?_
      refine xA.callVi (As := []) rfl k9_79 okX4_length rfl rfl rfl rfl (Nat.le_of_ble_eq_true rfl) (c_X4_length (d + 5) _ G) rfl rfl ?_
      refine xA.topi hpg.1 ?_
      refine xA.icmp_ge (tgt := 87) rfl rfl rfl (fun h64 => ?_) (fun h64 => ?_)
      · refine xA.iconst (v := 0) rfl (by decide) rfl ?_
        refine xA.istore_n (i := 3) (L' := [_, _, _, _]) rfl rfl (Nat.le_of_ble_eq_true rfl) rfl rfl ?_
        exact lpC 0 (Nat.zero_le _)
      · exact absurd (nI_le (Nat.le_refl _) (by omega)) h64
  have lpP : ∀ i, i ≤ sP s → xA none (d + 6) mX9_digest 0 0 0 0 19 [some (.ref 0), some (.long (foldN (fun i h => dPers s h (nI i)) (dg1 s) i)), none, some (.int (nI i))] [] (σF, S, G) (fun r' h' => r' = (some (.long (aDigest s))) ∧ h' = (σF, S, G)) := by
    refine xloop (sP s) (fun i hi ih => ?_) ?_
    · skip
      refine xA.iload_n (i := 3) rfl rfl rfl rfl ?_
      refine xA.aload_n (i := 0) rfl rfl rfl rfl ?_
      refine xA.getI rfl f9_105 rfl rfl rfl ?_
      refine xA.topi (hpp.1) ?_
      refine xA.icmp_ge (tgt := 40) rfl rfl rfl (fun h24 => ?_) (fun h24 => ?_)
      · exact absurd h24 (nI_ge hi (by omega))
      · refine xA.aload_n (i := 0) rfl rfl rfl rfl ?_
        refine xA.lload_n (i := 1) rfl rfl rfl rfl ?_
        refine xA.iload_n (i := 3) rfl rfl rfl rfl ?_
        refine xA.callVl (As := [_, _]) rfl k9_285 okX9_digestOfPerson rfl rfl rfl rfl (Nat.le_of_ble_eq_true rfl) (c_X9_digestOfPerson d _ G s hc _ _) rfl rfl ?_
        refine xA.lstore_n (i := 1) (L' := [_, _, _, _]) rfl rfl (Nat.le_of_ble_eq_true rfl) rfl rfl ?_
        refine xA.iinc (L' := [_, _, _, _]) rfl rfl (nI_1 _) rfl rfl ?_
        refine xA.goto (q := 19) rfl rfl ?_
        exact ih
    · skip
      refine xA.iload_n (i := 3) rfl rfl rfl rfl ?_
      refine xA.aload_n (i := 0) rfl rfl rfl rfl ?_
      refine xA.getI rfl f9_105 rfl rfl rfl ?_
      refine xA.topi (hpp.1) ?_
      refine xA.icmp_ge (tgt := 40) rfl rfl rfl (fun h24 => ?_) (fun h24 => ?_)
      · refine xA.aload_n (i := 0) rfl rfl rfl rfl ?_
        refine xA.lload_n (i := 1) rfl rfl rfl rfl ?_
        refine xA.callVl (As := [_]) rfl k9_289 okX9_digestOfPairs rfl rfl rfl rfl (Nat.le_of_ble_eq_true rfl) (c_X9_digestOfPairs (d + 1) _ G s hc _) rfl rfl ?_
        refine xA.aload_n (i := 0) rfl rfl rfl rfl ?_
        refine xA.callVi (As := []) rfl k9_292 okX9_whose rfl rfl rfl rfl (Nat.le_of_ble_eq_true rfl) (c_X9_whose (d + 2) _ G s hc) rfl rfl ?_
        refine xA.i2l rfl rfl ?_
        refine xA.callSl (As := [_, _]) rfl k9_295 okX9_mixed rfl rfl (Nat.le_of_ble_eq_true rfl) (c_X9_mixed (d + 5) _ G _ _) rfl rfl ?_
        refine xA.lstore_n (i := 1) (L' := [_, _, _, _]) rfl rfl (Nat.le_of_ble_eq_true rfl) rfl rfl ?_
        refine xA.iconst (v := 0) rfl (by decide) rfl ?_
        refine xA.istore_n (i := 3) (L' := [_, _, _, _]) rfl rfl (Nat.le_of_ble_eq_true rfl) rfl rfl ?_
        exact lpL 0 (Nat.zero_le _)
      · exact absurd (nI_le (Nat.le_refl _) (by omega)) h24
  refine xA.ldc2 (v := 683) rfl w797 rfl ?_
  refine xA.lstore_n (i := 1) (L' := [_, _, _, _]) rfl rfl (Nat.le_of_ble_eq_true rfl) rfl rfl ?_
  refine xA.aload_n (i := 0) rfl rfl rfl rfl ?_
  refine xA.callVi (As := []) rfl k9_120 okX9_hasHouse rfl rfl rfl rfl (Nat.le_of_ble_eq_true rfl) (c_X9_hasHouse (d + 5) _ G) rfl rfl ?_
  refine xA.if_eq (tgt := 17) rfl rfl rfl (fun h8 => ?_) (fun h8 => ?_)
  · rw [xb_eq0, hr_pos hho] at h8
    refine xA.iconst (v := 0) rfl (by decide) rfl ?_
    refine xA.istore_n (i := 3) (L' := [_, _, _, _]) rfl rfl (Nat.le_of_ble_eq_true rfl) rfl rfl ?_
    have lp := lpP 0 (Nat.zero_le _)
    first | (rw [foldN, dg1, if_neg h8] at lp; exact lp) | (rw [foldN, dg1, if_pos (by omega)] at lp; exact lp)
  · rw [xb_ne0, hr_pos hho] at h8
    refine xA.aload_n (i := 0) rfl rfl rfl rfl ?_
    refine xA.lload_n (i := 1) rfl rfl rfl rfl ?_
    refine xA.callVl (As := [_]) rfl k9_281 okX9_digestOfHouse rfl rfl rfl rfl (Nat.le_of_ble_eq_true rfl) (c_X9_digestOfHouse (d + 2) _ G s hc _) rfl rfl ?_
    refine xA.lstore_n (i := 1) (L' := [_, _, _, _]) rfl rfl (Nat.le_of_ble_eq_true rfl) rfl rfl ?_
    refine xA.iconst (v := 0) rfl (by decide) rfl ?_
    refine xA.istore_n (i := 3) (L' := [_, _, _, _]) rfl rfl (Nat.le_of_ble_eq_true rfl) rfl rfl ?_
    have lp := lpP 0 (Nat.zero_le _)
    first | (rw [foldN, dg1, if_neg h8] at lp; exact lp) | (rw [foldN, dg1, if_pos (by omega)] at lp; exact lp)

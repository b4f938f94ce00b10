/-! ===== the law: a call of each kind ===== -/
theorem CS.hi {S S' : Nat → Nat → Int32} {s : sS} (hc : CS S s) (h : ∀ j, j < 54 → S' j = S j) : CS S' s := by
  obtain ⟨hpg, hho, hpp, htk, hgl, hsd, him, hno⟩ := hc
  exact ⟨hpg.to (h 1 (by omega)) (h 2 (by omega)), hho.to (by rw [h 0 (by omega)]) (h 3 (by omega)) (h 4 (by omega)) (h 5 (by omega)), hpp.to (by rw [h 0 (by omega)]) (fun j h1 h2 => h j (by omega)), htk.to (h _ (by omega)) (h _ (by omega)) (h _ (by omega)) (h _ (by omega)), hgl.to (h _ (by omega)) (h _ (by omega)), ⟨by rw [h 0 (by omega)]; exact hsd.1, hsd.2⟩, him.to (fun j h1 h2 => h j (by omega)), hno⟩
theorem MS.lo {S S' : Nat → Nat → Int32} {s : sS} (hc : MS S s) (h : ∀ j, 54 ≤ j → S' j = S j) : MS S' s := hc.scr (fun j h1 _ _ => h j (by omega)) (fun f _ _ _ _ => congrFun (h 54 (by omega)) f)
theorem hr_letters (s : sS) (w : Int64) : sHr (tLetters s w) ≤ sHr s + 1 := by
  unfold tLetters
  split
  · exact Nat.le_succ _
  · split <;> exact Nat.le_succ _
theorem hr_blank (s : sS) : sHr (tBlank s) ≤ sHr s + 1 := Nat.le_succ _
theorem hr_forget (s : sS) : sHr (tForget s) ≤ sHr s + 1 := Nat.le_succ _
theorem hr_house (s : sS) : sHr (tHouse s) ≤ sHr s + 1 := by
  unfold tHouse
  split
  · exact Nat.le_succ _
  · exact Nat.le_refl _
theorem hr_person (s : sS) (a : Int32) : sHr (tPerson s a) ≤ sHr s + 1 := by
  unfold tPerson
  split <;> exact Nat.le_succ _
theorem hr_life (s : sS) (a : Int32) : sHr (tLife s a) ≤ sHr s + 1 := by
  unfold tLife
  split
  · split <;> exact Nat.le_succ _
  · exact Nat.le_succ _
theorem hr_task (s : sS) (a b c : Int32) : sHr (tTask s a b c) ≤ sHr s + 1 := by
  unfold tTask
  split <;> exact Nat.le_succ _
theorem hr_glimpse (s : sS) (a b : Int32) : sHr (tGlimpse s a b) ≤ sHr s + 1 := by
  unfold tGlimpse
  split <;> exact Nat.le_succ _
theorem hr_image (s : sS) : sHr (tImage s) ≤ sHr s + 1 := by
  unfold tImage
  split <;> exact Nat.le_succ _
theorem hr_restore (s : sS) : sHr (tRestore s) ≤ sHr s + 1 := by
  unfold tRestore
  split <;> exact Nat.le_succ _
theorem hr_shortest (s : sS) (a b c e f : Int32) : sHr (tShort s a b c e f) ≤ sHr s + 1 := by
  unfold tShort
  split
  · exact Nat.le_succ _
  · split
    · exact Nat.le_succ _
    · split
      · exact Nat.le_succ _
      · split <;> exact Nat.le_succ _

set_option maxRecDepth 100000 in
set_option maxHeartbeats 1000000 in
theorem lc_letters (N : Nat) (xs : Nat → Int32) (j : Nat) (hj : j < 512) (hN : 6 * j + 6 ≤ N) (hN2 : N ≤ 3072) (s : sS) (S : Nat → Nat → Int32) (G : Nat → Nat → Int64) (hcs : CS S s) (hms : MS S s) (hle : sHr s ≤ j) (kk : ∀ s' S' G', CS S' s' → MS S' s' → sHr s' ≤ j + 1 → xA (some (N, xs)) 30 mL_law 79 3571 600000 7302250 938 [some (.retAddr 0), some (.ref 0), some (.ref 54), some (.int (nI (6 * j)))] [] (σF, S', G') (fun r _ => r = some (.int 1))) : xA (some (N, xs)) 30 mL_law 79 3571 600000 7302250 156 [some (.retAddr 0), some (.ref 0), some (.ref 54), some (.int (nI (6 * j)))] [] (σF, S, G) (fun r _ => r = some (.int 1)) := by
  refine xA.aload_n (i := 1) rfl rfl rfl rfl ?_
  refine xA.aloadX_n (i := 0) rfl rfl rfl rfl ?_
  refine xA.iload_n (i := 3) rfl rfl rfl rfl ?_
  refine xA.iconst (v := 1) rfl (by decide) rfl ?_
  refine xA.iadd rfl rfl ?_
  refine xA.topi ((nI_1 _)) ?_
  refine xA.sld rfl (vp_in_nI (by omega) (by omega)) rfl ?_
  refine xA.i2l rfl rfl ?_
  refine xA.bipush (v := 32) rfl (by decide) rfl ?_
  refine xA.lshl rfl rfl ?_
  refine xA.aloadX_n (i := 0) rfl rfl rfl rfl ?_
  refine xA.iload_n (i := 3) rfl rfl rfl rfl ?_
  refine xA.iconst (v := 2) rfl (by decide) rfl ?_
  refine xA.iadd rfl rfl ?_
  refine xA.topi ((nI_add _ 2)) ?_
  refine xA.sld rfl (vp_in_nI (by omega) (by omega)) rfl ?_
  refine xA.i2l rfl rfl ?_
  refine xA.ldc2 (v := 4294967295) rfl w1236 rfl ?_
  refine xA.land rfl rfl ?_
  refine xA.lor rfl rfl ?_
  refine xA.callV (As := [_]) (h := (σF, _, _)) rfl k11_15 okX9_letters rfl rfl rfl rfl (Nat.le_of_ble_eq_true rfl) (o_letters 27 s _ S G hcs) (Nat.le_of_ble_eq_true rfl) (Nat.le_of_ble_eq_true rfl) rfl rfl ?_
  rintro r9 h9 ⟨S1, rfl, rfl, hc1, hk1⟩
  refine xA.aload_n (i := 2) rfl rfl rfl rfl ?_
  refine xA.aloadX_n (i := 0) rfl rfl rfl rfl ?_
  refine xA.iload_n (i := 3) rfl rfl rfl rfl ?_
  refine xA.iconst (v := 1) rfl (by decide) rfl ?_
  refine xA.iadd rfl rfl ?_
  refine xA.topi ((nI_1 _)) ?_
  refine xA.sld rfl (vp_in_nI (by omega) (by omega)) rfl ?_
  refine xA.i2l rfl rfl ?_
  refine xA.bipush (v := 32) rfl (by decide) rfl ?_
  refine xA.lshl rfl rfl ?_
  refine xA.aloadX_n (i := 0) rfl rfl rfl rfl ?_
  refine xA.iload_n (i := 3) rfl rfl rfl rfl ?_
  refine xA.iconst (v := 2) rfl (by decide) rfl ?_
  refine xA.iadd rfl rfl ?_
  refine xA.topi ((nI_add _ 2)) ?_
  refine xA.sld rfl (vp_in_nI (by omega) (by omega)) rfl ?_
  refine xA.i2l rfl rfl ?_
  refine xA.ldc2 (v := 4294967295) rfl w1236 rfl ?_
  refine xA.land rfl rfl ?_
  refine xA.lor rfl rfl ?_
  refine xA.callV (As := [_]) (h := (σF, _, _)) rfl k11_19 okX10_letters rfl rfl rfl rfl (Nat.le_of_ble_eq_true rfl) (m_letters 29 s _ S1 G (hms.lo hk1)) (Nat.le_of_ble_eq_true rfl) (Nat.le_of_ble_eq_true rfl) rfl rfl ?_
  rintro r9 h9 ⟨S2, G2, rfl, rfl, hm2, hk2⟩
  refine xA.icmp_eq (tgt := 938) rfl rfl rfl (fun h204 => ?_) (fun h204 => ?_)
  · exact kk _ S2 G2 (hc1.hi hk2) hm2 (Nat.le_trans (hr_letters _ _) (by omega))
  · exact absurd rfl h204
set_option maxRecDepth 100000 in
set_option maxHeartbeats 1000000 in
theorem lc_blank (N : Nat) (xs : Nat → Int32) (j : Nat) (hj : j < 512) (hN : 6 * j + 6 ≤ N) (hN2 : N ≤ 3072) (s : sS) (S : Nat → Nat → Int32) (G : Nat → Nat → Int64) (hcs : CS S s) (hms : MS S s) (hle : sHr s ≤ j) (kk : ∀ s' S' G', CS S' s' → MS S' s' → sHr s' ≤ j + 1 → xA (some (N, xs)) 30 mL_law 79 3571 600000 7302250 938 [some (.retAddr 0), some (.ref 0), some (.ref 54), some (.int (nI (6 * j)))] [] (σF, S', G') (fun r _ => r = some (.int 1))) : xA (some (N, xs)) 30 mL_law 79 3571 600000 7302250 209 [some (.retAddr 0), some (.ref 0), some (.ref 54), some (.int (nI (6 * j)))] [] (σF, S, G) (fun r _ => r = some (.int 1)) := by
  refine xA.aload_n (i := 1) rfl rfl rfl rfl ?_
  refine xA.callV (As := []) (h := (σF, _, _)) rfl k11_20 okX9_blank rfl rfl rfl rfl (Nat.le_of_ble_eq_true rfl) (o_blank 28 s S G hcs) (Nat.le_of_ble_eq_true rfl) (Nat.le_of_ble_eq_true rfl) rfl rfl ?_
  rintro r9 h9 ⟨S1, rfl, rfl, hc1, hk1⟩
  refine xA.aload_n (i := 2) rfl rfl rfl rfl ?_
  refine xA.callV (As := []) (h := (σF, _, _)) rfl k11_24 okX10_blank rfl rfl rfl rfl (Nat.le_of_ble_eq_true rfl) (m_blank 29 s S1 G (hms.lo hk1)) (Nat.le_of_ble_eq_true rfl) (Nat.le_of_ble_eq_true rfl) rfl rfl ?_
  rintro r9 h9 ⟨S2, G2, rfl, rfl, hm2, hk2⟩
  refine xA.icmp_eq (tgt := 938) rfl rfl rfl (fun h217 => ?_) (fun h217 => ?_)
  · exact kk _ S2 G2 (hc1.hi hk2) hm2 (Nat.le_trans (hr_blank _) (by omega))
  · exact absurd rfl h217
set_option maxRecDepth 100000 in
set_option maxHeartbeats 1000000 in
theorem lc_fault (N : Nat) (xs : Nat → Int32) (j : Nat) (hj : j < 512) (hN : 6 * j + 6 ≤ N) (hN2 : N ≤ 3072) (s : sS) (S : Nat → Nat → Int32) (G : Nat → Nat → Int64) (hcs : CS S s) (hms : MS S s) (hle : sHr s ≤ j) (kk : ∀ s' S' G', CS S' s' → MS S' s' → sHr s' ≤ j + 1 → xA (some (N, xs)) 30 mL_law 79 3571 600000 7302250 938 [some (.retAddr 0), some (.ref 0), some (.ref 54), some (.int (nI (6 * j)))] [] (σF, S', G') (fun r _ => r = some (.int 1))) : xA (some (N, xs)) 30 mL_law 79 3571 600000 7302250 222 [some (.retAddr 0), some (.ref 0), some (.ref 54), some (.int (nI (6 * j)))] [] (σF, S, G) (fun r _ => r = some (.int 1)) := by
  refine xA.aload_n (i := 1) rfl rfl rfl rfl ?_
  refine xA.aloadX_n (i := 0) rfl rfl rfl rfl ?_
  refine xA.iload_n (i := 3) rfl rfl rfl rfl ?_
  refine xA.iconst (v := 1) rfl (by decide) rfl ?_
  refine xA.iadd rfl rfl ?_
  refine xA.topi ((nI_1 _)) ?_
  refine xA.sld rfl (vp_in_nI (by omega) (by omega)) rfl ?_
  refine xA.callV (As := [_]) (h := (σF, _, _)) rfl k11_25 okX9_fault rfl rfl rfl rfl (Nat.le_of_ble_eq_true rfl) (o_fault 24 s _ S G hcs) (Nat.le_of_ble_eq_true rfl) (Nat.le_of_ble_eq_true rfl) rfl rfl ?_
  rintro r9 h9 ⟨S1, rfl, rfl, hc1, hk1⟩
  refine xA.aload_n (i := 2) rfl rfl rfl rfl ?_
  refine xA.aloadX_n (i := 0) rfl rfl rfl rfl ?_
  refine xA.iload_n (i := 3) rfl rfl rfl rfl ?_
  refine xA.iconst (v := 1) rfl (by decide) rfl ?_
  refine xA.iadd rfl rfl ?_
  refine xA.topi ((nI_1 _)) ?_
  refine xA.sld rfl (vp_in_nI (by omega) (by omega)) rfl ?_
  refine xA.callV (As := [_]) (h := (σF, _, _)) rfl k11_29 okX10_fault rfl rfl rfl rfl (Nat.le_of_ble_eq_true rfl) (m_fault 25 s _ S1 G (hms.lo hk1)) (Nat.le_of_ble_eq_true rfl) (Nat.le_of_ble_eq_true rfl) rfl rfl ?_
  rintro r9 h9 ⟨S2, G2, rfl, rfl, hm2, hk2⟩
  refine xA.icmp_eq (tgt := 938) rfl rfl rfl (fun h240 => ?_) (fun h240 => ?_)
  · exact kk _ S2 G2 (hc1.hi hk2) hm2 (by omega)
  · exact absurd rfl h240
set_option maxRecDepth 100000 in
set_option maxHeartbeats 1000000 in
theorem lc_house (N : Nat) (xs : Nat → Int32) (j : Nat) (hj : j < 512) (hN : 6 * j + 6 ≤ N) (hN2 : N ≤ 3072) (s : sS) (S : Nat → Nat → Int32) (G : Nat → Nat → Int64) (hcs : CS S s) (hms : MS S s) (hle : sHr s ≤ j) (kk : ∀ s' S' G', CS S' s' → MS S' s' → sHr s' ≤ j + 1 → xA (some (N, xs)) 30 mL_law 79 3571 600000 7302250 938 [some (.retAddr 0), some (.ref 0), some (.ref 54), some (.int (nI (6 * j)))] [] (σF, S', G') (fun r _ => r = some (.int 1))) : xA (some (N, xs)) 30 mL_law 79 3571 600000 7302250 245 [some (.retAddr 0), some (.ref 0), some (.ref 54), some (.int (nI (6 * j)))] [] (σF, S, G) (fun r _ => r = some (.int 1)) := by
  refine xA.aload_n (i := 1) rfl rfl rfl rfl ?_
  refine xA.callV (As := []) (h := (σF, _, _)) rfl k11_30 okX9_house rfl rfl rfl rfl (Nat.le_of_ble_eq_true rfl) (o_house 24 s (by omega) S G hcs) (Nat.le_of_ble_eq_true rfl) (Nat.le_of_ble_eq_true rfl) rfl rfl ?_
  rintro r9 h9 ⟨S1, rfl, rfl, hc1, hk1⟩
  refine xA.aload_n (i := 2) rfl rfl rfl rfl ?_
  refine xA.callV (As := []) (h := (σF, _, _)) rfl k11_33 okX10_house rfl rfl rfl rfl (Nat.le_of_ble_eq_true rfl) (m_house 25 s (by omega) S1 G (hms.lo hk1)) (Nat.le_of_ble_eq_true rfl) (Nat.le_of_ble_eq_true rfl) rfl rfl ?_
  rintro r9 h9 ⟨S2, G2, rfl, rfl, hm2, hk2⟩
  refine xA.icmp_eq (tgt := 938) rfl rfl rfl (fun h253 => ?_) (fun h253 => ?_)
  · exact kk _ S2 G2 (hc1.hi hk2) hm2 (Nat.le_trans (hr_house _) (by omega))
  · exact absurd rfl h253
set_option maxRecDepth 100000 in
set_option maxHeartbeats 1000000 in
theorem lc_between (N : Nat) (xs : Nat → Int32) (j : Nat) (hj : j < 512) (hN : 6 * j + 6 ≤ N) (hN2 : N ≤ 3072) (s : sS) (S : Nat → Nat → Int32) (G : Nat → Nat → Int64) (hcs : CS S s) (hms : MS S s) (hle : sHr s ≤ j) (kk : ∀ s' S' G', CS S' s' → MS S' s' → sHr s' ≤ j + 1 → xA (some (N, xs)) 30 mL_law 79 3571 600000 7302250 938 [some (.retAddr 0), some (.ref 0), some (.ref 54), some (.int (nI (6 * j)))] [] (σF, S', G') (fun r _ => r = some (.int 1))) : xA (some (N, xs)) 30 mL_law 79 3571 600000 7302250 258 [some (.retAddr 0), some (.ref 0), some (.ref 54), some (.int (nI (6 * j)))] [] (σF, S, G) (fun r _ => r = some (.int 1)) := by
  refine xA.aload_n (i := 1) rfl rfl rfl rfl ?_
  refine xA.aloadX_n (i := 0) rfl rfl rfl rfl ?_
  refine xA.iload_n (i := 3) rfl rfl rfl rfl ?_
  refine xA.iconst (v := 1) rfl (by decide) rfl ?_
  refine xA.iadd rfl rfl ?_
  refine xA.topi ((nI_1 _)) ?_
  refine xA.sld rfl (vp_in_nI (by omega) (by omega)) rfl ?_
  refine xA.aloadX_n (i := 0) rfl rfl rfl rfl ?_
  refine xA.iload_n (i := 3) rfl rfl rfl rfl ?_
  refine xA.iconst (v := 2) rfl (by decide) rfl ?_
  refine xA.iadd rfl rfl ?_
  refine xA.topi ((nI_add _ 2)) ?_
  refine xA.sld rfl (vp_in_nI (by omega) (by omega)) rfl ?_
  refine xA.callV (As := [_, _]) (h := (σF, _, _)) rfl k11_34 okX9_between rfl rfl rfl rfl (Nat.le_of_ble_eq_true rfl) (o_between 27 s _ _ S G hcs) (Nat.le_of_ble_eq_true rfl) (Nat.le_of_ble_eq_true rfl) rfl rfl ?_
  rintro r9 h9 ⟨S1, rfl, rfl, hc1, hk1⟩
  refine xA.aload_n (i := 2) rfl rfl rfl rfl ?_
  refine xA.aloadX_n (i := 0) rfl rfl rfl rfl ?_
  refine xA.iload_n (i := 3) rfl rfl rfl rfl ?_
  refine xA.iconst (v := 1) rfl (by decide) rfl ?_
  refine xA.iadd rfl rfl ?_
  refine xA.topi ((nI_1 _)) ?_
  refine xA.sld rfl (vp_in_nI (by omega) (by omega)) rfl ?_
  refine xA.aloadX_n (i := 0) rfl rfl rfl rfl ?_
  refine xA.iload_n (i := 3) rfl rfl rfl rfl ?_
  refine xA.iconst (v := 2) rfl (by decide) rfl ?_
  refine xA.iadd rfl rfl ?_
  refine xA.topi ((nI_add _ 2)) ?_
  refine xA.sld rfl (vp_in_nI (by omega) (by omega)) rfl ?_
  refine xA.callV (As := [_, _]) (h := (σF, _, _)) rfl k11_38 okX10_between rfl rfl rfl rfl (Nat.le_of_ble_eq_true rfl) (r_between 27 s _ _ S1 G (hms.lo hk1)) (Nat.le_of_ble_eq_true rfl) (Nat.le_of_ble_eq_true rfl) rfl rfl ?_
  rintro r9 h9 ⟨S2, G2, rfl, rfl, hm2, hk2⟩
  refine xA.icmp_eq (tgt := 938) rfl rfl rfl (fun h286 => ?_) (fun h286 => ?_)
  · exact kk _ S2 G2 (hc1.hi hk2) hm2 (by omega)
  · exact absurd rfl h286
set_option maxRecDepth 100000 in
set_option maxHeartbeats 1000000 in
theorem lc_person (N : Nat) (xs : Nat → Int32) (j : Nat) (hj : j < 512) (hN : 6 * j + 6 ≤ N) (hN2 : N ≤ 3072) (s : sS) (S : Nat → Nat → Int32) (G : Nat → Nat → Int64) (hcs : CS S s) (hms : MS S s) (hle : sHr s ≤ j) (kk : ∀ s' S' G', CS S' s' → MS S' s' → sHr s' ≤ j + 1 → xA (some (N, xs)) 30 mL_law 79 3571 600000 7302250 938 [some (.retAddr 0), some (.ref 0), some (.ref 54), some (.int (nI (6 * j)))] [] (σF, S', G') (fun r _ => r = some (.int 1))) : xA (some (N, xs)) 30 mL_law 79 3571 600000 7302250 291 [some (.retAddr 0), some (.ref 0), some (.ref 54), some (.int (nI (6 * j)))] [] (σF, S, G) (fun r _ => r = some (.int 1)) := by
  refine xA.aload_n (i := 1) rfl rfl rfl rfl ?_
  refine xA.aloadX_n (i := 0) rfl rfl rfl rfl ?_
  refine xA.iload_n (i := 3) rfl rfl rfl rfl ?_
  refine xA.iconst (v := 1) rfl (by decide) rfl ?_
  refine xA.iadd rfl rfl ?_
  refine xA.topi ((nI_1 _)) ?_
  refine xA.sld rfl (vp_in_nI (by omega) (by omega)) rfl ?_
  refine xA.callV (As := [_]) (h := (σF, _, _)) rfl k11_39 okX9_person rfl rfl rfl rfl (Nat.le_of_ble_eq_true rfl) (o_person 27 s _ S G hcs) (Nat.le_of_ble_eq_true rfl) (Nat.le_of_ble_eq_true rfl) rfl rfl ?_
  rintro r9 h9 ⟨S1, rfl, rfl, hc1, hk1⟩
  refine xA.aload_n (i := 2) rfl rfl rfl rfl ?_
  refine xA.aloadX_n (i := 0) rfl rfl rfl rfl ?_
  refine xA.iload_n (i := 3) rfl rfl rfl rfl ?_
  refine xA.iconst (v := 1) rfl (by decide) rfl ?_
  refine xA.iadd rfl rfl ?_
  refine xA.topi ((nI_1 _)) ?_
  refine xA.sld rfl (vp_in_nI (by omega) (by omega)) rfl ?_
  refine xA.callV (As := [_]) (h := (σF, _, _)) rfl k11_42 okX10_person rfl rfl rfl rfl (Nat.le_of_ble_eq_true rfl) (m_person 28 s _ S1 G (hms.lo hk1)) (Nat.le_of_ble_eq_true rfl) (Nat.le_of_ble_eq_true rfl) rfl rfl ?_
  rintro r9 h9 ⟨S2, G2, rfl, rfl, hm2, hk2⟩
  refine xA.icmp_eq (tgt := 938) rfl rfl rfl (fun h309 => ?_) (fun h309 => ?_)
  · exact kk _ S2 G2 (hc1.hi hk2) hm2 (Nat.le_trans (hr_person _ _) (by omega))
  · exact absurd rfl h309
set_option maxRecDepth 100000 in
set_option maxHeartbeats 1000000 in
theorem lc_life (N : Nat) (xs : Nat → Int32) (j : Nat) (hj : j < 512) (hN : 6 * j + 6 ≤ N) (hN2 : N ≤ 3072) (s : sS) (S : Nat → Nat → Int32) (G : Nat → Nat → Int64) (hcs : CS S s) (hms : MS S s) (hle : sHr s ≤ j) (kk : ∀ s' S' G', CS S' s' → MS S' s' → sHr s' ≤ j + 1 → xA (some (N, xs)) 30 mL_law 79 3571 600000 7302250 938 [some (.retAddr 0), some (.ref 0), some (.ref 54), some (.int (nI (6 * j)))] [] (σF, S', G') (fun r _ => r = some (.int 1))) : xA (some (N, xs)) 30 mL_law 79 3571 600000 7302250 314 [some (.retAddr 0), some (.ref 0), some (.ref 54), some (.int (nI (6 * j)))] [] (σF, S, G) (fun r _ => r = some (.int 1)) := by
  refine xA.aload_n (i := 1) rfl rfl rfl rfl ?_
  refine xA.aloadX_n (i := 0) rfl rfl rfl rfl ?_
  refine xA.iload_n (i := 3) rfl rfl rfl rfl ?_
  refine xA.iconst (v := 1) rfl (by decide) rfl ?_
  refine xA.iadd rfl rfl ?_
  refine xA.topi ((nI_1 _)) ?_
  refine xA.sld rfl (vp_in_nI (by omega) (by omega)) rfl ?_
  refine xA.callV (As := [_]) (h := (σF, _, _)) rfl k11_43 okX9_life rfl rfl rfl rfl (Nat.le_of_ble_eq_true rfl) (o_life 23 s _ S G hcs) (Nat.le_of_ble_eq_true rfl) (Nat.le_of_ble_eq_true rfl) rfl rfl ?_
  rintro r9 h9 ⟨S1, rfl, rfl, hc1, hk1⟩
  refine xA.aload_n (i := 2) rfl rfl rfl rfl ?_
  refine xA.aloadX_n (i := 0) rfl rfl rfl rfl ?_
  refine xA.iload_n (i := 3) rfl rfl rfl rfl ?_
  refine xA.iconst (v := 1) rfl (by decide) rfl ?_
  refine xA.iadd rfl rfl ?_
  refine xA.topi ((nI_1 _)) ?_
  refine xA.sld rfl (vp_in_nI (by omega) (by omega)) rfl ?_
  refine xA.callV (As := [_]) (h := (σF, _, _)) rfl k11_46 okX10_life rfl rfl rfl rfl (Nat.le_of_ble_eq_true rfl) (m_life 26 s _ S1 G (hms.lo hk1)) (Nat.le_of_ble_eq_true rfl) (Nat.le_of_ble_eq_true rfl) rfl rfl ?_
  rintro r9 h9 ⟨S2, G2, rfl, rfl, hm2, hk2⟩
  refine xA.icmp_eq (tgt := 938) rfl rfl rfl (fun h332 => ?_) (fun h332 => ?_)
  · exact kk _ S2 G2 (hc1.hi hk2) hm2 (Nat.le_trans (hr_life _ _) (by omega))
  · exact absurd rfl h332
set_option maxRecDepth 100000 in
set_option maxHeartbeats 1000000 in
theorem lc_about (N : Nat) (xs : Nat → Int32) (j : Nat) (hj : j < 512) (hN : 6 * j + 6 ≤ N) (hN2 : N ≤ 3072) (s : sS) (S : Nat → Nat → Int32) (G : Nat → Nat → Int64) (hcs : CS S s) (hms : MS S s) (hle : sHr s ≤ j) (kk : ∀ s' S' G', CS S' s' → MS S' s' → sHr s' ≤ j + 1 → xA (some (N, xs)) 30 mL_law 79 3571 600000 7302250 938 [some (.retAddr 0), some (.ref 0), some (.ref 54), some (.int (nI (6 * j)))] [] (σF, S', G') (fun r _ => r = some (.int 1))) : xA (some (N, xs)) 30 mL_law 79 3571 600000 7302250 337 [some (.retAddr 0), some (.ref 0), some (.ref 54), some (.int (nI (6 * j)))] [] (σF, S, G) (fun r _ => r = some (.int 1)) := by
  refine xA.aload_n (i := 1) rfl rfl rfl rfl ?_
  refine xA.aloadX_n (i := 0) rfl rfl rfl rfl ?_
  refine xA.iload_n (i := 3) rfl rfl rfl rfl ?_
  refine xA.iconst (v := 1) rfl (by decide) rfl ?_
  refine xA.iadd rfl rfl ?_
  refine xA.topi ((nI_1 _)) ?_
  refine xA.sld rfl (vp_in_nI (by omega) (by omega)) rfl ?_
  refine xA.aloadX_n (i := 0) rfl rfl rfl rfl ?_
  refine xA.iload_n (i := 3) rfl rfl rfl rfl ?_
  refine xA.iconst (v := 2) rfl (by decide) rfl ?_
  refine xA.iadd rfl rfl ?_
  refine xA.topi ((nI_add _ 2)) ?_
  refine xA.sld rfl (vp_in_nI (by omega) (by omega)) rfl ?_
  refine xA.callV (As := [_, _]) (h := (σF, _, _)) rfl k11_47 okX9_about rfl rfl rfl rfl (Nat.le_of_ble_eq_true rfl) (o_about 27 s _ _ S G hcs) (Nat.le_of_ble_eq_true rfl) (Nat.le_of_ble_eq_true rfl) rfl rfl ?_
  rintro r9 h9 ⟨S1, rfl, rfl, hc1, hk1⟩
  refine xA.aload_n (i := 2) rfl rfl rfl rfl ?_
  refine xA.aloadX_n (i := 0) rfl rfl rfl rfl ?_
  refine xA.iload_n (i := 3) rfl rfl rfl rfl ?_
  refine xA.iconst (v := 1) rfl (by decide) rfl ?_
  refine xA.iadd rfl rfl ?_
  refine xA.topi ((nI_1 _)) ?_
  refine xA.sld rfl (vp_in_nI (by omega) (by omega)) rfl ?_
  refine xA.aloadX_n (i := 0) rfl rfl rfl rfl ?_
  refine xA.iload_n (i := 3) rfl rfl rfl rfl ?_
  refine xA.iconst (v := 2) rfl (by decide) rfl ?_
  refine xA.iadd rfl rfl ?_
  refine xA.topi ((nI_add _ 2)) ?_
  refine xA.sld rfl (vp_in_nI (by omega) (by omega)) rfl ?_
  refine xA.callV (As := [_, _]) (h := (σF, _, _)) rfl k11_50 okX10_about rfl rfl rfl rfl (Nat.le_of_ble_eq_true rfl) (r_about 27 s _ _ S1 G (hms.lo hk1)) (Nat.le_of_ble_eq_true rfl) (Nat.le_of_ble_eq_true rfl) rfl rfl ?_
  rintro r9 h9 ⟨S2, G2, rfl, rfl, hm2, hk2⟩
  refine xA.icmp_eq (tgt := 938) rfl rfl rfl (fun h365 => ?_) (fun h365 => ?_)
  · exact kk _ S2 G2 (hc1.hi hk2) hm2 (by omega)
  · exact absurd rfl h365
set_option maxRecDepth 100000 in
set_option maxHeartbeats 1000000 in
theorem lc_as (N : Nat) (xs : Nat → Int32) (j : Nat) (hj : j < 512) (hN : 6 * j + 6 ≤ N) (hN2 : N ≤ 3072) (s : sS) (S : Nat → Nat → Int32) (G : Nat → Nat → Int64) (hcs : CS S s) (hms : MS S s) (hle : sHr s ≤ j) (kk : ∀ s' S' G', CS S' s' → MS S' s' → sHr s' ≤ j + 1 → xA (some (N, xs)) 30 mL_law 79 3571 600000 7302250 938 [some (.retAddr 0), some (.ref 0), some (.ref 54), some (.int (nI (6 * j)))] [] (σF, S', G') (fun r _ => r = some (.int 1))) : xA (some (N, xs)) 30 mL_law 79 3571 600000 7302250 370 [some (.retAddr 0), some (.ref 0), some (.ref 54), some (.int (nI (6 * j)))] [] (σF, S, G) (fun r _ => r = some (.int 1)) := by
  refine xA.aload_n (i := 1) rfl rfl rfl rfl ?_
  refine xA.aloadX_n (i := 0) rfl rfl rfl rfl ?_
  refine xA.iload_n (i := 3) rfl rfl rfl rfl ?_
  refine xA.iconst (v := 1) rfl (by decide) rfl ?_
  refine xA.iadd rfl rfl ?_
  refine xA.topi ((nI_1 _)) ?_
  refine xA.sld rfl (vp_in_nI (by omega) (by omega)) rfl ?_
  refine xA.aloadX_n (i := 0) rfl rfl rfl rfl ?_
  refine xA.iload_n (i := 3) rfl rfl rfl rfl ?_
  refine xA.iconst (v := 2) rfl (by decide) rfl ?_
  refine xA.iadd rfl rfl ?_
  refine xA.topi ((nI_add _ 2)) ?_
  refine xA.sld rfl (vp_in_nI (by omega) (by omega)) rfl ?_
  refine xA.callV (As := [_, _]) (h := (σF, _, _)) rfl k11_51 okX9_as rfl rfl rfl rfl (Nat.le_of_ble_eq_true rfl) (o_as 28 s _ _ S G hcs) (Nat.le_of_ble_eq_true rfl) (Nat.le_of_ble_eq_true rfl) rfl rfl ?_
  rintro r9 h9 ⟨S1, rfl, rfl, hc1, hk1⟩
  refine xA.aload_n (i := 2) rfl rfl rfl rfl ?_
  refine xA.aloadX_n (i := 0) rfl rfl rfl rfl ?_
  refine xA.iload_n (i := 3) rfl rfl rfl rfl ?_
  refine xA.iconst (v := 1) rfl (by decide) rfl ?_
  refine xA.iadd rfl rfl ?_
  refine xA.topi ((nI_1 _)) ?_
  refine xA.sld rfl (vp_in_nI (by omega) (by omega)) rfl ?_
  refine xA.aloadX_n (i := 0) rfl rfl rfl rfl ?_
  refine xA.iload_n (i := 3) rfl rfl rfl rfl ?_
  refine xA.iconst (v := 2) rfl (by decide) rfl ?_
  refine xA.iadd rfl rfl ?_
  refine xA.topi ((nI_add _ 2)) ?_
  refine xA.sld rfl (vp_in_nI (by omega) (by omega)) rfl ?_
  refine xA.callV (As := [_, _]) (h := (σF, _, _)) rfl k11_54 okX10_as rfl rfl rfl rfl (Nat.le_of_ble_eq_true rfl) (r_as 27 s _ _ S1 G (hms.lo hk1)) (Nat.le_of_ble_eq_true rfl) (Nat.le_of_ble_eq_true rfl) rfl rfl ?_
  rintro r9 h9 ⟨S2, G2, rfl, rfl, hm2, hk2⟩
  refine xA.icmp_eq (tgt := 938) rfl rfl rfl (fun h398 => ?_) (fun h398 => ?_)
  · exact kk _ S2 G2 (hc1.hi hk2) hm2 (by omega)
  · exact absurd rfl h398
set_option maxRecDepth 100000 in
set_option maxHeartbeats 1000000 in
theorem lc_self (N : Nat) (xs : Nat → Int32) (j : Nat) (hj : j < 512) (hN : 6 * j + 6 ≤ N) (hN2 : N ≤ 3072) (s : sS) (S : Nat → Nat → Int32) (G : Nat → Nat → Int64) (hcs : CS S s) (hms : MS S s) (hle : sHr s ≤ j) (kk : ∀ s' S' G', CS S' s' → MS S' s' → sHr s' ≤ j + 1 → xA (some (N, xs)) 30 mL_law 79 3571 600000 7302250 938 [some (.retAddr 0), some (.ref 0), some (.ref 54), some (.int (nI (6 * j)))] [] (σF, S', G') (fun r _ => r = some (.int 1))) : xA (some (N, xs)) 30 mL_law 79 3571 600000 7302250 403 [some (.retAddr 0), some (.ref 0), some (.ref 54), some (.int (nI (6 * j)))] [] (σF, S, G) (fun r _ => r = some (.int 1)) := by
  refine xA.aload_n (i := 1) rfl rfl rfl rfl ?_
  refine xA.aloadX_n (i := 0) rfl rfl rfl rfl ?_
  refine xA.iload_n (i := 3) rfl rfl rfl rfl ?_
  refine xA.iconst (v := 1) rfl (by decide) rfl ?_
  refine xA.iadd rfl rfl ?_
  refine xA.topi ((nI_1 _)) ?_
  refine xA.sld rfl (vp_in_nI (by omega) (by omega)) rfl ?_
  refine xA.aloadX_n (i := 0) rfl rfl rfl rfl ?_
  refine xA.iload_n (i := 3) rfl rfl rfl rfl ?_
  refine xA.iconst (v := 2) rfl (by decide) rfl ?_
  refine xA.iadd rfl rfl ?_
  refine xA.topi ((nI_add _ 2)) ?_
  refine xA.sld rfl (vp_in_nI (by omega) (by omega)) rfl ?_
  refine xA.aloadX_n (i := 0) rfl rfl rfl rfl ?_
  refine xA.iload_n (i := 3) rfl rfl rfl rfl ?_
  refine xA.iconst (v := 3) rfl (by decide) rfl ?_
  refine xA.iadd rfl rfl ?_
  refine xA.topi ((nI_add _ 3)) ?_
  refine xA.sld rfl (vp_in_nI (by omega) (by omega)) rfl ?_
  refine xA.callV (As := [_, _, _]) (h := (σF, _, _)) rfl k11_55 okX9_self rfl rfl rfl rfl (Nat.le_of_ble_eq_true rfl) (o_self 28 s _ _ _ S G hcs) (Nat.le_of_ble_eq_true rfl) (Nat.le_of_ble_eq_true rfl) rfl rfl ?_
  rintro r9 h9 ⟨S1, rfl, rfl, hc1, hk1⟩
  refine xA.aload_n (i := 2) rfl rfl rfl rfl ?_
  refine xA.aloadX_n (i := 0) rfl rfl rfl rfl ?_
  refine xA.iload_n (i := 3) rfl rfl rfl rfl ?_
  refine xA.iconst (v := 1) rfl (by decide) rfl ?_
  refine xA.iadd rfl rfl ?_
  refine xA.topi ((nI_1 _)) ?_
  refine xA.sld rfl (vp_in_nI (by omega) (by omega)) rfl ?_
  refine xA.aloadX_n (i := 0) rfl rfl rfl rfl ?_
  refine xA.iload_n (i := 3) rfl rfl rfl rfl ?_
  refine xA.iconst (v := 2) rfl (by decide) rfl ?_
  refine xA.iadd rfl rfl ?_
  refine xA.topi ((nI_add _ 2)) ?_
  refine xA.sld rfl (vp_in_nI (by omega) (by omega)) rfl ?_
  refine xA.aloadX_n (i := 0) rfl rfl rfl rfl ?_
  refine xA.iload_n (i := 3) rfl rfl rfl rfl ?_
  refine xA.iconst (v := 3) rfl (by decide) rfl ?_
  refine xA.iadd rfl rfl ?_
  refine xA.topi ((nI_add _ 3)) ?_
  refine xA.sld rfl (vp_in_nI (by omega) (by omega)) rfl ?_
  refine xA.callV (As := [_, _, _]) (h := (σF, _, _)) rfl k11_59 okX10_self rfl rfl rfl rfl (Nat.le_of_ble_eq_true rfl) (r_self 27 s _ _ _ S1 G (hms.lo hk1)) (Nat.le_of_ble_eq_true rfl) (Nat.le_of_ble_eq_true rfl) rfl rfl ?_
  rintro r9 h9 ⟨S2, G2, rfl, rfl, hm2, hk2⟩
  refine xA.icmp_eq (tgt := 938) rfl rfl rfl (fun h441 => ?_) (fun h441 => ?_)
  · exact kk _ S2 G2 (hc1.hi hk2) hm2 (by omega)
  · exact absurd rfl h441
set_option maxRecDepth 100000 in
set_option maxHeartbeats 1000000 in
theorem lc_there (N : Nat) (xs : Nat → Int32) (j : Nat) (hj : j < 512) (hN : 6 * j + 6 ≤ N) (hN2 : N ≤ 3072) (s : sS) (S : Nat → Nat → Int32) (G : Nat → Nat → Int64) (hcs : CS S s) (hms : MS S s) (hle : sHr s ≤ j) (kk : ∀ s' S' G', CS S' s' → MS S' s' → sHr s' ≤ j + 1 → xA (some (N, xs)) 30 mL_law 79 3571 600000 7302250 938 [some (.retAddr 0), some (.ref 0), some (.ref 54), some (.int (nI (6 * j)))] [] (σF, S', G') (fun r _ => r = some (.int 1))) : xA (some (N, xs)) 30 mL_law 79 3571 600000 7302250 446 [some (.retAddr 0), some (.ref 0), some (.ref 54), some (.int (nI (6 * j)))] [] (σF, S, G) (fun r _ => r = some (.int 1)) := by
  refine xA.aload_n (i := 1) rfl rfl rfl rfl ?_
  refine xA.aloadX_n (i := 0) rfl rfl rfl rfl ?_
  refine xA.iload_n (i := 3) rfl rfl rfl rfl ?_
  refine xA.iconst (v := 1) rfl (by decide) rfl ?_
  refine xA.iadd rfl rfl ?_
  refine xA.topi ((nI_1 _)) ?_
  refine xA.sld rfl (vp_in_nI (by omega) (by omega)) rfl ?_
  refine xA.aloadX_n (i := 0) rfl rfl rfl rfl ?_
  refine xA.iload_n (i := 3) rfl rfl rfl rfl ?_
  refine xA.iconst (v := 2) rfl (by decide) rfl ?_
  refine xA.iadd rfl rfl ?_
  refine xA.topi ((nI_add _ 2)) ?_
  refine xA.sld rfl (vp_in_nI (by omega) (by omega)) rfl ?_
  refine xA.aloadX_n (i := 0) rfl rfl rfl rfl ?_
  refine xA.iload_n (i := 3) rfl rfl rfl rfl ?_
  refine xA.iconst (v := 3) rfl (by decide) rfl ?_
  refine xA.iadd rfl rfl ?_
  refine xA.topi ((nI_add _ 3)) ?_
  refine xA.sld rfl (vp_in_nI (by omega) (by omega)) rfl ?_
  refine xA.callV (As := [_, _, _]) (h := (σF, _, _)) rfl k11_60 okX9_there rfl rfl rfl rfl (Nat.le_of_ble_eq_true rfl) (o_there 27 s _ _ _ S G hcs) (Nat.le_of_ble_eq_true rfl) (Nat.le_of_ble_eq_true rfl) rfl rfl ?_
  rintro r9 h9 ⟨S1, rfl, rfl, hc1, hk1⟩
  refine xA.aload_n (i := 2) rfl rfl rfl rfl ?_
  refine xA.aloadX_n (i := 0) rfl rfl rfl rfl ?_
  refine xA.iload_n (i := 3) rfl rfl rfl rfl ?_
  refine xA.iconst (v := 1) rfl (by decide) rfl ?_
  refine xA.iadd rfl rfl ?_
  refine xA.topi ((nI_1 _)) ?_
  refine xA.sld rfl (vp_in_nI (by omega) (by omega)) rfl ?_
  refine xA.aloadX_n (i := 0) rfl rfl rfl rfl ?_
  refine xA.iload_n (i := 3) rfl rfl rfl rfl ?_
  refine xA.iconst (v := 2) rfl (by decide) rfl ?_
  refine xA.iadd rfl rfl ?_
  refine xA.topi ((nI_add _ 2)) ?_
  refine xA.sld rfl (vp_in_nI (by omega) (by omega)) rfl ?_
  refine xA.aloadX_n (i := 0) rfl rfl rfl rfl ?_
  refine xA.iload_n (i := 3) rfl rfl rfl rfl ?_
  refine xA.iconst (v := 3) rfl (by decide) rfl ?_
  refine xA.iadd rfl rfl ?_
  refine xA.topi ((nI_add _ 3)) ?_
  refine xA.sld rfl (vp_in_nI (by omega) (by omega)) rfl ?_
  refine xA.callV (As := [_, _, _]) (h := (σF, _, _)) rfl k11_63 okX10_there rfl rfl rfl rfl (Nat.le_of_ble_eq_true rfl) (r_there 27 s _ _ _ S1 G (hms.lo hk1)) (Nat.le_of_ble_eq_true rfl) (Nat.le_of_ble_eq_true rfl) rfl rfl ?_
  rintro r9 h9 ⟨S2, G2, rfl, rfl, hm2, hk2⟩
  refine xA.icmp_eq (tgt := 938) rfl rfl rfl (fun h484 => ?_) (fun h484 => ?_)
  · exact kk _ S2 G2 (hc1.hi hk2) hm2 (by omega)
  · exact absurd rfl h484
set_option maxRecDepth 100000 in
set_option maxHeartbeats 1000000 in
theorem lc_met (N : Nat) (xs : Nat → Int32) (j : Nat) (hj : j < 512) (hN : 6 * j + 6 ≤ N) (hN2 : N ≤ 3072) (s : sS) (S : Nat → Nat → Int32) (G : Nat → Nat → Int64) (hcs : CS S s) (hms : MS S s) (hle : sHr s ≤ j) (kk : ∀ s' S' G', CS S' s' → MS S' s' → sHr s' ≤ j + 1 → xA (some (N, xs)) 30 mL_law 79 3571 600000 7302250 938 [some (.retAddr 0), some (.ref 0), some (.ref 54), some (.int (nI (6 * j)))] [] (σF, S', G') (fun r _ => r = some (.int 1))) : xA (some (N, xs)) 30 mL_law 79 3571 600000 7302250 489 [some (.retAddr 0), some (.ref 0), some (.ref 54), some (.int (nI (6 * j)))] [] (σF, S, G) (fun r _ => r = some (.int 1)) := by
  refine xA.aload_n (i := 1) rfl rfl rfl rfl ?_
  refine xA.aloadX_n (i := 0) rfl rfl rfl rfl ?_
  refine xA.iload_n (i := 3) rfl rfl rfl rfl ?_
  refine xA.iconst (v := 1) rfl (by decide) rfl ?_
  refine xA.iadd rfl rfl ?_
  refine xA.topi ((nI_1 _)) ?_
  refine xA.sld rfl (vp_in_nI (by omega) (by omega)) rfl ?_
  refine xA.callV (As := [_]) (h := (σF, _, _)) rfl k11_64 okX9_met rfl rfl rfl rfl (Nat.le_of_ble_eq_true rfl) (o_met 25 s _ S G hcs) (Nat.le_of_ble_eq_true rfl) (Nat.le_of_ble_eq_true rfl) rfl rfl ?_
  rintro r9 h9 ⟨S1, rfl, rfl, hc1, hk1⟩
  refine xA.aload_n (i := 2) rfl rfl rfl rfl ?_
  refine xA.aloadX_n (i := 0) rfl rfl rfl rfl ?_
  refine xA.iload_n (i := 3) rfl rfl rfl rfl ?_
  refine xA.iconst (v := 1) rfl (by decide) rfl ?_
  refine xA.iadd rfl rfl ?_
  refine xA.topi ((nI_1 _)) ?_
  refine xA.sld rfl (vp_in_nI (by omega) (by omega)) rfl ?_
  refine xA.callV (As := [_]) (h := (σF, _, _)) rfl k11_67 okX10_met rfl rfl rfl rfl (Nat.le_of_ble_eq_true rfl) (r_met 27 s _ S1 G (hms.lo hk1)) (Nat.le_of_ble_eq_true rfl) (Nat.le_of_ble_eq_true rfl) rfl rfl ?_
  rintro r9 h9 ⟨S2, G2, rfl, rfl, hm2, hk2⟩
  refine xA.icmp_eq (tgt := 938) rfl rfl rfl (fun h507 => ?_) (fun h507 => ?_)
  · exact kk _ S2 G2 (hc1.hi hk2) hm2 (by omega)
  · exact absurd rfl h507
set_option maxRecDepth 100000 in
set_option maxHeartbeats 1000000 in
theorem lc_most (N : Nat) (xs : Nat → Int32) (j : Nat) (hj : j < 512) (hN : 6 * j + 6 ≤ N) (hN2 : N ≤ 3072) (s : sS) (S : Nat → Nat → Int32) (G : Nat → Nat → Int64) (hcs : CS S s) (hms : MS S s) (hle : sHr s ≤ j) (kk : ∀ s' S' G', CS S' s' → MS S' s' → sHr s' ≤ j + 1 → xA (some (N, xs)) 30 mL_law 79 3571 600000 7302250 938 [some (.retAddr 0), some (.ref 0), some (.ref 54), some (.int (nI (6 * j)))] [] (σF, S', G') (fun r _ => r = some (.int 1))) : xA (some (N, xs)) 30 mL_law 79 3571 600000 7302250 512 [some (.retAddr 0), some (.ref 0), some (.ref 54), some (.int (nI (6 * j)))] [] (σF, S, G) (fun r _ => r = some (.int 1)) := by
  refine xA.aload_n (i := 1) rfl rfl rfl rfl ?_
  refine xA.aloadX_n (i := 0) rfl rfl rfl rfl ?_
  refine xA.iload_n (i := 3) rfl rfl rfl rfl ?_
  refine xA.iconst (v := 1) rfl (by decide) rfl ?_
  refine xA.iadd rfl rfl ?_
  refine xA.topi ((nI_1 _)) ?_
  refine xA.sld rfl (vp_in_nI (by omega) (by omega)) rfl ?_
  refine xA.aloadX_n (i := 0) rfl rfl rfl rfl ?_
  refine xA.iload_n (i := 3) rfl rfl rfl rfl ?_
  refine xA.iconst (v := 2) rfl (by decide) rfl ?_
  refine xA.iadd rfl rfl ?_
  refine xA.topi ((nI_add _ 2)) ?_
  refine xA.sld rfl (vp_in_nI (by omega) (by omega)) rfl ?_
  refine xA.callV (As := [_, _]) (h := (σF, _, _)) rfl k11_68 okX9_most rfl rfl rfl rfl (Nat.le_of_ble_eq_true rfl) (o_most 26 s _ _ S G hcs) (Nat.le_of_ble_eq_true rfl) (Nat.le_of_ble_eq_true rfl) rfl rfl ?_
  rintro r9 h9 ⟨S1, rfl, rfl, hc1, hk1⟩
  refine xA.aload_n (i := 2) rfl rfl rfl rfl ?_
  refine xA.aloadX_n (i := 0) rfl rfl rfl rfl ?_
  refine xA.iload_n (i := 3) rfl rfl rfl rfl ?_
  refine xA.iconst (v := 1) rfl (by decide) rfl ?_
  refine xA.iadd rfl rfl ?_
  refine xA.topi ((nI_1 _)) ?_
  refine xA.sld rfl (vp_in_nI (by omega) (by omega)) rfl ?_
  refine xA.aloadX_n (i := 0) rfl rfl rfl rfl ?_
  refine xA.iload_n (i := 3) rfl rfl rfl rfl ?_
  refine xA.iconst (v := 2) rfl (by decide) rfl ?_
  refine xA.iadd rfl rfl ?_
  refine xA.topi ((nI_add _ 2)) ?_
  refine xA.sld rfl (vp_in_nI (by omega) (by omega)) rfl ?_
  refine xA.callV (As := [_, _]) (h := (σF, _, _)) rfl k11_71 okX10_most rfl rfl rfl rfl (Nat.le_of_ble_eq_true rfl) (r_most 27 s _ _ S1 G (hms.lo hk1)) (Nat.le_of_ble_eq_true rfl) (Nat.le_of_ble_eq_true rfl) rfl rfl ?_
  rintro r9 h9 ⟨S2, G2, rfl, rfl, hm2, hk2⟩
  refine xA.icmp_eq (tgt := 938) rfl rfl rfl (fun h540 => ?_) (fun h540 => ?_)
  · exact kk _ S2 G2 (hc1.hi hk2) hm2 (by omega)
  · exact absurd rfl h540
set_option maxRecDepth 100000 in
set_option maxHeartbeats 1000000 in
theorem lc_meet (N : Nat) (xs : Nat → Int32) (j : Nat) (hj : j < 512) (hN : 6 * j + 6 ≤ N) (hN2 : N ≤ 3072) (s : sS) (S : Nat → Nat → Int32) (G : Nat → Nat → Int64) (hcs : CS S s) (hms : MS S s) (hle : sHr s ≤ j) (kk : ∀ s' S' G', CS S' s' → MS S' s' → sHr s' ≤ j + 1 → xA (some (N, xs)) 30 mL_law 79 3571 600000 7302250 938 [some (.retAddr 0), some (.ref 0), some (.ref 54), some (.int (nI (6 * j)))] [] (σF, S', G') (fun r _ => r = some (.int 1))) : xA (some (N, xs)) 30 mL_law 79 3571 600000 7302250 545 [some (.retAddr 0), some (.ref 0), some (.ref 54), some (.int (nI (6 * j)))] [] (σF, S, G) (fun r _ => r = some (.int 1)) := by
  refine xA.aload_n (i := 1) rfl rfl rfl rfl ?_
  refine xA.aloadX_n (i := 0) rfl rfl rfl rfl ?_
  refine xA.iload_n (i := 3) rfl rfl rfl rfl ?_
  refine xA.iconst (v := 1) rfl (by decide) rfl ?_
  refine xA.iadd rfl rfl ?_
  refine xA.topi ((nI_1 _)) ?_
  refine xA.sld rfl (vp_in_nI (by omega) (by omega)) rfl ?_
  refine xA.aloadX_n (i := 0) rfl rfl rfl rfl ?_
  refine xA.iload_n (i := 3) rfl rfl rfl rfl ?_
  refine xA.iconst (v := 2) rfl (by decide) rfl ?_
  refine xA.iadd rfl rfl ?_
  refine xA.topi ((nI_add _ 2)) ?_
  refine xA.sld rfl (vp_in_nI (by omega) (by omega)) rfl ?_
  refine xA.callV (As := [_, _]) (h := (σF, _, _)) rfl k11_72 okX9_meet rfl rfl rfl rfl (Nat.le_of_ble_eq_true rfl) (o_meet 26 s _ _ S G hcs) (Nat.le_of_ble_eq_true rfl) (Nat.le_of_ble_eq_true rfl) rfl rfl ?_
  rintro r9 h9 ⟨S1, rfl, rfl, hc1, hk1⟩
  refine xA.aload_n (i := 2) rfl rfl rfl rfl ?_
  refine xA.aloadX_n (i := 0) rfl rfl rfl rfl ?_
  refine xA.iload_n (i := 3) rfl rfl rfl rfl ?_
  refine xA.iconst (v := 1) rfl (by decide) rfl ?_
  refine xA.iadd rfl rfl ?_
  refine xA.topi ((nI_1 _)) ?_
  refine xA.sld rfl (vp_in_nI (by omega) (by omega)) rfl ?_
  refine xA.aloadX_n (i := 0) rfl rfl rfl rfl ?_
  refine xA.iload_n (i := 3) rfl rfl rfl rfl ?_
  refine xA.iconst (v := 2) rfl (by decide) rfl ?_
  refine xA.iadd rfl rfl ?_
  refine xA.topi ((nI_add _ 2)) ?_
  refine xA.sld rfl (vp_in_nI (by omega) (by omega)) rfl ?_
  refine xA.callV (As := [_, _]) (h := (σF, _, _)) rfl k11_75 okX10_meet rfl rfl rfl rfl (Nat.le_of_ble_eq_true rfl) (r_meet 26 s _ _ S1 G (hms.lo hk1)) (Nat.le_of_ble_eq_true rfl) (Nat.le_of_ble_eq_true rfl) rfl rfl ?_
  rintro r9 h9 ⟨S2, G2, rfl, rfl, hm2, hk2⟩
  refine xA.icmp_eq (tgt := 938) rfl rfl rfl (fun h573 => ?_) (fun h573 => ?_)
  · exact kk _ S2 G2 (hc1.hi hk2) hm2 (by omega)
  · exact absurd rfl h573
set_option maxRecDepth 100000 in
set_option maxHeartbeats 1000000 in
theorem lc_locked (N : Nat) (xs : Nat → Int32) (j : Nat) (hj : j < 512) (hN : 6 * j + 6 ≤ N) (hN2 : N ≤ 3072) (s : sS) (S : Nat → Nat → Int32) (G : Nat → Nat → Int64) (hcs : CS S s) (hms : MS S s) (hle : sHr s ≤ j) (kk : ∀ s' S' G', CS S' s' → MS S' s' → sHr s' ≤ j + 1 → xA (some (N, xs)) 30 mL_law 79 3571 600000 7302250 938 [some (.retAddr 0), some (.ref 0), some (.ref 54), some (.int (nI (6 * j)))] [] (σF, S', G') (fun r _ => r = some (.int 1))) : xA (some (N, xs)) 30 mL_law 79 3571 600000 7302250 578 [some (.retAddr 0), some (.ref 0), some (.ref 54), some (.int (nI (6 * j)))] [] (σF, S, G) (fun r _ => r = some (.int 1)) := by
  refine xA.aload_n (i := 1) rfl rfl rfl rfl ?_
  refine xA.callV (As := []) (h := (σF, _, _)) rfl k11_76 okX9_locked rfl rfl rfl rfl (Nat.le_of_ble_eq_true rfl) (o_locked 27 s S G hcs) (Nat.le_of_ble_eq_true rfl) (Nat.le_of_ble_eq_true rfl) rfl rfl ?_
  rintro r9 h9 ⟨S1, rfl, rfl, hc1, hk1⟩
  refine xA.aload_n (i := 2) rfl rfl rfl rfl ?_
  refine xA.callV (As := []) (h := (σF, _, _)) rfl k11_79 okX10_locked rfl rfl rfl rfl (Nat.le_of_ble_eq_true rfl) (r_locked 27 s S1 G (hms.lo hk1)) (Nat.le_of_ble_eq_true rfl) (Nat.le_of_ble_eq_true rfl) rfl rfl ?_
  rintro r9 h9 ⟨S2, G2, rfl, rfl, hm2, hk2⟩
  refine xA.icmp_eq (tgt := 938) rfl rfl rfl (fun h586 => ?_) (fun h586 => ?_)
  · exact kk _ S2 G2 (hc1.hi hk2) hm2 (by omega)
  · exact absurd rfl h586
set_option maxRecDepth 100000 in
set_option maxHeartbeats 1000000 in
theorem lc_task (N : Nat) (xs : Nat → Int32) (j : Nat) (hj : j < 512) (hN : 6 * j + 6 ≤ N) (hN2 : N ≤ 3072) (s : sS) (S : Nat → Nat → Int32) (G : Nat → Nat → Int64) (hcs : CS S s) (hms : MS S s) (hle : sHr s ≤ j) (kk : ∀ s' S' G', CS S' s' → MS S' s' → sHr s' ≤ j + 1 → xA (some (N, xs)) 30 mL_law 79 3571 600000 7302250 938 [some (.retAddr 0), some (.ref 0), some (.ref 54), some (.int (nI (6 * j)))] [] (σF, S', G') (fun r _ => r = some (.int 1))) : xA (some (N, xs)) 30 mL_law 79 3571 600000 7302250 591 [some (.retAddr 0), some (.ref 0), some (.ref 54), some (.int (nI (6 * j)))] [] (σF, S, G) (fun r _ => r = some (.int 1)) := by
  refine xA.aload_n (i := 1) rfl rfl rfl rfl ?_
  refine xA.aloadX_n (i := 0) rfl rfl rfl rfl ?_
  refine xA.iload_n (i := 3) rfl rfl rfl rfl ?_
  refine xA.iconst (v := 1) rfl (by decide) rfl ?_
  refine xA.iadd rfl rfl ?_
  refine xA.topi ((nI_1 _)) ?_
  refine xA.sld rfl (vp_in_nI (by omega) (by omega)) rfl ?_
  refine xA.aloadX_n (i := 0) rfl rfl rfl rfl ?_
  refine xA.iload_n (i := 3) rfl rfl rfl rfl ?_
  refine xA.iconst (v := 2) rfl (by decide) rfl ?_
  refine xA.iadd rfl rfl ?_
  refine xA.topi ((nI_add _ 2)) ?_
  refine xA.sld rfl (vp_in_nI (by omega) (by omega)) rfl ?_
  refine xA.aloadX_n (i := 0) rfl rfl rfl rfl ?_
  refine xA.iload_n (i := 3) rfl rfl rfl rfl ?_
  refine xA.iconst (v := 3) rfl (by decide) rfl ?_
  refine xA.iadd rfl rfl ?_
  refine xA.topi ((nI_add _ 3)) ?_
  refine xA.sld rfl (vp_in_nI (by omega) (by omega)) rfl ?_
  refine xA.callV (As := [_, _, _]) (h := (σF, _, _)) rfl k11_80 okX9_task rfl rfl rfl rfl (Nat.le_of_ble_eq_true rfl) (o_task 28 s _ _ _ S G hcs) (Nat.le_of_ble_eq_true rfl) (Nat.le_of_ble_eq_true rfl) rfl rfl ?_
  rintro r9 h9 ⟨S1, rfl, rfl, hc1, hk1⟩
  refine xA.aload_n (i := 2) rfl rfl rfl rfl ?_
  refine xA.aloadX_n (i := 0) rfl rfl rfl rfl ?_
  refine xA.iload_n (i := 3) rfl rfl rfl rfl ?_
  refine xA.iconst (v := 1) rfl (by decide) rfl ?_
  refine xA.iadd rfl rfl ?_
  refine xA.topi ((nI_1 _)) ?_
  refine xA.sld rfl (vp_in_nI (by omega) (by omega)) rfl ?_
  refine xA.aloadX_n (i := 0) rfl rfl rfl rfl ?_
  refine xA.iload_n (i := 3) rfl rfl rfl rfl ?_
  refine xA.iconst (v := 2) rfl (by decide) rfl ?_
  refine xA.iadd rfl rfl ?_
  refine xA.topi ((nI_add _ 2)) ?_
  refine xA.sld rfl (vp_in_nI (by omega) (by omega)) rfl ?_
  refine xA.aloadX_n (i := 0) rfl rfl rfl rfl ?_
  refine xA.iload_n (i := 3) rfl rfl rfl rfl ?_
  refine xA.iconst (v := 3) rfl (by decide) rfl ?_
  refine xA.iadd rfl rfl ?_
  refine xA.topi ((nI_add _ 3)) ?_
  refine xA.sld rfl (vp_in_nI (by omega) (by omega)) rfl ?_
  refine xA.callV (As := [_, _, _]) (h := (σF, _, _)) rfl k11_83 okX10_task rfl rfl rfl rfl (Nat.le_of_ble_eq_true rfl) (m_task 27 s _ _ _ S1 G (hms.lo hk1)) (Nat.le_of_ble_eq_true rfl) (Nat.le_of_ble_eq_true rfl) rfl rfl ?_
  rintro r9 h9 ⟨S2, G2, rfl, rfl, hm2, hk2⟩
  refine xA.icmp_eq (tgt := 938) rfl rfl rfl (fun h629 => ?_) (fun h629 => ?_)
  · exact kk _ S2 G2 (hc1.hi hk2) hm2 (Nat.le_trans (hr_task _ _ _ _) (by omega))
  · exact absurd rfl h629
set_option maxRecDepth 100000 in
set_option maxHeartbeats 1000000 in
theorem lc_done (N : Nat) (xs : Nat → Int32) (j : Nat) (hj : j < 512) (hN : 6 * j + 6 ≤ N) (hN2 : N ≤ 3072) (s : sS) (S : Nat → Nat → Int32) (G : Nat → Nat → Int64) (hcs : CS S s) (hms : MS S s) (hle : sHr s ≤ j) (kk : ∀ s' S' G', CS S' s' → MS S' s' → sHr s' ≤ j + 1 → xA (some (N, xs)) 30 mL_law 79 3571 600000 7302250 938 [some (.retAddr 0), some (.ref 0), some (.ref 54), some (.int (nI (6 * j)))] [] (σF, S', G') (fun r _ => r = some (.int 1))) : xA (some (N, xs)) 30 mL_law 79 3571 600000 7302250 634 [some (.retAddr 0), some (.ref 0), some (.ref 54), some (.int (nI (6 * j)))] [] (σF, S, G) (fun r _ => r = some (.int 1)) := by
  refine xA.aload_n (i := 1) rfl rfl rfl rfl ?_
  refine xA.aloadX_n (i := 0) rfl rfl rfl rfl ?_
  refine xA.iload_n (i := 3) rfl rfl rfl rfl ?_
  refine xA.iconst (v := 1) rfl (by decide) rfl ?_
  refine xA.iadd rfl rfl ?_
  refine xA.topi ((nI_1 _)) ?_
  refine xA.sld rfl (vp_in_nI (by omega) (by omega)) rfl ?_
  refine xA.callV (As := [_]) (h := (σF, _, _)) rfl k11_84 okX9_done rfl rfl rfl rfl (Nat.le_of_ble_eq_true rfl) (o_done 26 s _ S G hcs) (Nat.le_of_ble_eq_true rfl) (Nat.le_of_ble_eq_true rfl) rfl rfl ?_
  rintro r9 h9 ⟨S1, rfl, rfl, hc1, hk1⟩
  refine xA.aload_n (i := 2) rfl rfl rfl rfl ?_
  refine xA.aloadX_n (i := 0) rfl rfl rfl rfl ?_
  refine xA.iload_n (i := 3) rfl rfl rfl rfl ?_
  refine xA.iconst (v := 1) rfl (by decide) rfl ?_
  refine xA.iadd rfl rfl ?_
  refine xA.topi ((nI_1 _)) ?_
  refine xA.sld rfl (vp_in_nI (by omega) (by omega)) rfl ?_
  refine xA.callV (As := [_]) (h := (σF, _, _)) rfl k11_87 okX10_done rfl rfl rfl rfl (Nat.le_of_ble_eq_true rfl) (r_done 26 s _ S1 G (hms.lo hk1)) (Nat.le_of_ble_eq_true rfl) (Nat.le_of_ble_eq_true rfl) rfl rfl ?_
  rintro r9 h9 ⟨S2, G2, rfl, rfl, hm2, hk2⟩
  refine xA.icmp_eq (tgt := 938) rfl rfl rfl (fun h652 => ?_) (fun h652 => ?_)
  · exact kk _ S2 G2 (hc1.hi hk2) hm2 (by omega)
  · exact absurd rfl h652
set_option maxRecDepth 100000 in
set_option maxHeartbeats 1000000 in
theorem lc_shortest (N : Nat) (xs : Nat → Int32) (j : Nat) (hj : j < 512) (hN : 6 * j + 6 ≤ N) (hN2 : N ≤ 3072) (s : sS) (S : Nat → Nat → Int32) (G : Nat → Nat → Int64) (hcs : CS S s) (hms : MS S s) (hle : sHr s ≤ j) (kk : ∀ s' S' G', CS S' s' → MS S' s' → sHr s' ≤ j + 1 → xA (some (N, xs)) 30 mL_law 79 3571 600000 7302250 938 [some (.retAddr 0), some (.ref 0), some (.ref 54), some (.int (nI (6 * j)))] [] (σF, S', G') (fun r _ => r = some (.int 1))) : xA (some (N, xs)) 30 mL_law 79 3571 600000 7302250 657 [some (.retAddr 0), some (.ref 0), some (.ref 54), some (.int (nI (6 * j)))] [] (σF, S, G) (fun r _ => r = some (.int 1)) := by
  refine xA.aload_n (i := 1) rfl rfl rfl rfl ?_
  refine xA.aloadX_n (i := 0) rfl rfl rfl rfl ?_
  refine xA.iload_n (i := 3) rfl rfl rfl rfl ?_
  refine xA.iconst (v := 1) rfl (by decide) rfl ?_
  refine xA.iadd rfl rfl ?_
  refine xA.topi ((nI_1 _)) ?_
  refine xA.sld rfl (vp_in_nI (by omega) (by omega)) rfl ?_
  refine xA.aloadX_n (i := 0) rfl rfl rfl rfl ?_
  refine xA.iload_n (i := 3) rfl rfl rfl rfl ?_
  refine xA.iconst (v := 2) rfl (by decide) rfl ?_
  refine xA.iadd rfl rfl ?_
  refine xA.topi ((nI_add _ 2)) ?_
  refine xA.sld rfl (vp_in_nI (by omega) (by omega)) rfl ?_
  refine xA.aloadX_n (i := 0) rfl rfl rfl rfl ?_
  refine xA.iload_n (i := 3) rfl rfl rfl rfl ?_
  refine xA.iconst (v := 3) rfl (by decide) rfl ?_
  refine xA.iadd rfl rfl ?_
  refine xA.topi ((nI_add _ 3)) ?_
  refine xA.sld rfl (vp_in_nI (by omega) (by omega)) rfl ?_
  refine xA.aloadX_n (i := 0) rfl rfl rfl rfl ?_
  refine xA.iload_n (i := 3) rfl rfl rfl rfl ?_
  refine xA.iconst (v := 4) rfl (by decide) rfl ?_
  refine xA.iadd rfl rfl ?_
  refine xA.topi ((nI_add _ 4)) ?_
  refine xA.sld rfl (vp_in_nI (by omega) (by omega)) rfl ?_
  refine xA.aloadX_n (i := 0) rfl rfl rfl rfl ?_
  refine xA.iload_n (i := 3) rfl rfl rfl rfl ?_
  refine xA.iconst (v := 5) rfl (by decide) rfl ?_
  refine xA.iadd rfl rfl ?_
  refine xA.topi ((nI_add _ 5)) ?_
  refine xA.sld rfl (vp_in_nI (by omega) (by omega)) rfl ?_
  refine xA.callV (As := [_, _, _, _, _]) (h := (σF, _, _)) rfl k11_88 okX9_shortest rfl rfl rfl rfl (Nat.le_of_ble_eq_true rfl) (o_shortest 8 s _ _ _ _ _ S G hcs) (Nat.le_of_ble_eq_true rfl) (Nat.le_of_ble_eq_true rfl) rfl rfl ?_
  rintro r9 h9 ⟨S1, rfl, rfl, hc1, hk1⟩
  refine xA.aload_n (i := 2) rfl rfl rfl rfl ?_
  refine xA.aloadX_n (i := 0) rfl rfl rfl rfl ?_
  refine xA.iload_n (i := 3) rfl rfl rfl rfl ?_
  refine xA.iconst (v := 1) rfl (by decide) rfl ?_
  refine xA.iadd rfl rfl ?_
  refine xA.topi ((nI_1 _)) ?_
  refine xA.sld rfl (vp_in_nI (by omega) (by omega)) rfl ?_
  refine xA.aloadX_n (i := 0) rfl rfl rfl rfl ?_
  refine xA.iload_n (i := 3) rfl rfl rfl rfl ?_
  refine xA.iconst (v := 2) rfl (by decide) rfl ?_
  refine xA.iadd rfl rfl ?_
  refine xA.topi ((nI_add _ 2)) ?_
  refine xA.sld rfl (vp_in_nI (by omega) (by omega)) rfl ?_
  refine xA.aloadX_n (i := 0) rfl rfl rfl rfl ?_
  refine xA.iload_n (i := 3) rfl rfl rfl rfl ?_
  refine xA.iconst (v := 3) rfl (by decide) rfl ?_
  refine xA.iadd rfl rfl ?_
  refine xA.topi ((nI_add _ 3)) ?_
  refine xA.sld rfl (vp_in_nI (by omega) (by omega)) rfl ?_
  refine xA.aloadX_n (i := 0) rfl rfl rfl rfl ?_
  refine xA.iload_n (i := 3) rfl rfl rfl rfl ?_
  refine xA.iconst (v := 4) rfl (by decide) rfl ?_
  refine xA.iadd rfl rfl ?_
  refine xA.topi ((nI_add _ 4)) ?_
  refine xA.sld rfl (vp_in_nI (by omega) (by omega)) rfl ?_
  refine xA.aloadX_n (i := 0) rfl rfl rfl rfl ?_
  refine xA.iload_n (i := 3) rfl rfl rfl rfl ?_
  refine xA.iconst (v := 5) rfl (by decide) rfl ?_
  refine xA.iadd rfl rfl ?_
  refine xA.topi ((nI_add _ 5)) ?_
  refine xA.sld rfl (vp_in_nI (by omega) (by omega)) rfl ?_
  refine xA.callV (As := [_, _, _, _, _]) (h := (σF, _, _)) rfl k11_92 okX10_shortest rfl rfl rfl rfl (Nat.le_of_ble_eq_true rfl) (m_shortest 26 s _ _ _ _ _ S1 G (hms.lo hk1)) (Nat.le_of_ble_eq_true rfl) (Nat.le_of_ble_eq_true rfl) rfl rfl ?_
  rintro r9 h9 ⟨S2, G2, rfl, rfl, hm2, hk2⟩
  refine xA.icmp_eq (tgt := 938) rfl rfl rfl (fun h715 => ?_) (fun h715 => ?_)
  · exact kk _ S2 G2 (hc1.hi hk2) hm2 (Nat.le_trans (hr_shortest _ _ _ _ _ _) (by omega))
  · exact absurd rfl h715
set_option maxRecDepth 100000 in
set_option maxHeartbeats 1000000 in
theorem lc_glimpse (N : Nat) (xs : Nat → Int32) (j : Nat) (hj : j < 512) (hN : 6 * j + 6 ≤ N) (hN2 : N ≤ 3072) (s : sS) (S : Nat → Nat → Int32) (G : Nat → Nat → Int64) (hcs : CS S s) (hms : MS S s) (hle : sHr s ≤ j) (kk : ∀ s' S' G', CS S' s' → MS S' s' → sHr s' ≤ j + 1 → xA (some (N, xs)) 30 mL_law 79 3571 600000 7302250 938 [some (.retAddr 0), some (.ref 0), some (.ref 54), some (.int (nI (6 * j)))] [] (σF, S', G') (fun r _ => r = some (.int 1))) : xA (some (N, xs)) 30 mL_law 79 3571 600000 7302250 720 [some (.retAddr 0), some (.ref 0), some (.ref 54), some (.int (nI (6 * j)))] [] (σF, S, G) (fun r _ => r = some (.int 1)) := by
  refine xA.aload_n (i := 1) rfl rfl rfl rfl ?_
  refine xA.aloadX_n (i := 0) rfl rfl rfl rfl ?_
  refine xA.iload_n (i := 3) rfl rfl rfl rfl ?_
  refine xA.iconst (v := 1) rfl (by decide) rfl ?_
  refine xA.iadd rfl rfl ?_
  refine xA.topi ((nI_1 _)) ?_
  refine xA.sld rfl (vp_in_nI (by omega) (by omega)) rfl ?_
  refine xA.aloadX_n (i := 0) rfl rfl rfl rfl ?_
  refine xA.iload_n (i := 3) rfl rfl rfl rfl ?_
  refine xA.iconst (v := 2) rfl (by decide) rfl ?_
  refine xA.iadd rfl rfl ?_
  refine xA.topi ((nI_add _ 2)) ?_
  refine xA.sld rfl (vp_in_nI (by omega) (by omega)) rfl ?_
  refine xA.callV (As := [_, _]) (h := (σF, _, _)) rfl k11_93 okX9_glimpse rfl rfl rfl rfl (Nat.le_of_ble_eq_true rfl) (o_glimpse 28 s _ _ S G hcs) (Nat.le_of_ble_eq_true rfl) (Nat.le_of_ble_eq_true rfl) rfl rfl ?_
  rintro r9 h9 ⟨S1, rfl, rfl, hc1, hk1⟩
  refine xA.aload_n (i := 2) rfl rfl rfl rfl ?_
  refine xA.aloadX_n (i := 0) rfl rfl rfl rfl ?_
  refine xA.iload_n (i := 3) rfl rfl rfl rfl ?_
  refine xA.iconst (v := 1) rfl (by decide) rfl ?_
  refine xA.iadd rfl rfl ?_
  refine xA.topi ((nI_1 _)) ?_
  refine xA.sld rfl (vp_in_nI (by omega) (by omega)) rfl ?_
  refine xA.aloadX_n (i := 0) rfl rfl rfl rfl ?_
  refine xA.iload_n (i := 3) rfl rfl rfl rfl ?_
  refine xA.iconst (v := 2) rfl (by decide) rfl ?_
  refine xA.iadd rfl rfl ?_
  refine xA.topi ((nI_add _ 2)) ?_
  refine xA.sld rfl (vp_in_nI (by omega) (by omega)) rfl ?_
  refine xA.callV (As := [_, _]) (h := (σF, _, _)) rfl k11_96 okX10_glimpse rfl rfl rfl rfl (Nat.le_of_ble_eq_true rfl) (m_glimpse 27 s _ _ S1 G (hms.lo hk1)) (Nat.le_of_ble_eq_true rfl) (Nat.le_of_ble_eq_true rfl) rfl rfl ?_
  rintro r9 h9 ⟨S2, G2, rfl, rfl, hm2, hk2⟩
  refine xA.icmp_eq (tgt := 938) rfl rfl rfl (fun h748 => ?_) (fun h748 => ?_)
  · exact kk _ S2 G2 (hc1.hi hk2) hm2 (Nat.le_trans (hr_glimpse _ _ _) (by omega))
  · exact absurd rfl h748
set_option maxRecDepth 100000 in
set_option maxHeartbeats 1000000 in
theorem lc_forget (N : Nat) (xs : Nat → Int32) (j : Nat) (hj : j < 512) (hN : 6 * j + 6 ≤ N) (hN2 : N ≤ 3072) (s : sS) (S : Nat → Nat → Int32) (G : Nat → Nat → Int64) (hcs : CS S s) (hms : MS S s) (hle : sHr s ≤ j) (kk : ∀ s' S' G', CS S' s' → MS S' s' → sHr s' ≤ j + 1 → xA (some (N, xs)) 30 mL_law 79 3571 600000 7302250 938 [some (.retAddr 0), some (.ref 0), some (.ref 54), some (.int (nI (6 * j)))] [] (σF, S', G') (fun r _ => r = some (.int 1))) : xA (some (N, xs)) 30 mL_law 79 3571 600000 7302250 753 [some (.retAddr 0), some (.ref 0), some (.ref 54), some (.int (nI (6 * j)))] [] (σF, S, G) (fun r _ => r = some (.int 1)) := by
  refine xA.aload_n (i := 1) rfl rfl rfl rfl ?_
  refine xA.callV (As := []) (h := (σF, _, _)) rfl k11_97 okX9_forget rfl rfl rfl rfl (Nat.le_of_ble_eq_true rfl) (o_forget 28 s S G hcs) (Nat.le_of_ble_eq_true rfl) (Nat.le_of_ble_eq_true rfl) rfl rfl ?_
  rintro r9 h9 ⟨S1, rfl, rfl, hc1, hk1⟩
  refine xA.aload_n (i := 2) rfl rfl rfl rfl ?_
  refine xA.callV (As := []) (h := (σF, _, _)) rfl k11_100 okX10_forget rfl rfl rfl rfl (Nat.le_of_ble_eq_true rfl) (m_forget 29 s S1 G (hms.lo hk1)) (Nat.le_of_ble_eq_true rfl) (Nat.le_of_ble_eq_true rfl) rfl rfl ?_
  rintro r9 h9 ⟨S2, G2, rfl, rfl, hm2, hk2⟩
  refine xA.icmp_eq (tgt := 938) rfl rfl rfl (fun h761 => ?_) (fun h761 => ?_)
  · exact kk _ S2 G2 (hc1.hi hk2) hm2 (Nat.le_trans (hr_forget _) (by omega))
  · exact absurd rfl h761
set_option maxRecDepth 100000 in
set_option maxHeartbeats 1000000 in
theorem lc_whose (N : Nat) (xs : Nat → Int32) (j : Nat) (hj : j < 512) (hN : 6 * j + 6 ≤ N) (hN2 : N ≤ 3072) (s : sS) (S : Nat → Nat → Int32) (G : Nat → Nat → Int64) (hcs : CS S s) (hms : MS S s) (hle : sHr s ≤ j) (kk : ∀ s' S' G', CS S' s' → MS S' s' → sHr s' ≤ j + 1 → xA (some (N, xs)) 30 mL_law 79 3571 600000 7302250 938 [some (.retAddr 0), some (.ref 0), some (.ref 54), some (.int (nI (6 * j)))] [] (σF, S', G') (fun r _ => r = some (.int 1))) : xA (some (N, xs)) 30 mL_law 79 3571 600000 7302250 766 [some (.retAddr 0), some (.ref 0), some (.ref 54), some (.int (nI (6 * j)))] [] (σF, S, G) (fun r _ => r = some (.int 1)) := by
  refine xA.aload_n (i := 1) rfl rfl rfl rfl ?_
  refine xA.callV (As := []) (h := (σF, _, _)) rfl k11_101 okX9_whose rfl rfl rfl rfl (Nat.le_of_ble_eq_true rfl) (o_whose 26 s S G hcs) (Nat.le_of_ble_eq_true rfl) (Nat.le_of_ble_eq_true rfl) rfl rfl ?_
  rintro r9 h9 ⟨S1, rfl, rfl, hc1, hk1⟩
  refine xA.aload_n (i := 2) rfl rfl rfl rfl ?_
  refine xA.callV (As := []) (h := (σF, _, _)) rfl k11_104 okX10_whose rfl rfl rfl rfl (Nat.le_of_ble_eq_true rfl) (r_whose 26 s S1 G (hms.lo hk1)) (Nat.le_of_ble_eq_true rfl) (Nat.le_of_ble_eq_true rfl) rfl rfl ?_
  rintro r9 h9 ⟨S2, G2, rfl, rfl, hm2, hk2⟩
  refine xA.icmp_eq (tgt := 938) rfl rfl rfl (fun h774 => ?_) (fun h774 => ?_)
  · exact kk _ S2 G2 (hc1.hi hk2) hm2 (by omega)
  · exact absurd rfl h774
set_option maxRecDepth 100000 in
set_option maxHeartbeats 1000000 in
theorem lc_pair (N : Nat) (xs : Nat → Int32) (j : Nat) (hj : j < 512) (hN : 6 * j + 6 ≤ N) (hN2 : N ≤ 3072) (s : sS) (S : Nat → Nat → Int32) (G : Nat → Nat → Int64) (hcs : CS S s) (hms : MS S s) (hle : sHr s ≤ j) (kk : ∀ s' S' G', CS S' s' → MS S' s' → sHr s' ≤ j + 1 → xA (some (N, xs)) 30 mL_law 79 3571 600000 7302250 938 [some (.retAddr 0), some (.ref 0), some (.ref 54), some (.int (nI (6 * j)))] [] (σF, S', G') (fun r _ => r = some (.int 1))) : xA (some (N, xs)) 30 mL_law 79 3571 600000 7302250 779 [some (.retAddr 0), some (.ref 0), some (.ref 54), some (.int (nI (6 * j)))] [] (σF, S, G) (fun r _ => r = some (.int 1)) := by
  refine xA.aload_n (i := 1) rfl rfl rfl rfl ?_
  refine xA.aloadX_n (i := 0) rfl rfl rfl rfl ?_
  refine xA.iload_n (i := 3) rfl rfl rfl rfl ?_
  refine xA.iconst (v := 1) rfl (by decide) rfl ?_
  refine xA.iadd rfl rfl ?_
  refine xA.topi ((nI_1 _)) ?_
  refine xA.sld rfl (vp_in_nI (by omega) (by omega)) rfl ?_
  refine xA.aloadX_n (i := 0) rfl rfl rfl rfl ?_
  refine xA.iload_n (i := 3) rfl rfl rfl rfl ?_
  refine xA.iconst (v := 2) rfl (by decide) rfl ?_
  refine xA.iadd rfl rfl ?_
  refine xA.topi ((nI_add _ 2)) ?_
  refine xA.sld rfl (vp_in_nI (by omega) (by omega)) rfl ?_
  refine xA.callV (As := [_, _]) (h := (σF, _, _)) rfl k11_105 okX9_pair rfl rfl rfl rfl (Nat.le_of_ble_eq_true rfl) (o_pair 26 s _ _ S G hcs) (Nat.le_of_ble_eq_true rfl) (Nat.le_of_ble_eq_true rfl) rfl rfl ?_
  rintro r9 h9 ⟨S1, rfl, rfl, hc1, hk1⟩
  refine xA.aload_n (i := 2) rfl rfl rfl rfl ?_
  refine xA.aloadX_n (i := 0) rfl rfl rfl rfl ?_
  refine xA.iload_n (i := 3) rfl rfl rfl rfl ?_
  refine xA.iconst (v := 1) rfl (by decide) rfl ?_
  refine xA.iadd rfl rfl ?_
  refine xA.topi ((nI_1 _)) ?_
  refine xA.sld rfl (vp_in_nI (by omega) (by omega)) rfl ?_
  refine xA.aloadX_n (i := 0) rfl rfl rfl rfl ?_
  refine xA.iload_n (i := 3) rfl rfl rfl rfl ?_
  refine xA.iconst (v := 2) rfl (by decide) rfl ?_
  refine xA.iadd rfl rfl ?_
  refine xA.topi ((nI_add _ 2)) ?_
  refine xA.sld rfl (vp_in_nI (by omega) (by omega)) rfl ?_
  refine xA.callV (As := [_, _]) (h := (σF, _, _)) rfl k11_108 okX10_pair rfl rfl rfl rfl (Nat.le_of_ble_eq_true rfl) (r_pair 26 s _ _ S1 G (hms.lo hk1)) (Nat.le_of_ble_eq_true rfl) (Nat.le_of_ble_eq_true rfl) rfl rfl ?_
  rintro r9 h9 ⟨S2, G2, rfl, rfl, hm2, hk2⟩
  refine xA.icmp_eq (tgt := 938) rfl rfl rfl (fun h807 => ?_) (fun h807 => ?_)
  · exact kk _ S2 G2 (hc1.hi hk2) hm2 (by omega)
  · exact absurd rfl h807
set_option maxRecDepth 100000 in
set_option maxHeartbeats 1000000 in
theorem lc_lives (N : Nat) (xs : Nat → Int32) (j : Nat) (hj : j < 512) (hN : 6 * j + 6 ≤ N) (hN2 : N ≤ 3072) (s : sS) (S : Nat → Nat → Int32) (G : Nat → Nat → Int64) (hcs : CS S s) (hms : MS S s) (hle : sHr s ≤ j) (kk : ∀ s' S' G', CS S' s' → MS S' s' → sHr s' ≤ j + 1 → xA (some (N, xs)) 30 mL_law 79 3571 600000 7302250 938 [some (.retAddr 0), some (.ref 0), some (.ref 54), some (.int (nI (6 * j)))] [] (σF, S', G') (fun r _ => r = some (.int 1))) : xA (some (N, xs)) 30 mL_law 79 3571 600000 7302250 812 [some (.retAddr 0), some (.ref 0), some (.ref 54), some (.int (nI (6 * j)))] [] (σF, S, G) (fun r _ => r = some (.int 1)) := by
  refine xA.aload_n (i := 1) rfl rfl rfl rfl ?_
  refine xA.aloadX_n (i := 0) rfl rfl rfl rfl ?_
  refine xA.iload_n (i := 3) rfl rfl rfl rfl ?_
  refine xA.iconst (v := 1) rfl (by decide) rfl ?_
  refine xA.iadd rfl rfl ?_
  refine xA.topi ((nI_1 _)) ?_
  refine xA.sld rfl (vp_in_nI (by omega) (by omega)) rfl ?_
  refine xA.aloadX_n (i := 0) rfl rfl rfl rfl ?_
  refine xA.iload_n (i := 3) rfl rfl rfl rfl ?_
  refine xA.iconst (v := 2) rfl (by decide) rfl ?_
  refine xA.iadd rfl rfl ?_
  refine xA.topi ((nI_add _ 2)) ?_
  refine xA.sld rfl (vp_in_nI (by omega) (by omega)) rfl ?_
  refine xA.aloadX_n (i := 0) rfl rfl rfl rfl ?_
  refine xA.iload_n (i := 3) rfl rfl rfl rfl ?_
  refine xA.iconst (v := 3) rfl (by decide) rfl ?_
  refine xA.iadd rfl rfl ?_
  refine xA.topi ((nI_add _ 3)) ?_
  refine xA.sld rfl (vp_in_nI (by omega) (by omega)) rfl ?_
  refine xA.aloadX_n (i := 0) rfl rfl rfl rfl ?_
  refine xA.iload_n (i := 3) rfl rfl rfl rfl ?_
  refine xA.iconst (v := 4) rfl (by decide) rfl ?_
  refine xA.iadd rfl rfl ?_
  refine xA.topi ((nI_add _ 4)) ?_
  refine xA.sld rfl (vp_in_nI (by omega) (by omega)) rfl ?_
  refine xA.aloadX_n (i := 0) rfl rfl rfl rfl ?_
  refine xA.iload_n (i := 3) rfl rfl rfl rfl ?_
  refine xA.iconst (v := 5) rfl (by decide) rfl ?_
  refine xA.iadd rfl rfl ?_
  refine xA.topi ((nI_add _ 5)) ?_
  refine xA.sld rfl (vp_in_nI (by omega) (by omega)) rfl ?_
  refine xA.callV (As := [_, _, _, _, _]) (h := (σF, _, _)) rfl k11_109 okX9_lives rfl rfl rfl rfl (Nat.le_of_ble_eq_true rfl) (o_lives 24 s _ _ _ _ _ S G hcs) (Nat.le_of_ble_eq_true rfl) (Nat.le_of_ble_eq_true rfl) rfl rfl ?_
  rintro r9 h9 ⟨S1, rfl, rfl, hc1, hk1⟩
  refine xA.aload_n (i := 2) rfl rfl rfl rfl ?_
  refine xA.aloadX_n (i := 0) rfl rfl rfl rfl ?_
  refine xA.iload_n (i := 3) rfl rfl rfl rfl ?_
  refine xA.iconst (v := 1) rfl (by decide) rfl ?_
  refine xA.iadd rfl rfl ?_
  refine xA.topi ((nI_1 _)) ?_
  refine xA.sld rfl (vp_in_nI (by omega) (by omega)) rfl ?_
  refine xA.aloadX_n (i := 0) rfl rfl rfl rfl ?_
  refine xA.iload_n (i := 3) rfl rfl rfl rfl ?_
  refine xA.iconst (v := 2) rfl (by decide) rfl ?_
  refine xA.iadd rfl rfl ?_
  refine xA.topi ((nI_add _ 2)) ?_
  refine xA.sld rfl (vp_in_nI (by omega) (by omega)) rfl ?_
  refine xA.aloadX_n (i := 0) rfl rfl rfl rfl ?_
  refine xA.iload_n (i := 3) rfl rfl rfl rfl ?_
  refine xA.iconst (v := 3) rfl (by decide) rfl ?_
  refine xA.iadd rfl rfl ?_
  refine xA.topi ((nI_add _ 3)) ?_
  refine xA.sld rfl (vp_in_nI (by omega) (by omega)) rfl ?_
  refine xA.aloadX_n (i := 0) rfl rfl rfl rfl ?_
  refine xA.iload_n (i := 3) rfl rfl rfl rfl ?_
  refine xA.iconst (v := 4) rfl (by decide) rfl ?_
  refine xA.iadd rfl rfl ?_
  refine xA.topi ((nI_add _ 4)) ?_
  refine xA.sld rfl (vp_in_nI (by omega) (by omega)) rfl ?_
  refine xA.aloadX_n (i := 0) rfl rfl rfl rfl ?_
  refine xA.iload_n (i := 3) rfl rfl rfl rfl ?_
  refine xA.iconst (v := 5) rfl (by decide) rfl ?_
  refine xA.iadd rfl rfl ?_
  refine xA.topi ((nI_add _ 5)) ?_
  refine xA.sld rfl (vp_in_nI (by omega) (by omega)) rfl ?_
  refine xA.callV (As := [_, _, _, _, _]) (h := (σF, _, _)) rfl k11_112 okX10_lives rfl rfl rfl rfl (Nat.le_of_ble_eq_true rfl) (m_lives 26 s _ _ _ _ _ S1 G (hms.lo hk1)) (Nat.le_of_ble_eq_true rfl) (Nat.le_of_ble_eq_true rfl) rfl rfl ?_
  rintro r9 h9 ⟨S2, G2, rfl, rfl, hm2, hk2⟩
  refine xA.icmp_eq (tgt := 938) rfl rfl rfl (fun h870 => ?_) (fun h870 => ?_)
  · exact kk _ S2 G2 (hc1.hi hk2) hm2 (by omega)
  · exact absurd rfl h870
set_option maxRecDepth 100000 in
set_option maxHeartbeats 1000000 in
theorem lc_image (N : Nat) (xs : Nat → Int32) (j : Nat) (hj : j < 512) (hN : 6 * j + 6 ≤ N) (hN2 : N ≤ 3072) (s : sS) (S : Nat → Nat → Int32) (G : Nat → Nat → Int64) (hcs : CS S s) (hms : MS S s) (hle : sHr s ≤ j) (kk : ∀ s' S' G', CS S' s' → MS S' s' → sHr s' ≤ j + 1 → xA (some (N, xs)) 30 mL_law 79 3571 600000 7302250 938 [some (.retAddr 0), some (.ref 0), some (.ref 54), some (.int (nI (6 * j)))] [] (σF, S', G') (fun r _ => r = some (.int 1))) : xA (some (N, xs)) 30 mL_law 79 3571 600000 7302250 875 [some (.retAddr 0), some (.ref 0), some (.ref 54), some (.int (nI (6 * j)))] [] (σF, S, G) (fun r _ => r = some (.int 1)) := by
  refine xA.aload_n (i := 1) rfl rfl rfl rfl ?_
  refine xA.callV (As := []) (h := (σF, _, _)) rfl k11_113 okX9_image rfl rfl rfl rfl (Nat.le_of_ble_eq_true rfl) (o_image 26 s S G hcs) (Nat.le_of_ble_eq_true rfl) (Nat.le_of_ble_eq_true rfl) rfl rfl ?_
  rintro r9 h9 ⟨S1, rfl, rfl, hc1, hk1⟩
  refine xA.aload_n (i := 2) rfl rfl rfl rfl ?_
  refine xA.callV (As := []) (h := (σF, _, _)) rfl k11_116 okX10_image rfl rfl rfl rfl (Nat.le_of_ble_eq_true rfl) (m_image 28 s S1 G (hms.lo hk1)) (Nat.le_of_ble_eq_true rfl) (Nat.le_of_ble_eq_true rfl) rfl rfl ?_
  rintro r9 h9 ⟨S2, G2, rfl, rfl, hm2, hk2⟩
  refine xA.icmp_eq (tgt := 938) rfl rfl rfl (fun h883 => ?_) (fun h883 => ?_)
  · exact kk _ S2 G2 (hc1.hi hk2) hm2 (Nat.le_trans (hr_image _) (by omega))
  · exact absurd rfl h883
set_option maxRecDepth 100000 in
set_option maxHeartbeats 1000000 in
theorem lc_restore (N : Nat) (xs : Nat → Int32) (j : Nat) (hj : j < 512) (hN : 6 * j + 6 ≤ N) (hN2 : N ≤ 3072) (s : sS) (S : Nat → Nat → Int32) (G : Nat → Nat → Int64) (hcs : CS S s) (hms : MS S s) (hle : sHr s ≤ j) (kk : ∀ s' S' G', CS S' s' → MS S' s' → sHr s' ≤ j + 1 → xA (some (N, xs)) 30 mL_law 79 3571 600000 7302250 938 [some (.retAddr 0), some (.ref 0), some (.ref 54), some (.int (nI (6 * j)))] [] (σF, S', G') (fun r _ => r = some (.int 1))) : xA (some (N, xs)) 30 mL_law 79 3571 600000 7302250 888 [some (.retAddr 0), some (.ref 0), some (.ref 54), some (.int (nI (6 * j)))] [] (σF, S, G) (fun r _ => r = some (.int 1)) := by
  refine xA.aload_n (i := 1) rfl rfl rfl rfl ?_
  refine xA.callV (As := []) (h := (σF, _, _)) rfl k11_117 okX9_restore rfl rfl rfl rfl (Nat.le_of_ble_eq_true rfl) (o_restore 26 s S G hcs) (Nat.le_of_ble_eq_true rfl) (Nat.le_of_ble_eq_true rfl) rfl rfl ?_
  rintro r9 h9 ⟨S1, rfl, rfl, hc1, hk1⟩
  refine xA.aload_n (i := 2) rfl rfl rfl rfl ?_
  refine xA.callV (As := []) (h := (σF, _, _)) rfl k11_120 okX10_restore rfl rfl rfl rfl (Nat.le_of_ble_eq_true rfl) (m_restore 28 s S1 G (hms.lo hk1)) (Nat.le_of_ble_eq_true rfl) (Nat.le_of_ble_eq_true rfl) rfl rfl ?_
  rintro r9 h9 ⟨S2, G2, rfl, rfl, hm2, hk2⟩
  refine xA.icmp_eq (tgt := 938) rfl rfl rfl (fun h896 => ?_) (fun h896 => ?_)
  · exact kk _ S2 G2 (hc1.hi hk2) hm2 (Nat.le_trans (hr_restore _) (by omega))
  · exact absurd rfl h896
set_option maxRecDepth 100000 in
set_option maxHeartbeats 1000000 in
theorem lc_count (N : Nat) (xs : Nat → Int32) (j : Nat) (hj : j < 512) (hN : 6 * j + 6 ≤ N) (hN2 : N ≤ 3072) (s : sS) (S : Nat → Nat → Int32) (G : Nat → Nat → Int64) (hcs : CS S s) (hms : MS S s) (hle : sHr s ≤ j) (kk : ∀ s' S' G', CS S' s' → MS S' s' → sHr s' ≤ j + 1 → xA (some (N, xs)) 30 mL_law 79 3571 600000 7302250 938 [some (.retAddr 0), some (.ref 0), some (.ref 54), some (.int (nI (6 * j)))] [] (σF, S', G') (fun r _ => r = some (.int 1))) : xA (some (N, xs)) 30 mL_law 79 3571 600000 7302250 901 [some (.retAddr 0), some (.ref 0), some (.ref 54), some (.int (nI (6 * j)))] [] (σF, S, G) (fun r _ => r = some (.int 1)) := by
  refine xA.aload_n (i := 1) rfl rfl rfl rfl ?_
  refine xA.aloadX_n (i := 0) rfl rfl rfl rfl ?_
  refine xA.iload_n (i := 3) rfl rfl rfl rfl ?_
  refine xA.iconst (v := 1) rfl (by decide) rfl ?_
  refine xA.iadd rfl rfl ?_
  refine xA.topi ((nI_1 _)) ?_
  refine xA.sld rfl (vp_in_nI (by omega) (by omega)) rfl ?_
  refine xA.callV (As := [_]) (h := (σF, _, _)) rfl k11_121 okX9_count rfl rfl rfl rfl (Nat.le_of_ble_eq_true rfl) (o_count 28 s _ S G hcs) (Nat.le_of_ble_eq_true rfl) (Nat.le_of_ble_eq_true rfl) rfl rfl ?_
  rintro r9 h9 ⟨S1, rfl, rfl, hc1, hk1⟩
  refine xA.aload_n (i := 2) rfl rfl rfl rfl ?_
  refine xA.aloadX_n (i := 0) rfl rfl rfl rfl ?_
  refine xA.iload_n (i := 3) rfl rfl rfl rfl ?_
  refine xA.iconst (v := 1) rfl (by decide) rfl ?_
  refine xA.iadd rfl rfl ?_
  refine xA.topi ((nI_1 _)) ?_
  refine xA.sld rfl (vp_in_nI (by omega) (by omega)) rfl ?_
  refine xA.callV (As := [_]) (h := (σF, _, _)) rfl k11_124 okX10_count rfl rfl rfl rfl (Nat.le_of_ble_eq_true rfl) (r_count 28 s _ S1 G (hms.lo hk1)) (Nat.le_of_ble_eq_true rfl) (Nat.le_of_ble_eq_true rfl) rfl rfl ?_
  rintro r9 h9 ⟨S2, G2, rfl, rfl, hm2, hk2⟩
  refine xA.icmp_eq (tgt := 938) rfl rfl rfl (fun h919 => ?_) (fun h919 => ?_)
  · exact kk _ S2 G2 (hc1.hi hk2) hm2 (by omega)
  · exact absurd rfl h919
set_option maxRecDepth 100000 in
set_option maxHeartbeats 1000000 in
theorem lc_digest (N : Nat) (xs : Nat → Int32) (j : Nat) (hj : j < 512) (hN : 6 * j + 6 ≤ N) (hN2 : N ≤ 3072) (s : sS) (S : Nat → Nat → Int32) (G : Nat → Nat → Int64) (hcs : CS S s) (hms : MS S s) (hle : sHr s ≤ j) (kk : ∀ s' S' G', CS S' s' → MS S' s' → sHr s' ≤ j + 1 → xA (some (N, xs)) 30 mL_law 79 3571 600000 7302250 938 [some (.retAddr 0), some (.ref 0), some (.ref 54), some (.int (nI (6 * j)))] [] (σF, S', G') (fun r _ => r = some (.int 1))) : xA (some (N, xs)) 30 mL_law 79 3571 600000 7302250 924 [some (.retAddr 0), some (.ref 0), some (.ref 54), some (.int (nI (6 * j)))] [] (σF, S, G) (fun r _ => r = some (.int 1)) := by
  refine xA.aload_n (i := 1) rfl rfl rfl rfl ?_
  refine xA.callV (As := []) (h := (σF, _, _)) rfl k11_125 okX9_digest rfl rfl rfl rfl (Nat.le_of_ble_eq_true rfl) (o_digest 23 s S G hcs) (Nat.le_of_ble_eq_true rfl) (Nat.le_of_ble_eq_true rfl) rfl rfl ?_
  rintro r9 h9 ⟨S1, rfl, rfl, hc1, hk1⟩
  refine xA.aload_n (i := 2) rfl rfl rfl rfl ?_
  refine xA.callV (As := []) (h := (σF, _, _)) rfl k11_129 okX10_digest rfl rfl rfl rfl (Nat.le_of_ble_eq_true rfl) (m_digest 25 s S1 G (hms.lo hk1)) (Nat.le_of_ble_eq_true rfl) (Nat.le_of_ble_eq_true rfl) rfl rfl ?_
  rintro r9 h9 ⟨S2, G2, rfl, rfl, hm2, hk2⟩
  refine xA.lcmp rfl rfl ?_
  refine xA.topi ((lgc_eq _)) ?_
  refine xA.if_eq (tgt := 938) rfl rfl rfl (fun h933 => ?_) (fun h933 => ?_)
  · exact kk _ S2 G2 (hc1.hi hk2) hm2 (by omega)
  · exact absurd rfl h933

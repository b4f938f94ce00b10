variable {τ : List xSh}
/-! ===== the class's methods that ask, of two, of all ===== -/
set_option maxRecDepth 100000 in
set_option maxHeartbeats 400000 in
theorem c_X9_meet (d : Nat) (S : Nat → Nat → Int32) (G : Nat → Nat → Int64) (s : sS) (hc : CS S s) (a b : Int32) : xR τ (d + 3) mX9_meet [.ref 0, .int a, .int b] S G (some (.int (aMeet s a b))) S G := by
  obtain ⟨hpg, hho, hpp, htk, hgl, hsd, him, hno⟩ := hc
  refine xC.of okX9_meet (Nat.le_of_ble_eq_true rfl) (L := [_, _, _, _, _]) rfl ?_
  by_cases ha : rg a (sP s)
  · skip
    refine xA.aload_n (i := 0) rfl rfl rfl rfl ?_
    by_cases hb : rg b (sP s)
    · obtain ⟨i, hi, rfl⟩ := rg_nI ha (by have := hpp.2.1; omega)
      have hi4 : i < 4 := by have := hpp.2.1; omega
      have uc : (nI i).toNatClampNeg = i := nI_clamp (by omega)
      obtain ⟨uk, uk5, ul, ug⟩ := hpp.2.2 i hi
      obtain ⟨j, hj, rfl⟩ := rg_nI hb (by have := hpp.2.1; omega)
      have hj4 : j < 4 := by have := hpp.2.1; omega
      have wc : (nI j).toNatClampNeg = j := nI_clamp (by omega)
      obtain ⟨wk, wk5, wl, wg⟩ := hpp.2.2 j hj
      refine xA.iload_n (i := 1) rfl rfl rfl rfl ?_
      refine xA.callVr (As := [_]) rfl k9_134 okX9_personAt rfl rfl rfl rfl (Nat.le_of_ble_eq_true rfl) (c_X9_personAt (d + 2) _ G (sP s) hpp.1 hpp.2.1 i hi) rfl rfl ?_
      refine xA.astore_n (i := 3) (L' := [_, _, _, _, _]) rfl rfl (Nat.le_of_ble_eq_true rfl) rfl rfl ?_
      refine xA.aload_n (i := 0) rfl rfl rfl rfl ?_
      refine xA.iload_n (i := 2) rfl rfl rfl rfl ?_
      refine xA.callVr (As := [_]) rfl k9_134 okX9_personAt rfl rfl rfl rfl (Nat.le_of_ble_eq_true rfl) (c_X9_personAt (d + 2) _ G (sP s) hpp.1 hpp.2.1 j hj) rfl rfl ?_
      refine xA.astore (L' := [_, _, _, _, _]) rfl (Nat.le_of_ble_eq_true rfl) rfl rfl ?_
      refine xA.aload_n (i := 3) rfl rfl rfl rfl ?_
      refine xA.ifnull rfl rfl ?_
      refine xA.aload rfl rfl rfl ?_
      refine xA.ifnull rfl rfl ?_
      refine xA.iload_n (i := 1) rfl rfl rfl rfl ?_
      refine xA.iload_n (i := 2) rfl rfl rfl rfl ?_
      refine xA.icmp_ne (tgt := 30) rfl rfl rfl (fun h24 => ?_) (fun h24 => ?_)
      · refine xA.aload_n (i := 3) rfl rfl rfl rfl ?_
        refine xA.callVr (As := []) rfl k9_152 okX5_lived (isP i hi4).1 rfl rfl rfl (Nat.le_of_ble_eq_true rfl) (c_X5_lived (d + 2) _ G (42 + 3 * i) (isP i hi4)) rfl rfl ?_
        refine xA.aload rfl rfl rfl ?_
        refine xA.callVr (As := []) rfl k9_152 okX5_lived (isP j hj4).1 rfl rfl rfl (Nat.le_of_ble_eq_true rfl) (c_X5_lived (d + 2) _ G (42 + 3 * j) (isP j hj4)) rfl rfl ?_
        refine xA.callVi (As := [_]) rfl k9_200 okX3_firstMinuteWith (isP i hi4).2.1 rfl rfl rfl (Nat.le_of_ble_eq_true rfl) (c_X3_firstMinuteWith d _ G (42 + 3 * i + 1) (isP i hi4).2 _ ul.1 ug.1 (42 + 3 * j + 1) (isP j hj4).2 _ wl.1 wg.1) rfl rfl ?_
        refine xA.topi (lC_meet ul ug.2.1 wl) ?_
        exact xA.iret rfl rfl rfl ⟨by rw [aMeet, if_pos ⟨ha, hb, h24⟩, uc, wc], rfl⟩
      · refine xA.bipush (v := (-101)) rfl (by decide) rfl ?_
        exact xA.iret rfl rfl rfl ⟨by rw [aMeet, if_neg (fun q => q.2.2 h24)], rfl⟩
    · obtain ⟨i, hi, rfl⟩ := rg_nI ha (by have := hpp.2.1; omega)
      have hi4 : i < 4 := by have := hpp.2.1; omega
      have uc : (nI i).toNatClampNeg = i := nI_clamp (by omega)
      obtain ⟨uk, uk5, ul, ug⟩ := hpp.2.2 i hi
      refine xA.iload_n (i := 1) rfl rfl rfl rfl ?_
      refine xA.callVr (As := [_]) rfl k9_134 okX9_personAt rfl rfl rfl rfl (Nat.le_of_ble_eq_true rfl) (c_X9_personAt (d + 2) _ G (sP s) hpp.1 hpp.2.1 i hi) rfl rfl ?_
      refine xA.astore_n (i := 3) (L' := [_, _, _, _, _]) rfl rfl (Nat.le_of_ble_eq_true rfl) rfl rfl ?_
      refine xA.aload_n (i := 0) rfl rfl rfl rfl ?_
      refine xA.iload_n (i := 2) rfl rfl rfl rfl ?_
      refine xA.callVr (As := [_]) rfl k9_134 okX9_personAt rfl rfl rfl rfl (Nat.le_of_ble_eq_true rfl) (c_X9_personAtN (d + 2) _ G (sP s) hpp.1 hpp.2.1 b hb) rfl rfl ?_
      refine xA.astoreN (L' := [_, _, _, _, _]) rfl (Nat.le_of_ble_eq_true rfl) rfl rfl ?_
      refine xA.aload_n (i := 3) rfl rfl rfl rfl ?_
      refine xA.ifnull rfl rfl ?_
      refine xA.aloadN rfl rfl rfl ?_
      refine xA.ifnullN (q := 27) rfl rfl ?_
      refine xA.bipush (v := (-101)) rfl (by decide) rfl ?_
      exact xA.iret rfl rfl rfl ⟨by rw [aMeet, if_neg (by rintro ⟨q1, q2, q3⟩; exact hb q2)], rfl⟩
  · skip
    refine xA.aload_n (i := 0) rfl rfl rfl rfl ?_
    by_cases hb : rg b (sP s)
    · obtain ⟨j, hj, rfl⟩ := rg_nI hb (by have := hpp.2.1; omega)
      have hj4 : j < 4 := by have := hpp.2.1; omega
      have wc : (nI j).toNatClampNeg = j := nI_clamp (by omega)
      obtain ⟨wk, wk5, wl, wg⟩ := hpp.2.2 j hj
      refine xA.iload_n (i := 1) rfl rfl rfl rfl ?_
      refine xA.callVr (As := [_]) rfl k9_134 okX9_personAt rfl rfl rfl rfl (Nat.le_of_ble_eq_true rfl) (c_X9_personAtN (d + 2) _ G (sP s) hpp.1 hpp.2.1 a ha) rfl rfl ?_
      refine xA.astoreN_n (i := 3) (L' := [_, _, _, _, _]) rfl rfl (Nat.le_of_ble_eq_true rfl) rfl rfl ?_
      refine xA.aload_n (i := 0) rfl rfl rfl rfl ?_
      refine xA.iload_n (i := 2) rfl rfl rfl rfl ?_
      refine xA.callVr (As := [_]) rfl k9_134 okX9_personAt rfl rfl rfl rfl (Nat.le_of_ble_eq_true rfl) (c_X9_personAt (d + 2) _ G (sP s) hpp.1 hpp.2.1 j hj) rfl rfl ?_
      refine xA.astore (L' := [_, _, _, _, _]) rfl (Nat.le_of_ble_eq_true rfl) rfl rfl ?_
      refine xA.aloadN_n (i := 3) rfl rfl rfl rfl ?_
      refine xA.ifnullN (q := 27) rfl rfl ?_
      refine xA.bipush (v := (-101)) rfl (by decide) rfl ?_
      exact xA.iret rfl rfl rfl ⟨by rw [aMeet, if_neg (by rintro ⟨q1, q2, q3⟩; exact ha q1)], rfl⟩
    · skip
      refine xA.iload_n (i := 1) rfl rfl rfl rfl ?_
      refine xA.callVr (As := [_]) rfl k9_134 okX9_personAt rfl rfl rfl rfl (Nat.le_of_ble_eq_true rfl) (c_X9_personAtN (d + 2) _ G (sP s) hpp.1 hpp.2.1 a ha) rfl rfl ?_
      refine xA.astoreN_n (i := 3) (L' := [_, _, _, _, _]) rfl rfl (Nat.le_of_ble_eq_true rfl) rfl rfl ?_
      refine xA.aload_n (i := 0) rfl rfl rfl rfl ?_
      refine xA.iload_n (i := 2) rfl rfl rfl rfl ?_
      refine xA.callVr (As := [_]) rfl k9_134 okX9_personAt rfl rfl rfl rfl (Nat.le_of_ble_eq_true rfl) (c_X9_personAtN (d + 2) _ G (sP s) hpp.1 hpp.2.1 b hb) rfl rfl ?_
      refine xA.astoreN (L' := [_, _, _, _, _]) rfl (Nat.le_of_ble_eq_true rfl) rfl rfl ?_
      refine xA.aloadN_n (i := 3) rfl rfl rfl rfl ?_
      refine xA.ifnullN (q := 27) rfl rfl ?_
      refine xA.bipush (v := (-101)) rfl (by decide) rfl ?_
      exact xA.iret rfl rfl rfl ⟨by rw [aMeet, if_neg (by rintro ⟨q1, q2, q3⟩; exact ha q1)], rfl⟩
theorem glC_pair {S : Nat → Nat → Int32} {k q r : Nat} {g : gS} {l v : lS} (hg : glC S k g) (hl : lC S q l) (hv : lC S r v) : prI (fun x => (if 0 < cnS S q (lN' l) (S (k + 1) x) then (1 : Int32) else 0) + (if 0 < cnS S r (lN' v) (S (k + 1) x) then 1 else 0)) g.1 = pairN g l v :=
  prI_congr fun i hi => by rw [(hg.2.2 i hi).1, cnS_at hl, cnS_at hv]
theorem glC_all {S : Nat → Nat → Int32} {k q : Nat} {g : gS} {l : lS} (hg : glC S k g) (hl : lC S q l) : (cn (fun x => decide (cnS S q (lN' l) (S (k + 1) x) = 0)) g.1 = 0) ↔ allN g l = true := by
  rw [allN, decide_eq_true_eq, cn_congr (g := fun x => decide (atN l (nI (g.2 x)) = 0)) (fun i hi => by rw [(hg.2.2 i hi).1, cnS_at hl])]
theorem bt_nI10 : ∀ x, x < 1024 → ∀ b, b < 10 → (bt (nI x) (nI b) ↔ x.testBit b = true) := by decide +kernel
theorem lkS_le (u : Nat → Nat) (B : Nat) (h : ∀ i, u i ≤ B) (n : Nat) : (lkS u n).2 ≤ B := by
  induction n with
  | zero => exact Nat.zero_le _
  | succ n ih => rw [lkS]; split <;> simp [h, ih]

set_option maxRecDepth 100000 in
set_option maxHeartbeats 400000 in
theorem c_X9_pair (d : Nat) (S : Nat → Nat → Int32) (G : Nat → Nat → Int64) (s : sS) (hc : CS S s) (a b : Int32) : xR τ (d + 3) mX9_pair [.ref 0, .int a, .int b] S G (some (.int (aPair s a b))) S G := by
  obtain ⟨hpg, hho, hpp, htk, hgl, hsd, him, hno⟩ := hc
  refine xC.of okX9_pair (Nat.le_of_ble_eq_true rfl) (L := [_, _, _, _, _]) rfl ?_
  by_cases ha : rg a (sP s)
  · skip
    refine xA.aload_n (i := 0) rfl rfl rfl rfl ?_
    by_cases hb : rg b (sP s)
    · obtain ⟨i, hi, rfl⟩ := rg_nI ha (by have := hpp.2.1; omega)
      have hi4 : i < 4 := by have := hpp.2.1; omega
      have uc : (nI i).toNatClampNeg = i := nI_clamp (by omega)
      obtain ⟨uk, uk5, ul, ug⟩ := hpp.2.2 i hi
      obtain ⟨j, hj, rfl⟩ := rg_nI hb (by have := hpp.2.1; omega)
      have hj4 : j < 4 := by have := hpp.2.1; omega
      have wc : (nI j).toNatClampNeg = j := nI_clamp (by omega)
      obtain ⟨wk, wk5, wl, wg⟩ := hpp.2.2 j hj
      refine xA.iload_n (i := 1) rfl rfl rfl rfl ?_
      refine xA.callVr (As := [_]) rfl k9_134 okX9_personAt rfl rfl rfl rfl (Nat.le_of_ble_eq_true rfl) (c_X9_personAt (d + 2) _ G (sP s) hpp.1 hpp.2.1 i hi) rfl rfl ?_
      refine xA.astore_n (i := 3) (L' := [_, _, _, _, _]) rfl rfl (Nat.le_of_ble_eq_true rfl) rfl rfl ?_
      refine xA.aload_n (i := 0) rfl rfl rfl rfl ?_
      refine xA.iload_n (i := 2) rfl rfl rfl rfl ?_
      refine xA.callVr (As := [_]) rfl k9_134 okX9_personAt rfl rfl rfl rfl (Nat.le_of_ble_eq_true rfl) (c_X9_personAt (d + 2) _ G (sP s) hpp.1 hpp.2.1 j hj) rfl rfl ?_
      refine xA.astore (L' := [_, _, _, _, _]) rfl (Nat.le_of_ble_eq_true rfl) rfl rfl ?_
      refine xA.aload_n (i := 3) rfl rfl rfl rfl ?_
      refine xA.ifnull rfl rfl ?_
      refine xA.aload rfl rfl rfl ?_
      refine xA.ifnull rfl rfl ?_
      refine xA.iload_n (i := 1) rfl rfl rfl rfl ?_
      refine xA.iload_n (i := 2) rfl rfl rfl rfl ?_
      refine xA.icmp_ne (tgt := 30) rfl rfl rfl (fun h24 => ?_) (fun h24 => ?_)
      · refine xA.aload_n (i := 0) rfl rfl rfl rfl ?_
        refine xA.getR rfl f9_49 rfl rfl rfl rfl ?_
        refine xA.aload_n (i := 3) rfl rfl rfl rfl ?_
        refine xA.callVr (As := []) rfl k9_152 okX5_lived (isP i hi4).1 rfl rfl rfl (Nat.le_of_ble_eq_true rfl) (c_X5_lived (d + 2) _ G (42 + 3 * i) (isP i hi4)) rfl rfl ?_
        refine xA.aload rfl rfl rfl ?_
        refine xA.callVr (As := []) rfl k9_152 okX5_lived (isP j hj4).1 rfl rfl rfl (Nat.le_of_ble_eq_true rfl) (c_X5_lived (d + 2) _ G (42 + 3 * j) (isP j hj4)) rfl rfl ?_
        refine xA.callVi (As := [_, _]) rfl k9_240 okX0_waysBetween rfl rfl rfl rfl (Nat.le_of_ble_eq_true rfl) (c_X0_waysBetween d _ G 16 iG16 _ hgl.1 hgl.2.1 (42 + 3 * i + 1) (isP i hi4).2 _ ul.1 ug.1 (42 + 3 * j + 1) (isP j hj4).2 _ wl.1 wg.1) rfl rfl ?_
        refine xA.topi (glC_pair hgl ul wl) ?_
        exact xA.iret rfl rfl rfl ⟨by rw [aPair, if_pos ⟨ha, hb, h24⟩, uc, wc], rfl⟩
      · refine xA.bipush (v := (-101)) rfl (by decide) rfl ?_
        exact xA.iret rfl rfl rfl ⟨by rw [aPair, if_neg (fun q => q.2.2 h24)], rfl⟩
    · obtain ⟨i, hi, rfl⟩ := rg_nI ha (by have := hpp.2.1; omega)
      have hi4 : i < 4 := by have := hpp.2.1; omega
      have uc : (nI i).toNatClampNeg = i := nI_clamp (by omega)
      obtain ⟨uk, uk5, ul, ug⟩ := hpp.2.2 i hi
      refine xA.iload_n (i := 1) rfl rfl rfl rfl ?_
      refine xA.callVr (As := [_]) rfl k9_134 okX9_personAt rfl rfl rfl rfl (Nat.le_of_ble_eq_true rfl) (c_X9_personAt (d + 2) _ G (sP s) hpp.1 hpp.2.1 i hi) rfl rfl ?_
      refine xA.astore_n (i := 3) (L' := [_, _, _, _, _]) rfl rfl (Nat.le_of_ble_eq_true rfl) rfl rfl ?_
      refine xA.aload_n (i := 0) rfl rfl rfl rfl ?_
      refine xA.iload_n (i := 2) rfl rfl rfl rfl ?_
      refine xA.callVr (As := [_]) rfl k9_134 okX9_personAt rfl rfl rfl rfl (Nat.le_of_ble_eq_true rfl) (c_X9_personAtN (d + 2) _ G (sP s) hpp.1 hpp.2.1 b hb) rfl rfl ?_
      refine xA.astoreN (L' := [_, _, _, _, _]) rfl (Nat.le_of_ble_eq_true rfl) rfl rfl ?_
      refine xA.aload_n (i := 3) rfl rfl rfl rfl ?_
      refine xA.ifnull rfl rfl ?_
      refine xA.aloadN rfl rfl rfl ?_
      refine xA.ifnullN (q := 27) rfl rfl ?_
      refine xA.bipush (v := (-101)) rfl (by decide) rfl ?_
      exact xA.iret rfl rfl rfl ⟨by rw [aPair, if_neg (by rintro ⟨q1, q2, q3⟩; exact hb q2)], rfl⟩
  · skip
    refine xA.aload_n (i := 0) rfl rfl rfl rfl ?_
    by_cases hb : rg b (sP s)
    · obtain ⟨j, hj, rfl⟩ := rg_nI hb (by have := hpp.2.1; omega)
      have hj4 : j < 4 := by have := hpp.2.1; omega
      have wc : (nI j).toNatClampNeg = j := nI_clamp (by omega)
      obtain ⟨wk, wk5, wl, wg⟩ := hpp.2.2 j hj
      refine xA.iload_n (i := 1) rfl rfl rfl rfl ?_
      refine xA.callVr (As := [_]) rfl k9_134 okX9_personAt rfl rfl rfl rfl (Nat.le_of_ble_eq_true rfl) (c_X9_personAtN (d + 2) _ G (sP s) hpp.1 hpp.2.1 a ha) rfl rfl ?_
      refine xA.astoreN_n (i := 3) (L' := [_, _, _, _, _]) rfl rfl (Nat.le_of_ble_eq_true rfl) rfl rfl ?_
      refine xA.aload_n (i := 0) rfl rfl rfl rfl ?_
      refine xA.iload_n (i := 2) rfl rfl rfl rfl ?_
      refine xA.callVr (As := [_]) rfl k9_134 okX9_personAt rfl rfl rfl rfl (Nat.le_of_ble_eq_true rfl) (c_X9_personAt (d + 2) _ G (sP s) hpp.1 hpp.2.1 j hj) rfl rfl ?_
      refine xA.astore (L' := [_, _, _, _, _]) rfl (Nat.le_of_ble_eq_true rfl) rfl rfl ?_
      refine xA.aloadN_n (i := 3) rfl rfl rfl rfl ?_
      refine xA.ifnullN (q := 27) rfl rfl ?_
      refine xA.bipush (v := (-101)) rfl (by decide) rfl ?_
      exact xA.iret rfl rfl rfl ⟨by rw [aPair, if_neg (by rintro ⟨q1, q2, q3⟩; exact ha q1)], rfl⟩
    · skip
      refine xA.iload_n (i := 1) rfl rfl rfl rfl ?_
      refine xA.callVr (As := [_]) rfl k9_134 okX9_personAt rfl rfl rfl rfl (Nat.le_of_ble_eq_true rfl) (c_X9_personAtN (d + 2) _ G (sP s) hpp.1 hpp.2.1 a ha) rfl rfl ?_
      refine xA.astoreN_n (i := 3) (L' := [_, _, _, _, _]) rfl rfl (Nat.le_of_ble_eq_true rfl) rfl rfl ?_
      refine xA.aload_n (i := 0) rfl rfl rfl rfl ?_
      refine xA.iload_n (i := 2) rfl rfl rfl rfl ?_
      refine xA.callVr (As := [_]) rfl k9_134 okX9_personAt rfl rfl rfl rfl (Nat.le_of_ble_eq_true rfl) (c_X9_personAtN (d + 2) _ G (sP s) hpp.1 hpp.2.1 b hb) rfl rfl ?_
      refine xA.astoreN (L' := [_, _, _, _, _]) rfl (Nat.le_of_ble_eq_true rfl) rfl rfl ?_
      refine xA.aloadN_n (i := 3) rfl rfl rfl rfl ?_
      refine xA.ifnullN (q := 27) rfl rfl ?_
      refine xA.bipush (v := (-101)) rfl (by decide) rfl ?_
      exact xA.iret rfl rfl rfl ⟨by rw [aPair, if_neg (by rintro ⟨q1, q2, q3⟩; exact ha q1)], rfl⟩
set_option maxRecDepth 100000 in
set_option maxHeartbeats 400000 in
theorem c_X9_usersOf (d : Nat) (S : Nat → Nat → Int32) (G : Nat → Nat → Int64) (s : sS) (hc : CS S s) (j : Nat) (hj : j < 10) : xR τ (d + 1) mX9_usersOf [.ref 0, .int (nI j)] S G (some (.int (nI (usersN s j)))) S G := by
  obtain ⟨hpg, hho, hpp, htk, hgl, hsd, him, hno⟩ := hc
  have hp4 := hpp.2.1
  refine xC.of okX9_usersOf (Nat.le_of_ble_eq_true rfl) (L := [_, _, _, _, _]) rfl ?_
  have loop : ∀ i, i ≤ (sP s) → ∀ x4 : Option Value, xA none (d + 1) mX9_usersOf 0 0 0 0 4 [some (.ref 0), some (.int (nI j)), some (.int (nI (cn (fun p => (lDb (sL s p)).testBit j) i))), some (.int (nI i)), x4] [] ((σF τ), S, G) (fun r' h' => r' = (some (.int (nI (usersN s j)))) ∧ h' = ((σF τ), S, G)) := by
    refine xloop (sP s) (fun i hi ih => ?_) ?_
    · skip
      intro x4
      refine xA.iload_n (i := 3) rfl rfl rfl rfl ?_
      refine xA.aload_n (i := 0) rfl rfl rfl rfl ?_
      refine xA.getI rfl f9_105 rfl rfl rfl ?_
      refine xA.topi (hpp.1) ?_
      refine xA.icmp_ge (tgt := 45) rfl rfl rfl (fun h9 => ?_) (fun h9 => ?_)
      · exact absurd h9 (nI_ge hi (by omega))
      · have hi4 : i < 4 := by omega
        obtain ⟨uk, uk5, ul, ug⟩ := hpp.2.2 i hi
        have hbt := bt_nI10 _ ug.2.2.2.1 j hj
        rw [← ul.2.2.1] at hbt
        refine xA.aload_n (i := 0) rfl rfl rfl rfl ?_
        refine xA.iload_n (i := 3) rfl rfl rfl rfl ?_
        refine xA.callVr (As := [_]) rfl k9_134 okX9_personAt rfl rfl rfl rfl (Nat.le_of_ble_eq_true rfl) (c_X9_personAt d _ G (sP s) hpp.1 hpp.2.1 i hi) rfl rfl ?_
        refine xA.astore (L' := [_, _, _, _, _]) rfl (Nat.le_of_ble_eq_true rfl) rfl rfl ?_
        refine xA.aload rfl rfl rfl ?_
        refine xA.ifnull rfl rfl ?_
        refine xA.aload rfl rfl rfl ?_
        refine xA.callVr (As := []) rfl k9_152 okX5_lived (isP i hi4).1 rfl rfl rfl (Nat.le_of_ble_eq_true rfl) (c_X5_lived d _ G (42 + 3 * i) (isP i hi4)) rfl rfl ?_
        refine xA.iload_n (i := 1) rfl rfl rfl rfl ?_
        refine xA.callVi (As := [_]) rfl k9_331 okX3_usesDoor (isP i hi4).2.1 rfl rfl rfl (Nat.le_of_ble_eq_true rfl) (c_X3_usesDoor d _ G (42 + 3 * i + 1) (isP i hi4).2 (nI j)) rfl rfl ?_
        refine xA.if_eq (tgt := 39) rfl rfl rfl (fun h33 => ?_) (fun h33 => ?_)
        · rw [xb_eq0] at h33
          refine xA.iinc (L' := [_, _, _, _, _]) rfl rfl (nI_1 i) rfl rfl ?_
          refine xA.goto (q := 4) rfl rfl ?_
          have ih := ih (some (.ref (42 + 3 * i)))
          first | (rw [cn, if_pos (hbt.mp h33)] at ih; exact ih) | (rw [cn, if_neg (fun q => h33 (hbt.mpr q)), Nat.add_zero] at ih; exact ih)
        · rw [xb_ne0] at h33
          refine xA.iinc (L' := [_, _, _, _, _]) rfl rfl (nI_1 _) rfl rfl ?_
          refine xA.iinc (L' := [_, _, _, _, _]) rfl rfl (nI_1 i) rfl rfl ?_
          refine xA.goto (q := 4) rfl rfl ?_
          have ih := ih (some (.ref (42 + 3 * i)))
          first | (rw [cn, if_pos (hbt.mp h33)] at ih; exact ih) | (rw [cn, if_neg (fun q => h33 (hbt.mpr q)), Nat.add_zero] at ih; exact ih)
    · skip
      intro x4
      refine xA.iload_n (i := 3) rfl rfl rfl rfl ?_
      refine xA.aload_n (i := 0) rfl rfl rfl rfl ?_
      refine xA.getI rfl f9_105 rfl rfl rfl ?_
      refine xA.topi (hpp.1) ?_
      refine xA.icmp_ge (tgt := 45) rfl rfl rfl (fun h9 => ?_) (fun h9 => ?_)
      · refine xA.iload_n (i := 2) rfl rfl rfl rfl ?_
        exact xA.iret rfl rfl rfl ⟨rfl, rfl⟩
      · exact absurd (nI_le (Nat.le_refl _) (by omega)) h9
  refine xA.iconst (v := 0) rfl (by decide) rfl ?_
  refine xA.istore_n (i := 2) (L' := [_, _, _, _, _]) rfl rfl (Nat.le_of_ble_eq_true rfl) rfl rfl ?_
  refine xA.iconst (v := 0) rfl (by decide) rfl ?_
  refine xA.istore_n (i := 3) (L' := [_, _, _, _, _]) rfl rfl (Nat.le_of_ble_eq_true rfl) rfl rfl ?_
  exact loop 0 (Nat.zero_le _) _
set_option maxRecDepth 100000 in
set_option maxHeartbeats 400000 in
theorem c_X9_locked (d : Nat) (S : Nat → Nat → Int32) (G : Nat → Nat → Int64) (s : sS) (hc : CS S s) : xR τ (d + 2) mX9_locked [.ref 0] S G (some (.int (aLocked s))) S G := by
  have hc0 := hc
  obtain ⟨hpg, hho, hpp, htk, hgl, hsd, him, hno⟩ := hc
  refine xC.of okX9_locked (Nat.le_of_ble_eq_true rfl) (L := [_, _, _, _, _]) rfl ?_
  refine xA.aload_n (i := 0) rfl rfl rfl rfl ?_
  refine xA.callVi (As := []) rfl k9_120 okX9_hasHouse rfl rfl rfl rfl (Nat.le_of_ble_eq_true rfl) (c_X9_hasHouse (d + 1) _ G) rfl rfl ?_
  refine xA.if_ne (tgt := 10) rfl rfl rfl (fun h4 => ?_) (fun h4 => ?_)
  · rw [xb_ne0] at h4
    have hhr : 0 < sHr s := by
      have := hho.1
      rw [this] at h4
      rw [Int32.lt_iff_toInt_lt, Int32.toInt_zero, nI_toInt (by have := hho.2.1; omega)] at h4
      omega
    have hsd3 := (hho.2.2.2 hhr).1
    have hnd10 := hsd3.2.1.2.1
    have loop : ∀ i, i ≤ hNd (sH s) → ∀ x4 : Option Value, xA none (d + 2) mX9_locked 0 0 0 0 16 [some (.ref 0), some (.int (lkS (usersN s) i).1), some (.int (nI (lkS (usersN s) i).2)), some (.int (nI i)), x4] [] ((σF τ), S, G) (fun r' h' => r' = (some (.int (aLocked s))) ∧ h' = ((σF τ), S, G)) := by
      refine xloop (hNd (sH s)) (fun i hi ih => ?_) ?_
      · intro x4
        refine xA.iload_n (i := 3) rfl rfl rfl rfl ?_
        refine xA.aload_n (i := 0) rfl rfl rfl rfl ?_
        refine xA.getR rfl f9_19 rfl rfl rfl rfl ?_
        refine xA.callVi (As := []) rfl k9_113 okX1_doors rfl rfl rfl rfl (Nat.le_of_ble_eq_true rfl) (c_X1_doors (d + 1) _ G 3 iH3) rfl rfl ?_
        refine xA.topi hsd3.1.2.1 ?_
        refine xA.icmp_ge (tgt := 51) rfl rfl rfl (fun h24 => ?_) (fun h24 => ?_)
        · exact absurd h24 (nI_ge hi (by omega))
        · refine xA.aload_n (i := 0) rfl rfl rfl rfl ?_
          refine xA.iload_n (i := 3) rfl rfl rfl rfl ?_
          refine xA.callVi (As := [_]) rfl k9_204 okX9_usersOf rfl rfl rfl rfl (Nat.le_of_ble_eq_true rfl) (c_X9_usersOf d _ G s hc0 i (by omega)) rfl rfl ?_
          refine xA.istore (L' := [_, _, _, _, _]) rfl (Nat.le_of_ble_eq_true rfl) rfl rfl ?_
          refine xA.iload rfl rfl rfl ?_
          refine xA.iload_n (i := 2) rfl rfl rfl rfl ?_
          have hb1 := lkS_le (usersN s) 4 (fun q => Nat.le_trans (cn_le _ _) hpp.2.1) i
          have hb2 : usersN s i ≤ 4 := Nat.le_trans (cn_le _ _) hpp.2.1
          refine xA.icmp_le (tgt := 45) rfl rfl rfl (fun h37 => ?_) (fun h37 => ?_)
          · refine xA.iinc (L' := [_, _, _, _, _]) rfl rfl (nI_1 i) rfl rfl ?_
            refine xA.goto (q := 16) rfl rfl ?_
            have ih := ih (some (.int (nI (usersN s i))))
            rw [lkS] at ih
            first | (rw [if_pos (by have := mt (nI_leI (a := usersN s i) (b := (lkS (usersN s) i).2) (by omega) (by omega)).mpr h37; omega)] at ih; exact ih) | (rw [if_neg (by have := (nI_leI (a := usersN s i) (b := (lkS (usersN s) i).2) (by omega) (by omega)).mp h37; omega)] at ih; exact ih)
          · refine xA.iload_n (i := 3) rfl rfl rfl rfl ?_
            refine xA.istore_n (i := 1) (L' := [_, _, _, _, _]) rfl rfl (Nat.le_of_ble_eq_true rfl) rfl rfl ?_
            refine xA.iload rfl rfl rfl ?_
            refine xA.istore_n (i := 2) (L' := [_, _, _, _, _]) rfl rfl (Nat.le_of_ble_eq_true rfl) rfl rfl ?_
            refine xA.iinc (L' := [_, _, _, _, _]) rfl rfl (nI_1 i) rfl rfl ?_
            refine xA.goto (q := 16) rfl rfl ?_
            have ih := ih (some (.int (nI (usersN s i))))
            rw [lkS] at ih
            first | (rw [if_pos (by have := mt (nI_leI (a := usersN s i) (b := (lkS (usersN s) i).2) (by omega) (by omega)).mpr h37; omega)] at ih; exact ih) | (rw [if_neg (by have := (nI_leI (a := usersN s i) (b := (lkS (usersN s) i).2) (by omega) (by omega)).mp h37; omega)] at ih; exact ih)
      · intro x4
        refine xA.iload_n (i := 3) rfl rfl rfl rfl ?_
        refine xA.aload_n (i := 0) rfl rfl rfl rfl ?_
        refine xA.getR rfl f9_19 rfl rfl rfl rfl ?_
        refine xA.callVi (As := []) rfl k9_113 okX1_doors rfl rfl rfl rfl (Nat.le_of_ble_eq_true rfl) (c_X1_doors (d + 1) _ G 3 iH3) rfl rfl ?_
        refine xA.topi hsd3.1.2.1 ?_
        refine xA.icmp_ge (tgt := 51) rfl rfl rfl (fun h24 => ?_) (fun h24 => ?_)
        · refine xA.iload_n (i := 1) rfl rfl rfl rfl ?_
          exact xA.iret rfl rfl rfl ⟨by rw [aLocked, if_neg (by omega)], rfl⟩
        · exact absurd (nI_le (Nat.le_refl _) (by omega)) h24
    refine xA.iconst (v := (-1)) rfl (by decide) rfl ?_
    refine xA.istore_n (i := 1) (L' := [_, _, _, _, _]) rfl rfl (Nat.le_of_ble_eq_true rfl) rfl rfl ?_
    refine xA.iconst (v := 0) rfl (by decide) rfl ?_
    refine xA.istore_n (i := 2) (L' := [_, _, _, _, _]) rfl rfl (Nat.le_of_ble_eq_true rfl) rfl rfl ?_
    refine xA.iconst (v := 0) rfl (by decide) rfl ?_
    refine xA.istore_n (i := 3) (L' := [_, _, _, _, _]) rfl rfl (Nat.le_of_ble_eq_true rfl) rfl rfl ?_
    exact loop 0 (Nat.zero_le _) _
  · rw [xb_eq0] at h4
    refine xA.bipush (v := (-103)) rfl (by decide) rfl ?_
    exact xA.iret rfl rfl rfl ⟨by rw [aLocked, if_pos (by rw [hho.1, Int32.lt_iff_toInt_lt, Int32.toInt_zero, nI_toInt (by have := hho.2.1; omega)] at h4; omega)], rfl⟩
set_option maxRecDepth 100000 in
set_option maxHeartbeats 400000 in
theorem c_X9_whose (d : Nat) (S : Nat → Nat → Int32) (G : Nat → Nat → Int64) (s : sS) (hc : CS S s) : xR τ (d + 3) mX9_whose [.ref 0] S G (some (.int (whoseN s))) S G := by
  obtain ⟨hpg, hho, hpp, htk, hgl, hsd, him, hno⟩ := hc
  have hp4 := hpp.2.1
  refine xC.of okX9_whose (Nat.le_of_ble_eq_true rfl) (L := [_, _, _, _]) rfl ?_
  have loop : ∀ i, i ≤ (sP s) → ∀ x3 : Option Value, xA none (d + 3) mX9_whose 0 0 0 0 4 [some (.ref 0), some (.int (orI (fun p => if allN (sGl s) (sL s p) = true then 1 <<< (nI p &&& 31) else (0 : Int32)) i)), some (.int (nI i)), x3] [] ((σF τ), S, G) (fun r' h' => r' = (some (.int (whoseN s))) ∧ h' = ((σF τ), S, G)) := by
    refine xloop (sP s) (fun i hi ih => ?_) ?_
    · skip
      intro x3
      refine xA.iload_n (i := 2) rfl rfl rfl rfl ?_
      refine xA.aload_n (i := 0) rfl rfl rfl rfl ?_
      refine xA.getI rfl f9_105 rfl rfl rfl ?_
      refine xA.topi (hpp.1) ?_
      refine xA.icmp_ge (tgt := 48) rfl rfl rfl (fun h9 => ?_) (fun h9 => ?_)
      · exact absurd h9 (nI_ge hi (by omega))
      · have hi4 : i < 4 := by omega
        obtain ⟨uk, uk5, ul, ug⟩ := hpp.2.2 i hi
        refine xA.aload_n (i := 0) rfl rfl rfl rfl ?_
        refine xA.iload_n (i := 2) rfl rfl rfl rfl ?_
        refine xA.callVr (As := [_]) rfl k9_134 okX9_personAt rfl rfl rfl rfl (Nat.le_of_ble_eq_true rfl) (c_X9_personAt (d + 2) _ G (sP s) hpp.1 hpp.2.1 i hi) rfl rfl ?_
        refine xA.astore_n (i := 3) (L' := [_, _, _, _]) rfl rfl (Nat.le_of_ble_eq_true rfl) rfl rfl ?_
        refine xA.aload_n (i := 3) rfl rfl rfl rfl ?_
        refine xA.ifnull rfl rfl ?_
        refine xA.aload_n (i := 0) rfl rfl rfl rfl ?_
        refine xA.getR rfl f9_49 rfl rfl rfl rfl ?_
        refine xA.aload_n (i := 3) rfl rfl rfl rfl ?_
        refine xA.callVr (As := []) rfl k9_152 okX5_lived (isP i hi4).1 rfl rfl rfl (Nat.le_of_ble_eq_true rfl) (c_X5_lived (d + 2) _ G (42 + 3 * i) (isP i hi4)) rfl rfl ?_
        refine xA.callVi (As := [_]) rfl k9_236 okX0_areAllOf rfl rfl rfl rfl (Nat.le_of_ble_eq_true rfl) (c_X0_areAllOf d _ G 16 iG16 _ hgl.1 hgl.2.1 (42 + 3 * i + 1) (isP i hi4).2 _ ul.1 ug.1) rfl rfl ?_
        refine xA.if_eq (tgt := 42) rfl rfl rfl (fun h33 => ?_) (fun h33 => ?_)
        · rw [xb_eq0] at h33
          refine xA.iinc (L' := [_, _, _, _]) rfl rfl (nI_1 i) rfl rfl ?_
          refine xA.goto (q := 4) rfl rfl ?_
          have ih := ih (some (.ref (42 + 3 * i)))
          first | (rw [orI, if_pos ((glC_all hgl ul).mp h33)] at ih; exact ih) | (rw [orI, if_neg (fun q => h33 ((glC_all hgl ul).mpr q)), Int32.or_zero] at ih; exact ih)
        · rw [xb_ne0] at h33
          refine xA.iload_n (i := 1) rfl rfl rfl rfl ?_
          refine xA.iconst (v := 1) rfl (by decide) rfl ?_
          refine xA.iload_n (i := 2) rfl rfl rfl rfl ?_
          refine xA.ishl rfl rfl ?_
          refine xA.ior rfl rfl ?_
          refine xA.istore_n (i := 1) (L' := [_, _, _, _]) rfl rfl (Nat.le_of_ble_eq_true rfl) rfl rfl ?_
          refine xA.iinc (L' := [_, _, _, _]) rfl rfl (nI_1 i) rfl rfl ?_
          refine xA.goto (q := 4) rfl rfl ?_
          have ih := ih (some (.ref (42 + 3 * i)))
          first | (rw [orI, if_pos ((glC_all hgl ul).mp h33)] at ih; exact ih) | (rw [orI, if_neg (fun q => h33 ((glC_all hgl ul).mpr q)), Int32.or_zero] at ih; exact ih)
    · skip
      intro x3
      refine xA.iload_n (i := 2) rfl rfl rfl rfl ?_
      refine xA.aload_n (i := 0) rfl rfl rfl rfl ?_
      refine xA.getI rfl f9_105 rfl rfl rfl ?_
      refine xA.topi (hpp.1) ?_
      refine xA.icmp_ge (tgt := 48) rfl rfl rfl (fun h9 => ?_) (fun h9 => ?_)
      · refine xA.iload_n (i := 1) rfl rfl rfl rfl ?_
        exact xA.iret rfl rfl rfl ⟨rfl, rfl⟩
      · exact absurd (nI_le (Nat.le_refl _) (by omega)) h9
  refine xA.iconst (v := 0) rfl (by decide) rfl ?_
  refine xA.istore_n (i := 1) (L' := [_, _, _, _]) rfl rfl (Nat.le_of_ble_eq_true rfl) rfl rfl ?_
  refine xA.iconst (v := 0) rfl (by decide) rfl ?_
  refine xA.istore_n (i := 2) (L' := [_, _, _, _]) rfl rfl (Nat.le_of_ble_eq_true rfl) rfl rfl ?_
  exact loop 0 (Nat.zero_le _) _
def aBetween (s : sS) (a b : Int32) : Int32 := if rg a 6 ∧ rg b 6 ∧ ¬ a = b then (if sHr s = 0 then -103 else (if hD (sH s) (a.toNatClampNeg * 6 + b.toNatClampNeg) = 0 then 0 else 1) + (if (hSr (sH s) a.toNatClampNeg).testBit b.toNatClampNeg = true then 2 else 0)) else -101
def aCount (s : sS) (w : Int32) : Int32 := if w = 0 then (if sHr s = 0 then 0 else nI (hNd (sH s))) else if w = 1 then (if sHr s = 0 then 0 else nI (hNs (sH s))) else if w = 2 then nI (sP s) else if w = 3 then nI (sTk s).1 else if w = 4 then nI (sGl s).1 else if w = 5 then nI (sN s) else if w = 6 then nI (sHr s) else if w = 7 then nI (sSd s) else if w = 8 then (if sHr s = 0 then 0 else nI (hBa (sH s))) else if w = 9 then (if sHr s = 0 then -1 else nI (hLo (sH s))) else -102
theorem hr_pos {S : Nat → Nat → Int32} {hr : Nat} {h : hS} (hho : hsC S hr h) : (0 : Int32) < S 0 11 ↔ ¬ hr = 0 := by
  rw [hho.1, Int32.lt_iff_toInt_lt, Int32.toInt_zero, nI_toInt (by have := hho.2.1; omega)]
  omega
theorem hsC.f {S : Nat → Nat → Int32} {hr : Nat} {h : hS} (hho : hsC S hr h) : S 3 2 = (if hr = 0 then 0 else nI (hNd h)) ∧ S 3 3 = (if hr = 0 then 0 else nI (hNs h)) ∧ S 3 5 = (if hr = 0 then 0 else nI (hBa h)) ∧ S 3 4 = (if hr = 0 then -1 else nI (hLo h)) := by
  by_cases z : hr = 0
  · simp only [z, if_true]; exact ⟨(hho.2.2.1 z).1, (hho.2.2.1 z).2.1, (hho.2.2.1 z).2.2.2, (hho.2.2.1 z).2.2.1⟩
  · simp only [z, if_false]
    have := hho.2.2.2 (by omega)
    exact ⟨this.1.1.2.1, this.1.1.2.2.1, this.1.1.2.2.2.2.1 this.1.2.2, this.1.1.2.2.2.1 (by have := this.1.2.2; omega)⟩

set_option maxRecDepth 100000 in
set_option maxHeartbeats 400000 in
theorem c_X9_between (d : Nat) (S : Nat → Nat → Int32) (G : Nat → Nat → Int64) (s : sS) (hc : CS S s) (a b : Int32) : xR τ (d + 2) mX9_between [.ref 0, .int a, .int b] S G (some (.int (aBetween s a b))) S G := by
  obtain ⟨hpg, hho, hpp, htk, hgl, hsd, him, hno⟩ := hc
  refine xC.of okX9_between (Nat.le_of_ble_eq_true rfl) (L := [_, _, _, _]) rfl ?_
  refine xA.iload_n (i := 1) rfl rfl rfl rfl ?_
  refine xA.callSi (As := [_]) rfl k9_116 okX9_isRoom rfl rfl (Nat.le_of_ble_eq_true rfl) (c_X9_isRoom (d + 1) _ G _) rfl rfl ?_
  refine xA.if_eq (tgt := 19) rfl rfl rfl (fun h4 => ?_) (fun h4 => ?_)
  · rw [xb_eq0] at h4
    refine xA.bipush (v := (-101)) rfl (by decide) rfl ?_
    exact xA.iret rfl rfl rfl ⟨by rw [aBetween, if_neg (by rintro ⟨q1, q2, q3⟩; first | exact h4 q1 | exact h11 q2 | exact q3 h16)], rfl⟩
  · rw [xb_ne0] at h4
    refine xA.iload_n (i := 2) rfl rfl rfl rfl ?_
    refine xA.callSi (As := [_]) rfl k9_116 okX9_isRoom rfl rfl (Nat.le_of_ble_eq_true rfl) (c_X9_isRoom (d + 1) _ G _) rfl rfl ?_
    refine xA.if_eq (tgt := 19) rfl rfl rfl (fun h11 => ?_) (fun h11 => ?_)
    · rw [xb_eq0] at h11
      refine xA.bipush (v := (-101)) rfl (by decide) rfl ?_
      exact xA.iret rfl rfl rfl ⟨by rw [aBetween, if_neg (by rintro ⟨q1, q2, q3⟩; first | exact h4 q1 | exact h11 q2 | exact q3 h16)], rfl⟩
    · rw [xb_ne0] at h11
      refine xA.iload_n (i := 1) rfl rfl rfl rfl ?_
      refine xA.iload_n (i := 2) rfl rfl rfl rfl ?_
      refine xA.icmp_ne (tgt := 22) rfl rfl rfl (fun h16 => ?_) (fun h16 => ?_)
      · refine xA.aload_n (i := 0) rfl rfl rfl rfl ?_
        refine xA.callVi (As := []) rfl k9_120 okX9_hasHouse rfl rfl rfl rfl (Nat.le_of_ble_eq_true rfl) (c_X9_hasHouse (d + 1) _ G) rfl rfl ?_
        refine xA.if_ne (tgt := 32) rfl rfl rfl (fun h26 => ?_) (fun h26 => ?_)
        · rw [xb_ne0] at h26
          obtain ⟨i, hi, rfl⟩ := rg_nI h4 (by omega)
          obtain ⟨j, hj, rfl⟩ := rg_nI h11 (by omega)
          have hci : (nI i).toNatClampNeg = i := nI_clamp (by omega)
          have hcj : (nI j).toNatClampNeg = j := nI_clamp (by omega)
          rw [hr_pos hho] at h26
          have hsd3 := (hho.2.2.2 (by omega)).1
          have eD : S (3 + 1) (i * 6 + j) = 0 ↔ hD (sH s) (i * 6 + j) = 0 := by
            rw [hsd3.1.2.2.2.2.2.2.1 _ (by omega)]; exact nI_eq (b := 0) (by have := hsd3.D (i * 6 + j) (by omega); omega) (by omega)
          have eS : bt (S (3 + 2) i) (nI j) ↔ (hSr (sH s) i).testBit j = true := by
            rw [hsd3.1.2.2.2.2.2.2.2 _ hi]; exact bt_nI _ (hsd3.2.1.2.2.2.2.2.2.2.2.1 i) j hj
          refine xA.aload_n (i := 0) rfl rfl rfl rfl ?_
          refine xA.getR rfl f9_19 rfl rfl rfl rfl ?_
          refine xA.iload_n (i := 1) rfl rfl rfl rfl ?_
          refine xA.iload_n (i := 2) rfl rfl rfl rfl ?_
          refine xA.callVi (As := [_, _]) rfl k9_123 okX1_doorBetween rfl rfl rfl rfl (Nat.le_of_ble_eq_true rfl) (c_X1_doorBetween d _ G 3 iH3 i j hi hj) rfl rfl ?_
          refine xA.iconst (v := (-1)) rfl (by decide) rfl ?_
          refine xA.icmp_ne (tgt := 49) rfl rfl rfl (fun h42 => ?_) (fun h42 => ?_)
          · rw [i32_sub1, eD] at h42
            refine xA.iconst (v := 1) rfl (by decide) rfl ?_
            refine xA.istore_n (i := 3) (L' := [_, _, _, _]) rfl rfl (Nat.le_of_ble_eq_true rfl) rfl rfl ?_
            refine xA.aload_n (i := 0) rfl rfl rfl rfl ?_
            refine xA.getR rfl f9_19 rfl rfl rfl rfl ?_
            refine xA.iload_n (i := 1) rfl rfl rfl rfl ?_
            refine xA.iload_n (i := 2) rfl rfl rfl rfl ?_
            refine xA.callVi (As := [_, _]) rfl k9_127 okX1_isSeenFrom rfl rfl rfl rfl (Nat.le_of_ble_eq_true rfl) (c_X1_isSeenFrom d _ G 3 iH3 i j hi hj) rfl rfl ?_
            refine xA.if_eq (tgt := 69) rfl rfl rfl (fun h60 => ?_) (fun h60 => ?_)
            · rw [xb_eq0] at h60
              refine xA.iload_n (i := 3) rfl rfl rfl rfl ?_
              exact xA.iret rfl rfl rfl ⟨by rw [aBetween, if_pos ⟨h4, h11, h16⟩, if_neg h26, hci, hcj]; first | (rw [if_pos h42, if_pos (eS.mp h60)] <;> rfl) | (rw [if_neg h42, if_pos (eS.mp h60)] <;> rfl) | (rw [if_pos h42, if_neg (fun q => h60 (eS.mpr q))] <;> rfl) | (rw [if_neg h42, if_neg (fun q => h60 (eS.mpr q))] <;> rfl), rfl⟩
            · rw [xb_ne0] at h60
              refine xA.iload_n (i := 3) rfl rfl rfl rfl ?_
              refine xA.iconst (v := 2) rfl (by decide) rfl ?_
              refine xA.iadd rfl rfl ?_
              refine xA.goto (q := 70) rfl rfl ?_
              exact xA.iret rfl rfl rfl ⟨by rw [aBetween, if_pos ⟨h4, h11, h16⟩, if_neg h26, hci, hcj]; first | (rw [if_pos h42, if_pos (eS.mp h60)] <;> rfl) | (rw [if_neg h42, if_pos (eS.mp h60)] <;> rfl) | (rw [if_pos h42, if_neg (fun q => h60 (eS.mpr q))] <;> rfl) | (rw [if_neg h42, if_neg (fun q => h60 (eS.mpr q))] <;> rfl), rfl⟩
          · rw [i32_sub1, eD] at h42
            refine xA.iconst (v := 0) rfl (by decide) rfl ?_
            refine xA.goto (q := 50) rfl rfl ?_
            refine xA.istore_n (i := 3) (L' := [_, _, _, _]) rfl rfl (Nat.le_of_ble_eq_true rfl) rfl rfl ?_
            refine xA.aload_n (i := 0) rfl rfl rfl rfl ?_
            refine xA.getR rfl f9_19 rfl rfl rfl rfl ?_
            refine xA.iload_n (i := 1) rfl rfl rfl rfl ?_
            refine xA.iload_n (i := 2) rfl rfl rfl rfl ?_
            refine xA.callVi (As := [_, _]) rfl k9_127 okX1_isSeenFrom rfl rfl rfl rfl (Nat.le_of_ble_eq_true rfl) (c_X1_isSeenFrom d _ G 3 iH3 i j hi hj) rfl rfl ?_
            refine xA.if_eq (tgt := 69) rfl rfl rfl (fun h60 => ?_) (fun h60 => ?_)
            · rw [xb_eq0] at h60
              refine xA.iload_n (i := 3) rfl rfl rfl rfl ?_
              exact xA.iret rfl rfl rfl ⟨by rw [aBetween, if_pos ⟨h4, h11, h16⟩, if_neg h26, hci, hcj]; first | (rw [if_pos h42, if_pos (eS.mp h60)] <;> rfl) | (rw [if_neg h42, if_pos (eS.mp h60)] <;> rfl) | (rw [if_pos h42, if_neg (fun q => h60 (eS.mpr q))] <;> rfl) | (rw [if_neg h42, if_neg (fun q => h60 (eS.mpr q))] <;> rfl), rfl⟩
            · rw [xb_ne0] at h60
              refine xA.iload_n (i := 3) rfl rfl rfl rfl ?_
              refine xA.iconst (v := 2) rfl (by decide) rfl ?_
              refine xA.iadd rfl rfl ?_
              refine xA.goto (q := 70) rfl rfl ?_
              exact xA.iret rfl rfl rfl ⟨by rw [aBetween, if_pos ⟨h4, h11, h16⟩, if_neg h26, hci, hcj]; first | (rw [if_pos h42, if_pos (eS.mp h60)] <;> rfl) | (rw [if_neg h42, if_pos (eS.mp h60)] <;> rfl) | (rw [if_pos h42, if_neg (fun q => h60 (eS.mpr q))] <;> rfl) | (rw [if_neg h42, if_neg (fun q => h60 (eS.mpr q))] <;> rfl), rfl⟩
        · rw [xb_eq0] at h26
          refine xA.bipush (v := (-103)) rfl (by decide) rfl ?_
          exact xA.iret rfl rfl rfl ⟨by rw [hr_pos hho] at h26; rw [aBetween, if_pos ⟨h4, h11, h16⟩, if_pos (by omega)], rfl⟩
      · refine xA.bipush (v := (-101)) rfl (by decide) rfl ?_
        exact xA.iret rfl rfl rfl ⟨by rw [aBetween, if_neg (by rintro ⟨q1, q2, q3⟩; first | exact h4 q1 | exact h11 q2 | exact q3 h16)], rfl⟩
set_option maxRecDepth 100000 in
set_option maxHeartbeats 400000 in
theorem c_X9_count (d : Nat) (S : Nat → Nat → Int32) (G : Nat → Nat → Int64) (s : sS) (hc : CS S s) (w : Int32) : xR τ (d + 1) mX9_count [.ref 0, .int w] S G (some (.int (aCount s w))) S G := by
  obtain ⟨hpg, hho, hpp, htk, hgl, hsd, him, hno⟩ := hc
  refine xC.of okX9_count (Nat.le_of_ble_eq_true rfl) (L := [_, _]) rfl ?_
  refine xA.iload_n (i := 1) rfl rfl rfl rfl ?_
  by_cases h1_0 : w = 0
  · subst h1_0
    refine xA.tsIn (q := 56) rfl (by decide) (by decide) rfl rfl ?_
    refine xA.aload_n (i := 0) rfl rfl rfl rfl ?_
    refine xA.getR rfl f9_19 rfl rfl rfl rfl ?_
    refine xA.callVi (As := []) rfl k9_113 okX1_doors rfl rfl rfl rfl (Nat.le_of_ble_eq_true rfl) (c_X1_doors d _ G 3 iH3) rfl rfl ?_
    refine xA.topi hho.f.1 ?_
    exact xA.iret rfl rfl rfl ⟨rfl, rfl⟩
  by_cases h1_1 : w = 1
  · subst h1_1
    refine xA.tsIn (q := 64) rfl (by decide) (by decide) rfl rfl ?_
    refine xA.aload_n (i := 0) rfl rfl rfl rfl ?_
    refine xA.getR rfl f9_19 rfl rfl rfl rfl ?_
    refine xA.callVi (As := []) rfl k9_270 okX1_sights rfl rfl rfl rfl (Nat.le_of_ble_eq_true rfl) (c_X1_sights d _ G 3 iH3) rfl rfl ?_
    refine xA.topi hho.f.2.1 ?_
    exact xA.iret rfl rfl rfl ⟨rfl, rfl⟩
  by_cases h1_2 : w = 2
  · subst h1_2
    refine xA.tsIn (q := 72) rfl (by decide) (by decide) rfl rfl ?_
    refine xA.aload_n (i := 0) rfl rfl rfl rfl ?_
    refine xA.getI rfl f9_105 rfl rfl rfl ?_
    refine xA.topi (hpp.1) ?_
    exact xA.iret rfl rfl rfl ⟨rfl, rfl⟩
  by_cases h1_3 : w = 3
  · subst h1_3
    refine xA.tsIn (q := 77) rfl (by decide) (by decide) rfl rfl ?_
    refine xA.aload_n (i := 0) rfl rfl rfl rfl ?_
    refine xA.getR rfl f9_42 rfl rfl rfl rfl ?_
    refine xA.callVi (As := []) rfl k9_214 okX7_size rfl rfl rfl rfl (Nat.le_of_ble_eq_true rfl) (c_X7_size d _ G 12 iT12) rfl rfl ?_
    refine xA.topi htk.1 ?_
    exact xA.iret rfl rfl rfl ⟨rfl, rfl⟩
  by_cases h1_4 : w = 4
  · subst h1_4
    refine xA.tsIn (q := 85) rfl (by decide) (by decide) rfl rfl ?_
    refine xA.aload_n (i := 0) rfl rfl rfl rfl ?_
    refine xA.getR rfl f9_49 rfl rfl rfl rfl ?_
    refine xA.callVi (As := []) rfl k9_235 okX0_size rfl rfl rfl rfl (Nat.le_of_ble_eq_true rfl) (c_X0_size d _ G 16 iG16) rfl rfl ?_
    refine xA.topi hgl.1 ?_
    exact xA.iret rfl rfl rfl ⟨rfl, rfl⟩
  by_cases h1_5 : w = 5
  · subst h1_5
    refine xA.tsIn (q := 93) rfl (by decide) (by decide) rfl rfl ?_
    refine xA.aload_n (i := 0) rfl rfl rfl rfl ?_
    refine xA.getR rfl f9_12 rfl rfl rfl rfl ?_
    refine xA.callVi (As := []) rfl k9_79 okX4_length rfl rfl rfl rfl (Nat.le_of_ble_eq_true rfl) (c_X4_length d _ G) rfl rfl ?_
    refine xA.topi hpg.1 ?_
    exact xA.iret rfl rfl rfl ⟨rfl, rfl⟩
  by_cases h1_6 : w = 6
  · subst h1_6
    refine xA.tsIn (q := 101) rfl (by decide) (by decide) rfl rfl ?_
    refine xA.aload_n (i := 0) rfl rfl rfl rfl ?_
    refine xA.getI rfl f9_101 rfl rfl rfl ?_
    refine xA.topi (hho.1) ?_
    exact xA.iret rfl rfl rfl ⟨rfl, rfl⟩
  by_cases h1_7 : w = 7
  · subst h1_7
    refine xA.tsIn (q := 106) rfl (by decide) (by decide) rfl rfl ?_
    refine xA.aload_n (i := 0) rfl rfl rfl rfl ?_
    refine xA.getI rfl f9_217 rfl rfl rfl ?_
    refine xA.topi (hsd.1) ?_
    exact xA.iret rfl rfl rfl ⟨rfl, rfl⟩
  by_cases h1_8 : w = 8
  · subst h1_8
    refine xA.tsIn (q := 111) rfl (by decide) (by decide) rfl rfl ?_
    refine xA.aload_n (i := 0) rfl rfl rfl rfl ?_
    refine xA.getR rfl f9_19 rfl rfl rfl rfl ?_
    refine xA.callVi (As := []) rfl k9_273 okX1_back rfl rfl rfl rfl (Nat.le_of_ble_eq_true rfl) (c_X1_back d _ G 3 iH3) rfl rfl ?_
    refine xA.topi hho.f.2.2.1 ?_
    exact xA.iret rfl rfl rfl ⟨rfl, rfl⟩
  by_cases h1_9 : w = 9
  · subst h1_9
    refine xA.tsIn (q := 119) rfl (by decide) (by decide) rfl rfl ?_
    refine xA.aload_n (i := 0) rfl rfl rfl rfl ?_
    refine xA.getR rfl f9_19 rfl rfl rfl rfl ?_
    refine xA.callVi (As := []) rfl k9_276 okX1_lowRoom rfl rfl rfl rfl (Nat.le_of_ble_eq_true rfl) (c_X1_lowRoom d _ G 3 iH3) rfl rfl ?_
    refine xA.topi hho.f.2.2.2 ?_
    exact xA.iret rfl rfl rfl ⟨rfl, rfl⟩
  refine xA.tsOut (q := 127) rfl (ts_out10 h1_0 h1_1 h1_2 h1_3 h1_4 h1_5 h1_6 h1_7 h1_8 h1_9) rfl ?_
  refine xA.bipush (v := (-102)) rfl (by decide) rfl ?_
  exact xA.iret rfl rfl rfl ⟨by simp only [aCount, h1_0, h1_1, h1_2, h1_3, h1_4, h1_5, h1_6, h1_7, h1_8, h1_9, if_false], rfl⟩

/-! ===== the law, from its entry ===== -/
/-- the state when both are made *new* -/
def s0 : sS := (fun _ => 0, 0, 0, h0, 0, fun _ => 0, fun _ => lE, (0, fun _ => 0, fun _ => 0, fun _ => 0), (0, fun _ => 0), 0, (0, 0, fun _ => lE, (0, fun _ => 0, fun _ => 0, fun _ => 0), (0, fun _ => 0)))
theorem CS0 : CS Z10 s0 := by
  refine ⟨⟨rfl, by show 0 ≤ 45; omega, fun i hi => absurd hi (Nat.not_lt_zero _), fun i hi => absurd hi (Nat.not_lt_zero _)⟩, ⟨rfl, by show 0 ≤ 600; omega, fun _ => ⟨rfl, rfl, rfl, rfl⟩, fun z => absurd z (Nat.lt_irrefl 0)⟩, ⟨rfl, by show 0 ≤ 4; omega, fun p hp => absurd hp (Nat.not_lt_zero _)⟩, ⟨rfl, by show 0 ≤ 5; omega, fun i hi => absurd hi (Nat.not_lt_zero _)⟩, ⟨rfl, by show 0 ≤ 8; omega, fun i hi => absurd hi (Nat.not_lt_zero _)⟩, ⟨rfl, by show 0 ≤ 30; omega⟩, ⟨rfl, by show 0 ≤ 1; omega, fun z => absurd z (by show ¬ 0 = 1; omega)⟩, fun _ => ⟨rfl, rfl, rfl, rfl⟩⟩
theorem MS0 : MS Z10 s0 := by
  refine ⟨⟨rfl, by show 0 ≤ 45; omega, fun i hi => absurd hi (Nat.not_lt_zero _), fun i hi => absurd hi (Nat.not_lt_zero _)⟩, ⟨rfl, by show 0 ≤ 600; omega, fun _ => ⟨rfl, rfl, rfl, rfl⟩, fun z => absurd z (Nat.lt_irrefl 0)⟩, ⟨rfl, by show 0 ≤ 4; omega, fun p hp => absurd hp (Nat.not_lt_zero _)⟩, ⟨rfl, by show 0 ≤ 5; omega, fun i hi => absurd hi (Nat.not_lt_zero _)⟩, ⟨rfl, by show 0 ≤ 8; omega, fun i hi => absurd hi (Nat.not_lt_zero _)⟩, ⟨rfl, by show 0 ≤ 30; omega⟩, ⟨Or.inl rfl, by show 0 ≤ 1; omega, fun _ => (by show ¬ Z10 54 37 = nI 0; decide), fun z => absurd z (by show ¬ 0 = 1; omega)⟩, fun _ => ⟨rfl, rfl, rfl, rfl⟩⟩
theorem ts_out27 {w : Int32} (h : ∀ k, k < 27 → ¬ w = nI k) : w.toInt < 0 ∨ 26 < w.toInt := by
  by_cases q : rg w 27
  · obtain ⟨k, hk, e⟩ := rg_nI q (by omega)
    exact absurd e (h k hk)
  · unfold rg at q; omega
theorem len6 {N : Nat} (h : N ≤ 3072) : (nI N - 6).toInt = (N : Int) - 6 := by
  rw [Int32.toInt_sub, nI_toInt (by omega), show (6 : Int32).toInt = 6 from rfl, Int.bmod_def]
  split <;> omega

set_option maxRecDepth 100000 in
set_option maxHeartbeats 4000000 in
theorem law_loop (N : Nat) (xs : Nat → Int32) (hN2 : N ≤ 3072) : ∀ j, j ≤ 512 → ∀ s S G, CS S s → MS S s → sHr s ≤ j → xA (some (N, xs)) 30 mL_law 79 3571 600000 7302250 18 [some (.retAddr 0), some (.ref 0), some (.ref 54), some (.int (nI (6 * j)))] [] (σF, S, G) (fun r _ => r = some (.int 1)) := by
  refine xloop 512 (fun j hj ih => ?_) ?_
  · intro s S G hcs hms hle
    have kk : ∀ s' S' G', CS S' s' → MS S' s' → sHr s' ≤ j + 1 → xA (some (N, xs)) 30 mL_law 79 3571 600000 7302250 938 [some (.retAddr 0), some (.ref 0), some (.ref 54), some (.int (nI (6 * j)))] [] (σF, S', G') (fun r _ => r = some (.int 1)) := by
      intro s' S' G' a1 a2 a3
      refine xA.iinc (L' := [_, _, _, _]) rfl rfl ((show nI (6 * j) + 6 = nI (6 * (j + 1)) from nI_add (6 * j) 6)) rfl rfl ?_
      refine xA.goto (q := 18) rfl rfl ?_
      exact ih s' S' G' a1 a2 a3
    refine xA.iload_n (i := 3) rfl rfl rfl rfl ?_
    refine xA.aloadX_n (i := 0) rfl rfl rfl rfl ?_
    refine xA.slen rfl rfl ?_
    refine xA.bipush (v := 6) rfl (by decide) rfl ?_
    refine xA.isub rfl rfl ?_
    refine xA.icmp_gt (tgt := 944) rfl rfl rfl (fun h24 => ?_) (fun h24 => ?_)
    · skip
      refine xA.iconst (v := 1) rfl (by decide) rfl ?_
      refine xA.widen (c' := 600000) (n' := 7302250) (Nat.le_of_ble_eq_true rfl) (Nat.le_of_ble_eq_true rfl) ?_
      exact xA.iret rfl rfl rfl rfl
    · have hN : 6 * j + 6 ≤ N := by
        rw [Int32.lt_iff_toInt_lt, len6 hN2, nI_toInt (by omega)] at h24
        omega
      refine xA.aloadX_n (i := 0) rfl rfl rfl rfl ?_
      refine xA.iload_n (i := 3) rfl rfl rfl rfl ?_
      refine xA.sld rfl (vp_in_nI (by omega) (by omega)) rfl ?_
      refine xA.bipush (v := 31) rfl (by decide) rfl ?_
      refine xA.iand rfl rfl ?_
      by_cases h33_0 : (xs (nI (6 * j)).toNatClampNeg &&& 31) = 0
      · refine xA.topi h33_0 ?_
        refine xA.tsIn (q := 156) rfl (by decide) (by decide) rfl rfl ?_
        exact lc_letters N xs j hj hN hN2 s S G hcs hms hle kk
      by_cases h33_1 : (xs (nI (6 * j)).toNatClampNeg &&& 31) = 1
      · refine xA.topi h33_1 ?_
        refine xA.tsIn (q := 209) rfl (by decide) (by decide) rfl rfl ?_
        exact lc_blank N xs j hj hN hN2 s S G hcs hms hle kk
      by_cases h33_2 : (xs (nI (6 * j)).toNatClampNeg &&& 31) = 2
      · refine xA.topi h33_2 ?_
        refine xA.tsIn (q := 222) rfl (by decide) (by decide) rfl rfl ?_
        exact lc_fault N xs j hj hN hN2 s S G hcs hms hle kk
      by_cases h33_3 : (xs (nI (6 * j)).toNatClampNeg &&& 31) = 3
      · refine xA.topi h33_3 ?_
        refine xA.tsIn (q := 245) rfl (by decide) (by decide) rfl rfl ?_
        exact lc_house N xs j hj hN hN2 s S G hcs hms hle kk
      by_cases h33_4 : (xs (nI (6 * j)).toNatClampNeg &&& 31) = 4
      · refine xA.topi h33_4 ?_
        refine xA.tsIn (q := 258) rfl (by decide) (by decide) rfl rfl ?_
        exact lc_between N xs j hj hN hN2 s S G hcs hms hle kk
      by_cases h33_5 : (xs (nI (6 * j)).toNatClampNeg &&& 31) = 5
      · refine xA.topi h33_5 ?_
        refine xA.tsIn (q := 291) rfl (by decide) (by decide) rfl rfl ?_
        exact lc_person N xs j hj hN hN2 s S G hcs hms hle kk
      by_cases h33_6 : (xs (nI (6 * j)).toNatClampNeg &&& 31) = 6
      · refine xA.topi h33_6 ?_
        refine xA.tsIn (q := 314) rfl (by decide) (by decide) rfl rfl ?_
        exact lc_life N xs j hj hN hN2 s S G hcs hms hle kk
      by_cases h33_7 : (xs (nI (6 * j)).toNatClampNeg &&& 31) = 7
      · refine xA.topi h33_7 ?_
        refine xA.tsIn (q := 337) rfl (by decide) (by decide) rfl rfl ?_
        exact lc_about N xs j hj hN hN2 s S G hcs hms hle kk
      by_cases h33_8 : (xs (nI (6 * j)).toNatClampNeg &&& 31) = 8
      · refine xA.topi h33_8 ?_
        refine xA.tsIn (q := 370) rfl (by decide) (by decide) rfl rfl ?_
        exact lc_as N xs j hj hN hN2 s S G hcs hms hle kk
      by_cases h33_9 : (xs (nI (6 * j)).toNatClampNeg &&& 31) = 9
      · refine xA.topi h33_9 ?_
        refine xA.tsIn (q := 403) rfl (by decide) (by decide) rfl rfl ?_
        exact lc_self N xs j hj hN hN2 s S G hcs hms hle kk
      by_cases h33_10 : (xs (nI (6 * j)).toNatClampNeg &&& 31) = 10
      · refine xA.topi h33_10 ?_
        refine xA.tsIn (q := 446) rfl (by decide) (by decide) rfl rfl ?_
        exact lc_there N xs j hj hN hN2 s S G hcs hms hle kk
      by_cases h33_11 : (xs (nI (6 * j)).toNatClampNeg &&& 31) = 11
      · refine xA.topi h33_11 ?_
        refine xA.tsIn (q := 489) rfl (by decide) (by decide) rfl rfl ?_
        exact lc_met N xs j hj hN hN2 s S G hcs hms hle kk
      by_cases h33_12 : (xs (nI (6 * j)).toNatClampNeg &&& 31) = 12
      · refine xA.topi h33_12 ?_
        refine xA.tsIn (q := 512) rfl (by decide) (by decide) rfl rfl ?_
        exact lc_most N xs j hj hN hN2 s S G hcs hms hle kk
      by_cases h33_13 : (xs (nI (6 * j)).toNatClampNeg &&& 31) = 13
      · refine xA.topi h33_13 ?_
        refine xA.tsIn (q := 545) rfl (by decide) (by decide) rfl rfl ?_
        exact lc_meet N xs j hj hN hN2 s S G hcs hms hle kk
      by_cases h33_14 : (xs (nI (6 * j)).toNatClampNeg &&& 31) = 14
      · refine xA.topi h33_14 ?_
        refine xA.tsIn (q := 578) rfl (by decide) (by decide) rfl rfl ?_
        exact lc_locked N xs j hj hN hN2 s S G hcs hms hle kk
      by_cases h33_15 : (xs (nI (6 * j)).toNatClampNeg &&& 31) = 15
      · refine xA.topi h33_15 ?_
        refine xA.tsIn (q := 591) rfl (by decide) (by decide) rfl rfl ?_
        exact lc_task N xs j hj hN hN2 s S G hcs hms hle kk
      by_cases h33_16 : (xs (nI (6 * j)).toNatClampNeg &&& 31) = 16
      · refine xA.topi h33_16 ?_
        refine xA.tsIn (q := 634) rfl (by decide) (by decide) rfl rfl ?_
        exact lc_done N xs j hj hN hN2 s S G hcs hms hle kk
      by_cases h33_17 : (xs (nI (6 * j)).toNatClampNeg &&& 31) = 17
      · refine xA.topi h33_17 ?_
        refine xA.tsIn (q := 657) rfl (by decide) (by decide) rfl rfl ?_
        exact lc_shortest N xs j hj hN hN2 s S G hcs hms hle kk
      by_cases h33_18 : (xs (nI (6 * j)).toNatClampNeg &&& 31) = 18
      · refine xA.topi h33_18 ?_
        refine xA.tsIn (q := 720) rfl (by decide) (by decide) rfl rfl ?_
        exact lc_glimpse N xs j hj hN hN2 s S G hcs hms hle kk
      by_cases h33_19 : (xs (nI (6 * j)).toNatClampNeg &&& 31) = 19
      · refine xA.topi h33_19 ?_
        refine xA.tsIn (q := 753) rfl (by decide) (by decide) rfl rfl ?_
        exact lc_forget N xs j hj hN hN2 s S G hcs hms hle kk
      by_cases h33_20 : (xs (nI (6 * j)).toNatClampNeg &&& 31) = 20
      · refine xA.topi h33_20 ?_
        refine xA.tsIn (q := 766) rfl (by decide) (by decide) rfl rfl ?_
        exact lc_whose N xs j hj hN hN2 s S G hcs hms hle kk
      by_cases h33_21 : (xs (nI (6 * j)).toNatClampNeg &&& 31) = 21
      · refine xA.topi h33_21 ?_
        refine xA.tsIn (q := 779) rfl (by decide) (by decide) rfl rfl ?_
        exact lc_pair N xs j hj hN hN2 s S G hcs hms hle kk
      by_cases h33_22 : (xs (nI (6 * j)).toNatClampNeg &&& 31) = 22
      · refine xA.topi h33_22 ?_
        refine xA.tsIn (q := 812) rfl (by decide) (by decide) rfl rfl ?_
        exact lc_lives N xs j hj hN hN2 s S G hcs hms hle kk
      by_cases h33_23 : (xs (nI (6 * j)).toNatClampNeg &&& 31) = 23
      · refine xA.topi h33_23 ?_
        refine xA.tsIn (q := 875) rfl (by decide) (by decide) rfl rfl ?_
        exact lc_image N xs j hj hN hN2 s S G hcs hms hle kk
      by_cases h33_24 : (xs (nI (6 * j)).toNatClampNeg &&& 31) = 24
      · refine xA.topi h33_24 ?_
        refine xA.tsIn (q := 888) rfl (by decide) (by decide) rfl rfl ?_
        exact lc_restore N xs j hj hN hN2 s S G hcs hms hle kk
      by_cases h33_25 : (xs (nI (6 * j)).toNatClampNeg &&& 31) = 25
      · refine xA.topi h33_25 ?_
        refine xA.tsIn (q := 901) rfl (by decide) (by decide) rfl rfl ?_
        exact lc_count N xs j hj hN hN2 s S G hcs hms hle kk
      by_cases h33_26 : (xs (nI (6 * j)).toNatClampNeg &&& 31) = 26
      · refine xA.topi h33_26 ?_
        refine xA.tsIn (q := 924) rfl (by decide) (by decide) rfl rfl ?_
        exact lc_digest N xs j hj hN hN2 s S G hcs hms hle kk
      refine xA.tsOut (q := 938) rfl (ts_out27 (fun k hk => by
        match k, hk with
        | 0, _ => exact h33_0
        | 1, _ => exact h33_1
        | 2, _ => exact h33_2
        | 3, _ => exact h33_3
        | 4, _ => exact h33_4
        | 5, _ => exact h33_5
        | 6, _ => exact h33_6
        | 7, _ => exact h33_7
        | 8, _ => exact h33_8
        | 9, _ => exact h33_9
        | 10, _ => exact h33_10
        | 11, _ => exact h33_11
        | 12, _ => exact h33_12
        | 13, _ => exact h33_13
        | 14, _ => exact h33_14
        | 15, _ => exact h33_15
        | 16, _ => exact h33_16
        | 17, _ => exact h33_17
        | 18, _ => exact h33_18
        | 19, _ => exact h33_19
        | 20, _ => exact h33_20
        | 21, _ => exact h33_21
        | 22, _ => exact h33_22
        | 23, _ => exact h33_23
        | 24, _ => exact h33_24
        | 25, _ => exact h33_25
        | 26, _ => exact h33_26
        | k + 27, hk => omega)) rfl ?_
      exact kk s S G hcs hms (by omega)
  · intro s S G hcs hms hle
    refine xA.iload_n (i := 3) rfl rfl rfl rfl ?_
    refine xA.aloadX_n (i := 0) rfl rfl rfl rfl ?_
    refine xA.slen rfl rfl ?_
    refine xA.bipush (v := 6) rfl (by decide) rfl ?_
    refine xA.isub rfl rfl ?_
    refine xA.icmp_gt (tgt := 944) rfl rfl rfl (fun h24 => ?_) (fun h24 => ?_)
    · refine xA.iconst (v := 1) rfl (by decide) rfl ?_
      refine xA.widen (c' := 600000) (n' := 7302250) (Nat.le_of_ble_eq_true rfl) (Nat.le_of_ble_eq_true rfl) ?_
      exact xA.iret rfl rfl rfl rfl
    · rw [Int32.lt_iff_toInt_lt, len6 hN2, nI_toInt (by omega)] at h24
      omega
set_option maxRecDepth 100000 in
set_option maxHeartbeats 4000000 in
theorem law_xA (N : Nat) (xs : Nat → Int32) (hN2 : N ≤ 3072) : xA (some (N, xs)) 30 mL_law 0 0 600000 7302250 0 [some (.retAddr 0), none, none, none] [] ([], Z32, Z64) (fun r _ => r = some (.int 1)) := by
  refine xA.new (N := 13) rfl n11_7 rfl (Nat.le_of_ble_eq_true rfl) (Nat.le_of_ble_eq_true rfl) rfl ?_
  refine xA.zz (m := 0) (fun j _ => ⟨rfl, rfl⟩) (Nat.le_of_ble_eq_true rfl) ?_
  refine xA.top (k' := 0) rfl ?_
  refine xA.shp (σ' := [.inl (9, [none, none, none, none, none, none, none, none, none, none, none, none, none])]) rfl ?_
  refine xA.dup rfl rfl rfl ?_
  refine xA.callI (As := []) rfl k11_9 okX9_init rfl rfl (Nat.le_of_ble_eq_true rfl) (c_X9_init 25) (Nat.le_of_ble_eq_true rfl) (Nat.le_of_ble_eq_true rfl) rfl rfl ?_
  rintro r9 h9 ⟨rfl, rfl⟩
  refine xA.astore_n (i := 1) (L' := [_, _, _, _]) rfl rfl (Nat.le_of_ble_eq_true rfl) rfl rfl ?_
  refine xA.new (N := 48) rfl n11_10 rfl (Nat.le_of_ble_eq_true rfl) (Nat.le_of_ble_eq_true rfl) rfl ?_
  refine xA.zz (m := 54) (zb9 (Nat.le_of_ble_eq_true rfl)) (Nat.le_of_ble_eq_true rfl) ?_
  refine xA.top (k' := 54) rfl ?_
  refine xA.shp (σ' := [.inl (9, [some 1, some 3, some 6, some 9, some 11, some 12, some 16, some 18, some 38, some 41, none, none, none]), .inl (4, [some 2, none]), .inr (.inl 45), .inl (1, [some 4, some 5, none, none, none, none, none, none]), .inr (.inl 36), .inr (.inl 6), .inl (1, [some 7, some 8, none, none, none, none, none, none]), .inr (.inl 36), .inr (.inl 6), .inl (3, [some 10, none, none, none]), .inr (.inl 17), .inr (.inr [some 42, some 45, some 48, some 51]), .inl (7, [some 13, some 14, some 15, none]), .inr (.inl 5), .inr (.inl 5), .inr (.inl 5), .inl (0, [some 17, none]), .inr (.inl 8), .inl (2, [some 19, some 20, some 24, none, none]), .inr (.inr [some 26, some 29, some 32, some 35]), .inl (7, [some 21, some 22, some 23, none]), .inr (.inl 5), .inr (.inl 5), .inr (.inl 5), .inl (0, [some 25, none]), .inr (.inl 8), .inl (5, [some 27, none]), .inl (3, [some 28, none, none, none]), .inr (.inl 17), .inl (5, [some 30, none]), .inl (3, [some 31, none, none, none]), .inr (.inl 17), .inl (5, [some 33, none]), .inl (3, [some 34, none, none, none]), .inr (.inl 17), .inl (5, [some 36, none]), .inl (3, [some 37, none, none, none]), .inr (.inl 17), .inl (6, [some 39, some 40, none, none, none, none, none]), .inr (.inl 2520), .inr (.inl 60), .inl (8, [none, none, none]), .inl (5, [some 43, none]), .inl (3, [some 44, none, none, none]), .inr (.inl 17), .inl (5, [some 46, none]), .inl (3, [some 47, none, none, none]), .inr (.inl 17), .inl (5, [some 49, none]), .inl (3, [some 50, none, none, none]), .inr (.inl 17), .inl (5, [some 52, none]), .inl (3, [some 53, none, none, none]), .inr (.inl 17), .inl (10, [none, none, none, none, none, none, none, none, none, none, none, none, none, none, none, none, none, none, none, none, none, none, none, none, none, none, none, none, none, none, none, none, none, none, none, none, none, none, none, none, none, none, none, none, none, none, none, none])]) rfl ?_
  refine xA.dup rfl rfl rfl ?_
  refine xA.callI (As := []) rfl k11_12 okX10_init rfl rfl (Nat.le_of_ble_eq_true rfl) (c_X10_init 28) (Nat.le_of_ble_eq_true rfl) (Nat.le_of_ble_eq_true rfl) rfl rfl ?_
  rintro r9 h9 ⟨rfl, rfl⟩
  refine xA.astore_n (i := 2) (L' := [_, _, _, _]) rfl rfl (Nat.le_of_ble_eq_true rfl) rfl rfl ?_
  refine xA.iconst (v := 0) rfl (by decide) rfl ?_
  refine xA.istore_n (i := 3) (L' := [_, _, _, _]) rfl rfl (Nat.le_of_ble_eq_true rfl) rfl rfl ?_
  exact law_loop N xs hN2 0 (Nat.zero_le _) s0 Z10 Z64 CS0 MS0 (Nat.zero_le _)

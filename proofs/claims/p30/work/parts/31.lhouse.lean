variable {ρ : List xSh}
/-! ===== houseText ===== -/
theorem inS_dup {k n a b : Nat} {h : hS} (hi : inS k n h) (hb : (hSr h a).testBit b = true) : inS (k + 1) n h := by
  obtain ⟨i1, i2, i3 | i3⟩ := hi
  · rw [i3.2.2.2 a] at hb; simp at hb
  · exact ⟨i1, i2, Or.inr ⟨i3.1, by omega, i3.2.2⟩⟩
theorem inS_new {k n a b : Nat} {h : hS} (hi : inS k n h) : inS (k + 1) (n + 1 + 1 + 1) (hsight h a b) := by
  obtain ⟨i1, i2, i3⟩ := hi
  refine ⟨i1, ?_, Or.inr ⟨?_, ?_, rfl⟩⟩
  · show _ = 3 * hNd h + 2 + 3 * (hNs h + 1)
    omega
  · show 1 ≤ hNs h + 1
    omega
  · show hNs h + 1 ≤ k + 1
    omega
theorem inD_dup {k n a b : Nat} {h : hS} (hi : inD k n h) (hb : ¬ hD h (a * 6 + b) = 0) : inD (k + 1) n h := by
  obtain ⟨i1, i2, i3 | i3⟩ := hi
  · obtain ⟨-, -, rfl⟩ := i3
    exact absurd rfl hb
  · exact ⟨i1, i2, Or.inr ⟨i3.1, by omega, i3.2.2⟩⟩
theorem inD_new {k n n2 a b : Nat} {h : hS} (hi : inD k n h) (hn : n2 = 3 * hNd h) : inD (k + 1) (n2 + 1 + 1) (hdoor h a b) := by
  obtain ⟨i1, i2, i3⟩ := hi
  have hk : hNd h ≤ k := by
    rcases i3 with ⟨-, -, rfl⟩ | i3
    · exact Nat.zero_le _
    · exact i3.2.1
  refine ⟨i1, i2, Or.inr ⟨?_, ?_, rfl, ?_⟩⟩
  · show 1 ≤ hNd h + 1
    omega
  · show hNd h + 1 ≤ k + 1
    omega
  · show _ = 3 * (hNd h + 1)
    omega
theorem inD_le {k n : Nat} {h : hS} (hi : inD k n h) : hNd h ≤ k := by
  rcases hi.2.2 with ⟨-, -, rfl⟩ | i3
  · exact Nat.zero_le _
  · exact i3.2.1
theorem RH_sight {A : Nat → Int32} {h : hS} {a b : Nat} (hp : RH A h) (ha : a < 6) (hb : b < 6) (hab : ¬ b = a) : RH (iu (iu (iu A (6 + a) (nI (hSr h a ||| 2 ^ b))) (6 + b) (nI (hSr h b ||| 2 ^ a))) 15 (nI (hNs h + 1))) (hsight h a b) :=
  ⟨by rw [iu_off (by omega), iu_off (by omega), iu_off (by omega)]; exact hp.1, by rw [iu_off (by omega), iu_off (by omega), iu_off (by omega)]; exact hp.2.1, RHp_sight hp.2.2 ha hb hab⟩
theorem RH_low {A : Nat → Int32} {h : hS} {lo bk : Nat} (hp : RHp A h) : RH (iu (iu A 12 (nI lo)) 13 (nI bk)) (hlow h lo bk) := by
  obtain ⟨p1, p2, p3, p4, p5⟩ := hp
  refine ⟨by rw [iu_off (by decide), iu_at]; rfl, iu_at, ?_, ?_, ?_, ?_, ?_⟩
  · rw [iu_off (by decide), iu_off (by decide)]; exact p1
  · rw [iu_off (by decide), iu_off (by decide)]; exact p2
  · intro c hc
    rw [iu_off (by omega), iu_off (by omega)]; exact p3 c hc
  · intro c hc
    rw [iu_off (by omega), iu_off (by omega)]; exact p4 c hc
  · intro j hj
    rw [iu_off (by omega), iu_off (by omega), iu_off (by omega), iu_off (by omega)]; exact p5 j hj

set_option maxRecDepth 100000 in
set_option maxHeartbeats 1000000 in
theorem c_L_houseText (d : Nat) (S : Nat → Nat → Int32) (G : Nat → Nat → Int64) (N : Nat) (xs : Nat → Int32) (hN : N ≤ 260) : xCs (some (N, xs)) (d + 1) mL_houseText [.retAddr 0, .int 0, .ref 54, .ref 57] (σF (τL ρ), S, G) 0 0 (fun r h' => ∃ S' n hh, h' = (σF (τL ρ), S', G) ∧ r = some (.int (nI n)) ∧ n ≤ 44 ∧ fr2 S S' ∧ RH (S' 54) hh ∧ HX (S' 57) n hh ∧ (hSt hh = 5 ∨ hSt hh = 8)) := by
  refine xCs.of okL_houseText (Nat.le_of_ble_eq_true rfl) (L := [_, _, _, _, _, _, _, _, _, _, _, _, _]) rfl ?_
  have loop3 : ∀ (x y z : Int32) (w sg : Nat), sg ≤ 4 → ∀ k, k ≤ sg → ∀ S1 n hh, fr2 S S1 → RH (S1 54) hh → HX (S1 57) n hh → inS k n hh → ∀ x11 x12 : Option Value, xA (some (N, xs)) (d + 1) mL_houseText 0 0 0 0 332 [some (.retAddr 0), some (.int (0)), some (.ref 54), some (.ref 57), some (.int (x)), some (.int (y)), some (.int (nI n)), some (.int (nI w)), some (.int (z)), some (.int (nI sg)), some (.int (nI k)), x11, x12] [] (σF (τL ρ), S1, G) (fun r h' => ∃ S' n hh, h' = (σF (τL ρ), S', G) ∧ r = some (.int (nI n)) ∧ n ≤ 44 ∧ fr2 S S' ∧ RH (S' 54) hh ∧ HX (S' 57) n hh ∧ (hSt hh = 5 ∨ hSt hh = 8)) := by
    intro x y z w sg hsg
    refine xloop sg (fun k hk ih => ?_) ?_
    · intro S1 n hh hf1 hrh hx hin x11 x12
      have hok := hx.ok
      have h10 := hok.2.1
      have hn := hin.2.1
      have hns : hNs hh ≤ k := by rcases hin.2.2 with z | z <;> omega
      refine xA.iload rfl rfl rfl ?_
      refine xA.iload rfl rfl rfl ?_
      refine xA.icmp_ge (tgt := 486) rfl rfl rfl (fun h336 => ?_) (fun h336 => ?_)
      · exact absurd h336 (nI_ge hk (by omega))
      · refine xA.iload rfl rfl rfl ?_
        refine xA.bipush (v := 11) rfl (by decide) rfl ?_
        refine xA.iconst (v := 3) rfl (by decide) rfl ?_
        refine xA.iload rfl rfl rfl ?_
        refine xA.imul rfl rfl ?_
        refine xA.iadd rfl rfl ?_
        refine xA.ishr rfl rfl ?_
        refine xA.bipush (v := 6) rfl (by decide) rfl ?_
        refine xA.at (N := 6) rfl k11_14 rfl (Nat.le_of_ble_eq_true rfl) (Nat.le_of_ble_eq_true rfl) (Nat.le_of_ble_eq_true rfl) (rfl) (by decide) (by decide) rfl (fun a ha => ?_)
        refine xA.istore (L' := [_, _, _, _, _, _, _, _, _, _, _, _, _]) rfl (Nat.le_of_ble_eq_true rfl) rfl rfl ?_
        refine xA.iload rfl rfl rfl ?_
        refine xA.iconst (v := 1) rfl (by decide) rfl ?_
        refine xA.iadd rfl rfl ?_
        refine xA.topi (nI_1 a) ?_
        refine xA.iload rfl rfl rfl ?_
        refine xA.bipush (v := 13) rfl (by decide) rfl ?_
        refine xA.iconst (v := 3) rfl (by decide) rfl ?_
        refine xA.iload rfl rfl rfl ?_
        refine xA.imul rfl rfl ?_
        refine xA.iadd rfl rfl ?_
        refine xA.ishr rfl rfl ?_
        refine xA.iconst (v := 5) rfl (by decide) rfl ?_
        refine xA.at (N := 5) rfl k11_14 rfl (Nat.le_of_ble_eq_true rfl) (Nat.le_of_ble_eq_true rfl) (Nat.le_of_ble_eq_true rfl) (rfl) (by decide) (by decide) rfl (fun c hc => ?_)
        refine xA.iadd rfl rfl ?_
        refine xA.topi (nI_add _ _) ?_
        refine xA.bipush (v := 6) rfl (by decide) rfl ?_
        refine xA.irem rfl (by decide) rfl ?_
        refine xA.topi (nI_rem (b := 6) (by omega) (by decide) (by decide)) ?_
        have hb : (a + 1 + c) % 6 < 6 := Nat.mod_lt _ (by decide)
        have hab : ¬ (a + 1 + c) % 6 = a := by omega
        generalize (a + 1 + c) % 6 = b at hb hab ⊢
        refine xA.istore (L' := [_, _, _, _, _, _, _, _, _, _, _, _, _]) rfl (Nat.le_of_ble_eq_true rfl) rfl rfl ?_
        refine xA.aload_n (i := 2) rfl rfl rfl rfl ?_
        refine xA.bipush (v := 6) rfl (by decide) rfl ?_
        refine xA.iload rfl rfl rfl ?_
        refine xA.iadd rfl rfl ?_
        refine xA.topi (nI_add 6 a) ?_
        refine xA.iald rfl rfl (vp_in_nI (by omega) (by omega)) rfl ?_
        refine xA.topi (rdA (by omega) (hrh.2.2.2.2.2.1 a ha)) ?_
        refine xA.iload rfl rfl rfl ?_
        refine xA.ishr rfl rfl ?_
        refine xA.iconst (v := 1) rfl (by decide) rfl ?_
        refine xA.iand rfl rfl ?_
        refine xA.topi (bt1_nI _ (hok.2.2.2.2.2.2.2.2.1 a) b hb) ?_
        refine xA.iconst (v := 1) rfl (by decide) rfl ?_
        refine xA.icmp_ne (tgt := 399) rfl rfl rfl (fun h393 => ?_) (fun h393 => ?_)
        · rw [xb_eq1] at h393
          have hnb : (hSr hh a).testBit b = false := by
            cases hz : (hSr hh a).testBit b
            · rfl
            · exact absurd hz h393
          have rest : ∀ S2, fr2 S S2 → S2 54 = iu (iu (S1 54) (6 + a) (nI (hSr hh a ||| 2 ^ b))) (6 + b) (nI (hSr hh b ||| 2 ^ a)) → HX (S2 57) (n + 1) (6, hh.2) → xA (some (N, xs)) (d + 1) mL_houseText 0 0 0 0 448 [some (.retAddr 0), some (.int (0)), some (.ref 54), some (.ref 57), some (.int (x)), some (.int (y)), some (.int (nI (n + 1))), some (.int (nI w)), some (.int (z)), some (.int (nI sg)), some (.int (nI k)), some (.int (nI a)), some (.int (nI b))] [] (σF (τL ρ), S2, G) (fun r h' => ∃ S' n hh, h' = (σF (τL ρ), S', G) ∧ r = some (.int (nI n)) ∧ n ≤ 44 ∧ fr2 S S' ∧ RH (S' 54) hh ∧ HX (S' 57) n hh ∧ (hSt hh = 5 ∨ hSt hh = 8)) := by
            intro S2 hf2 e54 hx2
            refine xA.aload_n (i := 2) rfl rfl rfl rfl ?_
            refine xA.bipush (v := 15) rfl (by decide) rfl ?_
            refine xA.dup2 rfl rfl rfl rfl ?_
            refine xA.iald rfl rfl (vp_in_nI (n := 15) (by decide) (by decide)) rfl ?_
            refine xA.topi (rdA (k := 15) (by decide) (show _ = nI (hNs hh) from by rw [e54, iu_off (by omega), iu_off (by omega)]; exact hrh.2.2.2.1)) ?_
            refine xA.iconst (v := 1) rfl (by decide) rfl ?_
            refine xA.iadd rfl rfl ?_
            refine xA.topi (nI_1 _) ?_
            refine xA.iast rfl rfl (vp_in_nI (n := 15) (by decide) (by decide)) rfl ?_
            rw [show (15 : Int32).toNatClampNeg = 15 from rfl]
            refine xA.aload_n (i := 3) rfl rfl rfl rfl ?_
            refine xA.iload rfl rfl rfl ?_
            refine xA.iinc (L' := [_, _, _, _, _, _, _, _, _, _, _, _, _]) rfl rfl (nI_1 _) rfl rfl ?_
            refine xA.bipush (v := 48) rfl (by decide) rfl ?_
            refine xA.iload rfl rfl rfl ?_
            refine xA.iadd rfl rfl ?_
            refine xA.topi (nI_add 48 a) ?_
            refine xA.iast rfl rfl (vp_in_nI (by omega) (by omega)) rfl ?_
            rw [nI_clamp (show n + 1 < 2 ^ 31 by omega)]
            refine xA.aload_n (i := 3) rfl rfl rfl rfl ?_
            refine xA.iload rfl rfl rfl ?_
            refine xA.iinc (L' := [_, _, _, _, _, _, _, _, _, _, _, _, _]) rfl rfl (nI_1 _) rfl rfl ?_
            refine xA.bipush (v := 48) rfl (by decide) rfl ?_
            refine xA.iload rfl rfl rfl ?_
            refine xA.iadd rfl rfl ?_
            refine xA.topi (nI_add 48 b) ?_
            refine xA.iast rfl rfl (vp_in_nI (by omega) (by omega)) rfl ?_
            rw [nI_clamp (show n + 1 + 1 < 2 ^ 31 by omega)]
            refine xA.iinc (L' := [_, _, _, _, _, _, _, _, _, _, _, _, _]) rfl rfl (nI_1 k) rfl rfl ?_
            refine xA.goto (q := 332) rfl rfl ?_
            exact ih _ (n + 1 + 1 + 1) (hsight hh a b) (((hf2.x54 _ _).x57 _ _).x57 _ _) (by rw [x57_54, x57_54, x54_54, e54]; exact RH_sight hrh ha hb hab) (by rw [x57_57, x57_57, x54_57]; exact hx2.sight rfl ha hb hab hnb) (inS_new hin) _ _
          refine xA.aload_n (i := 2) rfl rfl rfl rfl ?_
          refine xA.bipush (v := 6) rfl (by decide) rfl ?_
          refine xA.iload rfl rfl rfl ?_
          refine xA.iadd rfl rfl ?_
          refine xA.topi (nI_add 6 a) ?_
          refine xA.dup2 rfl rfl rfl rfl ?_
          refine xA.iald rfl rfl (vp_in_nI (by omega) (by omega)) rfl ?_
          refine xA.topi (rdA (by omega) (hrh.2.2.2.2.2.1 a ha)) ?_
          refine xA.iconst (v := 1) rfl (by decide) rfl ?_
          refine xA.iload rfl rfl rfl ?_
          refine xA.ishl rfl rfl ?_
          refine xA.topi (nI_shl b (by omega)) ?_
          refine xA.ior rfl rfl ?_
          refine xA.topi (nI_or _ _) ?_
          refine xA.iast rfl rfl (vp_in_nI (by omega) (by omega)) rfl ?_
          rw [nI_clamp (show 6 + a < 2 ^ 31 by omega)]
          refine xA.aload_n (i := 2) rfl rfl rfl rfl ?_
          refine xA.bipush (v := 6) rfl (by decide) rfl ?_
          refine xA.iload rfl rfl rfl ?_
          refine xA.iadd rfl rfl ?_
          refine xA.topi (nI_add 6 b) ?_
          refine xA.dup2 rfl rfl rfl rfl ?_
          refine xA.iald rfl rfl (vp_in_nI (by omega) (by omega)) rfl ?_
          refine xA.topi (rdA (by omega) (show xu S1 54 (6 + a) _ 54 (6 + b) = nI (hSr hh b) from by rw [x54_54, iu_off (by omega)]; exact hrh.2.2.2.2.2.1 b hb)) ?_
          refine xA.iconst (v := 1) rfl (by decide) rfl ?_
          refine xA.iload rfl rfl rfl ?_
          refine xA.ishl rfl rfl ?_
          refine xA.topi (nI_shl a (by omega)) ?_
          refine xA.ior rfl rfl ?_
          refine xA.topi (nI_or _ _) ?_
          refine xA.iast rfl rfl (vp_in_nI (by omega) (by omega)) rfl ?_
          rw [nI_clamp (show 6 + b < 2 ^ 31 by omega)]
          refine xA.aload_n (i := 3) rfl rfl rfl rfl ?_
          refine xA.iload rfl rfl rfl ?_
          refine xA.iinc (L' := [_, _, _, _, _, _, _, _, _, _, _, _, _]) rfl rfl (nI_1 n) rfl rfl ?_
          refine xA.aload_n (i := 2) rfl rfl rfl rfl ?_
          refine xA.bipush (v := 15) rfl (by decide) rfl ?_
          refine xA.iald rfl rfl (vp_in_nI (n := 15) (by decide) (by decide)) rfl ?_
          refine xA.topi (rdA (k := 15) (by decide) (show _ = nI (hNs hh) from by rw [x54_54, x54_54, iu_off (by omega), iu_off (by omega)]; exact hrh.2.2.2.1)) ?_
          refine xA.if_ne (tgt := 445) rfl rfl rfl (fun h437 => ?_) (fun h437 => ?_)
          · rw [show (0 : Int32) = nI 0 from rfl, nI_eq (by omega) (by omega)] at h437
            refine xA.bipush (v := 44) rfl (by decide) rfl ?_
            refine xA.iast rfl rfl (vp_in_nI (by omega) (by omega)) rfl ?_
            rw [nI_clamp (show n < 2 ^ 31 by omega)]
            first
            | exact rest _ (((hf1.x54 _ _).x54 _ _).x57 _ _) (by rw [x57_54, x54_54, x54_54]) (by rw [x57_57, x54_57, x54_57]; exact hx.semiS (by rcases hin.2.2 with z | z <;> omega))
            | exact rest _ (((hf1.x54 _ _).x54 _ _).x57 _ _) (by rw [x57_54, x54_54, x54_54]) (by rw [x57_57, x54_57, x54_57]; exact hx.commaS (by rcases hin.2.2 with z | z <;> omega) (by rcases hin.2.2 with z | z <;> omega))
          · rw [show (0 : Int32) = nI 0 from rfl, nI_eq (by omega) (by omega)] at h437
            refine xA.bipush (v := 59) rfl (by decide) rfl ?_
            refine xA.goto (q := 447) rfl rfl ?_
            refine xA.iast rfl rfl (vp_in_nI (by omega) (by omega)) rfl ?_
            rw [nI_clamp (show n < 2 ^ 31 by omega)]
            first
            | exact rest _ (((hf1.x54 _ _).x54 _ _).x57 _ _) (by rw [x57_54, x54_54, x54_54]) (by rw [x57_57, x54_57, x54_57]; exact hx.semiS (by rcases hin.2.2 with z | z <;> omega))
            | exact rest _ (((hf1.x54 _ _).x54 _ _).x57 _ _) (by rw [x57_54, x54_54, x54_54]) (by rw [x57_57, x54_57, x54_57]; exact hx.commaS (by rcases hin.2.2 with z | z <;> omega) (by rcases hin.2.2 with z | z <;> omega))
        · rw [xb_eq1] at h393
          refine xA.goto (q := 480) rfl rfl ?_
          refine xA.iinc (L' := [_, _, _, _, _, _, _, _, _, _, _, _, _]) rfl rfl (nI_1 k) rfl rfl ?_
          refine xA.goto (q := 332) rfl rfl ?_
          exact ih S1 n hh hf1 hrh hx (inS_dup hin h393) _ _
    · intro S1 n hh hf1 hrh hx hin x11 x12
      have h10 := hx.ok.2.1
      have h4 := hx.ok.2.2.2.1
      have hn := hin.2.1
      refine xA.iload rfl rfl rfl ?_
      refine xA.iload rfl rfl rfl ?_
      refine xA.icmp_ge (tgt := 486) rfl rfl rfl (fun h336 => ?_) (fun h336 => ?_)
      · refine xA.iload rfl rfl rfl ?_
        exact xA.iret rfl rfl rfl ⟨S1, n, hh, rfl, rfl, by omega, hf1, hrh, hx, by rcases hin.2.2 with z | z <;> omega⟩
      · exact absurd (nI_le (Nat.le_refl _) (by omega)) h336
  have mid : ∀ (x y : Int32) (w : Nat) S1 n hh, fr2 S S1 → HX (S1 57) n hh → RHp (S1 54) hh → hNs hh = 0 → (∀ a, hSr hh a = 0) → 1 ≤ hNd hh → hSt hh = 2 → n + 1 = 3 * hNd hh → ∀ (w8 : Int32) (x9 x10 : Option Value), xA (some (N, xs)) (d + 1) mL_houseText 0 0 0 0 212 [some (.retAddr 0), some (.int (0)), some (.ref 54), some (.ref 57), some (.int (x)), some (.int (y)), some (.int (nI n)), some (.int (nI w)), some (.int (w8)), x9, x10, none, none] [] (σF (τL ρ), S1, G) (fun r h' => ∃ S' n hh, h' = (σF (τL ρ), S', G) ∧ r = some (.int (nI n)) ∧ n ≤ 44 ∧ fr2 S S' ∧ RH (S' 54) hh ∧ HX (S' 57) n hh ∧ (hSt hh = 5 ∨ hSt hh = 8)) := by
    intro x y w S1 n hh hf1 hx hrp hns hsr hd1 hs2 hn w8 x9 x10
    have h10 := hx.ok.2.1
    refine xA.aloadX_n (i := 0) rfl rfl rfl rfl ?_
    refine xA.iload_n (i := 1) rfl rfl rfl rfl ?_
    refine xA.iconst (v := 2) rfl (by decide) rfl ?_
    refine xA.iadd rfl rfl ?_
    refine xA.cell (k := 2) hN rfl k11_8 rfl (Nat.le_of_ble_eq_true rfl) (Nat.le_of_ble_eq_true rfl) (Nat.le_of_ble_eq_true rfl) (rfl) (by decide) rfl (fun z => ?_)
    refine xA.istore (L' := [_, _, _, _, _, _, _, _, _, _, _, _, _]) rfl (Nat.le_of_ble_eq_true rfl) rfl rfl ?_
    refine xA.aload_n (i := 2) rfl rfl rfl rfl ?_
    refine xA.bipush (v := 12) rfl (by decide) rfl ?_
    refine xA.iload rfl rfl rfl ?_
    refine xA.bipush (v := 6) rfl (by decide) rfl ?_
    refine xA.at (N := 6) rfl k11_14 rfl (Nat.le_of_ble_eq_true rfl) (Nat.le_of_ble_eq_true rfl) (Nat.le_of_ble_eq_true rfl) (rfl) (by decide) (by decide) rfl (fun lo hlo => ?_)
    refine xA.iast rfl rfl (vp_in_nI (n := 12) (by decide) (by decide)) rfl ?_
    rw [show (12 : Int32).toNatClampNeg = 12 from rfl]
    have rest1 : ∀ j, j < 9 → xA (some (N, xs)) (d + 1) mL_houseText 0 0 0 0 261 [some (.retAddr 0), some (.int (0)), some (.ref 54), some (.ref 57), some (.int (x)), some (.int (y)), some (.int (nI n)), some (.int (nI w)), some (.int (z)), x9, x10, none, none] [.int (nI j), .int 1, .int 13, .ref 54] (σF (τL ρ), xu S1 54 12 (nI lo), G) (fun r h' => ∃ S' n hh, h' = (σF (τL ρ), S', G) ∧ r = some (.int (nI n)) ∧ n ≤ 44 ∧ fr2 S S' ∧ RH (S' 54) hh ∧ HX (S' 57) n hh ∧ (hSt hh = 5 ∨ hSt hh = 8)) := by
      intro j hj
      refine xA.iadd rfl rfl ?_
      refine xA.topi (nI_add 1 j) ?_
      refine xA.iast rfl rfl (vp_in_nI (n := 13) (by decide) (by decide)) rfl ?_
      rw [show (13 : Int32).toNatClampNeg = 13 from rfl]
      refine xA.aload_n (i := 3) rfl rfl rfl rfl ?_
      refine xA.iload rfl rfl rfl ?_
      refine xA.iinc (L' := [_, _, _, _, _, _, _, _, _, _, _, _, _]) rfl rfl (nI_1 n) rfl rfl ?_
      refine xA.bipush (v := 59) rfl (by decide) rfl ?_
      refine xA.iast rfl rfl (vp_in_nI (by omega) (by omega)) rfl ?_
      rw [nI_clamp (show n < 2 ^ 31 by omega)]
      refine xA.aload_n (i := 3) rfl rfl rfl rfl ?_
      refine xA.iload rfl rfl rfl ?_
      refine xA.iinc (L' := [_, _, _, _, _, _, _, _, _, _, _, _, _]) rfl rfl (nI_1 _) rfl rfl ?_
      refine xA.bipush (v := 48) rfl (by decide) rfl ?_
      refine xA.aload_n (i := 2) rfl rfl rfl rfl ?_
      refine xA.bipush (v := 12) rfl (by decide) rfl ?_
      refine xA.iald rfl rfl (vp_in_nI (n := 12) (by decide) (by decide)) rfl ?_
      refine xA.topi (rdA (k := 12) (by decide) (show _ = nI lo from by rw [x57_54, x54_54, iu_off (by decide), x54_54, iu_at])) ?_
      refine xA.iadd rfl rfl ?_
      refine xA.topi (nI_add 48 lo) ?_
      refine xA.iast rfl rfl (vp_in_nI (by omega) (by omega)) rfl ?_
      rw [nI_clamp (show n + 1 < 2 ^ 31 by omega)]
      refine xA.aload_n (i := 3) rfl rfl rfl rfl ?_
      refine xA.iload rfl rfl rfl ?_
      refine xA.iinc (L' := [_, _, _, _, _, _, _, _, _, _, _, _, _]) rfl rfl (nI_1 _) rfl rfl ?_
      refine xA.bipush (v := 48) rfl (by decide) rfl ?_
      refine xA.aload_n (i := 2) rfl rfl rfl rfl ?_
      refine xA.bipush (v := 13) rfl (by decide) rfl ?_
      refine xA.iald rfl rfl (vp_in_nI (n := 13) (by decide) (by decide)) rfl ?_
      refine xA.topi (rdA (k := 13) (by decide) (show _ = nI (1 + j) from by rw [x57_54, x57_54, x54_54, iu_at])) ?_
      refine xA.iadd rfl rfl ?_
      refine xA.topi (nI_add 48 (1 + j)) ?_
      refine xA.iast rfl rfl (vp_in_nI (by omega) (by omega)) rfl ?_
      rw [nI_clamp (show n + 1 + 1 < 2 ^ 31 by omega)]
      refine xA.iload rfl rfl rfl ?_
      refine xA.bipush (v := 8) rfl (by decide) rfl ?_
      refine xA.ishr rfl rfl ?_
      refine xA.iconst (v := 2) rfl (by decide) rfl ?_
      refine xA.at (N := 2) rfl k11_14 rfl (Nat.le_of_ble_eq_true rfl) (Nat.le_of_ble_eq_true rfl) (Nat.le_of_ble_eq_true rfl) (rfl) (by decide) (by decide) rfl (fun e he => ?_)
      refine xA.if_ne (tgt := 316) rfl rfl rfl (fun h309 => ?_) (fun h309 => ?_)
      · refine xA.iconst (v := 1) rfl (by decide) rfl ?_
        refine xA.iload rfl rfl rfl ?_
        refine xA.bipush (v := 9) rfl (by decide) rfl ?_
        refine xA.ishr rfl rfl ?_
        refine xA.iconst (v := 4) rfl (by decide) rfl ?_
        refine xA.at (N := 4) rfl k11_14 rfl (Nat.le_of_ble_eq_true rfl) (Nat.le_of_ble_eq_true rfl) (Nat.le_of_ble_eq_true rfl) (rfl) (by decide) (by decide) rfl (fun g hg => ?_)
        refine xA.iadd rfl rfl ?_
        refine xA.topi (nI_add 1 g) ?_
        refine xA.istore (L' := [_, _, _, _, _, _, _, _, _, _, _, _, _]) rfl (Nat.le_of_ble_eq_true rfl) rfl rfl ?_
        refine xA.iconst (v := 0) rfl (by decide) rfl ?_
        refine xA.istore (L' := [_, _, _, _, _, _, _, _, _, _, _, _, _]) rfl (Nat.le_of_ble_eq_true rfl) rfl rfl ?_
        exact loop3 x y z w _ (by first | omega | exact Nat.le_of_ble_eq_true rfl) 0 (Nat.zero_le _) _ (n + 1 + 1 + 1) (hlow hh lo (1 + j)) (((((hf1.x54 _ _).x54 _ _).x57 _ _).x57 _ _).x57 _ _) (by rw [x57_54, x57_54, x57_54, x54_54, x54_54]; exact RH_low hrp) (by rw [x57_57, x57_57, x57_57, x54_57, x54_57]; exact hx.low hs2 hlo (by omega) (by omega)) ⟨hd1, by show _ = 3 * hNd hh + 2 + 3 * hNs hh; omega, Or.inl ⟨rfl, hns, rfl, hsr⟩⟩ _ _
      · refine xA.iconst (v := 0) rfl (by decide) rfl ?_
        refine xA.topi ((rfl : (0 : Int32) = nI 0)) ?_
        refine xA.goto (q := 327) rfl rfl ?_
        refine xA.istore (L' := [_, _, _, _, _, _, _, _, _, _, _, _, _]) rfl (Nat.le_of_ble_eq_true rfl) rfl rfl ?_
        refine xA.iconst (v := 0) rfl (by decide) rfl ?_
        refine xA.istore (L' := [_, _, _, _, _, _, _, _, _, _, _, _, _]) rfl (Nat.le_of_ble_eq_true rfl) rfl rfl ?_
        exact loop3 x y z w _ (by first | omega | exact Nat.le_of_ble_eq_true rfl) 0 (Nat.zero_le _) _ (n + 1 + 1 + 1) (hlow hh lo (1 + j)) (((((hf1.x54 _ _).x54 _ _).x57 _ _).x57 _ _).x57 _ _) (by rw [x57_54, x57_54, x57_54, x54_54, x54_54]; exact RH_low hrp) (by rw [x57_57, x57_57, x57_57, x54_57, x54_57]; exact hx.low hs2 hlo (by omega) (by omega)) ⟨hd1, by show _ = 3 * hNd hh + 2 + 3 * hNs hh; omega, Or.inl ⟨rfl, hns, rfl, hsr⟩⟩ _ _
    refine xA.aload_n (i := 2) rfl rfl rfl rfl ?_
    refine xA.bipush (v := 13) rfl (by decide) rfl ?_
    refine xA.iconst (v := 1) rfl (by decide) rfl ?_
    refine xA.iload rfl rfl rfl ?_
    refine xA.iconst (v := 3) rfl (by decide) rfl ?_
    refine xA.ishr rfl rfl ?_
    refine xA.iload rfl rfl rfl ?_
    refine xA.bipush (v := 7) rfl (by decide) rfl ?_
    refine xA.ishr rfl rfl ?_
    refine xA.iconst (v := 2) rfl (by decide) rfl ?_
    refine xA.at (N := 2) rfl k11_14 rfl (Nat.le_of_ble_eq_true rfl) (Nat.le_of_ble_eq_true rfl) (Nat.le_of_ble_eq_true rfl) (rfl) (by decide) (by decide) rfl (fun e he => ?_)
    refine xA.if_ne (tgt := 257) rfl rfl rfl (fun h249 => ?_) (fun h249 => ?_)
    · refine xA.iconst (v := 3) rfl (by decide) rfl ?_
      first
      | exact xA.at (N := 9) rfl k11_14 rfl (Nat.le_of_ble_eq_true rfl) (Nat.le_of_ble_eq_true rfl) (Nat.le_of_ble_eq_true rfl) rfl (by decide) (by decide) rfl (fun j hj => rest1 j (by omega))
      | exact xA.at (N := 3) rfl k11_14 rfl (Nat.le_of_ble_eq_true rfl) (Nat.le_of_ble_eq_true rfl) (Nat.le_of_ble_eq_true rfl) rfl (by decide) (by decide) rfl (fun j hj => rest1 j (by omega))
    · refine xA.bipush (v := 9) rfl (by decide) rfl ?_
      refine xA.goto (q := 258) rfl rfl ?_
      first
      | exact xA.at (N := 9) rfl k11_14 rfl (Nat.le_of_ble_eq_true rfl) (Nat.le_of_ble_eq_true rfl) (Nat.le_of_ble_eq_true rfl) rfl (by decide) (by decide) rfl (fun j hj => rest1 j (by omega))
      | exact xA.at (N := 3) rfl k11_14 rfl (Nat.le_of_ble_eq_true rfl) (Nat.le_of_ble_eq_true rfl) (Nat.le_of_ble_eq_true rfl) rfl (by decide) (by decide) rfl (fun j hj => rest1 j (by omega))
  have loop2 : ∀ (x y : Int32) (w : Nat), 1 ≤ w → w ≤ 10 → ∀ k, k ≤ w → ∀ S1 n hh, fr2 S S1 → HX (S1 57) n hh → RHp (S1 54) hh → inD k n hh → ∀ x9 x10 : Option Value, xA (some (N, xs)) (d + 1) mL_houseText 0 0 0 0 54 [some (.retAddr 0), some (.int (0)), some (.ref 54), some (.ref 57), some (.int (x)), some (.int (y)), some (.int (nI n)), some (.int (nI w)), some (.int (nI k)), x9, x10, none, none] [] (σF (τL ρ), S1, G) (fun r h' => ∃ S' n hh, h' = (σF (τL ρ), S', G) ∧ r = some (.int (nI n)) ∧ n ≤ 44 ∧ fr2 S S' ∧ RH (S' 54) hh ∧ HX (S' 57) n hh ∧ (hSt hh = 5 ∨ hSt hh = 8)) := by
    intro x y w hw1 hw
    refine xloop w (fun k hk ih => ?_) ?_
    · intro S1 n hh hf1 hx hrp hin x9 x10
      have hkd := inD_le hin
      have hn : n ≤ 3 * hNd hh := by
        rcases hin.2.2 with z | z
        · rw [z.2.1]; exact Nat.zero_le _
        · omega
      refine xA.iload rfl rfl rfl ?_
      refine xA.iload rfl rfl rfl ?_
      refine xA.icmp_ge (tgt := 212) rfl rfl rfl (fun h58 => ?_) (fun h58 => ?_)
      · exact absurd h58 (nI_ge hk (by omega))
      · refine xA.iload rfl rfl rfl ?_
        refine xA.iconst (v := 3) rfl (by decide) rfl ?_
        refine xA.iload rfl rfl rfl ?_
        refine xA.imul rfl rfl ?_
        refine xA.ishr rfl rfl ?_
        refine xA.bipush (v := 6) rfl (by decide) rfl ?_
        refine xA.at (N := 6) rfl k11_14 rfl (Nat.le_of_ble_eq_true rfl) (Nat.le_of_ble_eq_true rfl) (Nat.le_of_ble_eq_true rfl) (rfl) (by decide) (by decide) rfl (fun a ha => ?_)
        refine xA.istore (L' := [_, _, _, _, _, _, _, _, _, _, _, _, _]) rfl (Nat.le_of_ble_eq_true rfl) rfl rfl ?_
        refine xA.iload rfl rfl rfl ?_
        refine xA.iconst (v := 1) rfl (by decide) rfl ?_
        refine xA.iadd rfl rfl ?_
        refine xA.topi (nI_1 a) ?_
        refine xA.iload rfl rfl rfl ?_
        refine xA.iconst (v := 2) rfl (by decide) rfl ?_
        refine xA.iconst (v := 2) rfl (by decide) rfl ?_
        refine xA.iload rfl rfl rfl ?_
        refine xA.imul rfl rfl ?_
        refine xA.iadd rfl rfl ?_
        refine xA.ishr rfl rfl ?_
        refine xA.iconst (v := 5) rfl (by decide) rfl ?_
        refine xA.at (N := 5) rfl k11_14 rfl (Nat.le_of_ble_eq_true rfl) (Nat.le_of_ble_eq_true rfl) (Nat.le_of_ble_eq_true rfl) (rfl) (by decide) (by decide) rfl (fun c hc => ?_)
        refine xA.iadd rfl rfl ?_
        refine xA.topi (nI_add _ _) ?_
        refine xA.bipush (v := 6) rfl (by decide) rfl ?_
        refine xA.irem rfl (by decide) rfl ?_
        refine xA.topi (nI_rem (b := 6) (by omega) (by decide) (by decide)) ?_
        have hb : (a + 1 + c) % 6 < 6 := Nat.mod_lt _ (by decide)
        have hab : ¬ (a + 1 + c) % 6 = a := by omega
        generalize (a + 1 + c) % 6 = b at hb hab ⊢
        obtain ⟨p, hp64, hpA, hpt⟩ := hrp.2.2.1 a ha
        obtain ⟨q, hq64, hqA, hqt⟩ := hrp.2.2.1 b hb
        refine xA.istore (L' := [_, _, _, _, _, _, _, _, _, _, _, _, _]) rfl (Nat.le_of_ble_eq_true rfl) rfl rfl ?_
        refine xA.aload_n (i := 2) rfl rfl rfl rfl ?_
        refine xA.iload rfl rfl rfl ?_
        refine xA.iald rfl rfl (vp_in_nI (by omega) (by omega)) rfl ?_
        refine xA.topi (rdA (by omega) hpA) ?_
        refine xA.iload rfl rfl rfl ?_
        refine xA.ishr rfl rfl ?_
        refine xA.iconst (v := 1) rfl (by decide) rfl ?_
        refine xA.iand rfl rfl ?_
        refine xA.topi (bt1_nI p hp64 b hb) ?_
        refine xA.iconst (v := 1) rfl (by decide) rfl ?_
        refine xA.icmp_ne (tgt := 114) rfl rfl rfl (fun h108 => ?_) (fun h108 => ?_)
        · rw [xb_eq1, hpt b hb, decide_eq_true_eq] at h108
          have hd0 : hD hh (a * 6 + b) = 0 := Decidable.not_not.mp h108
          have rest : ∀ S2 n2, fr2 S S2 → S2 54 = iu (iu (S1 54) a (nI (p ||| 2 ^ b))) b (nI (q ||| 2 ^ a)) → HX (S2 57) n2 (0, hh.2) → n2 = 3 * hNd hh → xA (some (N, xs)) (d + 1) mL_houseText 0 0 0 0 152 [some (.retAddr 0), some (.int (0)), some (.ref 54), some (.ref 57), some (.int (x)), some (.int (y)), some (.int (nI n2)), some (.int (nI w)), some (.int (nI k)), some (.int (nI a)), some (.int (nI b)), none, none] [] (σF (τL ρ), S2, G) (fun r h' => ∃ S' n hh, h' = (σF (τL ρ), S', G) ∧ r = some (.int (nI n)) ∧ n ≤ 44 ∧ fr2 S S' ∧ RH (S' 54) hh ∧ HX (S' 57) n hh ∧ (hSt hh = 5 ∨ hSt hh = 8)) := by
            intro S2 n2 hf2 e54 hx2 hn2
            refine xA.aload_n (i := 2) rfl rfl rfl rfl ?_
            refine xA.bipush (v := 16) rfl (by decide) rfl ?_
            refine xA.aload_n (i := 2) rfl rfl rfl rfl ?_
            refine xA.bipush (v := 14) rfl (by decide) rfl ?_
            refine xA.iald rfl rfl (vp_in_nI (n := 14) (by decide) (by decide)) rfl ?_
            refine xA.topi (rdA (k := 14) (by decide) (show _ = nI (hNd hh) from by rw [e54, iu_off (by omega), iu_off (by omega)]; exact hrp.1)) ?_
            refine xA.iadd rfl rfl ?_
            refine xA.topi (nI_add 16 _) ?_
            refine xA.iload rfl rfl rfl ?_
            refine xA.iast rfl rfl (vp_in_nI (by omega) (by omega)) rfl ?_
            rw [nI_clamp (show 16 + hNd hh < 2 ^ 31 by omega)]
            refine xA.aload_n (i := 2) rfl rfl rfl rfl ?_
            refine xA.bipush (v := 26) rfl (by decide) rfl ?_
            refine xA.aload_n (i := 2) rfl rfl rfl rfl ?_
            refine xA.bipush (v := 14) rfl (by decide) rfl ?_
            refine xA.iald rfl rfl (vp_in_nI (n := 14) (by decide) (by decide)) rfl ?_
            refine xA.topi (rdA (k := 14) (by decide) (show _ = nI (hNd hh) from by rw [x54_54, iu_off (by omega)]; rw [e54, iu_off (by omega), iu_off (by omega)]; exact hrp.1)) ?_
            refine xA.iadd rfl rfl ?_
            refine xA.topi (nI_add 26 _) ?_
            refine xA.iload rfl rfl rfl ?_
            refine xA.iast rfl rfl (vp_in_nI (by omega) (by omega)) rfl ?_
            rw [nI_clamp (show 26 + hNd hh < 2 ^ 31 by omega)]
            refine xA.aload_n (i := 2) rfl rfl rfl rfl ?_
            refine xA.bipush (v := 14) rfl (by decide) rfl ?_
            refine xA.dup2 rfl rfl rfl rfl ?_
            refine xA.iald rfl rfl (vp_in_nI (n := 14) (by decide) (by decide)) rfl ?_
            refine xA.topi (rdA (k := 14) (by decide) (show _ = nI (hNd hh) from by rw [x54_54, iu_off (by omega), x54_54, iu_off (by omega)]; rw [e54, iu_off (by omega), iu_off (by omega)]; exact hrp.1)) ?_
            refine xA.iconst (v := 1) rfl (by decide) rfl ?_
            refine xA.iadd rfl rfl ?_
            refine xA.topi (nI_1 _) ?_
            refine xA.iast rfl rfl (vp_in_nI (n := 14) (by decide) (by decide)) rfl ?_
            rw [show (14 : Int32).toNatClampNeg = 14 from rfl]
            refine xA.aload_n (i := 3) rfl rfl rfl rfl ?_
            refine xA.iload rfl rfl rfl ?_
            refine xA.iinc (L' := [_, _, _, _, _, _, _, _, _, _, _, _, _]) rfl rfl (nI_1 _) rfl rfl ?_
            refine xA.bipush (v := 48) rfl (by decide) rfl ?_
            refine xA.iload rfl rfl rfl ?_
            refine xA.iadd rfl rfl ?_
            refine xA.topi (nI_add 48 a) ?_
            refine xA.iast rfl rfl (vp_in_nI (by omega) (by omega)) rfl ?_
            rw [nI_clamp (show n2 < 2 ^ 31 by omega)]
            refine xA.aload_n (i := 3) rfl rfl rfl rfl ?_
            refine xA.iload rfl rfl rfl ?_
            refine xA.iinc (L' := [_, _, _, _, _, _, _, _, _, _, _, _, _]) rfl rfl (nI_1 _) rfl rfl ?_
            refine xA.bipush (v := 48) rfl (by decide) rfl ?_
            refine xA.iload rfl rfl rfl ?_
            refine xA.iadd rfl rfl ?_
            refine xA.topi (nI_add 48 b) ?_
            refine xA.iast rfl rfl (vp_in_nI (by omega) (by omega)) rfl ?_
            rw [nI_clamp (show n2 + 1 < 2 ^ 31 by omega)]
            refine xA.iinc (L' := [_, _, _, _, _, _, _, _, _, _, _, _, _]) rfl rfl (nI_1 k) rfl rfl ?_
            refine xA.goto (q := 54) rfl rfl ?_
            exact ih _ (n2 + 1 + 1) (hdoor hh a b) (((((hf2.x54 _ _).x54 _ _).x54 _ _).x57 _ _).x57 _ _) (by rw [x57_57, x57_57, x54_57, x54_57, x54_57]; exact hx2.door rfl ha hb hab hd0) (by rw [x57_54, x57_54, x54_54, x54_54, x54_54, e54]; exact RHp_door hrp ha hb hab hp64 hpt hq64 hqt (by omega)) (inD_new hin hn2) _ _
          refine xA.aload_n (i := 2) rfl rfl rfl rfl ?_
          refine xA.iload rfl rfl rfl ?_
          refine xA.dup2 rfl rfl rfl rfl ?_
          refine xA.iald rfl rfl (vp_in_nI (by omega) (by omega)) rfl ?_
          refine xA.topi (rdA (by omega) hpA) ?_
          refine xA.iconst (v := 1) rfl (by decide) rfl ?_
          refine xA.iload rfl rfl rfl ?_
          refine xA.ishl rfl rfl ?_
          refine xA.topi (nI_shl b (by omega)) ?_
          refine xA.ior rfl rfl ?_
          refine xA.topi (nI_or _ _) ?_
          refine xA.iast rfl rfl (vp_in_nI (by omega) (by omega)) rfl ?_
          rw [nI_clamp (show a < 2 ^ 31 by omega)]
          refine xA.aload_n (i := 2) rfl rfl rfl rfl ?_
          refine xA.iload rfl rfl rfl ?_
          refine xA.dup2 rfl rfl rfl rfl ?_
          refine xA.iald rfl rfl (vp_in_nI (by omega) (by omega)) rfl ?_
          refine xA.topi (rdA (by omega) (show xu S1 54 a _ 54 b = nI q from by rw [x54_54, iu_off hab]; exact hqA)) ?_
          refine xA.iconst (v := 1) rfl (by decide) rfl ?_
          refine xA.iload rfl rfl rfl ?_
          refine xA.ishl rfl rfl ?_
          refine xA.topi (nI_shl a (by omega)) ?_
          refine xA.ior rfl rfl ?_
          refine xA.topi (nI_or _ _) ?_
          refine xA.iast rfl rfl (vp_in_nI (by omega) (by omega)) rfl ?_
          rw [nI_clamp (show b < 2 ^ 31 by omega)]
          refine xA.aload_n (i := 2) rfl rfl rfl rfl ?_
          refine xA.bipush (v := 14) rfl (by decide) rfl ?_
          refine xA.iald rfl rfl (vp_in_nI (n := 14) (by decide) (by decide)) rfl ?_
          refine xA.topi (rdA (k := 14) (by decide) (show _ = nI (hNd hh) from by rw [x54_54, iu_off (by omega), x54_54, iu_off (by omega)]; exact hrp.1)) ?_
          refine xA.if_le (tgt := 152) rfl rfl rfl (fun h140 => ?_) (fun h140 => ?_)
          · rw [show (0 : Int32) = nI 0 from rfl, nI_leI (by omega) (by omega)] at h140
            first
            | exact rest _ n ((hf1.x54 _ _).x54 _ _) (by rw [x54_54, x54_54]) (by rw [x54_57, x54_57]; rcases hin.2.2 with z | z; (· rw [z.2.2] at hx ⊢; exact hx); (· omega)) (by rcases hin.2.2 with z | z <;> omega)
            | exact rest _ (n + 1) (((hf1.x54 _ _).x54 _ _).x57 _ _) (by rw [x57_54, x54_54, x54_54]) (by rw [x57_57, x54_57, x54_57]; exact hx.comma (by rcases hin.2.2 with z | z; (· have := z.2.2; subst this; exact absurd (Nat.le_refl 0) h140); (· omega)) (by omega)) (by rcases hin.2.2 with z | z; (· have := z.2.2; subst this; exact absurd (Nat.le_refl 0) h140); (· omega))
          · rw [show (0 : Int32) = nI 0 from rfl, nI_leI (by omega) (by omega)] at h140
            refine xA.aload_n (i := 3) rfl rfl rfl rfl ?_
            refine xA.iload rfl rfl rfl ?_
            refine xA.iinc (L' := [_, _, _, _, _, _, _, _, _, _, _, _, _]) rfl rfl (nI_1 n) rfl rfl ?_
            refine xA.bipush (v := 44) rfl (by decide) rfl ?_
            refine xA.iast rfl rfl (vp_in_nI (by omega) (by omega)) rfl ?_
            rw [nI_clamp (show n < 2 ^ 31 by omega)]
            first
            | exact rest _ n ((hf1.x54 _ _).x54 _ _) (by rw [x54_54, x54_54]) (by rw [x54_57, x54_57]; rcases hin.2.2 with z | z; (· rw [z.2.2] at hx ⊢; exact hx); (· omega)) (by rcases hin.2.2 with z | z <;> omega)
            | exact rest _ (n + 1) (((hf1.x54 _ _).x54 _ _).x57 _ _) (by rw [x57_54, x54_54, x54_54]) (by rw [x57_57, x54_57, x54_57]; exact hx.comma (by rcases hin.2.2 with z | z; (· have := z.2.2; subst this; exact absurd (Nat.le_refl 0) h140); (· omega)) (by omega)) (by rcases hin.2.2 with z | z; (· have := z.2.2; subst this; exact absurd (Nat.le_refl 0) h140); (· omega))
        · rw [xb_eq1, hpt b hb, decide_eq_true_eq] at h108
          refine xA.goto (q := 206) rfl rfl ?_
          refine xA.iinc (L' := [_, _, _, _, _, _, _, _, _, _, _, _, _]) rfl rfl (nI_1 k) rfl rfl ?_
          refine xA.goto (q := 54) rfl rfl ?_
          exact ih S1 n hh hf1 hx hrp (inD_dup hin h108) _ _
    · intro S1 n hh hf1 hx hrp hin x9 x10
      refine xA.iload rfl rfl rfl ?_
      refine xA.iload rfl rfl rfl ?_
      refine xA.icmp_ge (tgt := 212) rfl rfl rfl (fun h58 => ?_) (fun h58 => ?_)
      · exact mid x y w S1 n hh hf1 hx hrp hin.1 hin.2.1 (by rcases hin.2.2 with z | z <;> omega) (by rcases hin.2.2 with z | z <;> omega) (by rcases hin.2.2 with z | z <;> omega) _ _ _
      · exact absurd (nI_le (Nat.le_refl _) (by omega)) h58
  have loop1 : ∀ (x y : Int32) i, i ≤ 36 → ∀ S1, fr2 S S1 → (∀ j, j < i → S1 54 j = 0) → xA (some (N, xs)) (d + 1) mL_houseText 0 0 0 0 22 [some (.retAddr 0), some (.int (0)), some (.ref 54), some (.ref 57), some (.int (x)), some (.int (y)), some (.int (0)), some (.int (nI i)), none, none, none, none, none] [] (σF (τL ρ), S1, G) (fun r h' => ∃ S' n hh, h' = (σF (τL ρ), S', G) ∧ r = some (.int (nI n)) ∧ n ≤ 44 ∧ fr2 S S' ∧ RH (S' 54) hh ∧ HX (S' 57) n hh ∧ (hSt hh = 5 ∨ hSt hh = 8)) := by
    intro x y
    refine xloop 36 (fun i hi ih => ?_) ?_
    · intro S1 hf1 hz
      refine xA.iload rfl rfl rfl ?_
      refine xA.bipush (v := 36) rfl (by decide) rfl ?_
      refine xA.icmp_ge (tgt := 40) rfl rfl rfl (fun h26 => ?_) (fun h26 => ?_)
      · exact absurd h26 (nI_ge (b := 36) hi (by decide))
      · refine xA.aload_n (i := 2) rfl rfl rfl rfl ?_
        refine xA.iload rfl rfl rfl ?_
        refine xA.iconst (v := 0) rfl (by decide) rfl ?_
        refine xA.iast rfl rfl (vp_in_nI (by omega) (by omega)) rfl ?_
        rw [nI_clamp (show i < 2 ^ 31 by omega)]
        refine xA.iinc (L' := [_, _, _, _, _, _, _, _, _, _, _, _, _]) rfl rfl (nI_1 i) rfl rfl ?_
        refine xA.goto (q := 22) rfl rfl ?_
        exact ih _ (hf1.x54 _ _) (fun j hj => by
          rw [x54_54]
          by_cases e : j = i
          · rw [e, iu_at]
          · rw [iu_off e]; exact hz j (by omega))
    · intro S1 hf1 hz
      refine xA.iload rfl rfl rfl ?_
      refine xA.bipush (v := 36) rfl (by decide) rfl ?_
      refine xA.icmp_ge (tgt := 40) rfl rfl rfl (fun h26 => ?_) (fun h26 => ?_)
      · refine xA.iconst (v := 1) rfl (by decide) rfl ?_
        refine xA.iload rfl rfl rfl ?_
        refine xA.bipush (v := 10) rfl (by decide) rfl ?_
        refine xA.at (N := 10) rfl k11_14 rfl (Nat.le_of_ble_eq_true rfl) (Nat.le_of_ble_eq_true rfl) (Nat.le_of_ble_eq_true rfl) (rfl) (by decide) (by decide) rfl (fun j hj => ?_)
        refine xA.iadd rfl rfl ?_
        refine xA.topi (nI_add 1 j) ?_
        refine xA.istore (L' := [_, _, _, _, _, _, _, _, _, _, _, _, _]) rfl (Nat.le_of_ble_eq_true rfl) rfl rfl ?_
        refine xA.iconst (v := 0) rfl (by decide) rfl ?_
        refine xA.istore (L' := [_, _, _, _, _, _, _, _, _, _, _, _, _]) rfl (Nat.le_of_ble_eq_true rfl) rfl rfl ?_
        exact loop2 x y (1 + j) (by omega) (by omega) 0 (Nat.zero_le _) S1 0 h0 hf1 HX.zero (RHp_0 hz) ⟨rfl, fun _ => rfl, Or.inl ⟨rfl, rfl, rfl⟩⟩ _ _
      · exact absurd (nI_le (a := 36) (b := 36) (Nat.le_refl _) (by decide)) h26
  refine xA.aloadX_n (i := 0) rfl rfl rfl rfl ?_
  refine xA.iload_n (i := 1) rfl rfl rfl rfl ?_
  refine xA.cell (k := 0) hN rfl k11_8 rfl (Nat.le_of_ble_eq_true rfl) (Nat.le_of_ble_eq_true rfl) (Nat.le_of_ble_eq_true rfl) (rfl) (by decide) rfl (fun x => ?_)
  refine xA.istore (L' := [_, _, _, _, _, _, _, _, _, _, _, _, _]) rfl (Nat.le_of_ble_eq_true rfl) rfl rfl ?_
  refine xA.aloadX_n (i := 0) rfl rfl rfl rfl ?_
  refine xA.iload_n (i := 1) rfl rfl rfl rfl ?_
  refine xA.iconst (v := 1) rfl (by decide) rfl ?_
  refine xA.iadd rfl rfl ?_
  refine xA.cell (k := 1) hN rfl k11_8 rfl (Nat.le_of_ble_eq_true rfl) (Nat.le_of_ble_eq_true rfl) (Nat.le_of_ble_eq_true rfl) (rfl) (by decide) rfl (fun y => ?_)
  refine xA.istore (L' := [_, _, _, _, _, _, _, _, _, _, _, _, _]) rfl (Nat.le_of_ble_eq_true rfl) rfl rfl ?_
  refine xA.iconst (v := 0) rfl (by decide) rfl ?_
  refine xA.istore (L' := [_, _, _, _, _, _, _, _, _, _, _, _, _]) rfl (Nat.le_of_ble_eq_true rfl) rfl rfl ?_
  refine xA.iconst (v := 0) rfl (by decide) rfl ?_
  refine xA.istore (L' := [_, _, _, _, _, _, _, _, _, _, _, _, _]) rfl (Nat.le_of_ble_eq_true rfl) rfl rfl ?_
  exact loop1 x y 0 (Nat.zero_le _) S (fun _ _ _ => rfl) (fun j hj => absurd hj (Nat.not_lt_zero _))

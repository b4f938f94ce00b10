variable {ρ : List xSh}
/-! ===== people ===== -/
/-- the people, in the law's rows -/
def PL (S : Nat → Nat → Int32) (s : sS) : Prop := S 55 0 = nI (sP s) ∧ sP s ≤ 3 ∧ (∀ k, k < sP s → S 55 (1 + k) = nI (sKd s k) ∧ sKd s k < 5 ∧ RL1 (S 55) (S 56) k (sL s k) ∧ lTh (sL s k) = lDn (sL s k)) ∧ (sP s = 0 → S 55 5 = 0)
/-- what people() leaves as it was -/
def sR (s s' : sS) : Prop := sHr s' = sHr s ∧ sH s' = sH s ∧ sTk s' = sTk s ∧ sGl s' = sGl s ∧ sN s' = 0
def pS (s : sS) (k kd : Nat) : sS := mkS s (sPg s) (sN s) (sHr s) (sH s) (k + 1) (nu (sKd s) k kd) (lu (sL s) k lE) (sTk s) (sGl s) (sSd s) (sIm s)
def fS (s : sS) (k : Nat) (l : lS) : sS := mkS s (fun _ => 0) 0 (sHr s) (sH s) (sP s) (sKd s) (lu (sL s) k l) (sTk s) (sGl s) (sSd s) (sIm s)
theorem lu_same {f : Nat → lS} {k : Nat} {v : lS} : lu f k v k = v := by simp [lu]
theorem lu_ne {f : Nat → lS} {k j : Nat} {v : lS} (h : j ≠ k) : lu f k v j = f j := by simp [lu, h]
theorem person_ok {s : sS} {k kd : Nat} (hP : sP s = k) (hk : k < 4) (hkd : kd < 5) (hr : 0 < sHr s) : aPerson s (nI kd) = nI k ∧ tPerson s (nI kd) = pS s k kd := by
  subst hP
  have h5 : rg (nI kd) 5 := rg_of hkd (by decide)
  constructor
  · rw [aPerson, if_pos h5, if_neg (by omega), if_neg (by omega)]
  · rw [tPerson, if_pos ⟨h5, by omega, by omega⟩, nI_clamp (by omega)]; rfl
theorem life_ok {s : sS} {k n : Nat} {l : lS} (hk : k < sP s) (h4 : sP s ≤ 4) (hl : lread (hD (sH s)) (hLo (sH s)) (lpN (sH s) (sKd s k)) (sPg s) (sN s) = some l) : aLife s (nI k) = nI (lN' l) ∧ tLife s (nI k) = fS s k l := by
  have h5 : rg (nI k) (sP s) := rg_of hk (by omega)
  constructor
  · rw [aLife, if_pos h5, nI_clamp (by omega), hl]
  · rw [tLife, if_pos h5, nI_clamp (by omega), hl]; rfl
theorem PL_person {S S3 : Nat → Nat → Int32} {s : sS} {k kd : Nat} (hp : PL S s) (hP : sP s = k) (hk : k < 3) (hkd : kd < 5) (e5 : S3 55 = iu (iu (iu (S 55) (1 + k) (nI kd)) (5 + k) 0) 0 (nI (k + 1))) (e6 : S3 56 = S 56) : PL S3 (pS s k kd) := by
  subst hP
  refine ⟨by rw [e5, iu_at]; rfl, by show sP s + 1 ≤ 3; omega, fun j hj => ?_, fun z => absurd (show sP s + 1 = 0 from z) (by omega)⟩
  have hj2 : j < sP s + 1 := hj
  rw [e5, e6]
  show _ = nI (nu (sKd s) (sP s) kd j) ∧ nu (sKd s) (sP s) kd j < 5 ∧ RL1 _ _ j (lu (sL s) (sP s) lE j) ∧ lTh (lu (sL s) (sP s) lE j) = lDn (lu (sL s) (sP s) lE j)
  by_cases e : j = sP s
  · subst e
    rw [nu_same, lu_same, iu_off (by omega), iu_off (by omega), iu_at]
    exact ⟨rfl, hkd, ⟨by rw [iu_off (by omega), iu_at]; rfl, by show 0 ≤ 17; decide, fun i hi => absurd hi (Nat.not_lt_zero _)⟩, rfl⟩
  · have h := hp.2.2.1 j (by omega)
    rw [nu_ne e, lu_ne e, iu_off (by omega), iu_off (by omega), iu_off (by omega)]
    exact ⟨h.1, h.2.1, ⟨by rw [iu_off (by omega), iu_off (by omega), iu_off (by omega)]; exact h.2.2.1.1, h.2.2.1.2⟩, h.2.2.2⟩
theorem PL_life {S S7 : Nat → Nat → Int32} {s : sS} {k : Nat} {l : lS} (hp : PL S s) (hP : sP s = k + 1) (e5 : ∀ i, i ≠ 5 + k → S7 55 i = S 55 i) (e6 : ∀ i, i < 17 * k → S7 56 i = S 56 i) (hl : RL1 (S7 55) (S7 56) k l) (hd : lTh l = lDn l) : PL S7 (fS s k l) := by
  have h3 := hp.2.1
  refine ⟨by rw [e5 0 (by omega)]; exact hp.1, hp.2.1, fun j hj => ?_, fun z => absurd (hP.symm.trans z) (by omega)⟩
  have hj2 : j < sP s := hj
  show _ = nI (sKd s j) ∧ sKd s j < 5 ∧ RL1 _ _ j (lu (sL s) k l j) ∧ lTh (lu (sL s) k l j) = lDn (lu (sL s) k l j)
  have h := hp.2.2.1 j hj2
  rw [e5 (1 + j) (by omega)]
  refine ⟨h.1, h.2.1, ?_⟩
  by_cases e : j = k
  · subst e
    rw [lu_same]
    exact ⟨hl, hd⟩
  · rw [lu_ne e]
    have h17 := h.2.2.1.2.1
    exact ⟨⟨by rw [e5 _ (by omega)]; exact h.2.2.1.1, h17, fun i hi => by rw [e6 _ (by omega)]; exact h.2.2.1.2.2 i hi⟩, h.2.2.2⟩

set_option maxRecDepth 100000 in
set_option maxHeartbeats 1000000 in
theorem c_L_people (d : Nat) (S : Nat → Nat → Int32) (G : Nat → Nat → Int64) (N : Nat) (xs : Nat → Int32) (hN260 : N ≤ 260) (s : sS) (hc : CS S s) (hN : sN s = 0) (hP : sP s = 0) (hr : 0 < sHr s) (hh : RH (S 54) (sH s)) (h0 : ∀ i, i < 8 → S 55 i = 0) : xCs (some (N, xs)) (d + 7) mL_people [.ref 0, .retAddr 0, .int 3, .int 0, .ref 54, .ref 55, .ref 56, .ref 57] (σF (τL ρ), S, G) 0 0 (fun r h' => r = some (.int 1) ∧ ∃ S' s', h' = (σF (τL ρ), S', G) ∧ CS S' s' ∧ PL S' s' ∧ S' 54 = S 54 ∧ sR s s') := by
  refine xCs.of okL_people (Nat.le_of_ble_eq_true rfl) (L := [_, _, _, _, _, _, _, _, _, _, _, _, _]) rfl ?_
  obtain ⟨hsd, -⟩ := hc.2.1.2.2.2 hr
  have hlo : hLo (sH s) < 6 := hsd.2.1.2.2.2.2.2.1 (by have := hsd.2.2; omega)
  have hbb := hsd.2.1.2.2.2.2.2.2.1 hsd.2.2
  have hba1 := hbb.1
  have hba := hbb.2
  have loop : ∀ mj, mj < 4 → ∀ k, k ≤ mj → ∀ S1 s1, CS S1 s1 → PL S1 s1 → sP s1 = k → S1 54 = S 54 → sR s s1 → ∀ x10 x11 x12 : Option Value, xA (some (N, xs)) (d + 7) mL_people 0 0 0 0 18 [some (.ref 0), some (.retAddr 0), some (.int (3)), some (.int (0)), some (.ref 54), some (.ref 55), some (.ref 56), some (.ref 57), some (.int (nI mj)), some (.int (nI k)), x10, x11, x12] [] (σF (τL ρ), S1, G) (fun r h' => r = some (.int 1) ∧ ∃ S' s', h' = (σF (τL ρ), S', G) ∧ CS S' s' ∧ PL S' s' ∧ S' 54 = S 54 ∧ sR s s') := by
    intro mj hmj
    refine xloop mj (fun k hk ih => ?_) ?_
    · intro S1 s1 hc1 hp1 hP1 e541 hs1 x10 x11 x12
      refine xA.iload rfl rfl rfl ?_
      refine xA.iload rfl rfl rfl ?_
      refine xA.icmp_ge (tgt := 222) rfl rfl rfl (fun h22 => ?_) (fun h22 => ?_)
      · exact absurd h22 (nI_ge hk (by omega))
      · refine xA.aloadX_n (i := 1) rfl rfl rfl rfl ?_
        refine xA.iload_n (i := 2) rfl rfl rfl rfl ?_
        refine xA.iconst (v := 1) rfl (by decide) rfl ?_
        refine xA.iadd rfl rfl ?_
        refine xA.topi ((rfl : (3 : Int32) + 1 = nI 4)) ?_
        refine xA.iconst (v := 3) rfl (by decide) rfl ?_
        refine xA.iload rfl rfl rfl ?_
        refine xA.imul rfl rfl ?_
        refine xA.topi (nI_mul 3 k) ?_
        refine xA.iadd rfl rfl ?_
        refine xA.topi (nI_add 4 _) ?_
        refine xA.cell (k := 4 + 3 * k) hN260 rfl k11_8 rfl (Nat.le_of_ble_eq_true rfl) (Nat.le_of_ble_eq_true rfl) (Nat.le_of_ble_eq_true rfl) (rfl) (by omega) rfl (fun x10 => ?_)
        refine xA.istore (L' := [_, _, _, _, _, _, _, _, _, _, _, _, _]) rfl (Nat.le_of_ble_eq_true rfl) rfl rfl ?_
        refine xA.aloadX_n (i := 1) rfl rfl rfl rfl ?_
        refine xA.iload_n (i := 2) rfl rfl rfl rfl ?_
        refine xA.cell (k := 3) hN260 rfl k11_8 rfl (Nat.le_of_ble_eq_true rfl) (Nat.le_of_ble_eq_true rfl) (Nat.le_of_ble_eq_true rfl) (rfl) (by decide) rfl (fun x11 => ?_)
        refine xA.iconst (v := 3) rfl (by decide) rfl ?_
        refine xA.iconst (v := 3) rfl (by decide) rfl ?_
        refine xA.iload rfl rfl rfl ?_
        refine xA.imul rfl rfl ?_
        refine xA.topi (nI_mul 3 k) ?_
        refine xA.iadd rfl rfl ?_
        refine xA.topi (nI_add 3 _) ?_
        refine xA.ishr rfl rfl ?_
        refine xA.bipush (v := 7) rfl (by decide) rfl ?_
        refine xA.at (N := 7) rfl k11_14 rfl (Nat.le_of_ble_eq_true rfl) (Nat.le_of_ble_eq_true rfl) (Nat.le_of_ble_eq_true rfl) (rfl) (by decide) (by decide) rfl (fun so hso => ?_)
        refine xA.istore (L' := [_, _, _, _, _, _, _, _, _, _, _, _, _]) rfl (Nat.le_of_ble_eq_true rfl) rfl rfl ?_
        have rest : ∀ kd, kd < 5 → xA (some (N, xs)) (d + 7) mL_people 0 0 0 0 78 [some (.ref 0), some (.retAddr 0), some (.int (3)), some (.int (0)), some (.ref 54), some (.ref 55), some (.ref 56), some (.ref 57), some (.int (nI mj)), some (.int (nI k)), some (.int (x10)), some (.int (nI so)), x12] [.int (nI kd), .int (nI (1 + k)), .ref 55] (σF (τL ρ), S1, G) (fun r h' => r = some (.int 1) ∧ ∃ S' s', h' = (σF (τL ρ), S', G) ∧ CS S' s' ∧ PL S' s' ∧ S' 54 = S 54 ∧ sR s s') := by
          intro kd hkd
          have g113 : ∀ S3 s2, CS S3 s2 → PL S3 s2 → sP s2 = k + 1 → sKd s2 k = kd → S3 54 = S 54 → sR s s2 → S3 55 (1 + k) = nI kd → xA (some (N, xs)) (d + 7) mL_people 0 0 0 0 113 [some (.ref 0), some (.retAddr 0), some (.int (3)), some (.int (0)), some (.ref 54), some (.ref 55), some (.ref 56), some (.ref 57), some (.int (nI mj)), some (.int (nI k)), some (.int (x10)), some (.int (nI so)), x12] [] (σF (τL ρ), S3, G) (fun r h' => r = some (.int 1) ∧ ∃ S' s', h' = (σF (τL ρ), S', G) ∧ CS S' s' ∧ PL S' s' ∧ S' 54 = S 54 ∧ sR s s') := by
            intro S3 s2 hc3 hp3 hP3 ekd e54 hsr e1k
            refine xA.iload rfl rfl rfl ?_
            refine xA.bipush (v := 18) rfl (by decide) rfl ?_
            refine xA.ishr rfl rfl ?_
            refine xA.bipush (v := 6) rfl (by decide) rfl ?_
            refine xA.at (N := 6) rfl k11_14 rfl (Nat.le_of_ble_eq_true rfl) (Nat.le_of_ble_eq_true rfl) (Nat.le_of_ble_eq_true rfl) (rfl) (by decide) (by decide) rfl (fun e he => ?_)
            refine xA.if_ne (tgt := 129) rfl rfl rfl (fun h123 => ?_) (fun h123 => ?_)
            · refine xA.iload rfl rfl rfl ?_
              refine xA.aloadX_n (i := 1) rfl rfl rfl rfl ?_
              refine xA.iload_n (i := 2) rfl rfl rfl rfl ?_
              refine xA.iconst (v := 2) rfl (by decide) rfl ?_
              refine xA.iadd rfl rfl ?_
              refine xA.topi ((rfl : (3 : Int32) + 2 = nI 5)) ?_
              refine xA.iconst (v := 3) rfl (by decide) rfl ?_
              refine xA.iload rfl rfl rfl ?_
              refine xA.imul rfl rfl ?_
              refine xA.topi (nI_mul 3 k) ?_
              refine xA.iadd rfl rfl ?_
              refine xA.topi (nI_add 5 _) ?_
              refine xA.cell (k := 5 + 3 * k) hN260 rfl k11_8 rfl (Nat.le_of_ble_eq_true rfl) (Nat.le_of_ble_eq_true rfl) (Nat.le_of_ble_eq_true rfl) (rfl) (by omega) rfl (fun y => ?_)
              refine xA.aloadX_n (i := 1) rfl rfl rfl rfl ?_
              refine xA.iload_n (i := 2) rfl rfl rfl rfl ?_
              refine xA.iconst (v := 3) rfl (by decide) rfl ?_
              refine xA.iadd rfl rfl ?_
              refine xA.topi ((rfl : (3 : Int32) + 3 = nI 6)) ?_
              refine xA.iconst (v := 3) rfl (by decide) rfl ?_
              refine xA.iload rfl rfl rfl ?_
              refine xA.imul rfl rfl ?_
              refine xA.topi (nI_mul 3 k) ?_
              refine xA.iadd rfl rfl ?_
              refine xA.topi (nI_add 6 _) ?_
              refine xA.cell (k := 6 + 3 * k) hN260 rfl k11_8 rfl (Nat.le_of_ble_eq_true rfl) (Nat.le_of_ble_eq_true rfl) (Nat.le_of_ble_eq_true rfl) (rfl) (by omega) rfl (fun z => ?_)
              refine xA.aload rfl rfl rfl ?_
              refine xA.aload rfl rfl rfl ?_
              refine xA.iconst (v := 1) rfl (by decide) rfl ?_
              refine xA.iload rfl rfl rfl ?_
              refine xA.iadd rfl rfl ?_
              refine xA.topi (nI_add 1 k) ?_
              refine xA.iald rfl rfl (vp_in_nI (by omega) (by omega)) rfl ?_
              refine xA.topi (rdA (by omega) e1k) ?_
              refine xA.iload rfl rfl rfl ?_
              refine xA.aload rfl rfl rfl ?_
              refine xA.aload rfl rfl rfl ?_
              refine xA.aload rfl rfl rfl ?_
              refine xA.callS (As := [_, _, _, _, _, _, _, _, _]) (h := (σF _, _, _)) rfl k11_35 okL_lifeText rfl rfl (Nat.le_of_ble_eq_true rfl) (c_L_lifeText (d + 4) S3 G _ _ _ (sH s) (by rw [e54]; exact hh) hlo hba1 hba kd k hkd (by omega)) (Nat.le_of_ble_eq_true rfl) (Nat.le_of_ble_eq_true rfl) rfl rfl ?_
              rintro r1 h1 ⟨S4, n, lf, rfl, rfl, hLI⟩
              obtain ⟨pg, htx, hn19, hrd⟩ := hLI.2.2.2.1.read
              have hc4 : CS S4 s2 := hc3.lo (fun j hj => hLI.1 j (by omega) (by omega) (by omega))
              refine xA.istore (L' := [_, _, _, _, _, _, _, _, _, _, _, _, _]) rfl (Nat.le_of_ble_eq_true rfl) rfl rfl ?_
              refine xA.aload_n (i := 0) rfl rfl rfl rfl ?_
              refine xA.aload rfl rfl rfl ?_
              refine xA.iload rfl rfl rfl ?_
              refine xA.callS (As := [_, _, _]) (h := (σF _, _, _)) rfl k11_39 okL_write rfl rfl (Nat.le_of_ble_eq_true rfl) (c_L_write (d + 3) S4 G s2 hc4 hsr.2.2.2.2 pg n (by omega) htx) (Nat.le_of_ble_eq_true rfl) (Nat.le_of_ble_eq_true rfl) rfl rfl ?_
              rintro r2 h2 ⟨rfl, S5, pg5, rfl, hc5, hf5, hp5⟩
              obtain ⟨hfl, hrl⟩ := hrd pg5 hp5
              refine xA.if_eq (tgt := 214) rfl rfl rfl (fun h185 => ?_) (fun h185 => ?_)
              · skip
                exact absurd h185 (by decide)
              · skip
                refine xA.aload_n (i := 0) rfl rfl rfl rfl ?_
                refine xA.iconst (v := 1) rfl (by decide) rfl ?_
                refine xA.gO (As := [_]) rfl k11_43 okX9_fault rfl rfl rfl (Nat.le_of_ble_eq_true rfl) (Nat.le_of_ble_eq_true rfl) (Nat.le_of_ble_eq_true rfl) (o_fault (d + 1) (pg5, n, s2.2.2) 1) (hc5) rfl rfl ?_
                intro S6 hc6 hf6
                refine xA.topi (show _ = nI n from by rw [aFault, if_neg (by decide), if_pos rfl]; exact congrArg nI hfl) ?_
                refine xA.iload rfl rfl rfl ?_
                refine xA.icmp_ne (tgt := 214) rfl rfl rfl (fun h195 => ?_) (fun h195 => ?_)
                · exact absurd rfl h195
                · refine xA.aload_n (i := 0) rfl rfl rfl rfl ?_
                  refine xA.iload rfl rfl rfl ?_
                  refine xA.gO (As := [_]) rfl k11_46 okX9_life rfl rfl rfl (Nat.le_of_ble_eq_true rfl) (Nat.le_of_ble_eq_true rfl) (Nat.le_of_ble_eq_true rfl) (o_life d (pg5, n, s2.2.2) (nI k)) (hc6) rfl rfl ?_
                  intro S7 hc7 hf7
                  have hlo2 := life_ok (s := (pg5, n, s2.2.2)) (k := k) (n := n) (l := lf) (by show k < sP s2; omega) (by show sP s2 ≤ 4; omega) (by show lread (hD (sH s2)) (hLo (sH s2)) (lpN (sH s2) (sKd s2 k)) pg5 n = some lf; rw [hsr.2.1, ekd]; exact hrl)
                  refine xA.topi hlo2.1 ?_
                  rw [hlo2.2] at hc7
                  refine xA.aload rfl rfl rfl ?_
                  refine xA.iconst (v := 5) rfl (by decide) rfl ?_
                  refine xA.iload rfl rfl rfl ?_
                  refine xA.iadd rfl rfl ?_
                  refine xA.topi (nI_add 5 k) ?_
                  refine xA.iald rfl rfl (vp_in_nI (by omega) (by omega)) rfl ?_
                  refine xA.topi (rdA (by omega) (show _ = nI (lN' lf) from by rw [hf7 55 (by decide), hf6 55 (by decide), hf5 55 (by decide)]; exact hLI.2.2.2.2.1.1)) ?_
                  refine xA.icmp_eq (tgt := 216) rfl rfl rfl (fun h211 => ?_) (fun h211 => ?_)
                  · refine xA.iinc (L' := [_, _, _, _, _, _, _, _, _, _, _, _, _]) rfl rfl (nI_1 k) rfl rfl ?_
                    refine xA.goto (q := 18) rfl rfl ?_
                    first
                    | (exact ih S3 s2 hc3 hp3 hP3 e54 hsr _ _ _)
                    | (refine ih S7 (fS (pg5, n, s2.2.2) k lf) hc7 (PL_life (S := S3) (s := (pg5, n, s2.2.2)) hp3 hP3 (fun i hi => ?_) (fun i hi => ?_) ?_ hLI.2.2.2.2.2.1) hP3 ?_ ⟨hsr.1, hsr.2.1, hsr.2.2.1, hsr.2.2.2.1, rfl⟩ _ _ _
                       · rw [hf7 55 (by decide), hf6 55 (by decide), hf5 55 (by decide)]; exact hLI.2.1 i hi
                       · rw [hf7 56 (by decide), hf6 56 (by decide), hf5 56 (by decide)]; exact hLI.2.2.1 i hi
                       · rw [hf7 55 (by decide), hf6 55 (by decide), hf5 55 (by decide), hf7 56 (by decide), hf6 56 (by decide), hf5 56 (by decide)]; exact hLI.2.2.2.2.1
                       · rw [hf7 54 (by decide), hf6 54 (by decide), hf5 54 (by decide), hLI.1 54 (by decide) (by decide) (by decide)]; exact e54)
                  · exact absurd rfl h211
            · refine xA.goto (q := 216) rfl rfl ?_
              refine xA.iinc (L' := [_, _, _, _, _, _, _, _, _, _, _, _, _]) rfl rfl (nI_1 k) rfl rfl ?_
              refine xA.goto (q := 18) rfl rfl ?_
              first
              | (exact ih S3 s2 hc3 hp3 hP3 e54 hsr _ _ _)
              | (refine ih S7 (fS (pg5, n, s2.2.2) k lf) hc7 (PL_life (S := S3) (s := (pg5, n, s2.2.2)) hp3 hP3 (fun i hi => ?_) (fun i hi => ?_) ?_ hLI.2.2.2.2.2.1) hP3 ?_ ⟨hsr.1, hsr.2.1, hsr.2.2.1, hsr.2.2.2.1, rfl⟩ _ _ _
                 · rw [hf7 55 (by decide), hf6 55 (by decide), hf5 55 (by decide)]; exact hLI.2.1 i hi
                 · rw [hf7 56 (by decide), hf6 56 (by decide), hf5 56 (by decide)]; exact hLI.2.2.1 i hi
                 · rw [hf7 55 (by decide), hf6 55 (by decide), hf5 55 (by decide), hf7 56 (by decide), hf6 56 (by decide), hf5 56 (by decide)]; exact hLI.2.2.2.2.1
                 · rw [hf7 54 (by decide), hf6 54 (by decide), hf5 54 (by decide), hLI.1 54 (by decide) (by decide) (by decide)]; exact e54)
          refine xA.iast rfl rfl (vp_in_nI (by omega) (by omega)) rfl ?_
          rw [nI_clamp (show 1 + k < 2 ^ 31 by omega)]
          refine xA.aload rfl rfl rfl ?_
          refine xA.iconst (v := 5) rfl (by decide) rfl ?_
          refine xA.iload rfl rfl rfl ?_
          refine xA.iadd rfl rfl ?_
          refine xA.topi (nI_add 5 k) ?_
          refine xA.iconst (v := 0) rfl (by decide) rfl ?_
          refine xA.iast rfl rfl (vp_in_nI (by omega) (by omega)) rfl ?_
          rw [nI_clamp (show 5 + k < 2 ^ 31 by omega)]
          refine xA.aload_n (i := 0) rfl rfl rfl rfl ?_
          refine xA.aload rfl rfl rfl ?_
          refine xA.iconst (v := 1) rfl (by decide) rfl ?_
          refine xA.iload rfl rfl rfl ?_
          refine xA.iadd rfl rfl ?_
          refine xA.topi (nI_add 1 k) ?_
          refine xA.iald rfl rfl (vp_in_nI (by omega) (by omega)) rfl ?_
          refine xA.topi (rdA (by omega) (show _ = nI kd from by rw [xu_at, iu_off (by omega), xu_at, iu_at])) ?_
          refine xA.gO (As := [_]) rfl k11_31 okX9_person rfl rfl rfl (Nat.le_of_ble_eq_true rfl) (Nat.le_of_ble_eq_true rfl) (Nat.le_of_ble_eq_true rfl) (o_person (d + 4) s1 (nI kd)) ((hc1.lo (fun j hj => by rw [xu_off (by omega), xu_off (by omega)]))) rfl rfl ?_
          intro S2 hc2 hf2
          have hpo := person_ok (s := s1) (k := k) (kd := kd) hP1 (by omega) hkd (by rw [hs1.1]; exact hr)
          refine xA.topi hpo.1 ?_
          rw [hpo.2] at hc2
          refine xA.iload rfl rfl rfl ?_
          refine xA.icmp_eq (tgt := 105) rfl rfl rfl (fun h100 => ?_) (fun h100 => ?_)
          · refine xA.aload rfl rfl rfl ?_
            refine xA.iconst (v := 0) rfl (by decide) rfl ?_
            refine xA.dup2 rfl rfl rfl rfl ?_
            refine xA.iald rfl rfl (vp_in_nI (n := 0) (by decide) (by decide)) rfl ?_
            refine xA.topi (rdA (k := 0) (by decide) (show _ = nI k from by rw [hf2 55 (by decide), xu_at, iu_off (by omega), xu_at, iu_off (by omega)]; rw [← hP1]; exact hp1.1)) ?_
            refine xA.iconst (v := 1) rfl (by decide) rfl ?_
            refine xA.iadd rfl rfl ?_
            refine xA.topi (nI_1 k) ?_
            refine xA.iast rfl rfl (vp_in_nI (n := 0) (by decide) (by decide)) rfl ?_
            rw [show (0 : Int32).toNatClampNeg = 0 from rfl]
            exact g113 _ (pS s1 k kd) (hc2.lo (fun j hj => by rw [xu_off (by omega)])) (PL_person hp1 hP1 (by omega) hkd (by rw [xu_at, hf2 55 (by decide), xu_at, xu_at]) (by rw [xu_off (by decide), hf2 56 (by decide), xu_off (by decide), xu_off (by decide)])) rfl nu_same (by rw [xu_off (by decide), hf2 54 (by decide), xu_off (by decide), xu_off (by decide)]; exact e541) hs1 (by rw [xu_at, iu_off (by omega), hf2 55 (by decide), xu_at, iu_off (by omega), xu_at, iu_at])
          · exact absurd rfl h100
        refine xA.aload rfl rfl rfl ?_
        refine xA.iconst (v := 1) rfl (by decide) rfl ?_
        refine xA.iload rfl rfl rfl ?_
        refine xA.iadd rfl rfl ?_
        refine xA.topi (nI_add 1 k) ?_
        refine xA.iload rfl rfl rfl ?_
        refine xA.iconst (v := 3) rfl (by decide) rfl ?_
        refine xA.icmp_ge (tgt := 74) rfl rfl rfl (fun h67 => ?_) (fun h67 => ?_)
        · rw [show (3 : Int32) = nI 3 from rfl, nI_leI (by omega) (by omega)] at h67
          refine xA.iload rfl rfl rfl ?_
          refine xA.iconst (v := 2) rfl (by decide) rfl ?_
          refine xA.isub rfl rfl ?_
          refine xA.topi (nI_sub (b := 2) (by omega)) ?_
          first
          | exact rest (so - 2) (by omega)
          | exact rest 0 (by omega)
        · rw [show (3 : Int32) = nI 3 from rfl, nI_leI (by omega) (by omega)] at h67
          refine xA.iconst (v := 0) rfl (by decide) rfl ?_
          refine xA.goto (q := 78) rfl rfl ?_
          first
          | exact rest (so - 2) (by omega)
          | exact rest 0 (by omega)
    · intro S1 s1 hc1 hp1 hP1 e541 hs1 x10 x11 x12
      refine xA.iload rfl rfl rfl ?_
      refine xA.iload rfl rfl rfl ?_
      refine xA.icmp_ge (tgt := 222) rfl rfl rfl (fun h22 => ?_) (fun h22 => ?_)
      · refine xA.iconst (v := 1) rfl (by decide) rfl ?_
        exact xA.iret rfl rfl rfl ⟨rfl, S1, s1, rfl, hc1, hp1, e541, hs1⟩
      · exact absurd (nI_le (Nat.le_refl _) (by omega)) h22
  refine xA.iload_n (i := 3) rfl rfl rfl rfl ?_
  refine xA.aloadX_n (i := 1) rfl rfl rfl rfl ?_
  refine xA.iload_n (i := 2) rfl rfl rfl rfl ?_
  refine xA.cell (k := 3) hN260 rfl k11_8 rfl (Nat.le_of_ble_eq_true rfl) (Nat.le_of_ble_eq_true rfl) (Nat.le_of_ble_eq_true rfl) (rfl) (by decide) rfl (fun x => ?_)
  refine xA.iconst (v := 4) rfl (by decide) rfl ?_
  refine xA.iload_n (i := 3) rfl rfl rfl rfl ?_
  refine xA.isub rfl rfl ?_
  refine xA.topi ((rfl : (4 : Int32) - 0 = nI 4)) ?_
  refine xA.at (N := 4) rfl k11_14 rfl (Nat.le_of_ble_eq_true rfl) (Nat.le_of_ble_eq_true rfl) (Nat.le_of_ble_eq_true rfl) (rfl) (by decide) (by decide) rfl (fun mj hmj => ?_)
  refine xA.iadd rfl rfl ?_
  refine xA.topi (show _ = nI mj from by rw [show (0 : Int32) = nI 0 from rfl, nI_add, Nat.zero_add]) ?_
  refine xA.istore (L' := [_, _, _, _, _, _, _, _, _, _, _, _, _]) rfl (Nat.le_of_ble_eq_true rfl) rfl rfl ?_
  refine xA.iconst (v := 0) rfl (by decide) rfl ?_
  refine xA.istore (L' := [_, _, _, _, _, _, _, _, _, _, _, _, _]) rfl (Nat.le_of_ble_eq_true rfl) rfl rfl ?_
  exact loop mj hmj 0 (Nat.zero_le _) S s hc ⟨by rw [h0 0 (by decide), hP]; rfl, by omega, fun k hk => absurd hk (by omega), fun _ => h0 5 (by decide)⟩ hP rfl ⟨rfl, rfl, rfl, rfl, hN⟩ _ _ _

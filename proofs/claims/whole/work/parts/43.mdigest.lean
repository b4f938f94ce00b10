/-! ===== the reference: digest ===== -/
def hG (G : Nat → Nat → Int64) (h : Int64) : Nat → Nat → Int64 := xul G 54 47 h
theorem hG_at {G : Nat → Nat → Int64} {h : Int64} : hG G h 54 47 = h := by simp [hG, xul]
theorem hG_hG {G : Nat → Nat → Int64} {h v : Int64} : xul (hG G h) 54 47 v = hG G v := by
  funext j i
  simp only [hG, xul]
  by_cases e : j = 54
  · subst e; by_cases e2 : i = 47 <;> simp [e2]
  · simp [e]
theorem c_say (d : Nat) (S : Nat → Nat → Int32) (G : Nat → Nat → Int64) (h : Int64) (x : Int32) : xR d mX10_say [.ref 54, .long x.toInt64] S (hG G h) none S (hG G (mx h x)) := by
  have := c_X10_say d S (hG G h) x
  rwa [hG_hG, hG_at] at this
theorem fold36 (B : Nat → Nat → Int64 → Int64) (h : Int64) : foldN (fun i h => if i / 6 < i % 6 then B (i / 6) (i % 6) h else h) h 36 = foldN (fun i h => foldN (fun t h => B i (i + 1 + t) h) h (5 - i)) h 6 := by
  simp [foldN]
theorem nI_d6 {i : Nat} (hi : i < 1000) : nI i / 6 = nI (i / 6) := by rw [show (6 : Int32) = nI 6 from rfl, nI_div (by omega) (by omega) (by omega)]
theorem nI_r6 {i : Nat} (hi : i < 1000) : nI i - nI i / 6 * 6 = nI (i % 6) := by
  rw [nI_d6 hi, show (6 : Int32) = nI 6 from rfl, nI_mul, nI_sub (by omega)]
  congr 1; omega
theorem aBet {s : sS} {a b : Nat} (ha : a < 6) (hb : b < 6) (hab : ¬ a = b) (hr : ¬ sHr s = 0) : (if hD (sH s) (a * 6 + b) = 0 then (0 : Int32) else 1) + (if (hSr (sH s) a).testBit b = true then 2 else 0) = aBetween s (nI a) (nI b) := by
  rw [aBetween, if_pos (show rg (nI a) 6 ∧ rg (nI b) 6 ∧ ¬ nI a = nI b from ⟨rg_of ha (by omega), rg_of hb (by omega), fun z => hab ((nI_eq (by omega) (by omega)).mp z)⟩), if_neg hr, nI_clamp (by omega), nI_clamp (by omega)]
theorem rgP {n i : Nat} (h4 : n ≤ 4) (hi : i < n) : rg (nI i) n := rg_of hi (by omega)
theorem tpc {s : sS} {a b : Nat} (h4 : sP s ≤ 4) (ha : a < sP s) (hb : b < sP s) (hab : ¬ a = b) : rg (nI a) (sP s) ∧ rg (nI b) (sP s) ∧ ¬ nI a = nI b := ⟨rgP h4 ha, rgP h4 hb, fun z => hab ((nI_eq (by omega) (by omega)).mp z)⟩

set_option maxRecDepth 100000 in
set_option maxHeartbeats 1000000 in
theorem c_sayPerson (d : Nat) (S : Nat → Nat → Int32) (G : Nat → Nat → Int64) (s : sS) (hc : MS S s) (p : Nat) (hp : p < sP s) (h : Int64) : xR (d + 3) mX10_sayPerson [.ref 54, .int (nI p)] S (hG G h) none S (hG G (dPers s h (nI p))) := by
  have hp4 := hc.2.2.1.2.1
  have hrg : rg (nI p) (sP s) := rgP hp4 hp
  have hcp : (nI p).toNatClampNeg = p := nI_clamp (by omega)
  refine xC.of okX10_sayPerson (Nat.le_of_ble_eq_true rfl) (L := [_, _, _]) rfl ?_
  have loop : ∀ i, i ≤ 5 → xA none (d + 3) mX10_sayPerson 0 0 0 0 2 [some (.ref 54), some (.int (nI p)), some (.int (nI i))] [] (σF, S, hG G (foldN (fAb s (nI p)) h i)) (fun r' h' => r' = none ∧ h' = (σF, S, hG G (dPers s h (nI p)))) := by
    refine xloop 5 (fun i hi ih => ?_) ?_
    · skip
      refine xA.iload_n (i := 2) rfl rfl rfl rfl ?_
      refine xA.iconst (v := 5) rfl (by decide) rfl ?_
      refine xA.icmp_ge (tgt := 24) rfl rfl rfl (fun h4 => ?_) (fun h4 => ?_)
      · exact absurd h4 (nI_ge (b := 5) hi (by omega))
      · refine xA.aload_n (i := 0) rfl rfl rfl rfl ?_
        refine xA.aload_n (i := 0) rfl rfl rfl rfl ?_
        refine xA.iload_n (i := 1) rfl rfl rfl rfl ?_
        refine xA.iload_n (i := 2) rfl rfl rfl rfl ?_
        refine xA.callVi (As := [_, _]) rfl k10_203 okX10_tell rfl rfl rfl rfl (Nat.le_of_ble_eq_true rfl) (c_X10_tell (d + 2) _ _ s hc p hp (nI i)) rfl rfl ?_
        refine xA.i2l rfl rfl ?_
        refine xA.callVv (As := [_]) rfl k10_297 okX10_say rfl rfl rfl rfl (Nat.le_of_ble_eq_true rfl) (c_say (d + 2) _ G _ _) rfl rfl ?_
        refine xA.iinc (L' := [_, _, _]) rfl rfl (nI_1 i) rfl rfl ?_
        refine xA.goto (q := 2) rfl rfl ?_
        exact ih
    · skip
      refine xA.iload_n (i := 2) rfl rfl rfl rfl ?_
      refine xA.iconst (v := 5) rfl (by decide) rfl ?_
      refine xA.icmp_ge (tgt := 24) rfl rfl rfl (fun h4 => ?_) (fun h4 => ?_)
      · refine xA.aload_n (i := 0) rfl rfl rfl rfl ?_
        refine xA.aload_n (i := 0) rfl rfl rfl rfl ?_
        refine xA.iload_n (i := 1) rfl rfl rfl rfl ?_
        refine xA.callVi (As := [_]) rfl k10_214 okX10_metNow rfl rfl rfl rfl (Nat.le_of_ble_eq_true rfl) (c_X10_metNow (d + 1) _ _ s hc p hp) rfl rfl ?_
        refine xA.topi (show _ = aMet s (nI p) from by rw [aMet, if_pos hrg, hcp]) ?_
        refine xA.i2l rfl rfl ?_
        refine xA.callVv (As := [_]) rfl k10_297 okX10_say rfl rfl rfl rfl (Nat.le_of_ble_eq_true rfl) (c_say (d + 2) _ G _ _) rfl rfl ?_
        refine xA.aload_n (i := 0) rfl rfl rfl rfl ?_
        refine xA.aload_n (i := 0) rfl rfl rfl rfl ?_
        refine xA.iload_n (i := 1) rfl rfl rfl rfl ?_
        refine xA.iconst (v := 0) rfl (by decide) rfl ?_
        refine xA.callVi (As := [_, _]) rfl k10_217 okX10_mostOf rfl rfl rfl rfl (Nat.le_of_ble_eq_true rfl) (c_X10_mostOf (d + 2) _ _ s hc p hp 0) rfl rfl ?_
        refine xA.topi (show _ = aMost s (nI p) 0 from by rw [aMost, if_pos hrg, hcp]; rfl) ?_
        refine xA.i2l rfl rfl ?_
        refine xA.callVv (As := [_]) rfl k10_297 okX10_say rfl rfl rfl rfl (Nat.le_of_ble_eq_true rfl) (c_say (d + 2) _ G _ _) rfl rfl ?_
        refine xA.aload_n (i := 0) rfl rfl rfl rfl ?_
        refine xA.aload_n (i := 0) rfl rfl rfl rfl ?_
        refine xA.iload_n (i := 1) rfl rfl rfl rfl ?_
        refine xA.iconst (v := 1) rfl (by decide) rfl ?_
        refine xA.callVi (As := [_, _]) rfl k10_217 okX10_mostOf rfl rfl rfl rfl (Nat.le_of_ble_eq_true rfl) (c_X10_mostOf (d + 2) _ _ s hc p hp 1) rfl rfl ?_
        refine xA.topi (show _ = aMost s (nI p) 1 from by rw [aMost, if_pos hrg, hcp]; rfl) ?_
        refine xA.i2l rfl rfl ?_
        refine xA.callVv (As := [_]) rfl k10_297 okX10_say rfl rfl rfl rfl (Nat.le_of_ble_eq_true rfl) (c_say (d + 2) _ G _ _) rfl rfl ?_
        refine xA.aload_n (i := 0) rfl rfl rfl rfl ?_
        refine xA.aload_n (i := 0) rfl rfl rfl rfl ?_
        refine xA.iload_n (i := 1) rfl rfl rfl rfl ?_
        refine xA.callVi (As := [_]) rfl k10_236 okX10_doneNow rfl rfl rfl rfl (Nat.le_of_ble_eq_true rfl) (c_X10_doneNow d _ _ s hc p hp) rfl rfl ?_
        refine xA.topi (show _ = aDone s (nI p) from by rw [aDone, if_pos hrg, hcp]) ?_
        refine xA.i2l rfl rfl ?_
        refine xA.callVv (As := [_]) rfl k10_297 okX10_say rfl rfl rfl rfl (Nat.le_of_ble_eq_true rfl) (c_say (d + 2) _ G _ _) rfl rfl ?_
        exact xA.vret rfl rfl ⟨rfl, rfl⟩
      · exact absurd (nI_le (a := 5) (b := 5) (Nat.le_refl _) (by omega)) h4
  refine xA.iconst (v := 0) rfl (by decide) rfl ?_
  refine xA.istore_n (i := 2) (L' := [_, _, _]) rfl rfl (Nat.le_of_ble_eq_true rfl) rfl rfl ?_
  exact loop 0 (Nat.zero_le _)
set_option maxRecDepth 100000 in
set_option maxHeartbeats 2000000 in
theorem m_digest (d : Nat) (s : sS) : opM (d + 4) mX10_digest [.ref 54] s (.long (aDigest s)) s := by
  intro S G hc
  have hc0 := hc
  obtain ⟨hpg, hho, hpp, htk, hgl, hsd, him, hno⟩ := hc
  have hp4 := hpp.2.1
  have hn45 := hpg.2.1
  refine xC.of okX10_digest (Nat.le_of_ble_eq_true rfl) (L := [_, _, _]) rfl ?_
  have lpC : ∀ i, i ≤ 10 → ∀ x2 : Option Value, xA none (d + 4) mX10_digest 0 0 0 0 180 [some (.ref 54), some (.int (nI i)), x2] [] (σF, S, hG G (foldN (fun i h => mx h (aCount s (nI i))) (dg4 s) i)) (fun r h' => ∃ S' G', h' = (σF, S', G') ∧ r = some (.long (aDigest s)) ∧ MS S' s ∧ ∀ j, j < 54 → S' j = S j) := by
    refine xloop (10) (fun i hi ih => ?_) ?_
    · intro x2
      refine xA.iload_n (i := 1) rfl rfl rfl rfl ?_
      refine xA.bipush (v := 10) rfl (by decide) rfl ?_
      refine xA.icmp_ge (tgt := 202) rfl rfl rfl (fun h183 => ?_) (fun h183 => ?_)
      · exact absurd h183 (nI_ge (b := 10) hi (by omega))
      · refine xA.aload_n (i := 0) rfl rfl rfl rfl ?_
        refine xA.aload_n (i := 0) rfl rfl rfl rfl ?_
        refine xA.iload_n (i := 1) rfl rfl rfl rfl ?_
        refine xA.callVi (As := [_]) rfl k10_288 okX10_countOf rfl rfl rfl rfl (Nat.le_of_ble_eq_true rfl) (c_X10_countOf (d + 3) _ _ s hc0 _) rfl rfl ?_
        refine xA.i2l rfl rfl ?_
        refine xA.callVv (As := [_]) rfl k10_297 okX10_say rfl rfl rfl rfl (Nat.le_of_ble_eq_true rfl) (c_say (d + 3) _ G _ _) rfl rfl ?_
        refine xA.iinc (L' := [_, _, _]) rfl rfl (nI_1 i) rfl rfl ?_
        refine xA.goto (q := 180) rfl rfl ?_
        exact ih _
    · intro x2
      refine xA.iload_n (i := 1) rfl rfl rfl rfl ?_
      refine xA.bipush (v := 10) rfl (by decide) rfl ?_
      refine xA.icmp_ge (tgt := 202) rfl rfl rfl (fun h183 => ?_) (fun h183 => ?_)
      · refine xA.aload_n (i := 0) rfl rfl rfl rfl ?_
        refine xA.getL rfl f10_293 rfl rfl rfl ?_
        refine xA.topl (hG_at) ?_
        exact xA.lret rfl rfl ⟨S, _, rfl, rfl, hc0, fun _ _ => rfl⟩
      · exact absurd (nI_le (a := 10) (b := 10) (Nat.le_refl _) (by omega)) h183
  have lpL : ∀ i, i ≤ sN s → ∀ x2 : Option Value, xA none (d + 4) mX10_digest 0 0 0 0 153 [some (.ref 54), some (.int (nI i)), x2] [] (σF, S, hG G (foldN (fun i h => mx h (nI (sPg s i))) (dg3 s) i)) (fun r h' => ∃ S' G', h' = (σF, S', G') ∧ r = some (.long (aDigest s)) ∧ MS S' s ∧ ∀ j, j < 54 → S' j = S j) := by
    refine xloop (sN s) (fun i hi ih => ?_) ?_
    · intro x2
      refine xA.iload_n (i := 1) rfl rfl rfl rfl ?_
      refine xA.aload_n (i := 0) rfl rfl rfl rfl ?_
      refine xA.getI rfl f10_91 rfl rfl rfl ?_
      refine xA.topi (hpg.1) ?_
      refine xA.icmp_ge (tgt := 178) rfl rfl rfl (fun h158 => ?_) (fun h158 => ?_)
      · exact absurd h158 (nI_ge hi (by omega))
      · refine xA.aload_n (i := 0) rfl rfl rfl rfl ?_
        refine xA.aload_n (i := 0) rfl rfl rfl rfl ?_
        refine xA.getR rfl f10_7 rfl rfl rfl rfl ?_
        refine xA.iload_n (i := 1) rfl rfl rfl rfl ?_
        refine xA.iald rfl rfl (vp_in_nI (by omega) (by omega)) rfl ?_
        refine xA.topi ((show S 55 (nI i).toNatClampNeg = nI (sPg s i) from by rw [nI_clamp (by omega)]; exact hpg.2.2.1 i hi)) ?_
        refine xA.i2l rfl rfl ?_
        refine xA.callVv (As := [_]) rfl k10_297 okX10_say rfl rfl rfl rfl (Nat.le_of_ble_eq_true rfl) (c_say (d + 3) _ G _ _) rfl rfl ?_
        refine xA.iinc (L' := [_, _, _]) rfl rfl (nI_1 i) rfl rfl ?_
        refine xA.goto (q := 153) rfl rfl ?_
        exact ih _
    · intro x2
      refine xA.iload_n (i := 1) rfl rfl rfl rfl ?_
      refine xA.aload_n (i := 0) rfl rfl rfl rfl ?_
      refine xA.getI rfl f10_91 rfl rfl rfl ?_
      refine xA.topi (hpg.1) ?_
      refine xA.icmp_ge (tgt := 178) rfl rfl rfl (fun h158 => ?_) (fun h158 => ?_)
      · refine xA.iconst (v := 0) rfl (by decide) rfl ?_
        refine xA.istore_n (i := 1) (L' := [_, _, _]) rfl rfl (Nat.le_of_ble_eq_true rfl) rfl rfl ?_
        exact lpC 0 (Nat.zero_le _) _
      · exact absurd (nI_le (Nat.le_refl _) (by omega)) h158
  have lpQ : ∀ i, i ≤ sP s → ∀ x2 : Option Value, xA none (d + 4) mX10_digest 0 0 0 0 88 [some (.ref 54), some (.int (nI i)), x2] [] (σF, S, hG G (foldN (fPa s) (dg2 s) i)) (fun r h' => ∃ S' G', h' = (σF, S', G') ∧ r = some (.long (aDigest s)) ∧ MS S' s ∧ ∀ j, j < 54 → S' j = S j) := by
    refine xloop (sP s) (fun i hi ih => ?_) ?_
    · intro x2
      refine xA.iload_n (i := 1) rfl rfl rfl rfl ?_
      refine xA.aload_n (i := 0) rfl rfl rfl rfl ?_
      refine xA.getI rfl f10_156 rfl rfl rfl ?_
      refine xA.topi (hpp.1) ?_
      refine xA.icmp_ge (tgt := 142) rfl rfl rfl (fun h93 => ?_) (fun h93 => ?_)
      · exact absurd h93 (nI_ge hi (by omega))
      · refine xA.iload_n (i := 1) rfl rfl rfl rfl ?_
        refine xA.iconst (v := 1) rfl (by decide) rfl ?_
        refine xA.iadd rfl rfl ?_
        refine xA.topi (nI_1 _) ?_
        refine xA.istore_n (i := 2) (L' := [_, _, _]) rfl rfl (Nat.le_of_ble_eq_true rfl) rfl rfl ?_
        have loop2 : ∀ t, t ≤ sP s - (i + 1) → xA none (d + 4) mX10_digest 0 0 0 0 100 [some (.ref 54), some (.int (nI i)), some (.int (nI (i + 1 + t)))] [] (σF, S, hG G (foldN (fMe s i) (foldN (fPa s) (dg2 s) i) t)) (fun r h' => ∃ S' G', h' = (σF, S', G') ∧ r = some (.long (aDigest s)) ∧ MS S' s ∧ ∀ j, j < 54 → S' j = S j) := by
          refine xloop (sP s - (i + 1)) (fun t ht ih2 => ?_) ?_
          · skip
            refine xA.iload_n (i := 2) rfl rfl rfl rfl ?_
            refine xA.aload_n (i := 0) rfl rfl rfl rfl ?_
            refine xA.getI rfl f10_156 rfl rfl rfl ?_
            refine xA.topi (hpp.1) ?_
            refine xA.icmp_ge (tgt := 136) rfl rfl rfl (fun h105 => ?_) (fun h105 => ?_)
            · exact absurd h105 (nI_ge (by omega) (by omega))
            · refine xA.aload_n (i := 0) rfl rfl rfl rfl ?_
              refine xA.aload_n (i := 0) rfl rfl rfl rfl ?_
              refine xA.iload_n (i := 1) rfl rfl rfl rfl ?_
              refine xA.iload_n (i := 2) rfl rfl rfl rfl ?_
              refine xA.callVi (As := [_, _]) rfl k10_223 okX10_meetOf rfl rfl rfl rfl (Nat.le_of_ble_eq_true rfl) (c_X10_meetOf (d + 2) _ _ s hc0 i (i + 1 + t) hi (by omega)) rfl rfl ?_
              refine xA.topi (show _ = aMeet s (nI i) (nI (i + 1 + t)) from by rw [aMeet, if_pos (tpc hp4 hi (by omega) (by omega)), nI_clamp (by omega), nI_clamp (by omega)]) ?_
              refine xA.i2l rfl rfl ?_
              refine xA.callVv (As := [_]) rfl k10_297 okX10_say rfl rfl rfl rfl (Nat.le_of_ble_eq_true rfl) (c_say (d + 3) _ G _ _) rfl rfl ?_
              refine xA.aload_n (i := 0) rfl rfl rfl rfl ?_
              refine xA.aload_n (i := 0) rfl rfl rfl rfl ?_
              refine xA.iload_n (i := 1) rfl rfl rfl rfl ?_
              refine xA.iload_n (i := 2) rfl rfl rfl rfl ?_
              refine xA.callVi (As := [_, _]) rfl k10_252 okX10_pairOf rfl rfl rfl rfl (Nat.le_of_ble_eq_true rfl) (c_X10_pairOf (d + 1) _ _ s hc0 i (i + 1 + t) hi (by omega)) rfl rfl ?_
              refine xA.topi (show _ = aPair s (nI i) (nI (i + 1 + t)) from by rw [aPair, if_pos (tpc hp4 hi (by omega) (by omega)), nI_clamp (by omega), nI_clamp (by omega)]) ?_
              refine xA.i2l rfl rfl ?_
              refine xA.callVv (As := [_]) rfl k10_297 okX10_say rfl rfl rfl rfl (Nat.le_of_ble_eq_true rfl) (c_say (d + 3) _ G _ _) rfl rfl ?_
              refine xA.iinc (L' := [_, _, _]) rfl rfl (nI_1 _) rfl rfl ?_
              refine xA.goto (q := 100) rfl rfl ?_
              exact ih2
          · skip
            refine xA.iload_n (i := 2) rfl rfl rfl rfl ?_
            refine xA.aload_n (i := 0) rfl rfl rfl rfl ?_
            refine xA.getI rfl f10_156 rfl rfl rfl ?_
            refine xA.topi (hpp.1) ?_
            refine xA.icmp_ge (tgt := 136) rfl rfl rfl (fun h105 => ?_) (fun h105 => ?_)
            · refine xA.iinc (L' := [_, _, _]) rfl rfl (nI_1 _) rfl rfl ?_
              refine xA.goto (q := 88) rfl rfl ?_
              exact ih _
            · exact absurd (nI_le (by omega) (by omega)) h105
        exact loop2 0 (Nat.zero_le _)
    · intro x2
      refine xA.iload_n (i := 1) rfl rfl rfl rfl ?_
      refine xA.aload_n (i := 0) rfl rfl rfl rfl ?_
      refine xA.getI rfl f10_156 rfl rfl rfl ?_
      refine xA.topi (hpp.1) ?_
      refine xA.icmp_ge (tgt := 142) rfl rfl rfl (fun h93 => ?_) (fun h93 => ?_)
      · refine xA.aload_n (i := 0) rfl rfl rfl rfl ?_
        refine xA.aload_n (i := 0) rfl rfl rfl rfl ?_
        refine xA.callVi (As := []) rfl k10_249 okX10_whoseOf rfl rfl rfl rfl (Nat.le_of_ble_eq_true rfl) (c_X10_whoseOf (d + 1) _ _ s hc0) rfl rfl ?_
        refine xA.i2l rfl rfl ?_
        refine xA.callVv (As := [_]) rfl k10_297 okX10_say rfl rfl rfl rfl (Nat.le_of_ble_eq_true rfl) (c_say (d + 3) _ G _ _) rfl rfl ?_
        refine xA.iconst (v := 0) rfl (by decide) rfl ?_
        refine xA.istore_n (i := 1) (L' := [_, _, _]) rfl rfl (Nat.le_of_ble_eq_true rfl) rfl rfl ?_
        exact lpL 0 (Nat.zero_le _) _
      · exact absurd (nI_le (Nat.le_refl _) (by omega)) h93
  have lpP : ∀ i, i ≤ sP s → ∀ x2 : Option Value, xA none (d + 4) mX10_digest 0 0 0 0 67 [some (.ref 54), some (.int (nI i)), x2] [] (σF, S, hG G (foldN (fun i h => dPers s h (nI i)) (dg1 s) i)) (fun r h' => ∃ S' G', h' = (σF, S', G') ∧ r = some (.long (aDigest s)) ∧ MS S' s ∧ ∀ j, j < 54 → S' j = S j) := by
    refine xloop (sP s) (fun i hi ih => ?_) ?_
    · intro x2
      refine xA.iload_n (i := 1) rfl rfl rfl rfl ?_
      refine xA.aload_n (i := 0) rfl rfl rfl rfl ?_
      refine xA.getI rfl f10_156 rfl rfl rfl ?_
      refine xA.topi (hpp.1) ?_
      refine xA.icmp_ge (tgt := 86) rfl rfl rfl (fun h72 => ?_) (fun h72 => ?_)
      · exact absurd h72 (nI_ge hi (by omega))
      · refine xA.aload_n (i := 0) rfl rfl rfl rfl ?_
        refine xA.iload_n (i := 1) rfl rfl rfl rfl ?_
        refine xA.callVv (As := [_]) rfl k10_303 okX10_sayPerson rfl rfl rfl rfl (Nat.le_of_ble_eq_true rfl) (c_sayPerson d _ G s hc0 i hi _) rfl rfl ?_
        refine xA.iinc (L' := [_, _, _]) rfl rfl (nI_1 i) rfl rfl ?_
        refine xA.goto (q := 67) rfl rfl ?_
        exact ih _
    · intro x2
      refine xA.iload_n (i := 1) rfl rfl rfl rfl ?_
      refine xA.aload_n (i := 0) rfl rfl rfl rfl ?_
      refine xA.getI rfl f10_156 rfl rfl rfl ?_
      refine xA.topi (hpp.1) ?_
      refine xA.icmp_ge (tgt := 86) rfl rfl rfl (fun h72 => ?_) (fun h72 => ?_)
      · refine xA.iconst (v := 0) rfl (by decide) rfl ?_
        refine xA.istore_n (i := 1) (L' := [_, _, _]) rfl rfl (Nat.le_of_ble_eq_true rfl) rfl rfl ?_
        exact lpQ 0 (Nat.zero_le _) _
      · exact absurd (nI_le (Nat.le_refl _) (by omega)) h72
  have lpH : ¬ sHr s = 0 → ∀ i, i ≤ 36 → ∀ x2 : Option Value, xA none (d + 4) mX10_digest 0 0 0 0 16 [some (.ref 54), some (.int (nI i)), x2] [] (σF, S, hG G (foldN (fun i h => if i / 6 < i % 6 then mx h (aBetween s (nI (i / 6)) (nI (i % 6))) else h) 683 i)) (fun r h' => ∃ S' G', h' = (σF, S', G') ∧ r = some (.long (aDigest s)) ∧ MS S' s ∧ ∀ j, j < 54 → S' j = S j) := by
    intro hr0
    refine xloop (36) (fun i hi ih => ?_) ?_
    · intro x2
      refine xA.iload_n (i := 1) rfl rfl rfl rfl ?_
      refine xA.bipush (v := 36) rfl (by decide) rfl ?_
      refine xA.icmp_ge (tgt := 56) rfl rfl rfl (fun h19 => ?_) (fun h19 => ?_)
      · exact absurd h19 (nI_ge (b := 36) hi (by omega))
      · refine xA.iload_n (i := 1) rfl rfl rfl rfl ?_
        refine xA.bipush (v := 6) rfl (by decide) rfl ?_
        refine xA.idiv rfl (by decide) rfl ?_
        refine xA.topi (nI_d6 (by omega)) ?_
        refine xA.iload_n (i := 1) rfl rfl rfl rfl ?_
        refine xA.bipush (v := 6) rfl (by decide) rfl ?_
        refine xA.irem rfl (by decide) rfl ?_
        refine xA.topi (nI_r6 (by omega)) ?_
        refine xA.icmp_ge (tgt := 50) rfl rfl rfl (fun h30 => ?_) (fun h30 => ?_)
        · have e30 : ¬ i / 6 < i % 6 := fun z => nI_ge z (by omega) h30
          refine xA.iinc (L' := [_, _, _]) rfl rfl (nI_1 i) rfl rfl ?_
          refine xA.goto (q := 16) rfl rfl ?_
          have ih := ih x2
          rw [foldN] at ih
          first
            | (rw [if_neg e30] at ih; exact ih)
            | (rw [if_pos e30] at ih; exact ih)
        · have e30 : i / 6 < i % 6 := by
            rcases Nat.lt_or_ge (i / 6) (i % 6) with w | w
            · exact w
            · exact absurd (nI_le w (by omega)) h30
          refine xA.aload_n (i := 0) rfl rfl rfl rfl ?_
          refine xA.aload_n (i := 0) rfl rfl rfl rfl ?_
          refine xA.iload_n (i := 1) rfl rfl rfl rfl ?_
          refine xA.bipush (v := 6) rfl (by decide) rfl ?_
          refine xA.idiv rfl (by decide) rfl ?_
          refine xA.topi (nI_d6 (by omega)) ?_
          refine xA.iload_n (i := 1) rfl rfl rfl rfl ?_
          refine xA.bipush (v := 6) rfl (by decide) rfl ?_
          refine xA.irem rfl (by decide) rfl ?_
          refine xA.topi (nI_r6 (by omega)) ?_
          refine xA.callVi (As := [_, _]) rfl k10_175 okX10_betweenOf rfl rfl rfl rfl (Nat.le_of_ble_eq_true rfl) (c_X10_betweenOf (d + 3) _ _ s hc0 hr0 (i / 6) (i % 6) (by omega) (by omega)) rfl rfl ?_
          refine xA.topi (aBet (by omega) (by omega) (by omega) hr0) ?_
          refine xA.i2l rfl rfl ?_
          refine xA.callVv (As := [_]) rfl k10_297 okX10_say rfl rfl rfl rfl (Nat.le_of_ble_eq_true rfl) (c_say (d + 3) _ G _ _) rfl rfl ?_
          refine xA.iinc (L' := [_, _, _]) rfl rfl (nI_1 i) rfl rfl ?_
          refine xA.goto (q := 16) rfl rfl ?_
          have ih := ih x2
          rw [foldN] at ih
          first
            | (rw [if_neg e30] at ih; exact ih)
            | (rw [if_pos e30] at ih; exact ih)
    · intro x2
      refine xA.iload_n (i := 1) rfl rfl rfl rfl ?_
      refine xA.bipush (v := 36) rfl (by decide) rfl ?_
      refine xA.icmp_ge (tgt := 56) rfl rfl rfl (fun h19 => ?_) (fun h19 => ?_)
      · refine xA.aload_n (i := 0) rfl rfl rfl rfl ?_
        refine xA.aload_n (i := 0) rfl rfl rfl rfl ?_
        refine xA.callVi (As := []) rfl k10_229 okX10_lockedOf rfl rfl rfl rfl (Nat.le_of_ble_eq_true rfl) (c_X10_lockedOf (d + 2) _ _ s hc0 (by omega)) rfl rfl ?_
        refine xA.topi (show _ = aLocked s from by rw [aLocked, if_neg hr0]) ?_
        refine xA.i2l rfl rfl ?_
        refine xA.callVv (As := [_]) rfl k10_297 okX10_say rfl rfl rfl rfl (Nat.le_of_ble_eq_true rfl) (c_say (d + 3) _ G _ _) rfl rfl ?_
        refine xA.iconst (v := 0) rfl (by decide) rfl ?_
        refine xA.istore_n (i := 1) (L' := [_, _, _]) rfl rfl (Nat.le_of_ble_eq_true rfl) rfl rfl ?_
        have lp := lpP 0 (Nat.zero_le _) x2
        rw [foldN, dg1, if_neg hr0] at lp
        rw [fold36 (fun a b h => mx h (aBetween s (nI a) (nI b)))]
        exact lp
      · exact absurd (nI_le (a := 36) (b := 36) (Nat.le_refl _) (by omega)) h19
  refine xA.aload_n (i := 0) rfl rfl rfl rfl ?_
  refine xA.ldc2 (v := 683) rfl w1226 rfl ?_
  refine xA.putL rfl p10_293 rfl rfl rfl ?_
  refine xA.aload_n (i := 0) rfl rfl rfl rfl ?_
  refine xA.callVi (As := []) rfl k10_171 okX10_lacks rfl rfl rfl rfl (Nat.le_of_ble_eq_true rfl) (c_X10_lacks (d + 3) _ _) rfl rfl ?_
  refine xA.if_ne (tgt := 65) rfl rfl rfl (fun h11 => ?_) (fun h11 => ?_)
  · rw [xb_ne0, mlk hho] at h11
    refine xA.iconst (v := 0) rfl (by decide) rfl ?_
    refine xA.istore_n (i := 1) (L' := [_, _, _]) rfl rfl (Nat.le_of_ble_eq_true rfl) rfl rfl ?_
    have lp := lpP 0 (Nat.zero_le _) none
    rw [foldN, dg1, if_pos h11] at lp
    exact lp
  · rw [xb_eq0, mlk hho] at h11
    refine xA.iconst (v := 0) rfl (by decide) rfl ?_
    refine xA.istore_n (i := 1) (L' := [_, _, _]) rfl rfl (Nat.le_of_ble_eq_true rfl) rfl rfl ?_
    exact lpH h11 0 (Nat.zero_le _) _

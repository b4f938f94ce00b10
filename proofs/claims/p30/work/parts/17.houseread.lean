variable {τ : List xSh}
/-! ===== the house read: a letter, the text ===== -/
theorem hC_stage {S : Nat → Nat → Int32} {k : Nat} {h : hS} (hc : hC S k h) (s : Nat) (h4 : 4 ≤ s → 4 ≤ hSt h) (h5 : 5 ≤ s → 5 ≤ hSt h) (h1 : ¬ (s = 1 ∨ s = 7)) : hC (xu S k 6 (nI s)) k (s, h.2) := by
  obtain ⟨c1, c2, c3, c4, c5, c6, c7, c8⟩ := hc
  refine ⟨xu_same, (xu_ne2 (by omega)).trans c2, (xu_ne2 (by omega)).trans c3, fun z => (xu_ne2 (by omega)).trans (c4 (h4 z)), fun z => (xu_ne2 (by omega)).trans (c5 (h5 z)), fun z => absurd z h1, fun a ha => (xu_ne1 (by omega)).trans (c7 a ha), fun a ha => (xu_ne1 (by omega)).trans (c8 a ha)⟩
theorem hC_first {S : Nat → Nat → Int32} {k : Nat} {h : hS} (hc : hC S k h) (v : Nat) (hs : hSt h = 0 ∨ hSt h = 6) : hC (xu (xu S k 7 (nI v)) k 6 (nI (hSt h + 1))) k (hSt h + 1, hNd h, hNs h, hLo h, hBa h, v, hD h, hSr h, hOn h, hTw h) := by
  obtain ⟨c1, c2, c3, c4, c5, c6, c7, c8⟩ := hc
  refine ⟨xu_same, (xu_ne2 (by omega)).trans ((xu_ne2 (by omega)).trans c2), (xu_ne2 (by omega)).trans ((xu_ne2 (by omega)).trans c3), fun z => (xu_ne2 (by omega)).trans ((xu_ne2 (by omega)).trans (c4 (by have z : 4 ≤ hSt h + 1 := z; omega))), fun z => (xu_ne2 (by omega)).trans ((xu_ne2 (by omega)).trans (c5 (by have z : 5 ≤ hSt h + 1 := z; omega))), fun z => (xu_ne2 (by omega)).trans xu_same, fun a ha => (xu_ne1 (by omega)).trans ((xu_ne1 (by omega)).trans (c7 a ha)), fun a ha => (xu_ne1 (by omega)).trans ((xu_ne1 (by omega)).trans (c8 a ha))⟩
theorem hC_low {S : Nat → Nat → Int32} {k : Nat} {h : hS} (hc : hC S k h) (v : Nat) : hC (xu (xu S k 4 (nI v)) k 6 (nI 4)) k (4, hNd h, hNs h, v, hBa h, hFi h, hD h, hSr h, hOn h, hTw h) := by
  obtain ⟨c1, c2, c3, c4, c5, c6, c7, c8⟩ := hc
  refine ⟨xu_same, (xu_ne2 (by omega)).trans ((xu_ne2 (by omega)).trans c2), (xu_ne2 (by omega)).trans ((xu_ne2 (by omega)).trans c3), fun z => (xu_ne2 (by omega)).trans xu_same, fun z => absurd z (by show ¬ 5 ≤ 4; omega), fun z => absurd z (by show ¬ (4 = 1 ∨ 4 = 7); omega), fun a ha => (xu_ne1 (by omega)).trans ((xu_ne1 (by omega)).trans (c7 a ha)), fun a ha => (xu_ne1 (by omega)).trans ((xu_ne1 (by omega)).trans (c8 a ha))⟩
theorem hC_back {S : Nat → Nat → Int32} {k : Nat} {h : hS} (hc : hC S k h) (v : Nat) (hs : hSt h = 4) : hC (xu (xu S k 5 (nI v)) k 6 (nI 5)) k (5, hNd h, hNs h, hLo h, v, hFi h, hD h, hSr h, hOn h, hTw h) := by
  obtain ⟨c1, c2, c3, c4, c5, c6, c7, c8⟩ := hc
  refine ⟨xu_same, (xu_ne2 (by omega)).trans ((xu_ne2 (by omega)).trans c2), (xu_ne2 (by omega)).trans ((xu_ne2 (by omega)).trans c3), fun z => (xu_ne2 (by omega)).trans ((xu_ne2 (by omega)).trans (c4 (by omega))), fun z => (xu_ne2 (by omega)).trans xu_same, fun z => absurd z (by show ¬ (5 = 1 ∨ 5 = 7); omega), fun a ha => (xu_ne1 (by omega)).trans ((xu_ne1 (by omega)).trans (c7 a ha)), fun a ha => (xu_ne1 (by omega)).trans ((xu_ne1 (by omega)).trans (c8 a ha))⟩
theorem hC_door {S : Nat → Nat → Int32} {k : Nat} {h : hS} (hc : hC S k h) (a b : Nat) (ha : a < 6) (hb : b < 6) (on tw : Nat → Nat) : hC (xu (xu (xu (xu S k 2 (nI (hNd h + 1))) (k + 1) (a * 6 + b) (nI (hNd h + 1))) (k + 1) (b * 6 + a) (nI (hNd h + 1))) k 6 (nI 2)) k (2, hNd h + 1, hNs h, hLo h, hBa h, hFi h, nu (nu (hD h) (a * 6 + b) (hNd h + 1)) (b * 6 + a) (hNd h + 1), hSr h, on, tw) := by
  obtain ⟨c1, c2, c3, c4, c5, c6, c7, c8⟩ := hc
  refine ⟨xu_same, by simp [xu], ?_, fun z => absurd z (by show ¬ 4 ≤ 2; omega), fun z => absurd z (by show ¬ 5 ≤ 2; omega), fun z => absurd z (by show ¬ (2 = 1 ∨ 2 = 7); omega), fun i hi => ?_, fun i hi => ?_⟩
  · simp [xu]; exact c3
  · have e := c7 i hi
    have k1 : ¬ k + 1 = k := by omega
    show _ = nI (nu (nu (hD h) (a * 6 + b) (hNd h + 1)) (b * 6 + a) (hNd h + 1) i)
    simp only [xu, nu, k1, if_true, if_false]
    split
    · rfl
    · split
      · rfl
      · exact e
  · have e := c8 i hi
    have k1 : ¬ k + 2 = k := by omega
    have k2 : ¬ k + 2 = k + 1 := by omega
    simp only [xu, k1, k2, if_false]
    exact e
theorem hC_sight {S : Nat → Nat → Int32} {k : Nat} {h : hS} (hc : hC S k h) (h7 : hSt h = 7) (a b : Nat) (ha : a < 6) (hb : b < 6) : hC (xu (xu (xu (xu S k 3 (nI (hNs h + 1))) (k + 2) a (S (k + 2) a ||| nI (2 ^ b))) (k + 2) b (S (k + 2) b ||| nI (2 ^ a))) k 6 (nI 8)) k (8, hNd h, hNs h + 1, hLo h, hBa h, hFi h, hD h, nu (nu (hSr h) a (hSr h a ||| 2 ^ b)) b (hSr h b ||| 2 ^ a), hOn h, hTw h) := by
  obtain ⟨c1, c2, c3, c4, c5, c6, c7, c8⟩ := hc
  refine ⟨xu_same, ?_, by simp [xu], fun z => ?_, fun z => ?_, fun z => absurd z (by show ¬ (8 = 1 ∨ 8 = 7); omega), fun i hi => ?_, fun i hi => ?_⟩
  · simp [xu]; exact c2
  · simp [xu]; exact c4 (by omega)
  · simp [xu]; exact c5 (by omega)
  · have e := c7 i hi
    have k1 : ¬ k + 1 = k := by omega
    have k2 : ¬ k + 1 = k + 2 := by omega
    simp only [xu, k1, k2, if_false]
    exact e
  · have e := c8 i hi
    have k1 : ¬ k + 2 = k := by omega
    show _ = nI (nu (nu (hSr h) a (hSr h a ||| 2 ^ b)) b (hSr h b ||| 2 ^ a) i)
    simp only [xu, nu, k1, if_true, if_false]
    split
    · rw [c8 b hb, nI_or]
    · split
      · rw [c8 a ha, nI_or]
      · exact e
theorem xu_fr {S0 S : Nat → Nat → Int32} {k w a i : Nat} {v : Int32} (h : frW k w S0 S) (ha : k ≤ a ∧ a < k + w) : frW k w S0 (xu S a i v) := fun j hj => by
  rw [← h j hj]; funext q; exact xu_ne1 (by omega)
theorem fr_rf {S : Nat → Nat → Int32} {k w : Nat} : frW k w S S := fun _ _ => rfl


set_option maxRecDepth 100000 in
set_option maxHeartbeats 1000000 in
theorem c_X1_takes (d : Nat) (S : Nat → Nat → Int32) (G : Nat → Nat → Int64) (k : Nat) (hk : isHouse τ k) (h : hS) (ho : hOk h) (hc : hC S k h) (c : Nat) (h126 : c ≤ 126) : xC (d + 3) mX1_takes [.ref k, .int (nI c)] ((σF τ), S, G) 0 0 (fun r h' => ∃ S', h' = ((σF τ), S', G) ∧ frW k 3 S S' ∧ ((hstep h c = none ∧ r = some (.int 0)) ∨ ∃ h2, hstep h c = some h2 ∧ r = some (.int 1) ∧ hC S' k h2)) := by
  refine xC.of okX1_takes (Nat.le_of_ble_eq_true rfl) (L := [_, _]) rfl ?_
  refine xA.aload_n (i := 0) rfl rfl rfl rfl ?_
  refine xA.getI rfl f1_39 hk.1 rfl rfl ?_
  refine xA.topi (hc.1) ?_
  by_cases h4_0 : hSt h = 0
  · have hs := h4_0; refine xA.topi (congrArg nI hs : _ = nI 0) ?_
    refine xA.tsIn (q := 56) rfl (by decide) (by decide) rfl rfl ?_
    rcases hd : hdg c 0 5 with _ | v
    · skip
      refine xA.aload_n (i := 0) rfl rfl rfl rfl ?_
      refine xA.iload_n (i := 1) rfl rfl rfl rfl ?_
      refine xA.callSNi (As := [_]) rfl k1_51 okX9_roomDigitOf rfl rfl (Nat.le_of_ble_eq_true rfl) (c_X9_roomDigitOf (d + 1) _ G _) rfl rfl ?_
      refine xA.topi ((xdig_nI 0 5 h126 (by omega) (by omega)).trans (show oI (hdg c 0 5) = -1 from by simp only [hd, oI])) ?_
      refine xA.putI rfl p1_54 hk.1 rfl rfl ?_
      refine xA.aload_n (i := 0) rfl rfl rfl rfl ?_
      refine xA.aload_n (i := 0) rfl rfl rfl rfl ?_
      refine xA.getI rfl f1_54 hk.1 rfl rfl ?_
      refine xA.topi (xu_same) ?_
      refine xA.iconst (v := (-1)) rfl (by decide) rfl ?_
      refine xA.icmp_eq (tgt := 77) rfl rfl rfl (fun h70 => ?_) (fun h70 => ?_)
      · refine xA.iconst (v := 0) rfl (by decide) rfl ?_
        refine xA.aload_n (i := 0) rfl rfl rfl rfl ?_
        refine xA.getI rfl f1_39 hk.1 rfl rfl ?_
        refine xA.topi (((xu_ne2 (by omega)).trans hc.1 : _ = nI (hSt h))) ?_
        refine xA.iconst (v := 1) rfl (by decide) rfl ?_
        refine xA.iadd rfl rfl ?_
        refine xA.topi (nI_1 _) ?_
        refine xA.callVi (As := [_, _]) rfl k1_57 okX1_goesOn hk.1 rfl rfl rfl (Nat.le_of_ble_eq_true rfl) (c_X1_goesOn0 (d + 2) _ G k hk _) rfl rfl ?_
        exact xA.iret rfl rfl rfl ⟨_, rfl, (xu_fr fr_rf (by omega)), Or.inl ⟨by simp [hstep, hs, hd], rfl⟩⟩
      · exact absurd rfl h70
    · have hv := hdg_some hd
      refine xA.aload_n (i := 0) rfl rfl rfl rfl ?_
      refine xA.iload_n (i := 1) rfl rfl rfl rfl ?_
      refine xA.callSNi (As := [_]) rfl k1_51 okX9_roomDigitOf rfl rfl (Nat.le_of_ble_eq_true rfl) (c_X9_roomDigitOf (d + 1) _ G _) rfl rfl ?_
      refine xA.topi ((xdig_nI 0 5 h126 (by omega) (by omega)).trans (show oI (hdg c 0 5) = nI v from by simp only [hd, oI])) ?_
      refine xA.putI rfl p1_54 hk.1 rfl rfl ?_
      refine xA.aload_n (i := 0) rfl rfl rfl rfl ?_
      refine xA.aload_n (i := 0) rfl rfl rfl rfl ?_
      refine xA.getI rfl f1_54 hk.1 rfl rfl ?_
      refine xA.topi (xu_same) ?_
      refine xA.iconst (v := (-1)) rfl (by decide) rfl ?_
      refine xA.icmp_eq (tgt := 77) rfl rfl rfl (fun h70 => ?_) (fun h70 => ?_)
      · exact absurd h70 (nI_m1 (by omega))
      · refine xA.iconst (v := 1) rfl (by decide) rfl ?_
        refine xA.goto (q := 78) rfl rfl ?_
        refine xA.aload_n (i := 0) rfl rfl rfl rfl ?_
        refine xA.getI rfl f1_39 hk.1 rfl rfl ?_
        refine xA.topi (((xu_ne2 (by omega)).trans hc.1 : _ = nI (hSt h))) ?_
        refine xA.iconst (v := 1) rfl (by decide) rfl ?_
        refine xA.iadd rfl rfl ?_
        refine xA.topi (nI_1 _) ?_
        refine xA.callVi (As := [_, _]) rfl k1_57 okX1_goesOn hk.1 rfl rfl rfl (Nat.le_of_ble_eq_true rfl) (c_X1_goesOn1 (d + 2) _ G k hk _) rfl rfl ?_
        exact xA.iret rfl rfl rfl ⟨_, rfl, (xu_fr (xu_fr fr_rf (by omega)) (by omega)), Or.inr ⟨_, by simp [hstep, hs, hd], rfl, hC_first hc v (by omega)⟩⟩
  by_cases h4_1 : hSt h = 1
  · have hs := h4_1; refine xA.topi (congrArg nI hs : _ = nI 1) ?_
    refine xA.tsIn (q := 88) rfl (by decide) (by decide) rfl rfl ?_
    rcases hd : hdg c 0 5 with _ | v
    · have hfi := ho.2.2.2.2.2.2.2.1 (Or.inl hs)
      refine xA.aload_n (i := 0) rfl rfl rfl rfl ?_
      refine xA.aload_n (i := 0) rfl rfl rfl rfl ?_
      refine xA.aload_n (i := 0) rfl rfl rfl rfl ?_
      refine xA.getI rfl f1_54 hk.1 rfl rfl ?_
      refine xA.topi (hc.2.2.2.2.2.1 (Or.inl hs)) ?_
      refine xA.iload_n (i := 1) rfl rfl rfl rfl ?_
      refine xA.callSNi (As := [_]) rfl k1_51 okX9_roomDigitOf rfl rfl (Nat.le_of_ble_eq_true rfl) (c_X9_roomDigitOf (d + 1) _ G _) rfl rfl ?_
      refine xA.topi ((xdig_nI 0 5 h126 (by omega) (by omega)).trans (show oI (hdg c 0 5) = -1 from by simp only [hd, oI])) ?_
      refine xA.callVi (As := [_, _]) rfl k1_61 okX1_addsDoor hk.1 rfl rfl rfl (Nat.le_of_ble_eq_true rfl) (c_X1_addsDoorN d _ G k hk (hFi h) 0 hfi) rfl rfl ?_
      refine xA.iconst (v := 2) rfl (by decide) rfl ?_
      refine xA.callVi (As := [_, _]) rfl k1_57 okX1_goesOn hk.1 rfl rfl rfl (Nat.le_of_ble_eq_true rfl) (c_X1_goesOn0 (d + 2) _ G k hk _) rfl rfl ?_
      exact xA.iret rfl rfl rfl ⟨_, rfl, fr_rf, Or.inl ⟨by simp [hstep, hs, hd], rfl⟩⟩
    · have hv := hdg_some hd
      have hfi := ho.2.2.2.2.2.2.2.1 (Or.inl hs)
      refine xA.aload_n (i := 0) rfl rfl rfl rfl ?_
      by_cases hcd : v ≠ hFi h ∧ hD h (hFi h * 6 + v) = 0
      · skip
        refine xA.aload_n (i := 0) rfl rfl rfl rfl ?_
        refine xA.aload_n (i := 0) rfl rfl rfl rfl ?_
        refine xA.getI rfl f1_54 hk.1 rfl rfl ?_
        refine xA.topi (hc.2.2.2.2.2.1 (Or.inl hs)) ?_
        refine xA.iload_n (i := 1) rfl rfl rfl rfl ?_
        refine xA.callSNi (As := [_]) rfl k1_51 okX9_roomDigitOf rfl rfl (Nat.le_of_ble_eq_true rfl) (c_X9_roomDigitOf (d + 1) _ G _) rfl rfl ?_
        refine xA.topi ((xdig_nI 0 5 h126 (by omega) (by omega)).trans (show oI (hdg c 0 5) = nI v from by simp only [hd, oI])) ?_
        refine xA.callVi (As := [_, _]) rfl k1_61 okX1_addsDoor hk.1 rfl rfl rfl (Nat.le_of_ble_eq_true rfl) (c_X1_addsDoorT d _ G k hk (hFi h) v hfi (by omega) hcd.1 (by rw [hc.2.2.2.2.2.2.1 _ (by omega), hcd.2]; rfl) (hNd h) hc.2.1) rfl rfl ?_
        refine xA.iconst (v := 2) rfl (by decide) rfl ?_
        refine xA.callVi (As := [_, _]) rfl k1_57 okX1_goesOn hk.1 rfl rfl rfl (Nat.le_of_ble_eq_true rfl) (c_X1_goesOn1 (d + 2) _ G k hk _) rfl rfl ?_
        exact xA.iret rfl rfl rfl ⟨_, rfl, (xu_fr (xu_fr (xu_fr (xu_fr fr_rf (by omega)) (by omega)) (by omega)) (by omega)), Or.inr ⟨_, by simp only [hstep, hs, hd]; simp [hcd], rfl, hC_door hc (hFi h) v hfi (by omega) (nu (hOn h) (hNd h) (hFi h)) (nu (hTw h) (hNd h) v)⟩⟩
      · skip
        refine xA.aload_n (i := 0) rfl rfl rfl rfl ?_
        refine xA.aload_n (i := 0) rfl rfl rfl rfl ?_
        refine xA.getI rfl f1_54 hk.1 rfl rfl ?_
        refine xA.topi (hc.2.2.2.2.2.1 (Or.inl hs)) ?_
        refine xA.iload_n (i := 1) rfl rfl rfl rfl ?_
        refine xA.callSNi (As := [_]) rfl k1_51 okX9_roomDigitOf rfl rfl (Nat.le_of_ble_eq_true rfl) (c_X9_roomDigitOf (d + 1) _ G _) rfl rfl ?_
        refine xA.topi ((xdig_nI 0 5 h126 (by omega) (by omega)).trans (show oI (hdg c 0 5) = nI v from by simp only [hd, oI])) ?_
        refine xA.callVi (As := [_, _]) rfl k1_61 okX1_addsDoor hk.1 rfl rfl rfl (Nat.le_of_ble_eq_true rfl) (c_X1_addsDoorF d _ G k hk (hFi h) v hfi (by omega) (by rw [hc.2.2.2.2.2.2.1 _ (by omega)]; by_cases e : v = hFi h; exact Or.inl e; exact Or.inr (fun z => hcd ⟨e, by have e9 : ∀ x, x < 2 ^ 31 → nI x = 0 → x = 0 := fun x hx z => (nI_eq (b := 0) hx (by omega)).mp z; exact e9 _ (by have := (ho.2.2.2.2.2.2.2.2.2.2.1 (hFi h) v hfi (by omega)).2; have := ho.2.1; omega) z⟩))) rfl rfl ?_
        refine xA.iconst (v := 2) rfl (by decide) rfl ?_
        refine xA.callVi (As := [_, _]) rfl k1_57 okX1_goesOn hk.1 rfl rfl rfl (Nat.le_of_ble_eq_true rfl) (c_X1_goesOn0 (d + 2) _ G k hk _) rfl rfl ?_
        exact xA.iret rfl rfl rfl ⟨_, rfl, fr_rf, Or.inl ⟨by simp only [hstep, hs, hd]; simp [-not_and, -ne_eq, hcd], rfl⟩⟩
  by_cases h4_2 : hSt h = 2
  · have hs := h4_2; refine xA.topi (congrArg nI hs : _ = nI 2) ?_
    refine xA.tsIn (q := 106) rfl (by decide) (by decide) rfl rfl ?_
    by_cases hd : c = 59
    · skip
      refine xA.iload_n (i := 1) rfl rfl rfl rfl ?_
      refine xA.bipush (v := 59) rfl (by decide) rfl ?_
      refine xA.icmp_ne (tgt := 121) rfl rfl rfl (fun h109 => ?_) (fun h109 => ?_)
      · exact absurd (by rw [hd]; rfl) h109
      · refine xA.aload_n (i := 0) rfl rfl rfl rfl ?_
        refine xA.iconst (v := 1) rfl (by decide) rfl ?_
        refine xA.iconst (v := 3) rfl (by decide) rfl ?_
        refine xA.callVi (As := [_, _]) rfl k1_57 okX1_goesOn hk.1 rfl rfl rfl (Nat.le_of_ble_eq_true rfl) (c_X1_goesOn1 (d + 2) _ G k hk _) rfl rfl ?_
        refine xA.goto (q := 146) rfl rfl ?_
        exact xA.iret rfl rfl rfl ⟨_, rfl, (xu_fr fr_rf (by omega)), Or.inr ⟨_, by simp [hstep, hs, hd], rfl, hC_stage hc 3 (by omega) (by omega) (by omega)⟩⟩
    · skip
      refine xA.iload_n (i := 1) rfl rfl rfl rfl ?_
      refine xA.bipush (v := 59) rfl (by decide) rfl ?_
      refine xA.icmp_ne (tgt := 121) rfl rfl rfl (fun h109 => ?_) (fun h109 => ?_)
      · by_cases hd3 : c = 44
        · skip
          refine xA.aload_n (i := 0) rfl rfl rfl rfl ?_
          by_cases hd2 : hNd h < 10
          · skip
            refine xA.iload_n (i := 1) rfl rfl rfl rfl ?_
            refine xA.bipush (v := 44) rfl (by decide) rfl ?_
            refine xA.icmp_ne (tgt := 141) rfl rfl rfl (fun h125 => ?_) (fun h125 => ?_)
            · exact absurd (by rw [hd3]; rfl) h125
            · refine xA.aload_n (i := 0) rfl rfl rfl rfl ?_
              refine xA.getI rfl f1_42 hk.1 rfl rfl ?_
              refine xA.topi (hc.2.1) ?_
              refine xA.bipush (v := 10) rfl (by decide) rfl ?_
              refine xA.icmp_ge (tgt := 141) rfl rfl rfl (fun h134 => ?_) (fun h134 => ?_)
              · exact absurd h134 (nI_ge (b := 10) hd2 (by omega))
              · refine xA.iconst (v := 1) rfl (by decide) rfl ?_
                refine xA.goto (q := 142) rfl rfl ?_
                refine xA.iconst (v := 0) rfl (by decide) rfl ?_
                refine xA.callVi (As := [_, _]) rfl k1_57 okX1_goesOn hk.1 rfl rfl rfl (Nat.le_of_ble_eq_true rfl) (c_X1_goesOn1 (d + 2) _ G k hk _) rfl rfl ?_
                exact xA.iret rfl rfl rfl ⟨_, rfl, (xu_fr fr_rf (by omega)), Or.inr ⟨_, by simp [hstep, hs, hd3, hd2], rfl, hC_stage hc 0 (by omega) (by omega) (by omega)⟩⟩
          · skip
            refine xA.iload_n (i := 1) rfl rfl rfl rfl ?_
            refine xA.bipush (v := 44) rfl (by decide) rfl ?_
            refine xA.icmp_ne (tgt := 141) rfl rfl rfl (fun h125 => ?_) (fun h125 => ?_)
            · exact absurd (by rw [hd3]; rfl) h125
            · refine xA.aload_n (i := 0) rfl rfl rfl rfl ?_
              refine xA.getI rfl f1_42 hk.1 rfl rfl ?_
              refine xA.topi (hc.2.1) ?_
              refine xA.bipush (v := 10) rfl (by decide) rfl ?_
              refine xA.icmp_ge (tgt := 141) rfl rfl rfl (fun h134 => ?_) (fun h134 => ?_)
              · refine xA.iconst (v := 0) rfl (by decide) rfl ?_
                refine xA.iconst (v := 0) rfl (by decide) rfl ?_
                refine xA.callVi (As := [_, _]) rfl k1_57 okX1_goesOn hk.1 rfl rfl rfl (Nat.le_of_ble_eq_true rfl) (c_X1_goesOn0 (d + 2) _ G k hk _) rfl rfl ?_
                exact xA.iret rfl rfl rfl ⟨_, rfl, fr_rf, Or.inl ⟨by simp [hstep, hs, hd3, hd2], rfl⟩⟩
              · exact absurd (nI_le (a := 10) (by omega) (by have := ho.2.1; omega)) h134
        · skip
          refine xA.aload_n (i := 0) rfl rfl rfl rfl ?_
          refine xA.iload_n (i := 1) rfl rfl rfl rfl ?_
          refine xA.bipush (v := 44) rfl (by decide) rfl ?_
          refine xA.icmp_ne (tgt := 141) rfl rfl rfl (fun h125 => ?_) (fun h125 => ?_)
          · refine xA.iconst (v := 0) rfl (by decide) rfl ?_
            refine xA.iconst (v := 0) rfl (by decide) rfl ?_
            refine xA.callVi (As := [_, _]) rfl k1_57 okX1_goesOn hk.1 rfl rfl rfl (Nat.le_of_ble_eq_true rfl) (c_X1_goesOn0 (d + 2) _ G k hk _) rfl rfl ?_
            exact xA.iret rfl rfl rfl ⟨_, rfl, fr_rf, Or.inl ⟨by simp [hstep, hs, hd, hd3], rfl⟩⟩
          · exact absurd ((nI_eq (b := 44) (by omega) (by omega)).mp h125) hd3
      · exact absurd ((nI_eq (b := 59) (by omega) (by omega)).mp h109) hd
  by_cases h4_3 : hSt h = 3
  · have hs := h4_3; refine xA.topi (congrArg nI hs : _ = nI 3) ?_
    refine xA.tsIn (q := 147) rfl (by decide) (by decide) rfl rfl ?_
    rcases hd : hdg c 0 5 with _ | v
    · skip
      refine xA.aload_n (i := 0) rfl rfl rfl rfl ?_
      refine xA.iload_n (i := 1) rfl rfl rfl rfl ?_
      refine xA.callSNi (As := [_]) rfl k1_51 okX9_roomDigitOf rfl rfl (Nat.le_of_ble_eq_true rfl) (c_X9_roomDigitOf (d + 1) _ G _) rfl rfl ?_
      refine xA.topi ((xdig_nI 0 5 h126 (by omega) (by omega)).trans (show oI (hdg c 0 5) = -1 from by simp only [hd, oI])) ?_
      refine xA.putI rfl p1_18 hk.1 rfl rfl ?_
      refine xA.aload_n (i := 0) rfl rfl rfl rfl ?_
      refine xA.aload_n (i := 0) rfl rfl rfl rfl ?_
      refine xA.getI rfl f1_18 hk.1 rfl rfl ?_
      refine xA.topi (xu_same) ?_
      refine xA.iconst (v := (-1)) rfl (by decide) rfl ?_
      refine xA.icmp_eq (tgt := 168) rfl rfl rfl (fun h161 => ?_) (fun h161 => ?_)
      · refine xA.iconst (v := 0) rfl (by decide) rfl ?_
        refine xA.iconst (v := 4) rfl (by decide) rfl ?_
        refine xA.callVi (As := [_, _]) rfl k1_57 okX1_goesOn hk.1 rfl rfl rfl (Nat.le_of_ble_eq_true rfl) (c_X1_goesOn0 (d + 2) _ G k hk _) rfl rfl ?_
        exact xA.iret rfl rfl rfl ⟨_, rfl, (xu_fr fr_rf (by omega)), Or.inl ⟨by simp [hstep, hs, hd], rfl⟩⟩
      · exact absurd rfl h161
    · have hv := hdg_some hd
      refine xA.aload_n (i := 0) rfl rfl rfl rfl ?_
      refine xA.iload_n (i := 1) rfl rfl rfl rfl ?_
      refine xA.callSNi (As := [_]) rfl k1_51 okX9_roomDigitOf rfl rfl (Nat.le_of_ble_eq_true rfl) (c_X9_roomDigitOf (d + 1) _ G _) rfl rfl ?_
      refine xA.topi ((xdig_nI 0 5 h126 (by omega) (by omega)).trans (show oI (hdg c 0 5) = nI v from by simp only [hd, oI])) ?_
      refine xA.putI rfl p1_18 hk.1 rfl rfl ?_
      refine xA.aload_n (i := 0) rfl rfl rfl rfl ?_
      refine xA.aload_n (i := 0) rfl rfl rfl rfl ?_
      refine xA.getI rfl f1_18 hk.1 rfl rfl ?_
      refine xA.topi (xu_same) ?_
      refine xA.iconst (v := (-1)) rfl (by decide) rfl ?_
      refine xA.icmp_eq (tgt := 168) rfl rfl rfl (fun h161 => ?_) (fun h161 => ?_)
      · exact absurd h161 (nI_m1 (by omega))
      · refine xA.iconst (v := 1) rfl (by decide) rfl ?_
        refine xA.goto (q := 169) rfl rfl ?_
        refine xA.iconst (v := 4) rfl (by decide) rfl ?_
        refine xA.callVi (As := [_, _]) rfl k1_57 okX1_goesOn hk.1 rfl rfl rfl (Nat.le_of_ble_eq_true rfl) (c_X1_goesOn1 (d + 2) _ G k hk _) rfl rfl ?_
        exact xA.iret rfl rfl rfl ⟨_, rfl, (xu_fr (xu_fr fr_rf (by omega)) (by omega)), Or.inr ⟨_, by simp [hstep, hs, hd], rfl, hC_low hc v⟩⟩
  by_cases h4_4 : hSt h = 4
  · have hs := h4_4; refine xA.topi (congrArg nI hs : _ = nI 4) ?_
    refine xA.tsIn (q := 174) rfl (by decide) (by decide) rfl rfl ?_
    rcases hd : hdg c 1 9 with _ | v
    · skip
      refine xA.aload_n (i := 0) rfl rfl rfl rfl ?_
      refine xA.iload_n (i := 1) rfl rfl rfl rfl ?_
      refine xA.iconst (v := 1) rfl (by decide) rfl ?_
      refine xA.bipush (v := 9) rfl (by decide) rfl ?_
      refine xA.callSNi (As := [_, _, _]) rfl k1_65 okX9_digitOf rfl rfl (Nat.le_of_ble_eq_true rfl) (c_X9_digitOf (d + 2) _ G _ _ _) rfl rfl ?_
      refine xA.topi ((xdig_nI 1 9 h126 (by omega) (by omega)).trans (show oI (hdg c 1 9) = -1 from by simp only [hd, oI])) ?_
      refine xA.putI rfl p1_48 hk.1 rfl rfl ?_
      refine xA.aload_n (i := 0) rfl rfl rfl rfl ?_
      refine xA.aload_n (i := 0) rfl rfl rfl rfl ?_
      refine xA.getI rfl f1_48 hk.1 rfl rfl ?_
      refine xA.topi (xu_same) ?_
      refine xA.iconst (v := (-1)) rfl (by decide) rfl ?_
      refine xA.icmp_eq (tgt := 198) rfl rfl rfl (fun h191 => ?_) (fun h191 => ?_)
      · refine xA.iconst (v := 0) rfl (by decide) rfl ?_
        refine xA.iconst (v := 5) rfl (by decide) rfl ?_
        refine xA.callVi (As := [_, _]) rfl k1_57 okX1_goesOn hk.1 rfl rfl rfl (Nat.le_of_ble_eq_true rfl) (c_X1_goesOn0 (d + 2) _ G k hk _) rfl rfl ?_
        exact xA.iret rfl rfl rfl ⟨_, rfl, (xu_fr fr_rf (by omega)), Or.inl ⟨by simp [hstep, hs, hd], rfl⟩⟩
      · exact absurd rfl h191
    · have hv := hdg_some hd
      refine xA.aload_n (i := 0) rfl rfl rfl rfl ?_
      refine xA.iload_n (i := 1) rfl rfl rfl rfl ?_
      refine xA.iconst (v := 1) rfl (by decide) rfl ?_
      refine xA.bipush (v := 9) rfl (by decide) rfl ?_
      refine xA.callSNi (As := [_, _, _]) rfl k1_65 okX9_digitOf rfl rfl (Nat.le_of_ble_eq_true rfl) (c_X9_digitOf (d + 2) _ G _ _ _) rfl rfl ?_
      refine xA.topi ((xdig_nI 1 9 h126 (by omega) (by omega)).trans (show oI (hdg c 1 9) = nI v from by simp only [hd, oI])) ?_
      refine xA.putI rfl p1_48 hk.1 rfl rfl ?_
      refine xA.aload_n (i := 0) rfl rfl rfl rfl ?_
      refine xA.aload_n (i := 0) rfl rfl rfl rfl ?_
      refine xA.getI rfl f1_48 hk.1 rfl rfl ?_
      refine xA.topi (xu_same) ?_
      refine xA.iconst (v := (-1)) rfl (by decide) rfl ?_
      refine xA.icmp_eq (tgt := 198) rfl rfl rfl (fun h191 => ?_) (fun h191 => ?_)
      · exact absurd h191 (nI_m1 (by omega))
      · refine xA.iconst (v := 1) rfl (by decide) rfl ?_
        refine xA.goto (q := 199) rfl rfl ?_
        refine xA.iconst (v := 5) rfl (by decide) rfl ?_
        refine xA.callVi (As := [_, _]) rfl k1_57 okX1_goesOn hk.1 rfl rfl rfl (Nat.le_of_ble_eq_true rfl) (c_X1_goesOn1 (d + 2) _ G k hk _) rfl rfl ?_
        exact xA.iret rfl rfl rfl ⟨_, rfl, (xu_fr (xu_fr fr_rf (by omega)) (by omega)), Or.inr ⟨_, by simp [hstep, hs, hd], rfl, hC_back hc v hs⟩⟩
  by_cases h4_5 : hSt h = 5
  · have hs := h4_5; refine xA.topi (congrArg nI hs : _ = nI 5) ?_
    refine xA.tsIn (q := 204) rfl (by decide) (by decide) rfl rfl ?_
    by_cases hd : c = 59
    · skip
      refine xA.aload_n (i := 0) rfl rfl rfl rfl ?_
      refine xA.iload_n (i := 1) rfl rfl rfl rfl ?_
      refine xA.bipush (v := 59) rfl (by decide) rfl ?_
      refine xA.icmp_ne (tgt := 215) rfl rfl rfl (fun h208 => ?_) (fun h208 => ?_)
      · exact absurd (by rw [hd]; rfl) h208
      · refine xA.iconst (v := 1) rfl (by decide) rfl ?_
        refine xA.goto (q := 216) rfl rfl ?_
        refine xA.bipush (v := 6) rfl (by decide) rfl ?_
        refine xA.callVi (As := [_, _]) rfl k1_57 okX1_goesOn hk.1 rfl rfl rfl (Nat.le_of_ble_eq_true rfl) (c_X1_goesOn1 (d + 2) _ G k hk _) rfl rfl ?_
        exact xA.iret rfl rfl rfl ⟨_, rfl, (xu_fr fr_rf (by omega)), Or.inr ⟨_, by simp [hstep, hs, hd], rfl, hC_stage hc 6 (by omega) (by omega) (by omega)⟩⟩
    · skip
      refine xA.aload_n (i := 0) rfl rfl rfl rfl ?_
      refine xA.iload_n (i := 1) rfl rfl rfl rfl ?_
      refine xA.bipush (v := 59) rfl (by decide) rfl ?_
      refine xA.icmp_ne (tgt := 215) rfl rfl rfl (fun h208 => ?_) (fun h208 => ?_)
      · refine xA.iconst (v := 0) rfl (by decide) rfl ?_
        refine xA.bipush (v := 6) rfl (by decide) rfl ?_
        refine xA.callVi (As := [_, _]) rfl k1_57 okX1_goesOn hk.1 rfl rfl rfl (Nat.le_of_ble_eq_true rfl) (c_X1_goesOn0 (d + 2) _ G k hk _) rfl rfl ?_
        exact xA.iret rfl rfl rfl ⟨_, rfl, fr_rf, Or.inl ⟨by simp [hstep, hs, hd], rfl⟩⟩
      · exact absurd ((nI_eq (b := 59) (by omega) (by omega)).mp h208) hd
  by_cases h4_6 : hSt h = 6
  · have hs := h4_6; refine xA.topi (congrArg nI hs : _ = nI 6) ?_
    refine xA.tsIn (q := 56) rfl (by decide) (by decide) rfl rfl ?_
    rcases hd : hdg c 0 5 with _ | v
    · skip
      refine xA.aload_n (i := 0) rfl rfl rfl rfl ?_
      refine xA.iload_n (i := 1) rfl rfl rfl rfl ?_
      refine xA.callSNi (As := [_]) rfl k1_51 okX9_roomDigitOf rfl rfl (Nat.le_of_ble_eq_true rfl) (c_X9_roomDigitOf (d + 1) _ G _) rfl rfl ?_
      refine xA.topi ((xdig_nI 0 5 h126 (by omega) (by omega)).trans (show oI (hdg c 0 5) = -1 from by simp only [hd, oI])) ?_
      refine xA.putI rfl p1_54 hk.1 rfl rfl ?_
      refine xA.aload_n (i := 0) rfl rfl rfl rfl ?_
      refine xA.aload_n (i := 0) rfl rfl rfl rfl ?_
      refine xA.getI rfl f1_54 hk.1 rfl rfl ?_
      refine xA.topi (xu_same) ?_
      refine xA.iconst (v := (-1)) rfl (by decide) rfl ?_
      refine xA.icmp_eq (tgt := 77) rfl rfl rfl (fun h70 => ?_) (fun h70 => ?_)
      · refine xA.iconst (v := 0) rfl (by decide) rfl ?_
        refine xA.aload_n (i := 0) rfl rfl rfl rfl ?_
        refine xA.getI rfl f1_39 hk.1 rfl rfl ?_
        refine xA.topi (((xu_ne2 (by omega)).trans hc.1 : _ = nI (hSt h))) ?_
        refine xA.iconst (v := 1) rfl (by decide) rfl ?_
        refine xA.iadd rfl rfl ?_
        refine xA.topi (nI_1 _) ?_
        refine xA.callVi (As := [_, _]) rfl k1_57 okX1_goesOn hk.1 rfl rfl rfl (Nat.le_of_ble_eq_true rfl) (c_X1_goesOn0 (d + 2) _ G k hk _) rfl rfl ?_
        exact xA.iret rfl rfl rfl ⟨_, rfl, (xu_fr fr_rf (by omega)), Or.inl ⟨by simp [hstep, hs, hd], rfl⟩⟩
      · exact absurd rfl h70
    · have hv := hdg_some hd
      refine xA.aload_n (i := 0) rfl rfl rfl rfl ?_
      refine xA.iload_n (i := 1) rfl rfl rfl rfl ?_
      refine xA.callSNi (As := [_]) rfl k1_51 okX9_roomDigitOf rfl rfl (Nat.le_of_ble_eq_true rfl) (c_X9_roomDigitOf (d + 1) _ G _) rfl rfl ?_
      refine xA.topi ((xdig_nI 0 5 h126 (by omega) (by omega)).trans (show oI (hdg c 0 5) = nI v from by simp only [hd, oI])) ?_
      refine xA.putI rfl p1_54 hk.1 rfl rfl ?_
      refine xA.aload_n (i := 0) rfl rfl rfl rfl ?_
      refine xA.aload_n (i := 0) rfl rfl rfl rfl ?_
      refine xA.getI rfl f1_54 hk.1 rfl rfl ?_
      refine xA.topi (xu_same) ?_
      refine xA.iconst (v := (-1)) rfl (by decide) rfl ?_
      refine xA.icmp_eq (tgt := 77) rfl rfl rfl (fun h70 => ?_) (fun h70 => ?_)
      · exact absurd h70 (nI_m1 (by omega))
      · refine xA.iconst (v := 1) rfl (by decide) rfl ?_
        refine xA.goto (q := 78) rfl rfl ?_
        refine xA.aload_n (i := 0) rfl rfl rfl rfl ?_
        refine xA.getI rfl f1_39 hk.1 rfl rfl ?_
        refine xA.topi (((xu_ne2 (by omega)).trans hc.1 : _ = nI (hSt h))) ?_
        refine xA.iconst (v := 1) rfl (by decide) rfl ?_
        refine xA.iadd rfl rfl ?_
        refine xA.topi (nI_1 _) ?_
        refine xA.callVi (As := [_, _]) rfl k1_57 okX1_goesOn hk.1 rfl rfl rfl (Nat.le_of_ble_eq_true rfl) (c_X1_goesOn1 (d + 2) _ G k hk _) rfl rfl ?_
        exact xA.iret rfl rfl rfl ⟨_, rfl, (xu_fr (xu_fr fr_rf (by omega)) (by omega)), Or.inr ⟨_, by simp [hstep, hs, hd], rfl, hC_first hc v (by omega)⟩⟩
  by_cases h4_7 : hSt h = 7
  · have hs := h4_7; refine xA.topi (congrArg nI hs : _ = nI 7) ?_
    refine xA.tsIn (q := 222) rfl (by decide) (by decide) rfl rfl ?_
    rcases hd : hdg c 0 5 with _ | v
    · have hfi := ho.2.2.2.2.2.2.2.1 (Or.inr hs)
      refine xA.aload_n (i := 0) rfl rfl rfl rfl ?_
      refine xA.aload_n (i := 0) rfl rfl rfl rfl ?_
      refine xA.aload_n (i := 0) rfl rfl rfl rfl ?_
      refine xA.getI rfl f1_54 hk.1 rfl rfl ?_
      refine xA.topi (hc.2.2.2.2.2.1 (Or.inr hs)) ?_
      refine xA.iload_n (i := 1) rfl rfl rfl rfl ?_
      refine xA.callSNi (As := [_]) rfl k1_51 okX9_roomDigitOf rfl rfl (Nat.le_of_ble_eq_true rfl) (c_X9_roomDigitOf (d + 1) _ G _) rfl rfl ?_
      refine xA.topi ((xdig_nI 0 5 h126 (by omega) (by omega)).trans (show oI (hdg c 0 5) = -1 from by simp only [hd, oI])) ?_
      refine xA.callVi (As := [_, _]) rfl k1_69 okX1_addsSight hk.1 rfl rfl rfl (Nat.le_of_ble_eq_true rfl) (c_X1_addsSightN d _ G k hk (hFi h) 0 hfi) rfl rfl ?_
      refine xA.bipush (v := 8) rfl (by decide) rfl ?_
      refine xA.callVi (As := [_, _]) rfl k1_57 okX1_goesOn hk.1 rfl rfl rfl (Nat.le_of_ble_eq_true rfl) (c_X1_goesOn0 (d + 2) _ G k hk _) rfl rfl ?_
      exact xA.iret rfl rfl rfl ⟨_, rfl, fr_rf, Or.inl ⟨by simp [hstep, hs, hd], rfl⟩⟩
    · have hv := hdg_some hd
      have hfi := ho.2.2.2.2.2.2.2.1 (Or.inr hs)
      have hb9 : bt (S (k + 2) (hFi h)) (nI v) ↔ (hSr h (hFi h)).testBit v = true := by rw [hc.2.2.2.2.2.2.2 _ hfi]; exact bt_nI _ (ho.2.2.2.2.2.2.2.2.1 _) v (by omega)
      refine xA.aload_n (i := 0) rfl rfl rfl rfl ?_
      by_cases hcd : v ≠ hFi h ∧ (hSr h (hFi h)).testBit v = false
      · skip
        refine xA.aload_n (i := 0) rfl rfl rfl rfl ?_
        refine xA.aload_n (i := 0) rfl rfl rfl rfl ?_
        refine xA.getI rfl f1_54 hk.1 rfl rfl ?_
        refine xA.topi (hc.2.2.2.2.2.1 (Or.inr hs)) ?_
        refine xA.iload_n (i := 1) rfl rfl rfl rfl ?_
        refine xA.callSNi (As := [_]) rfl k1_51 okX9_roomDigitOf rfl rfl (Nat.le_of_ble_eq_true rfl) (c_X9_roomDigitOf (d + 1) _ G _) rfl rfl ?_
        refine xA.topi ((xdig_nI 0 5 h126 (by omega) (by omega)).trans (show oI (hdg c 0 5) = nI v from by simp only [hd, oI])) ?_
        refine xA.callVi (As := [_, _]) rfl k1_69 okX1_addsSight hk.1 rfl rfl rfl (Nat.le_of_ble_eq_true rfl) (c_X1_addsSightT d _ G k hk (hFi h) v hfi (by omega) hcd.1 (by rw [hb9, hcd.2]; decide) (hNs h) hc.2.2.1) rfl rfl ?_
        refine xA.bipush (v := 8) rfl (by decide) rfl ?_
        refine xA.callVi (As := [_, _]) rfl k1_57 okX1_goesOn hk.1 rfl rfl rfl (Nat.le_of_ble_eq_true rfl) (c_X1_goesOn1 (d + 2) _ G k hk _) rfl rfl ?_
        exact xA.iret rfl rfl rfl ⟨_, rfl, (xu_fr (xu_fr (xu_fr (xu_fr fr_rf (by omega)) (by omega)) (by omega)) (by omega)), Or.inr ⟨_, by simp only [hstep, hs, hd]; simp [hcd], rfl, hC_sight hc hs (hFi h) v hfi (by omega)⟩⟩
      · skip
        refine xA.aload_n (i := 0) rfl rfl rfl rfl ?_
        refine xA.aload_n (i := 0) rfl rfl rfl rfl ?_
        refine xA.getI rfl f1_54 hk.1 rfl rfl ?_
        refine xA.topi (hc.2.2.2.2.2.1 (Or.inr hs)) ?_
        refine xA.iload_n (i := 1) rfl rfl rfl rfl ?_
        refine xA.callSNi (As := [_]) rfl k1_51 okX9_roomDigitOf rfl rfl (Nat.le_of_ble_eq_true rfl) (c_X9_roomDigitOf (d + 1) _ G _) rfl rfl ?_
        refine xA.topi ((xdig_nI 0 5 h126 (by omega) (by omega)).trans (show oI (hdg c 0 5) = nI v from by simp only [hd, oI])) ?_
        refine xA.callVi (As := [_, _]) rfl k1_69 okX1_addsSight hk.1 rfl rfl rfl (Nat.le_of_ble_eq_true rfl) (c_X1_addsSightF d _ G k hk (hFi h) v hfi (by omega) (by rw [hb9]; by_cases e : v = hFi h; exact Or.inl e; exact Or.inr (by by_cases e2 : (hSr h (hFi h)).testBit v = true; exact e2; exact absurd ⟨e, by simpa using e2⟩ hcd))) rfl rfl ?_
        refine xA.bipush (v := 8) rfl (by decide) rfl ?_
        refine xA.callVi (As := [_, _]) rfl k1_57 okX1_goesOn hk.1 rfl rfl rfl (Nat.le_of_ble_eq_true rfl) (c_X1_goesOn0 (d + 2) _ G k hk _) rfl rfl ?_
        exact xA.iret rfl rfl rfl ⟨_, rfl, fr_rf, Or.inl ⟨by simp only [hstep, hs, hd]; simp [-not_and, -ne_eq, hcd], rfl⟩⟩
  by_cases h4_8 : hSt h = 8
  · have hs := h4_8; refine xA.topi (congrArg nI hs : _ = nI 8) ?_
    refine xA.tsIn (q := 241) rfl (by decide) (by decide) rfl rfl ?_
    by_cases hd : c = 44
    · skip
      refine xA.aload_n (i := 0) rfl rfl rfl rfl ?_
      by_cases hd2 : hNs h < 4
      · skip
        refine xA.iload_n (i := 1) rfl rfl rfl rfl ?_
        refine xA.bipush (v := 44) rfl (by decide) rfl ?_
        refine xA.icmp_ne (tgt := 260) rfl rfl rfl (fun h245 => ?_) (fun h245 => ?_)
        · exact absurd (by rw [hd]; rfl) h245
        · refine xA.aload_n (i := 0) rfl rfl rfl rfl ?_
          refine xA.getI rfl f1_45 hk.1 rfl rfl ?_
          refine xA.topi (hc.2.2.1) ?_
          refine xA.iconst (v := 4) rfl (by decide) rfl ?_
          refine xA.icmp_ge (tgt := 260) rfl rfl rfl (fun h253 => ?_) (fun h253 => ?_)
          · exact absurd h253 (nI_ge (b := 4) hd2 (by omega))
          · refine xA.iconst (v := 1) rfl (by decide) rfl ?_
            refine xA.goto (q := 261) rfl rfl ?_
            refine xA.bipush (v := 6) rfl (by decide) rfl ?_
            refine xA.callVi (As := [_, _]) rfl k1_57 okX1_goesOn hk.1 rfl rfl rfl (Nat.le_of_ble_eq_true rfl) (c_X1_goesOn1 (d + 2) _ G k hk _) rfl rfl ?_
            exact xA.iret rfl rfl rfl ⟨_, rfl, (xu_fr fr_rf (by omega)), Or.inr ⟨_, by simp [hstep, hs, hd, hd2], rfl, hC_stage hc 6 (by omega) (by omega) (by omega)⟩⟩
      · skip
        refine xA.iload_n (i := 1) rfl rfl rfl rfl ?_
        refine xA.bipush (v := 44) rfl (by decide) rfl ?_
        refine xA.icmp_ne (tgt := 260) rfl rfl rfl (fun h245 => ?_) (fun h245 => ?_)
        · exact absurd (by rw [hd]; rfl) h245
        · refine xA.aload_n (i := 0) rfl rfl rfl rfl ?_
          refine xA.getI rfl f1_45 hk.1 rfl rfl ?_
          refine xA.topi (hc.2.2.1) ?_
          refine xA.iconst (v := 4) rfl (by decide) rfl ?_
          refine xA.icmp_ge (tgt := 260) rfl rfl rfl (fun h253 => ?_) (fun h253 => ?_)
          · refine xA.iconst (v := 0) rfl (by decide) rfl ?_
            refine xA.bipush (v := 6) rfl (by decide) rfl ?_
            refine xA.callVi (As := [_, _]) rfl k1_57 okX1_goesOn hk.1 rfl rfl rfl (Nat.le_of_ble_eq_true rfl) (c_X1_goesOn0 (d + 2) _ G k hk _) rfl rfl ?_
            exact xA.iret rfl rfl rfl ⟨_, rfl, fr_rf, Or.inl ⟨by simp [hstep, hs, hd, hd2], rfl⟩⟩
          · exact absurd (nI_le (a := 4) (by omega) (by have := ho.2.2.2.1; omega)) h253
    · skip
      refine xA.aload_n (i := 0) rfl rfl rfl rfl ?_
      refine xA.iload_n (i := 1) rfl rfl rfl rfl ?_
      refine xA.bipush (v := 44) rfl (by decide) rfl ?_
      refine xA.icmp_ne (tgt := 260) rfl rfl rfl (fun h245 => ?_) (fun h245 => ?_)
      · refine xA.iconst (v := 0) rfl (by decide) rfl ?_
        refine xA.bipush (v := 6) rfl (by decide) rfl ?_
        refine xA.callVi (As := [_, _]) rfl k1_57 okX1_goesOn hk.1 rfl rfl rfl (Nat.le_of_ble_eq_true rfl) (c_X1_goesOn0 (d + 2) _ G k hk _) rfl rfl ?_
        exact xA.iret rfl rfl rfl ⟨_, rfl, fr_rf, Or.inl ⟨by simp [hstep, hs, hd], rfl⟩⟩
      · exact absurd ((nI_eq (b := 44) (by omega) (by omega)).mp h245) hd
  exact absurd ho.1 (by omega)
